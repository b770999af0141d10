/-! BYTES: the reference's bytes are the class's -/
theorem gb_255 : ∀ i, i < 32 → gb 255 i = decide (i < 8) := by decide +kernel
theorem gb_sr {x : Int32} {k i : Nat} {y : Int32} (hy : (x >>> y).toBitVec = x.toBitVec.sshiftRight k) (hi : i < 8) (hk : k ≤ 24) : gb (x >>> y) i = gb x (k + i) := by
  unfold gb
  rw [hy, BitVec.getLsbD_sshiftRight, decide_eq_false (by omega), if_pos (by omega)]
  rfl
theorem gb_ur {x : Int32} {k i : Nat} {y : UInt32} (hy : (x.toUInt32 >>> y).toInt32.toBitVec = x.toBitVec >>> k) : gb (x.toUInt32 >>> y).toInt32 i = gb x (k + i) := by
  unfold gb
  rw [hy, BitVec.getLsbD_ushiftRight]
theorem sh_of {x a b : Int32} {k : Nat} (h1 : ∀ i, i < 8 → gb a i = gb x (k + i)) (h2 : ∀ i, i < 8 → gb b i = gb x (k + i)) : a &&& 255 = b &&& 255 := gb_ext (fun i hi => by
  rw [gb_and, gb_and, gb_255 i hi]
  by_cases w : i < 8
  · rw [h1 i w, h2 i w]
  · rw [decide_eq_false w, Bool.and_false, Bool.and_false])
theorem sh_24 (v : Int32) : (v >>> ((24 : Int32) &&& 31)) &&& 255 = byt v 24 := sh_of (k := 24) (fun i hi => gb_sr rfl hi (by decide)) (fun i hi => gb_ur rfl)
theorem sh_16 (v : Int32) : (v >>> ((16 : Int32) &&& 31)) &&& 255 = byt v 16 := sh_of (k := 16) (fun i hi => gb_sr rfl hi (by decide)) (fun i hi => gb_ur rfl)
theorem sh_8 (v : Int32) : (v >>> ((8 : Int32) &&& 31)) &&& 255 = byt v 8 := sh_of (k := 8) (fun i hi => gb_sr rfl hi (by decide)) (fun i hi => gb_ur rfl)
theorem sh_0 (v : Int32) : (v >>> ((0 : Int32) &&& 31)) &&& 255 = byt v 0 := sh_of (k := 0) (fun i hi => gb_sr rfl hi (by decide)) (fun i hi => gb_ur rfl)
/-- a byte as Java's byte -/
def tB (x : Int32) : Int32 := x.toInt8.toInt32
theorem tB_255 (x : Int32) : tB (x &&& 255) = tB x := by
  unfold tB
  congr 1
  apply Int8.toBitVec_inj.mp
  refine BitVec.eq_of_getLsbD_eq (fun i hi => ?_)
  rw [Int32.toBitVec_toInt8, Int32.toBitVec_toInt8, BitVec.getLsbD_signExtend, BitVec.getLsbD_signExtend]
  have := gb_and x 255 i
  rw [gb_255 i (by omega), decide_eq_true hi, Bool.and_true] at this
  unfold gb at this
  rw [if_pos (by omega), if_pos (by omega), this]
theorem tB_tB (x : Int32) : tB (tB x) = tB x := by
  unfold tB
  rw [Int8.toInt8_toInt32]
def ap1M (s : (Nat → Int32) × Nat) (x : Int32) : (Nat → Int32) × Nat := if x = 0 then s else (fun j => if j = s.2 then tB x else s.1 j, s.2 + 1)
def apM (v : Int32) (s : (Nat → Int32) × Nat) : (Nat → Int32) × Nat := ap1M (ap1M (ap1M (ap1M s (byt v 24)) (byt v 16)) (byt v 8)) (byt v 0)
def nzN (x : Int32) : Nat := if x = 0 then 0 else 1
def fbN (v : Int32) : Nat := nzN (byt v 24) + nzN (byt v 16) + nzN (byt v 8) + nzN (byt v 0)
theorem nz_nI (x : Int32) : nz x = nI (nzN x) := by
  unfold nz nzN
  split <;> rfl
theorem fbC_fbN (v : Int32) : fbC v = nI (fbN v) := by
  unfold fbC fbN
  rw [nz_nI, nz_nI, nz_nI, nz_nI, show (0 : Int32) = nI 0 from rfl, nI_add, nI_add, nI_add, nI_add, Nat.zero_add]
theorem ap1M_2 (s : (Nat → Int32) × Nat) (x : Int32) : (ap1M s x).2 = s.2 + nzN x := by
  unfold ap1M nzN
  split <;> rfl
theorem apM_2 (v : Int32) (s : (Nat → Int32) × Nat) : (apM v s).2 = s.2 + fbN v := by
  unfold apM fbN
  rw [ap1M_2, ap1M_2, ap1M_2, ap1M_2]
  omega
/-- both tapes hold the same -/
def TBE (s r : (Nat → Int32) × Nat) : Prop := s.2 = r.2 ∧ ∀ j, j < s.2 → r.1 j = tB (s.1 j)
theorem ap1_tb {s r : (Nat → Int32) × Nat} (h : TBE s r) {x : Int32} (hs : s.2 + nzN x ≤ 400) : TBE (ap1 s x) (ap1M r x) := by
  unfold ap1 ap1M
  by_cases q : x = 0
  · rw [if_pos q, if_pos q]; exact h
  · have : nzN x = 1 := if_neg q
    rw [if_neg q, if_neg q, if_neg (by omega)]
    refine ⟨by rw [show s.2 = r.2 from h.1], fun j hj => ?_⟩
    show (if j = r.2 then tB x else r.1 j) = tB (if j = s.2 then x else s.1 j)
    rw [← h.1]
    by_cases w : j = s.2
    · rw [if_pos w, if_pos w]
    · rw [if_neg w, if_neg w]
      exact h.2 j (by have : j < s.2 + 1 := hj; omega)
theorem ap1_2 {s : (Nat → Int32) × Nat} {x : Int32} (hs : s.2 + nzN x ≤ 400) : (ap1 s x).2 = s.2 + nzN x := by
  unfold ap1
  by_cases q : x = 0
  · rw [if_pos q, show nzN x = 0 from if_pos q]; rfl
  · have : nzN x = 1 := if_neg q
    rw [if_neg q, if_neg (by omega), this]
theorem apB_tb {s r : (Nat → Int32) × Nat} (h : TBE s r) {v : Int32} (hs : s.2 + fbN v ≤ 400) : TBE (apB v s) (apM v r) ∧ (apB v s).2 = s.2 + fbN v := by
  unfold fbN at hs
  have a1 := ap1_2 (s := s) (x := byt v 24) (by omega)
  have a2 := ap1_2 (s := ap1 s (byt v 24)) (x := byt v 16) (by omega)
  have a3 := ap1_2 (s := ap1 (ap1 s (byt v 24)) (byt v 16)) (x := byt v 8) (by omega)
  have a4 := ap1_2 (s := ap1 (ap1 (ap1 s (byt v 24)) (byt v 16)) (byt v 8)) (x := byt v 0) (by omega)
  have b1 := ap1_tb h (x := byt v 24) (by omega)
  have b2 := ap1_tb b1 (x := byt v 16) (by omega)
  have b3 := ap1_tb b2 (x := byt v 8) (by omega)
  have b4 := ap1_tb b3 (x := byt v 0) (by omega)
  refine ⟨b4, ?_⟩
  unfold apB fbN
  omega
