/-! PUT AND UNDO on both sides -/
theorem ev_c0 {p p' : Nat → Nat → Int32} : ∀ m, (∀ i, i < m → p' i 0 = p i 0) → ev p' m = ev p m
  | 0, _ => rfl
  | m + 1, h => by
    unfold ev
    rw [h m (by omega), ev_c0 m (fun i hi => h i (by omega))]
theorem fcP_c0 {p p' : Nat → Nat → Int32} : ∀ m, (∀ i, i < m → p' i 0 = p i 0) → fcP p' m = fcP p m
  | 0, _ => rfl
  | m + 1, h => by
    unfold fcP
    rw [h m (by omega), fcP_c0 m (fun i hi => h i (by omega))]
/-- a sentence gets another number -/
def NW (p p' : Nat → Nat → Int32) (m i0 vn : Nat) : Prop := ∀ i, i < m → ∀ w, p' i w = if i = i0 ∧ w = 4 then nI vn else p i w
theorem NW_0 {p p' : Nat → Nat → Int32} {m i0 vn : Nat} (h : NW p p' m i0 vn) : ∀ i, i < m → p' i 0 = p i 0 := fun i hi => by rw [h i hi 0, if_neg (fun w => absurd w.2 (by decide))]
theorem WT_set {p p' : Nat → Nat → Int32} {m i0 vn : Nat} (hW : WT p m) (h : NW p p' m i0 vn) (hv : vn ≤ 999) (h3 : p i0 0 = 3 → 2 ≤ vn ∧ vn ≤ 9) : WT p' m := by
  refine ⟨hW.1, fun i hi => ?_⟩
  by_cases q : i = i0
  · obtain ⟨s, na, u, n, e0, s8, e1, n8, e3, u4, e4, n9, t9, e2⟩ := hW.2 i hi
    have k : ∀ w, w ≠ 4 → p' i w = p i w := fun w hw => by rw [h i hi w, if_neg (fun z => hw z.2)]
    refine ⟨s, na, u, vn, (k 0 (by decide)).trans e0, s8, (k 1 (by decide)).trans e1, n8, (k 3 (by decide)).trans e3, u4, by rw [h i hi 4, if_pos ⟨q, rfl⟩], hv, fun w => h3 (by rw [← q, e0, w]; rfl), ?_⟩
    rw [k 2 (by decide)]
    exact e2
  · exact WS_row (p := p) (funext fun w => by rw [h i hi w, if_neg (fun z => q z.1)]) (hW.2 i hi)
def kN (k : Nat) : Nat := if k < 50 then k + 1 else 50
def csN (k : Nat) (f : Nat → Int32) (s : Int32) : Nat → Int32 := fun j => if k < 50 then (if j = k then s else f j) else (if j = 49 then s else f (j + 1))
theorem KP_N {A B A' B' cs cn : Nat → Int32} {k : Nat} {c s w : Int32} (h : ∀ j, j < k → A j = cs j ∧ B j = cn j) (q : (k < 50 ∧ c = nI (k + 1) ∧ (∀ j, j < k → A' j = A j ∧ B' j = B j) ∧ A' k = s ∧ B' k = w) ∨ (k = 50 ∧ c = nI 50 ∧ (∀ j, j < 49 → A' j = A (j + 1) ∧ B' j = B (j + 1)) ∧ A' 49 = s ∧ B' 49 = w)) : c = nI (kN k) ∧ ∀ j, j < kN k → A' j = csN k cs s j ∧ B' j = csN k cn w j := by
  unfold kN csN
  rcases q with ⟨q1, q2, q3, q4, q5⟩ | ⟨q1, q2, q3, q4, q5⟩
  · rw [if_pos q1]
    refine ⟨q2, fun j hj => ?_⟩
    simp only [if_pos q1]
    by_cases e : j = k
    · rw [if_pos e, if_pos e, e]; exact ⟨q4, q5⟩
    · rw [if_neg e, if_neg e, (q3 j (by omega)).1, (q3 j (by omega)).2]; exact h j (by omega)
  · have q0 : ¬ k < 50 := by omega
    rw [if_neg q0]
    refine ⟨q2, fun j hj => ?_⟩
    simp only [if_neg q0]
    by_cases e : j = 49
    · rw [if_pos e, if_pos e, e]; exact ⟨q4, q5⟩
    · rw [if_neg e, if_neg e, (q3 j (by omega)).1, (q3 j (by omega)).2]; exact h (j + 1) (by omega)
section PUTU
variable {lab : Nat → Nat} {c d : Nat} {S : zS} {I I' : Nat → Nat → Int32} {J J' : Nat → Nat → Int64} {R R' : Nat → Nat → Option Nat} {x t b rd ch sa na su lo fl st pa ak dr pa2 ak2 : Nat} {rw rw2 lw rs le g : Nat → Nat} {y tp td rm ra am ks kn ro ba be : Nat}
variable {tg aq cs cn : Nat → Int32} {n m k u qn : Nat} {p : Nat → Nat → Int32} {tt : Int32} {ob : Option Nat}
theorem PU_put (hP : PU tg n m p tt aq k cs cn u qn ob) {p' : Nat → Nat → Int32} {i0 vn : Nat} (hi : i0 < m) (hN : NW p p' m i0 vn) (hv : vn ≤ 999) (h3 : p i0 0 = 3 → 2 ≤ vn ∧ vn ≤ 9) : PU tg n m p' tt aq (kN k) (csN k cs (nI i0)) (csN k cn (p i0 4)) u qn ob := by
  obtain ⟨a1, a2, a3, a4, a5, a6, a7, a8⟩ := hP
  refine ⟨a1, a2, WT_set a3 hN hv h3, a4, by unfold kN; split <;> omega, fun j hj => ?_, a7, a8⟩
  have hnew : ∃ i v, nI i0 = nI i ∧ i < m ∧ p i0 4 = nI v ∧ v ≤ 999 ∧ (p' i 0 = 3 → 2 ≤ v ∧ v ≤ 9) := by
    obtain ⟨s, na, u, v, e0, s8, e1, n8, e3, u4, e4, n9, t9, e2⟩ := a3.2 i0 hi
    refine ⟨i0, v, rfl, hi, e4, n9, fun w => t9 ?_⟩
    rw [NW_0 hN i0 hi, e0] at w
    exact nI_inj (by omega) (by decide) (show nI s = nI 3 from w)
  have hold : ∀ j, j < k → ∃ i v, cs j = nI i ∧ i < m ∧ cn j = nI v ∧ v ≤ 999 ∧ (p' i 0 = 3 → 2 ≤ v ∧ v ≤ 9) := fun j hj => by
    obtain ⟨i, v, b1, b2, b3, b4, b5⟩ := a6 j hj
    exact ⟨i, v, b1, b2, b3, b4, fun w => b5 (by rw [← NW_0 hN i b2]; exact w)⟩
  unfold kN at hj
  unfold csN
  by_cases q : k < 50
  · rw [if_pos q] at hj
    simp only [if_pos q]
    by_cases e : j = k
    · rw [if_pos e, if_pos e]; exact hnew
    · rw [if_neg e, if_neg e]; exact hold j (by omega)
  · rw [if_neg q] at hj
    simp only [if_neg q]
    by_cases e : j = 49
    · rw [if_pos e, if_pos e]; exact hnew
    · rw [if_neg e, if_neg e]; exact hold (j + 1) (by omega)
theorem PU_undo (hP : PU tg n m p tt aq k cs cn u qn ob) {p' : Nat → Nat → Int32} {i0 vn : Nat} (hN : NW p p' m i0 vn) (hv : vn ≤ 999) (h3 : p i0 0 = 3 → 2 ≤ vn ∧ vn ≤ 9) : PU tg n m p' tt aq (k - 1) cs cn u qn ob := by
  obtain ⟨a1, a2, a3, a4, a5, a6, a7, a8⟩ := hP
  refine ⟨a1, a2, WT_set a3 hN hv h3, a4, by omega, fun j hj => ?_, a7, a8⟩
  obtain ⟨i, v, b1, b2, b3, b4, b5⟩ := a6 j (by omega)
  exact ⟨i, v, b1, b2, b3, b4, fun w => b5 (by rw [← NW_0 hN i b2]; exact w)⟩
/-- what may be put, on both sides -/
theorem AL_eq (hP : PU tg n m p tt aq k cs cn u qn ob) (h3 : ST I st ak rw m p tt aq) (h5 : MD I' y tp td am ks kn tg n m p tt aq k cs cn) {s v : Int32} : (ALw I rw m s v = true ↔ ALm I' td m s v) ∧ (ALw I rw m s v = true → ∃ i0 vn, s = nI i0 ∧ i0 < m ∧ v = nI vn ∧ vn ≤ 999 ∧ (p i0 0 = 3 → 2 ≤ vn ∧ vn ≤ 9)) := by
  have hm := hP.2.2.1.1
  unfold ALw ALm
  by_cases q : 0 ≤ s ∧ s < nI m
  · obtain ⟨i0, hi, rfl⟩ := nI_of (x := s) (fun w => by rw [i32l.1] at w; have := i32l.2.1.mp q.1; omega)
    have him : i0 < m := nlt hi (by omega) q.2
    have e1 : (if 0 ≤ nI i0 ∧ nI i0 < nI m ∧ (0 : Int32) ≤ 0 ∧ (0 : Int32) < 7 then I (rw (nI i0).toNatClampNeg) (0 : Int32).toNatClampNeg else -1) = p i0 0 := by
      rw [if_pos ⟨q.1, q.2, by decide, by decide⟩, nI_clamp hi]
      exact h3.1 i0 0
    have e2 : tdP I' td (nI i0).toNatClampNeg 0 = p i0 0 := by
      rw [nI_clamp hi]
      exact h5.2.2.2.1 i0 him 0 (by omega)
    rw [e1, e2]
    have q2 : 0 ≤ nI i0 ∧ nI i0 ≤ nI m - 1 := ⟨q.1, (ns_eq (by omega)).mp q.2⟩
    have hv : ∀ {a b : Int32} {x y : Nat}, a.toInt = x → b.toInt = y → a ≤ v ∧ v ≤ b → ∃ vn, v = nI vn ∧ x ≤ vn ∧ vn ≤ y := fun {a b x y} ea eb w => by
      rw [i32l.2.1, i32l.2.1] at w
      obtain ⟨vn, hvn, e⟩ := nI_of (x := v) (fun z => by rw [i32l.1] at z; have e0 : (0 : Int32).toInt = 0 := rfl; omega)
      rw [e, nI_toInt hvn] at w
      exact ⟨vn, e, by omega, by omega⟩
    by_cases c3 : p i0 0 = 3
    · rw [if_pos c3, if_pos c3]
      refine ⟨⟨fun w => ⟨q2, of_decide_eq_true w⟩, fun w => decide_eq_true w.2⟩, fun w => ?_⟩
      obtain ⟨vn, e, v1, v2⟩ := hv (x := 2) (y := 9) rfl rfl (of_decide_eq_true w)
      exact ⟨i0, vn, rfl, him, e, by omega, fun _ => ⟨v1, v2⟩⟩
    · rw [if_neg c3, if_neg c3]
      refine ⟨⟨fun w => ⟨q2, (of_decide_eq_true w).2⟩, fun w => decide_eq_true ⟨q, w.2⟩⟩, fun w => ?_⟩
      obtain ⟨vn, e, v1, v2⟩ := hv (x := 0) (y := 999) rfl rfl (of_decide_eq_true w).2
      exact ⟨i0, vn, rfl, him, e, v2, fun z => absurd z c3⟩
  · have e1 : (if 0 ≤ s ∧ s < nI m ∧ (0 : Int32) ≤ 0 ∧ (0 : Int32) < 7 then I (rw s.toNatClampNeg) (0 : Int32).toNatClampNeg else -1) = -1 := if_neg (fun w => q ⟨w.1, w.2.1⟩)
    rw [e1, if_neg (show ¬ (-1 : Int32) = 3 by decide), decide_eq_false (fun w => q w.1)]
    exact ⟨⟨fun w => Bool.noConfusion w, fun w => absurd ⟨w.1.1, (ns_eq (by omega)).mpr w.1.2⟩ q⟩, fun w => Bool.noConfusion w⟩
/-- the class's memory once the number is changed -/
theorem k_num (hP : PU tg n m p tt aq k cs cn u qn ob) (hL : CL lab c d S R x t b rd ch sa na su lo fl st pa ak dr pa2 ak2 rw rw2 lw rs le g) (h1 : TY S R I t b n tg) (h3 : ST I st ak rw m p tt aq) (f : ∀ a, a ≠ sa → a ≠ na → a ≠ ch → I' a = I a) {i0 vn k' : Nat} {cs' cn' : Nat → Int32} (hi : i0 < m) (h2 : CG I' ch sa na k' cs' cn') :
    ∃ p', NW p p' m i0 vn ∧ TY S R (zu I' (rw i0) 4 (nI vn)) t b n tg ∧ CG (zu I' (rw i0) 4 (nI vn)) ch sa na k' cs' cn' ∧ ST (zu I' (rw i0) 4 (nI vn)) st ak rw m p' tt aq ∧ FC lab I (zu I' (rw i0) 4 (nI vn)) := by
  have Y1 := CL_Y hL
  have hm := hP.2.2.1.1
  obtain ⟨-, ⟨t1, -, b1⟩, -, ⟨c1, -, -, s1, n1, -⟩, -, -, U, ⟨l1, l2, l3, l4, l5, l6, l7, l8⟩, ⟨l9, l10, l11⟩, -, l12, l13, hcd, -⟩ := hL
  have F : ∀ a i, lab a = i → i ≠ 2 → i ≠ 3 → i ≠ c → a ≠ ch → zu I' (rw i0) 4 (nI vn) a = I a := fun a i ha h2 h3 hc hch => (zu_o (lne ha (l11 i0) hc)).trans (f a (lne ha l6 h2) (lne ha l7 h3) hch)
  have Frw : ∀ i, I' (rw i) = I (rw i) := fun i => f _ (lne (l11 i) l6 (by omega)) (lne (l11 i) l7 (by omega)) (lne (l11 i) l5 (by omega))
  have est : zu I' (rw i0) 4 (nI vn) st = I st := (zu_o (kn Y1.1.2 (Y1.2.2.2.2.2.1 i0 (by omega)).2.2.1 (by decide))).trans (f st (lne l9 l6 (by omega)) (lne l9 l7 (by omega)) (lne l9 l5 (by omega)))
  have eak : zu I' (rw i0) 4 (nI vn) ak = I ak := (zu_o (Y1.2.2.2.2.2.2.2 i0 (by omega)).symm).trans (f ak (lne l10 l6 (by omega)) (lne l10 l7 (by omega)) (lne l10 l5 (by omega)))
  have hN : NW p (fun i w => zu I' (rw i0) 4 (nI vn) (rw i) w) m i0 vn := fun i hii w => by
    show zu I' (rw i0) 4 (nI vn) (rw i) w = _
    by_cases q : i = i0 ∧ w = 4
    · rw [if_pos q, q.1, q.2]; exact zu_s
    · rw [if_neg q, ← h3.1 i w, ← Frw i]
      by_cases w4 : w = 4
      · exact zu_a (fun z => q ⟨Y1.2.2.2.2.2.2.1 i i0 (by omega) (by omega) z, w4⟩)
      · exact zu_k w4
  refine ⟨fun i w => zu I' (rw i0) 4 (nI vn) (rw i) w, hN, TY_c h1 (F t 5 l2 (by decide) (by decide) (by omega) (kn t1.2 c1.2 (by decide))) (F b 1 l3 (by decide) (by decide) (by omega) (lne l3 l5 (by decide))), CG_c h2 (zu_o (lne l5 (l11 i0) (by omega))) (zu_o (lne l6 (l11 i0) (by omega))) (zu_o (lne l7 (l11 i0) (by omega))), ⟨fun i w => rfl, ?_, ?_, ?_, ?_, fun ht j hj => ?_⟩, fun a ha => ?_⟩
  · rw [est]; exact h3.2.1
  · rw [est, h3.2.2.1, ev_c0 m (NW_0 hN)]
  · rw [est, h3.2.2.2.1, fcP_c0 m (NW_0 hN)]
  · rw [est]; exact h3.2.2.2.2.1
  · rw [eak]; exact h3.2.2.2.2.2 ht j hj
  · exact F a _ rfl (by omega) (by omega) (by omega) (fun q => by rw [q, l5] at ha; omega)
/-- the reference's side of put -/
theorem k_mput (hL : ML lab S R y tp td rm ra am ks kn ro ba be) (h5 : MD I y tp td am ks kn tg n m p tt aq k cs cn) {i0 vn : Nat} (hi : i0 < m) {p' : Nat → Nat → Int32} (hN : NW p p' m i0 vn) {k' : Nat} {cs' cn' : Nat → Int32} (f1 : ∀ a, a ≠ y → a ≠ ks → a ≠ kn → a ≠ td → I' a = I a) (f2 : I' td = fun j => if j = 7 * i0 + 4 then nI vn else I td j) (f3 : ∀ j, j ≠ 0 → j ≠ 12 → I' y j = I y j) (f4 : I' y 12 = nI k' ∧ ∀ j, j < k' → I' ks j = cs' j ∧ I' kn j = cn' j) : MD I' y tp td am ks kn tg n m p' tt aq k' cs' cn' ∧ FM lab I I' J J := by
  obtain ⟨-, -, -, -, -, -, -, -, -, -, -, -, ⟨l1, l2, l3, l4, l5, l6, l7, l8, l9, l10, l11⟩⟩ := hL
  obtain ⟨a1, a2, a3, a4, a5, a6, a7, a8⟩ := h5
  have F : ∀ a i, lab a = i → i ≠ 109 → i ≠ 105 → i ≠ 106 → i ≠ 101 → I' a = I a := fun a i ha h1 h2 h3 h4 => f1 a (lne ha l1 h1) (lne ha l7 h2) (lne ha l8 h3) (lne ha l3 h4)
  refine ⟨⟨(f3 2 (by decide) (by decide)).trans a1, fun j => ?_, (f3 7 (by decide) (by decide)).trans a3, fun i hii w hw => ?_, (f3 9 (by decide) (by decide)).trans a5, f4.1, f4.2, fun ht j hj => ?_⟩, fun a ha => ⟨F a _ rfl (by omega) (by omega) (by omega) (by omega), rfl⟩⟩
  · rw [F tp 100 l2 (by decide) (by decide) (by decide) (by decide)]; exact a2 j
  · rw [f2, hN i hii w]
    show (if 7 * i + w = 7 * i0 + 4 then nI vn else I td (7 * i + w)) = _
    by_cases q : i = i0 ∧ w = 4
    · rw [if_pos q, if_pos (by omega)]
    · rw [if_neg q, if_neg (by omega)]
      exact a4 i hii w hw
  · rw [F am 103 l5 (by decide) (by decide) (by decide) (by decide)]; exact a8 ht j hj
end PUTU
