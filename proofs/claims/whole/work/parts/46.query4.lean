/-! bitCount; idle, enough, strange, lacking, count of the reference -/
theorem z_ldcw {X : zC} {E : zE} {S : zS} {kc ks : Nat} {μ : zM} {pc : Nat} {lv : List (Nat × Value)} {st : List Value} {l : Launch} {cc : ByteArray} {own : String} {Ts : List Cond} {rm : Room} {nL : Nat} (h : zOK X E l cc own Ts rm nL) {index : Nat} {v : Int32} (hw : Cond.constant own index v ∈ Ts) (hd : decode cc pc = .ok (.ldc_w index, 3)) (k : zV X E S kc ks μ (pc + 3) lv (.int v :: st)) : zV X E S kc ks μ pc lv (st) := fun H locs ls hP hD hS hl => lv_ldcw h.1 h.2.1 h.2.2.2.1 (h.2.2.2.2.1 _ hw) hd (k H locs ls hP hD hS hl)
set_option maxRecDepth 100000 in
theorem kbc_5 : Cond.constant RJ6 265 1431655765 ∈ zTbl := zmem 620 rfl rfl
set_option maxRecDepth 100000 in
theorem kbc_6 : Cond.constant RJ6 266 858993459 ∈ zTbl := zmem 621 rfl rfl
set_option maxRecDepth 100000 in
theorem kbc_7 : Cond.constant RJ6 267 252645135 ∈ zTbl := zmem 622 rfl rfl
def ush (x s : Int32) : Int32 := (x.toUInt32 >>> (s.toUInt32 &&& Int32.toUInt32 31)).toInt32
def bc1 (i : Int32) : Int32 := i - (ush i 1 &&& 1431655765)
def bc2 (i : Int32) : Int32 := (i &&& 858993459) + (ush i 2 &&& 858993459)
def bc3 (i : Int32) : Int32 := (i + ush i 4) &&& 252645135
def bc4 (i : Int32) : Int32 := i + ush i 8
def bc5 (i : Int32) : Int32 := i + ush i 16
def bcJ (i : Int32) : Int32 := bc5 (bc4 (bc3 (bc2 (bc1 i)))) &&& 63
def idM (p : Nat → Nat → Int32) (q : Int32 → Bool) (a : Int32) : Nat → Int32
  | 0 => 0
  | i + 1 => if (decide (p i 0 < 5) && q (a &&& ((1 : Int32) <<< (nI i &&& 31) ^^^ -1))) = true then idM p q a i ||| (1 : Int32) <<< (nI i &&& 31) else idM p q a i
def enL (fc : Int32) (q : Int32 → Bool) : Nat → Int32 → Int32
  | 0, b => b
  | s + 1, b => enL fc q s (if nI s &&& (fc ^^^ -1) = 0 ∧ bcJ (nI s) ≤ bcJ b ∧ q (nI s) = true then nI s else b)
theorem enL_s {fc : Int32} {q : Int32 → Bool} {s : Nat} {b : Int32} : enL fc q (s + 1) b = enL fc q s (if nI s &&& (fc ^^^ -1) = 0 ∧ bcJ (nI s) ≤ bcJ b ∧ q (nI s) = true then nI s else b) := rfl
def dn (s : Nat) : Int32 := if s = 0 then -1 else nI (s - 1)
theorem dn_s (s : Nat) : dn (s + 1) = nI s := if_neg (Nat.succ_ne_zero s)
theorem dn_d (s : Nat) : nI s + -1 = dn s := by
  cases s with
  | zero => rfl
  | succ s => rw [dn_s]; exact pk_m1 s
theorem al_dn : ∀ m, m < 11 → al m = dn (2 ^ m) := by decide +kernel
def sFn {α : Type} (f : Nat → Option α) : Nat → Nat → Option α
  | 0, _ => none
  | d + 1, i => match f i with
    | some v => some v
    | none => sFn f d (i + 1)
def stq (p : Nat → Nat → Int32) (m : Nat) (sg un : Int32) (na : Nat) : Bool := AB p m un (bt (al m)) na none && !(decide (0 ≤ val 0 (redu (gth p m un (bt (al m)) m).1 (qrow na none)) (gz p (nI na) un sg m)) && decide (val 1 (redu (gth p m un (bt (al m)) m).1 (qrow na none)) (gz p (nI na) un sg m) = 1))
def stN (p : Nat → Nat → Int32) (m t u : Nat) (k : Nat) : Option (Nat × Nat × Nat) := if stq p m (nI t) (nI u) k = true then some (t, u, k) else none
def stU (p : Nat → Nat → Int32) (m t u : Nat) : Option (Nat × Nat × Nat) := sFn (stN p m t u) 8 0
def stT (p : Nat → Nat → Int32) (m t : Nat) : Option (Nat × Nat × Nat) := sFn (stU p m t) 4 0
def stO (w : Int32) : Option (Nat × Nat × Nat) → Int32
  | none => -1
  | some v => if w = 0 then nI v.2.2 else if w = 1 then nI v.2.1 else nI v.1
def cN (f : Nat → Bool) : Nat → Nat
  | 0 => 0
  | i + 1 => cN f i + (if f i = true then 1 else 0)
def cU (f : Nat → Nat → Bool) : Nat → Nat
  | 0 => 0
  | u + 1 => cU f u + cN (f u) 8
def lkq (p : Nat → Nat → Int32) (m : Nat) (un : Int32) (na : Nat) (ob : Option Nat) (n : Nat) : Bool := !sd (redu (gth p m un (bt (al m)) m).1 (qrow n none)) && ((ad (gth p m un (bt (al m)) m).1 (gr n n 1 0 0 0)).2 && sd (redu (ad (gth p m un (bt (al m)) m).1 (gr n n 1 0 0 0)).1 (qrow na ob)))
theorem sgM_ev (I : Nat → Nat → Int32) (td b : Nat) : ∀ i, sgM I td (nI b) i = nI (b + ev (fun i w => tdP I td i w) i)
  | 0 => rfl
  | i + 1 => by
    unfold sgM ev
    rw [sgM_ev I td b i]
    show _ = nI (b + (ev (fun i w => tdP I td i w) i + (if tdP I td i 0 < 5 then 0 else 1)))
    split
    · rw [show (0 : Int32) = nI 0 from rfl, nI_add]; rfl
    · rw [show (1 : Int32) = nI 1 from rfl, nI_add, Nat.add_assoc]
/-- how many stages -/
def stg (t : Int32) (p : Nat → Nat → Int32) (m : Nat) : Nat := (if t = 0 then 0 else 1) + ev p m
theorem sgM_stg (I : Nat → Nat → Int32) (td m : Nat) (t : Int32) : sgM I td (if t = 0 then 0 else 1) m = nI (stg t (fun i w => tdP I td i w) m) := by
  unfold stg
  by_cases q : t = 0
  · rw [if_pos q, if_pos q]; exact sgM_ev I td 0 m
  · rw [if_neg q, if_neg q]; exact sgM_ev I td 1 m
theorem fcM_P {I I' : Nat → Nat → Int32} {td : Nat} (h : (fun i w => tdP I td i w) = fun i w => tdP I' td i w) : ∀ m, fcM I td m = fcM I' td m
  | 0 => rfl
  | m + 1 => by
    unfold fcM
    have h1 : tdP I td m 0 = tdP I' td m 0 := congrFun (congrFun h m) 0
    rw [fcM_P h m, h1]

set_option maxHeartbeats 4000000 in
set_option maxRecDepth 100000 in
theorem c_J6_bitCount (l : Launch) {E : zE} {S : zS} {μ : zM} {i : Int32} : zI l yJ6_bitCount_0f7a4 wsJ6_bitCount_0f7a4 rmJ6_bitCount_0f7a4 E S [.int i] μ (bcJ i) μ := by
  refine z_metI (cc := cJ6_bitCount_0f7a4) (maxL := 1) (ty := .int) (by decide) rfl (Nat.le_of_ble_eq_true rfl) (fun X h ret => ?_)
  show zV X E S 0 0 μ 0 _ []
  refine z_iload_n h dJ6_bitCount_0f7a4_0 rfl rfl ?_
  refine z_iload_n h dJ6_bitCount_0f7a4_1 rfl rfl ?_
  refine z_iconst (v := 1) h dJ6_bitCount_0f7a4_2 (by decide) ?_
  refine z_iushr h dJ6_bitCount_0f7a4_3 rfl ?_
  refine z_ldcw h kbc_5 dJ6_bitCount_0f7a4_4 ?_
  refine z_iand h dJ6_bitCount_0f7a4_7 ?_
  refine z_isub h dJ6_bitCount_0f7a4_8 ?_
  refine z_istore_n h dJ6_bitCount_0f7a4_9 rfl (by decide) ?_
  rw [show i - ((i.toUInt32 >>> (Int32.toUInt32 1 &&& Int32.toUInt32 31)).toInt32 &&& 1431655765) = bc1 i from rfl]
  generalize h1 : bc1 i = i1 at *
  refine z_iload_n h dJ6_bitCount_0f7a4_10 rfl rfl ?_
  refine z_ldcw h kbc_6 dJ6_bitCount_0f7a4_11 ?_
  refine z_iand h dJ6_bitCount_0f7a4_14 ?_
  refine z_iload_n h dJ6_bitCount_0f7a4_15 rfl rfl ?_
  refine z_iconst (v := 2) h dJ6_bitCount_0f7a4_16 (by decide) ?_
  refine z_iushr h dJ6_bitCount_0f7a4_17 rfl ?_
  refine z_ldcw h kbc_6 dJ6_bitCount_0f7a4_18 ?_
  refine z_iand h dJ6_bitCount_0f7a4_21 ?_
  refine z_iadd h dJ6_bitCount_0f7a4_22 ?_
  refine z_istore_n h dJ6_bitCount_0f7a4_23 rfl (by decide) ?_
  rw [show (i1 &&& 858993459) + ((i1.toUInt32 >>> (Int32.toUInt32 2 &&& Int32.toUInt32 31)).toInt32 &&& 858993459) = bc2 i1 from rfl]
  generalize h2 : bc2 i1 = i2 at *
  refine z_iload_n h dJ6_bitCount_0f7a4_24 rfl rfl ?_
  refine z_iload_n h dJ6_bitCount_0f7a4_25 rfl rfl ?_
  refine z_iconst (v := 4) h dJ6_bitCount_0f7a4_26 (by decide) ?_
  refine z_iushr h dJ6_bitCount_0f7a4_27 rfl ?_
  refine z_iadd h dJ6_bitCount_0f7a4_28 ?_
  refine z_ldcw h kbc_7 dJ6_bitCount_0f7a4_29 ?_
  refine z_iand h dJ6_bitCount_0f7a4_32 ?_
  refine z_istore_n h dJ6_bitCount_0f7a4_33 rfl (by decide) ?_
  rw [show (i2 + (i2.toUInt32 >>> (Int32.toUInt32 4 &&& Int32.toUInt32 31)).toInt32) &&& 252645135 = bc3 i2 from rfl]
  generalize h3 : bc3 i2 = i3 at *
  refine z_iload_n h dJ6_bitCount_0f7a4_34 rfl rfl ?_
  refine z_iload_n h dJ6_bitCount_0f7a4_35 rfl rfl ?_
  refine z_bipush (v := 8) h dJ6_bitCount_0f7a4_36 (by decide) ?_
  refine z_iushr h dJ6_bitCount_0f7a4_38 rfl ?_
  refine z_iadd h dJ6_bitCount_0f7a4_39 ?_
  refine z_istore_n h dJ6_bitCount_0f7a4_40 rfl (by decide) ?_
  rw [show i3 + (i3.toUInt32 >>> (Int32.toUInt32 8 &&& Int32.toUInt32 31)).toInt32 = bc4 i3 from rfl]
  generalize h4 : bc4 i3 = i4 at *
  refine z_iload_n h dJ6_bitCount_0f7a4_41 rfl rfl ?_
  refine z_iload_n h dJ6_bitCount_0f7a4_42 rfl rfl ?_
  refine z_bipush (v := 16) h dJ6_bitCount_0f7a4_43 (by decide) ?_
  refine z_iushr h dJ6_bitCount_0f7a4_45 rfl ?_
  refine z_iadd h dJ6_bitCount_0f7a4_46 ?_
  refine z_istore_n h dJ6_bitCount_0f7a4_47 rfl (by decide) ?_
  rw [show i4 + (i4.toUInt32 >>> (Int32.toUInt32 16 &&& Int32.toUInt32 31)).toInt32 = bc5 i4 from rfl]
  refine z_iload_n h dJ6_bitCount_0f7a4_48 rfl rfl ?_
  refine z_bipush (v := 63) h dJ6_bitCount_0f7a4_49 (by decide) ?_
  refine z_iand h dJ6_bitCount_0f7a4_51 ?_
  rw [← h4, ← h3, ← h2, ← h1]
  exact ret dJ6_bitCount_0f7a4_52 rfl

set_option maxHeartbeats 4000000 in
set_option maxRecDepth 100000 in
theorem c_X7_idle (l : Launch) {E : zE} {S : zS} {I : Nat → Nat → Int32} {J : Nat → Nat → Int64} {R : Nat → Nat → Option Nat} {x ro ba be : Nat} (hm : MB S R x ro ba be) {td m : Nat} (hD : TD S R I x td m) (hW : WT (fun i w => tdP I td i w) m) {ak na : Nat} {ob : Option Nat} (hQ : I x 9 ≠ 0 → AK S R I x ak na ob) : zIP l yX7_idle wsX7_idle rmX7_idle E S [.ref x] (I, J, R) (fun r ν => ∃ I' J', ν = (I', J', R) ∧ FQ (zu I x 0 0) I' J J' x ro ba be ∧ r = (if HA (I x 9) (fun i w => tdP I td i w) m (I ak 3) na ob = true then idM (fun i w => tdP I td i w) (fun st => AB (fun i w => tdP I td i w) m (I ak 3) (bt st) na ob) (al m) m else 0)) := by
  refine z_metIP (cc := cX7_idle) (maxL := 3) (ty := .int) (by decide) rfl (Nat.le_of_ble_eq_true rfl) (fun X h ret => ?_)
  show zV X E S 0 0 (I, J, R) 0 _ []
  obtain ⟨n1, n2⟩ := td_ne hm hD
  obtain ⟨m1, m2, m3, m4, m5, m6, m7, m8⟩ := id hm
  have hP0 := td_z0 (I := I) n2
  have hD0 := hD.z0
  have hK := kk_KC (p := (fun i w => tdP I td i w)) hW.1
  obtain ⟨hk0, hk1⟩ := kc_le hK
  generalize hPP : (fun i w => tdP I td i w) = P at *
  have hnx : I x 9 ≠ 0 → ak ≠ x := fun w => (ak_ne hm (hQ w)).2
  have hQ0 : (zu I x 0 0) x 9 ≠ 0 → AK S R (zu I x 0 0) x ak na ob := fun w => by rw [zu_k (by decide)] at w; exact (hQ w).z0 (hnx w)
  refine z_aload_n h dX7_idle_0 rfl rfl ?_
  refine z_iconst (v := 0) h dX7_idle_1 (by decide) ?_
  refine z_putI h (by assumption) rfl kw7 0 (by decide) rfl rfl (rfl) (rfl) kf_RX7_42 dX7_idle_2 ?_
  refine z_aload_n h dX7_idle_5 rfl rfl ?_
  refine z_callVIP h (c_X7_hasAnswer l hm hD0 (by rw [hP0]; exact hW) hQ0) (by assumption) rfl gm_RX7_267 rfl ⟨rfl, rfl⟩ 0 (by decide +kernel) ⟨by decide, by decide⟩ rfl rfl (Nat.le_of_ble_eq_true rfl) ⟨Nat.zero_le _, Nat.zero_le _⟩ dX7_idle_6 (fun r ν hν => ?_)
  rw [hP0, zu_k (by decide)] at hν
  obtain ⟨I1, J1, rfl, hr, hF1, hv⟩ := hν
  have hAKu : I x 9 ≠ 0 → zu I x 0 0 ak = I ak := fun w => zu_o (hnx w)
  have hHA : HA (I x 9) P m (zu I x 0 0 ak 3) na ob = HA (I x 9) P m (I ak 3) na ob := by
    by_cases w : I x 9 ≠ 0
    · rw [hAKu w]
    · unfold HA
      rw [decide_eq_false w]; rfl
  rw [hHA] at hr
  subst hr
  refine z_if_ne h 14 dX7_idle_9 (by decide) (fun c9 => ?_) (fun c9 => ?_)
  · have c9 := b2i_n0.mp c9
    have h9 : I x 9 ≠ 0 := by
      have c := c9
      unfold HA at c
      simp only [Bool.and_eq_true, decide_eq_true_eq] at c
      exact c.1.1
    have hQ1 := hQ h9
    obtain ⟨a1, a2⟩ := ak_ne hm hQ1
    have eak0 := hAKu h9
    generalize hQQ : (fun st => AB P m (I ak 3) (bt st) na ob) = Q at *
    have hQs : ∀ st, AB P m (I ak 3) (bt st) na ob = Q st := fun st => by rw [← hQQ]
    have LL : ∀ (d i : Nat) (I2 : Nat → Nat → Int32) (J2 : Nat → Nat → Int64), i + d = m → FQ (zu I x 0 0) I2 J J2 x ro ba be → zV X E S 0 0 (I2, J2, R) 18 [(0, .ref x), (1, .int (idM P Q (al m) i)), (2, .int (nI i))] [] := by
      intro d
      induction d with
      | zero =>
        intro i I2 J2 hi hF2
        have e : i = m := by omega
        subst e
        obtain ⟨d1, d2, d3, d4, d5⟩ := hF2.TD hD0
        refine z_iload_n h dX7_idle_18 rfl rfl ?_
        refine z_aload_n h dX7_idle_19 rfl rfl ?_
        refine z_getI h (by assumption) rfl kw7 7 (by decide) rfl kf_RX7_205 dX7_idle_20 ?_
        rw [d4]
        refine z_icmp_ge h 63 dX7_idle_23 (by decide) (fun c23 => ?_) (fun c23 => ?_)
        · refine z_iload_n h dX7_idle_63 rfl rfl ?_
          exact ret ⟨I2, J2, rfl, hF2, by rw [if_pos c9]⟩ dX7_idle_64 rfl
        · exact absurd (nI_le (Nat.le_refl _) (by omega)) c23
      | succ d ih =>
        intro i I2 J2 hi hF2
        have hD2 := hF2.TD hD0
        have hP2 : (fun i w => tdP I2 td i w) = P := by rw [hF2.tds n1 n2, hP0]
        have hP3 : ∀ j w, tdP I2 td j w = P j w := fun j w => by rw [← hP2]
        have eak : I2 ak = I ak := (hF2.1 ak a1 a2).trans eak0
        have hQ2 := (hQ1.z0 a2).fq hm hF2
        obtain ⟨d1, d2, d3, d4, d5⟩ := id hD2
        have N57 : ∀ (I3 : Nat → Nat → Int32) (J3 : Nat → Nat → Int64) (b : Int32), b = idM P Q (al m) (i + 1) → FQ (zu I x 0 0) I3 J J3 x ro ba be → zV X E S 0 0 (I3, J3, R) 57 [(0, .ref x), (1, .int b), (2, .int (nI i))] [] := by
          intro I3 J3 b hb hF3
          subst hb
          refine z_iinc h dX7_idle_57 rfl (nI_1 i) (by decide) ?_
          refine z_goto h 18 dX7_idle_60 (by decide) ?_
          exact z_lk (ih (i + 1) I3 J3 (by omega) hF3) ⟨rfl, rfl, rfl, trivial⟩
        refine z_iload_n h dX7_idle_18 rfl rfl ?_
        refine z_aload_n h dX7_idle_19 rfl rfl ?_
        refine z_getI h (by assumption) rfl kw7 7 (by decide) rfl kf_RX7_205 dX7_idle_20 ?_
        rw [d4]
        refine z_icmp_ge h 63 dX7_idle_23 (by decide) (fun c23 => ?_) (fun c23 => ?_)
        · exact absurd (nle (by omega) (by omega) c23) (by omega)
        · refine z_aload_n h dX7_idle_26 rfl rfl ?_
          refine z_iload_n h dX7_idle_27 rfl rfl ?_
          refine z_callVI h (c_X7_isFact l d1 d2 d3 (by omega)) (by assumption) rfl gm_RX7_235 rfl ⟨rfl, rfl⟩ 1 (by decide +kernel) ⟨by decide, by decide⟩ rfl rfl (Nat.le_of_ble_eq_true rfl) ⟨Nat.zero_le _, Nat.zero_le _⟩ dX7_idle_28 ?_
          refine z_if_eq h 57 dX7_idle_31 (by decide) (fun c31 => ?_) (fun c31 => ?_)
          · rw [hP3] at c31
            exact z_lk (N57 I2 J2 _ (by show _ = if _ then _ else _; rw [b2i_0.mp c31, Bool.false_and, if_neg (by decide)]) hF2) ⟨rfl, rfl, rfl, trivial⟩
          · rw [hP3] at c31
            have c31 := b2i_n0.mp c31
            refine z_aload_n h dX7_idle_34 rfl rfl ?_
            refine z_aload_n h dX7_idle_35 rfl rfl ?_
            refine z_callVI h (c_X7_al l hD2) (by assumption) rfl gm_RX7_261 rfl ⟨rfl, rfl⟩ 0 (by decide +kernel) ⟨by decide, by decide⟩ rfl rfl (Nat.le_of_ble_eq_true rfl) ⟨Nat.zero_le _, Nat.zero_le _⟩ dX7_idle_36 ?_
            refine z_iconst (v := 1) h dX7_idle_39 (by decide) ?_
            refine z_iload_n h dX7_idle_40 rfl rfl ?_
            refine z_ishl h dX7_idle_41 ?_
            refine z_iconst (v := -1) h dX7_idle_42 (by decide) ?_
            refine z_ixor h dX7_idle_43 ?_
            refine z_iand h dX7_idle_44 ?_
            refine z_callVIP h (c_X7_answersBy l hm hD2 (by rw [hP2]; exact hW) hQ2) (by assumption) rfl gm_RX7_264 rfl ⟨rfl, rfl⟩ 1 (by decide +kernel) ⟨by decide, by decide⟩ rfl rfl (Nat.le_of_ble_eq_true rfl) ⟨Nat.zero_le _, Nat.zero_le _⟩ dX7_idle_45 (fun r ν hν => ?_)
            rw [hP2, eak] at hν
            obtain ⟨I3, J3, rfl, hr, hF3, _⟩ := hν
            rw [hQs] at hr
            subst hr
            refine z_if_eq h 57 dX7_idle_48 (by decide) (fun c48 => ?_) (fun c48 => ?_)
            · exact z_lk (N57 I3 J3 _ (by show _ = if _ then _ else _; rw [c31, Bool.true_and, b2i_0.mp c48, if_neg (by decide)]) (hF2.tr hF3)) ⟨rfl, rfl, rfl, trivial⟩
            · refine z_iload_n h dX7_idle_51 rfl rfl ?_
              refine z_iconst (v := 1) h dX7_idle_52 (by decide) ?_
              refine z_iload_n h dX7_idle_53 rfl rfl ?_
              refine z_ishl h dX7_idle_54 ?_
              refine z_ior h dX7_idle_55 ?_
              refine z_istore_n h dX7_idle_56 rfl (by decide) ?_
              exact z_lk (N57 I3 J3 _ (by show _ = if _ then _ else _; rw [c31, Bool.true_and, b2i_n0.mp c48, if_pos rfl]) (hF2.tr hF3)) ⟨rfl, rfl, rfl, trivial⟩
    refine z_iconst (v := 0) h dX7_idle_14 (by decide) ?_
    refine z_istore_n h dX7_idle_15 rfl (by decide) ?_
    refine z_iconst (v := 0) h dX7_idle_16 (by decide) ?_
    refine z_istore_n h dX7_idle_17 rfl (by decide) ?_
    exact z_lk (LL m 0 I1 J1 (by omega) hF1) ⟨rfl, rfl, rfl, trivial⟩
  · have c9 := b2i_0.mp c9
    refine z_iconst (v := 0) h dX7_idle_12 (by decide) ?_
    exact ret ⟨I1, J1, rfl, hF1, by rw [if_neg (by rw [c9]; decide)]⟩ dX7_idle_13 rfl

set_option maxHeartbeats 4000000 in
set_option maxRecDepth 100000 in
theorem c_X7_enough (l : Launch) {E : zE} {S : zS} {I : Nat → Nat → Int32} {J : Nat → Nat → Int64} {R : Nat → Nat → Option Nat} {x ro ba be : Nat} (hm : MB S R x ro ba be) {td m : Nat} (hD : TD S R I x td m) (hW : WT (fun i w => tdP I td i w) m) {ak na : Nat} {ob : Option Nat} (hQ : I x 9 ≠ 0 → AK S R I x ak na ob) : zIP l yX7_enough wsX7_enough rmX7_enough E S [.ref x] (I, J, R) (fun r ν => ∃ I' J', ν = (I', J', R) ∧ FQ (zu I x 0 0) I' J J' x ro ba be ∧ r = (if HA (I x 9) (fun i w => tdP I td i w) m (I ak 3) na ob = true then enL (fcM I td m) (fun st => AB (fun i w => tdP I td i w) m (I ak 3) (bt st) na ob) (2 ^ m) (fcM I td m) else -1)) := by
  refine z_metIP (cc := cX7_enough) (maxL := 3) (ty := .int) (by decide) rfl (Nat.le_of_ble_eq_true rfl) (fun X h ret => ?_)
  show zV X E S 0 0 (I, J, R) 0 _ []
  obtain ⟨n1, n2⟩ := td_ne hm hD
  obtain ⟨m1, m2, m3, m4, m5, m6, m7, m8⟩ := id hm
  have hP0 := td_z0 (I := I) n2
  have hD0 := hD.z0
  have hK := kk_KC (p := (fun i w => tdP I td i w)) hW.1
  obtain ⟨hk0, hk1⟩ := kc_le hK
  generalize hPP : (fun i w => tdP I td i w) = P at *
  have hnx : I x 9 ≠ 0 → ak ≠ x := fun w => (ak_ne hm (hQ w)).2
  have hQ0 : (zu I x 0 0) x 9 ≠ 0 → AK S R (zu I x 0 0) x ak na ob := fun w => by rw [zu_k (by decide)] at w; exact (hQ w).z0 (hnx w)
  refine z_aload_n h dX7_enough_0 rfl rfl ?_
  refine z_iconst (v := 0) h dX7_enough_1 (by decide) ?_
  refine z_putI h (by assumption) rfl kw7 0 (by decide) rfl rfl (rfl) (rfl) kf_RX7_42 dX7_enough_2 ?_
  refine z_aload_n h dX7_enough_5 rfl rfl ?_
  refine z_callVIP h (c_X7_hasAnswer l hm hD0 (by rw [hP0]; exact hW) hQ0) (by assumption) rfl gm_RX7_267 rfl ⟨rfl, rfl⟩ 0 (by decide +kernel) ⟨by decide, by decide⟩ rfl rfl (Nat.le_of_ble_eq_true rfl) ⟨Nat.zero_le _, Nat.zero_le _⟩ dX7_enough_6 (fun r ν hν => ?_)
  rw [hP0, zu_k (by decide)] at hν
  obtain ⟨I1, J1, rfl, hr, hF1, hv⟩ := hν
  have hAKu : I x 9 ≠ 0 → zu I x 0 0 ak = I ak := fun w => zu_o (hnx w)
  have hHA : HA (I x 9) P m (zu I x 0 0 ak 3) na ob = HA (I x 9) P m (I ak 3) na ob := by
    by_cases w : I x 9 ≠ 0
    · rw [hAKu w]
    · unfold HA
      rw [decide_eq_false w]; rfl
  rw [hHA] at hr
  subst hr
  refine z_if_ne h 14 dX7_enough_9 (by decide) (fun c9 => ?_) (fun c9 => ?_)
  · have c9 := b2i_n0.mp c9
    have h9 : I x 9 ≠ 0 := by
      have c := c9
      unfold HA at c
      simp only [Bool.and_eq_true, decide_eq_true_eq] at c
      exact c.1.1
    have hQ1 := hQ h9
    obtain ⟨a1, a2⟩ := ak_ne hm hQ1
    have eak0 := hAKu h9
    generalize hQQ : (fun st => AB P m (I ak 3) (bt st) na ob) = Q at *
    have hQs : ∀ st, AB P m (I ak 3) (bt st) na ob = Q st := fun st => by rw [← hQQ]
    have hD1 := hF1.TD hD0
    have d1 := hD1.1
    have hfc : ∀ (I2 : Nat → Nat → Int32) (J2 : Nat → Nat → Int64), FQ (zu I x 0 0) I2 J J2 x ro ba be → fcM I2 td m = fcM I td m := fun I2 J2 hF2 => fcM_P (by rw [hF2.tds n1 n2, hP0, hPP]) m
    have LL : ∀ (s : Nat) (b : Int32) (I2 : Nat → Nat → Int32) (J2 : Nat → Nat → Int64), FQ (zu I x 0 0) I2 J J2 x ro ba be → s ≤ 1024 → enL (fcM I td m) Q s b = enL (fcM I td m) Q (2 ^ m) (fcM I td m) → zV X E S 0 0 (I2, J2, R) 24 [(0, .ref x), (1, .int b), (2, .int (dn s))] [] := by
      intro s
      induction s with
      | zero =>
        intro b I2 J2 hF2 _ he
        refine z_iload_n h dX7_enough_24 rfl rfl ?_
        refine z_if_lt h 66 dX7_enough_25 (by decide) (fun c25 => ?_) (fun c25 => ?_)
        · refine z_iload_n h dX7_enough_66 rfl rfl ?_
          exact ret ⟨I2, J2, rfl, hF2, by rw [if_pos c9]; exact he⟩ dX7_enough_67 rfl
        · exact absurd (by decide) c25
      | succ s ih =>
        intro b I2 J2 hF2 hs he
        have hD2 := hF2.TD hD0
        have hP2 : (fun i w => tdP I2 td i w) = P := by rw [hF2.tds n1 n2, hP0]
        have eak : I2 ak = I ak := (hF2.1 ak a1 a2).trans eak0
        have hQ2 := (hQ1.z0 a2).fq hm hF2
        have d1 := hD2.1
        rw [dn_s]
        rw [enL_s] at he
        have N60 : ∀ (I3 : Nat → Nat → Int32) (J3 : Nat → Nat → Int64) (b' : Int32), b' = (if nI s &&& (fcM I td m ^^^ -1) = 0 ∧ bcJ (nI s) ≤ bcJ b ∧ Q (nI s) = true then nI s else b) → FQ (zu I x 0 0) I3 J J3 x ro ba be → zV X E S 0 0 (I3, J3, R) 60 [(0, .ref x), (1, .int b'), (2, .int (nI s))] [] := by
          intro I3 J3 b' hb hF3
          subst hb
          refine z_iinc h dX7_enough_60 rfl (dn_d s) (by decide) ?_
          refine z_goto h 24 dX7_enough_63 (by decide) ?_
          exact z_lk (ih _ I3 J3 hF3 (by omega) he) ⟨rfl, rfl, rfl, trivial⟩
        refine z_iload_n h dX7_enough_24 rfl rfl ?_
        refine z_if_lt h 66 dX7_enough_25 (by decide) (fun c25 => ?_) (fun c25 => ?_)
        · exact absurd c25 (nI_pos (by omega))
        · refine z_iload_n h dX7_enough_28 rfl rfl ?_
          refine z_aload_n h dX7_enough_29 rfl rfl ?_
          refine z_callVI h (c_X7_facts l hD2) (by assumption) rfl gm_RX7_282 rfl ⟨rfl, rfl⟩ 0 (by decide +kernel) ⟨by decide, by decide⟩ rfl rfl (Nat.le_of_ble_eq_true rfl) ⟨Nat.zero_le _, Nat.zero_le _⟩ dX7_enough_30 ?_
          rw [hfc I2 J2 hF2]
          refine z_iconst (v := -1) h dX7_enough_33 (by decide) ?_
          refine z_ixor h dX7_enough_34 ?_
          refine z_iand h dX7_enough_35 ?_
          refine z_if_ne h 60 dX7_enough_36 (by decide) (fun c36 => ?_) (fun c36 => ?_)
          · exact z_lk (N60 I2 J2 _ (by rw [if_neg (fun v => c36 v.1)]) hF2) ⟨rfl, rfl, rfl, trivial⟩
          · refine z_iload_n h dX7_enough_39 rfl rfl ?_
            refine z_callSI h (c_J6_bitCount l) (va_cwS 1 h.2.2.2.2.1 gm_RX7_285 rfl rfl rfl (by decide +kernel) ⟨by decide, by decide⟩) rfl rfl (Nat.le_of_ble_eq_true rfl) ⟨Nat.zero_le _, Nat.zero_le _⟩ dX7_enough_40 ?_
            refine z_iload_n h dX7_enough_43 rfl rfl ?_
            refine z_callSI h (c_J6_bitCount l) (va_cwS 1 h.2.2.2.2.1 gm_RX7_285 rfl rfl rfl (by decide +kernel) ⟨by decide, by decide⟩) rfl rfl (Nat.le_of_ble_eq_true rfl) ⟨Nat.zero_le _, Nat.zero_le _⟩ dX7_enough_44 ?_
            refine z_icmp_gt h 60 dX7_enough_47 (by decide) (fun c47 => ?_) (fun c47 => ?_)
            · exact z_lk (N60 I2 J2 _ (by rw [if_neg (fun v => absurd v.2.1 (Int32.not_le.mpr c47))]) hF2) ⟨rfl, rfl, rfl, trivial⟩
            · refine z_aload_n h dX7_enough_50 rfl rfl ?_
              refine z_iload_n h dX7_enough_51 rfl rfl ?_
              refine z_callVIP h (c_X7_answersBy l hm hD2 (by rw [hP2]; exact hW) hQ2) (by assumption) rfl gm_RX7_264 rfl ⟨rfl, rfl⟩ 1 (by decide +kernel) ⟨by decide, by decide⟩ rfl rfl (Nat.le_of_ble_eq_true rfl) ⟨Nat.zero_le _, Nat.zero_le _⟩ dX7_enough_52 (fun r ν hν => ?_)
              rw [hP2, eak] at hν
              obtain ⟨I3, J3, rfl, hr, hF3, _⟩ := hν
              rw [hQs] at hr
              subst hr
              refine z_if_eq h 60 dX7_enough_55 (by decide) (fun c55 => ?_) (fun c55 => ?_)
              · exact z_lk (N60 I3 J3 _ (by rw [if_neg (fun v => by have := v.2.2; rw [b2i_0.mp c55] at this; exact absurd this (by decide))]) (hF2.tr hF3)) ⟨rfl, rfl, rfl, trivial⟩
              · refine z_iload_n h dX7_enough_58 rfl rfl ?_
                refine z_istore_n h dX7_enough_59 rfl (by decide) ?_
                exact z_lk (N60 I3 J3 _ (by rw [if_pos ⟨c36, Int32.not_lt.mp c47, b2i_n0.mp c55⟩]) (hF2.tr hF3)) ⟨rfl, rfl, rfl, trivial⟩
    refine z_aload_n h dX7_enough_14 rfl rfl ?_
    refine z_callVI h (c_X7_facts l hD1) (by assumption) rfl gm_RX7_282 rfl ⟨rfl, rfl⟩ 0 (by decide +kernel) ⟨by decide, by decide⟩ rfl rfl (Nat.le_of_ble_eq_true rfl) ⟨Nat.zero_le _, Nat.zero_le _⟩ dX7_enough_15 ?_
    rw [hfc I1 J1 hF1]
    refine z_istore_n h dX7_enough_18 rfl (by decide) ?_
    refine z_aload_n h dX7_enough_19 rfl rfl ?_
    refine z_callVI h (c_X7_al l hD1) (by assumption) rfl gm_RX7_261 rfl ⟨rfl, rfl⟩ 0 (by decide +kernel) ⟨by decide, by decide⟩ rfl rfl (Nat.le_of_ble_eq_true rfl) ⟨Nat.zero_le _, Nat.zero_le _⟩ dX7_enough_20 ?_
    rw [al_dn m (by have := hW.1; omega)]
    refine z_istore_n h dX7_enough_23 rfl (by decide) ?_
    exact z_lk (LL (2 ^ m) _ I1 J1 hF1 (by have := hW.1; have : 2 ^ m ≤ 2 ^ 10 := Nat.pow_le_pow_right (by decide) this; omega) rfl) ⟨rfl, rfl, rfl, trivial⟩
  · have c9 := b2i_0.mp c9
    refine z_iconst (v := -1) h dX7_enough_12 (by decide) ?_
    exact ret ⟨I1, J1, rfl, hF1, by rw [if_neg (by rw [c9]; decide)]⟩ dX7_enough_13 rfl
