/-! BITS; factsOf, isSettledBy of the class -/
def gb (x : Int32) (i : Nat) : Bool := x.toBitVec.getLsbD i
theorem bit_tw : ∀ j, j < 10 → ((1 : Int32) <<< (nI j &&& 31)).toBitVec = BitVec.twoPow 32 j := by decide +kernel
theorem i32_bv {x y : Int32} : x = y ↔ x.toBitVec = y.toBitVec := ⟨fun h => by rw [h], fun h => Int32.toBitVec_inj.mp h⟩
theorem bit_iff {x : Int32} {i : Nat} (hi : i < 10) : (x &&& (1 : Int32) <<< (nI i &&& 31) = 0) ↔ gb x i = false := by
  rw [i32_bv, Int32.toBitVec_and, bit_tw i hi, BitVec.and_twoPow]
  unfold gb
  constructor
  · intro h
    cases q : x.toBitVec.getLsbD i with
    | false => rfl
    | true =>
      rw [q, if_pos rfl] at h
      have h2 := congrArg (fun b : BitVec 32 => b.getLsbD i) h
      rw [BitVec.getLsbD_twoPow] at h2
      have h3 : (0 : Int32).toBitVec.getLsbD i = false := by
        show (0#32).getLsbD i = false
        simp
      rw [h3] at h2
      simp at h2
      omega
  · intro h
    rw [h, if_neg (by decide)]
    rfl
theorem gb_and (x y : Int32) (i : Nat) : gb (x &&& y) i = (gb x i && gb y i) := by unfold gb; rw [Int32.toBitVec_and, BitVec.getLsbD_and]
theorem gb_or (x y : Int32) (i : Nat) : gb (x ||| y) i = (gb x i || gb y i) := by unfold gb; rw [Int32.toBitVec_or, BitVec.getLsbD_or]
theorem gb_0 (i : Nat) : gb 0 i = false := by
  unfold gb
  show (0#32).getLsbD i = false
  simp
theorem gb_1 {i j : Nat} (hj : j < 10) : gb ((1 : Int32) <<< (nI j &&& 31)) i = decide (i = j) := by
  unfold gb
  rw [bit_tw j hj, BitVec.getLsbD_twoPow]
  by_cases q : i = j
  · subst q; simp; omega
  · rw [decide_eq_false q]
    simp
    omega
def foP (p : Nat → Nat → Int32) (un : Int32) : Nat → Int32
  | 0 => 0
  | i + 1 => if p i 0 < 5 ∧ p i 3 = un then foP p un i ||| (1 : Int32) <<< (nI i &&& 31) else foP p un i
theorem gb_foP {p : Nat → Nat → Int32} {un : Int32} {i : Nat} : ∀ {m : Nat}, m ≤ 10 → gb (foP p un m) i = decide (i < m ∧ p i 0 < 5 ∧ p i 3 = un)
  | 0, _ => by
    show gb 0 i = _
    rw [gb_0, decide_eq_false (fun w => absurd w.1 (Nat.not_lt_zero _))]
  | m + 1, hm => by
    unfold foP
    by_cases q : p m 0 < 5 ∧ p m 3 = un
    · rw [if_pos q, gb_or, gb_foP (by omega), gb_1 (by omega)]
      by_cases w : i = m
      · subst w
        rw [decide_eq_true (show i = i from rfl), Bool.or_true, decide_eq_true ⟨Nat.lt_succ_self _, q⟩]
      · rw [decide_eq_false w, Bool.or_false]
        exact decide_eq_decide.mpr ⟨fun v => ⟨by omega, v.2⟩, fun v => ⟨by omega, v.2⟩⟩
    · rw [if_neg q, gb_foP (by omega)]
      refine decide_eq_decide.mpr ⟨fun v => ⟨by omega, v.2⟩, fun v => ⟨?_, v.2⟩⟩
      have : i ≠ m := fun w => q (by rw [← w]; exact v.2)
      omega
/-- the rows of chosen facts, added whatever the answer -/
def gtS (p : Nat → Nat → Int32) (m : Nat) (st : Nat → Bool) : Nat → List (Nat × (Nat → Int))
  | 0 => []
  | i + 1 => if st i = true then (ad (gtS p m st i) (fct p m i)).1 else gtS p m st i
theorem gtS_ri {p : Nat → Nat → Int32} {m : Nat} (h : WT p m) {st : Nat → Bool} (hst : ∀ i, st i = true → i < m ∧ p i 0 < 5) : ∀ i, RI (kk p m) (gtS p m st i)
  | 0 => ri_nil
  | i + 1 => by
    unfold gtS
    split
    · next w => exact (ad_ri (kc_le (kk_KC (p := p) h.1)).1 (gtS_ri h hst i) (fct_ok h (hst i w).1 (hst i w).2)).1
    · exact gtS_ri h hst i
/-- settled by a set of facts, as the class sees it -/
def chB (p : Nat → Nat → Int32) (m : Nat) (un s : Int32) (i : Nat) : Bool := gb (s &&& foP p un m) i
def SBc (p : Nat → Nat → Int32) (m : Nat) (un : Int32) (na : Nat) (ob : Option Nat) (s : Int32) : Bool := sd (redu (gtS p m (chB p m un s) 10) (qrow na ob))
theorem chB_ok {p : Nat → Nat → Int32} {m : Nat} (hm : m ≤ 10) {un s : Int32} {i : Nat} (h : chB p m un s i = true) : i < m ∧ p i 0 < 5 := by
  unfold chB at h
  rw [gb_and, gb_foP hm, Bool.and_eq_true, decide_eq_true_eq] at h
  exact ⟨h.2.1, h.2.2.1⟩

set_option maxHeartbeats 4000000 in
set_option maxRecDepth 100000 in
theorem c_X4_factsOf (l : Launch) {E : zE} {S : zS} {I : Nat → Nat → Int32} {J : Nat → Nat → Int64} {R : Nat → Nat → Option Nat} {st pa ak : Nat} {rw : Nat → Nat} (hY : SY S R st pa ak rw) {su lo fl : Nat} {lw rs le g : Nat → Nat} (hU : SU S R su st lo fl lw rs le g) {m : Nat} (hn : I st 2 = nI m) (hm10 : m ≤ 10) {p : Nat → Nat → Int32} {un : Int32} (hFB : ∀ i, i < m → (!decide (I st 4 &&& (1 : Int32) <<< (nI i &&& 31) = 0)) = decide (p i 0 < 5)) (hPe : ∀ i w, I (rw i) w = p i w) : zI l yX4_factsOf wsX4_factsOf rmX4_factsOf E S [.ref su, .int un] (I, J, R) (foP p un m) (I, J, R) := by
  refine z_metI (cc := cX4_factsOf) (maxL := 4) (ty := .int) (by decide) rfl (Nat.le_of_ble_eq_true rfl) (fun X h ret => ?_)
  show zV X E S 0 0 (I, J, R) 0 _ []
  obtain ⟨u1, u2, u3, u4, u5, u6, u7, u8, u9, u10, u11, u12, u13, u14, u15, u16, u17, u18, u19, u20⟩ := id hU
  have y1 := hY.1
  have LL : ∀ (d i : Nat), i + d = m → zV X E S 0 0 (I, J, R) 4 [(0, .ref su), (1, .int un), (2, .int (foP p un i)), (3, .int (nI i))] [] := by
    intro d
    induction d with
    | zero =>
      intro i hi
      have e : i = m := by omega
      subst e
      refine z_iload_n h dX4_factsOf_4 rfl rfl ?_
      refine z_aload_n h dX4_factsOf_5 rfl rfl ?_
      refine z_getR h (by assumption) rfl kw4 8 (by decide) rfl (by assumption) kf_RX4_60 dX4_factsOf_6 ?_
      refine z_callVI h (c_X3_size l y1) (by assumption) rfl gm_RX4_85 rfl ⟨rfl, rfl⟩ 0 (by decide +kernel) ⟨by decide, by decide⟩ rfl rfl (Nat.le_of_ble_eq_true rfl) ⟨Nat.zero_le _, Nat.zero_le _⟩ dX4_factsOf_9 ?_
      rw [hn]
      refine z_icmp_ge h 48 dX4_factsOf_12 (by decide) (fun c12 => ?_) (fun c12 => ?_)
      · refine z_iload_n h dX4_factsOf_48 rfl rfl ?_
        exact ret dX4_factsOf_49 rfl
      · exact absurd (nI_le (Nat.le_refl _) (by omega)) c12
    | succ d ih =>
      intro i hi
      have him : i < m := by omega
      have ih2 := ih (i + 1) (by omega)
      unfold foP at ih2
      refine z_iload_n h dX4_factsOf_4 rfl rfl ?_
      refine z_aload_n h dX4_factsOf_5 rfl rfl ?_
      refine z_getR h (by assumption) rfl kw4 8 (by decide) rfl (by assumption) kf_RX4_60 dX4_factsOf_6 ?_
      refine z_callVI h (c_X3_size l y1) (by assumption) rfl gm_RX4_85 rfl ⟨rfl, rfl⟩ 0 (by decide +kernel) ⟨by decide, by decide⟩ rfl rfl (Nat.le_of_ble_eq_true rfl) ⟨Nat.zero_le _, Nat.zero_le _⟩ dX4_factsOf_9 ?_
      rw [hn]
      refine z_icmp_ge h 48 dX4_factsOf_12 (by decide) (fun c12 => ?_) (fun c12 => ?_)
      · exact absurd (nle (by omega) (by omega) c12) (by omega)
      · refine z_aload_n h dX4_factsOf_15 rfl rfl ?_
        refine z_iload_n h dX4_factsOf_16 rfl rfl ?_
        refine z_callVI h (c_X4_isFact l u1 u10 y1) (by assumption) rfl gm_RX4_120 rfl ⟨rfl, rfl⟩ 1 (by decide +kernel) ⟨by decide, by decide⟩ rfl rfl (Nat.le_of_ble_eq_true rfl) ⟨Nat.zero_le _, Nat.zero_le _⟩ dX4_factsOf_17 ?_
        rw [hFB i him]
        refine z_if_eq h 42 dX4_factsOf_20 (by decide) (fun c20 => ?_) (fun c20 => ?_)
        · have c20 := of_decide_eq_false (b2i_0.mp c20)
          rw [if_neg (fun v => c20 v.1)] at ih2
          refine z_iinc h dX4_factsOf_42 rfl (nI_1 i) (by decide) ?_
          refine z_goto h 4 dX4_factsOf_45 (by decide) ?_
          exact z_lk ih2 ⟨rfl, rfl, rfl, rfl, trivial⟩
        · have c20 := of_decide_eq_true (b2i_n0.mp c20)
          refine z_aload_n h dX4_factsOf_23 rfl rfl ?_
          refine z_getR h (by assumption) rfl kw4 8 (by decide) rfl (by assumption) kf_RX4_60 dX4_factsOf_24 ?_
          refine z_iload_n h dX4_factsOf_27 rfl rfl ?_
          refine z_iconst (v := 3) h dX4_factsOf_28 (by decide) ?_
          refine z_callVI h (c_X3_partN l hY hn hm10 him (w := 3) (by decide)) (by assumption) rfl gm_RX4_91 rfl ⟨rfl, rfl⟩ 2 (by decide +kernel) ⟨by decide, by decide⟩ rfl rfl (Nat.le_of_ble_eq_true rfl) ⟨Nat.zero_le _, Nat.zero_le _⟩ dX4_factsOf_29 ?_
          rw [hPe]
          refine z_iload_n h dX4_factsOf_32 rfl rfl ?_
          refine z_icmp_ne h 42 dX4_factsOf_33 (by decide) (fun c33 => ?_) (fun c33 => ?_)
          · rw [if_neg (fun v => c33 v.2)] at ih2
            refine z_iinc h dX4_factsOf_42 rfl (nI_1 i) (by decide) ?_
            refine z_goto h 4 dX4_factsOf_45 (by decide) ?_
            exact z_lk ih2 ⟨rfl, rfl, rfl, rfl, trivial⟩
          · rw [if_pos ⟨c20, c33⟩] at ih2
            refine z_iload_n h dX4_factsOf_36 rfl rfl ?_
            refine z_iconst (v := 1) h dX4_factsOf_37 (by decide) ?_
            refine z_iload_n h dX4_factsOf_38 rfl rfl ?_
            refine z_ishl h dX4_factsOf_39 ?_
            refine z_ior h dX4_factsOf_40 ?_
            refine z_istore_n h dX4_factsOf_41 rfl (by decide) ?_
            refine z_iinc h dX4_factsOf_42 rfl (nI_1 i) (by decide) ?_
            refine z_goto h 4 dX4_factsOf_45 (by decide) ?_
            exact z_lk ih2 ⟨rfl, rfl, rfl, rfl, trivial⟩
  refine z_iconst (v := 0) h dX4_factsOf_0 (by decide) ?_
  refine z_istore_n h dX4_factsOf_1 rfl (by decide) ?_
  refine z_iconst (v := 0) h dX4_factsOf_2 (by decide) ?_
  refine z_istore_n h dX4_factsOf_3 rfl (by decide) ?_
  exact z_lk (LL m 0 (by omega)) ⟨rfl, rfl, rfl, rfl, trivial⟩

set_option maxHeartbeats 4000000 in
set_option maxRecDepth 100000 in
theorem c_X4_isSettledBy (l : Launch) {E : zE} {S : zS} {I : Nat → Nat → Int32} {J : Nat → Nat → Int64} {R : Nat → Nat → Option Nat} {st pa ak : Nat} {rw : Nat → Nat} (hY : SY S R st pa ak rw) {su lo fl : Nat} {lw rs le g : Nat → Nat} (hU : SU S R su st lo fl lw rs le g) {m : Nat} (hn : I st 2 = nI m) (hm10 : m ≤ 10) {p : Nat → Nat → Int32} {un s : Int32} {na : Nat} {ob : Option Nat} {G : Int} (hFB : ∀ i, i < m → (!decide (I st 4 &&& (1 : Int32) <<< (nI i &&& 31) = 0)) = decide (p i 0 < 5)) (hPe : ∀ i w, I (rw i) w = p i w) (hW : WT p m) (told : I st 5 ≠ 0) (hun : I ak 3 = un) (hna : na < 8) (hob : ∀ nb, ob = some nb → nb < 8 ∧ nb ≠ na) (hG : ab G ≤ 1000000) (hFL : ∀ i, i < m → p i 0 < 5 → e10 (J (g (40 + i))) = fct p m i) (hQL : e10 (J (g 50)) = sft (qrow na ob) G) : zIP l yX4_isSettledBy wsX4_isSettledBy rmX4_isSettledBy E S [.ref su, .int s] (I, J, R) (fun r ν => ∃ I' J', ν = (I', J', R) ∧ r = b2i (SBc p m un na ob s) ∧ (∀ q, q ≠ le 4 → I' q = I q) ∧ (∀ q, q ≠ g 51 → (∀ j, j < 8 → q ≠ g (32 + j)) → J' q = J q)) := by
  refine z_metIP (cc := cX4_isSettledBy) (maxL := 4) (ty := .boolean) (by decide) rfl (Nat.le_of_ble_eq_true rfl) (fun X h ret => ?_)
  show zV X E S 0 0 (I, J, R) 0 _ []
  obtain ⟨u1, u2, u3, u4, u5, u6, u7, u8, u9, u10, u11, u12, u13, u14, u15, u16, u17, u18, u19, u20⟩ := id hU
  have y1 := hY.1
  have a50 := hU.A10 (show 50 < 53 by decide)
  have a51 := hU.A10 (show 51 < 53 by decide)
  have hK := kk_KC (p := p) hW.1
  obtain ⟨hk0, hk1⟩ := kc_le hK
  have hL4 := u13 4 (by decide)
  have hst5 : le 4 ≠ st := fun w => by have h1 := hL4.2.2.2.2.1.2.1; rw [w, y1.2] at h1; exact absurd h1 (by decide)
  have hgo : ∀ j, j < 8 → g 51 ≠ g (8 * 4 + j) := fun j hj => hU.g_ne (by omega) (by omega) (by omega)
  have hri : ∀ i, RI (kk p m) (gtS p m (chB p m un s) i) := gtS_ri hW (fun i h => chB_ok hm10 h)
  have FIN : ∀ (I2 : Nat → Nat → Int32) (J2 : Nat → Nat → Int64), (∀ q, q ≠ le 4 → I2 q = I q) → (∀ q, q ≠ g 51 → (∀ j, j < 8 → q ≠ g (32 + j)) → J2 q = J q) → CI (gtS p m (chB p m un s) 10) (fun j k => J2 (g (8 * 4 + j)) k) (I2 (le 4)) → zV X E S 0 0 (I2, J2, R) 73 [(0, .ref su)] [] := by
    intro I2 J2 f1 f2 hC
    refine z_aload_n h dX4_isSettledBy_73 rfl rfl ?_
    refine z_getR h (by assumption) rfl kw4 3 (by decide) rfl (by assumption) kf_RX4_27 dX4_isSettledBy_74 ?_
    refine z_iconst (v := 0) h dX4_isSettledBy_77 (by decide) ?_
    refine z_aload_n h dX4_isSettledBy_78 rfl rfl ?_
    refine z_getR h (by assumption) rfl kw4 4 (by decide) rfl (by assumption) kf_RX4_31 dX4_isSettledBy_79 ?_
    refine z_iconst (v := 0) h dX4_isSettledBy_82 (by decide) ?_
    refine z_bipush (v := 10) h dX4_isSettledBy_83 (by decide) ?_
    refine z_copyl h kar_4 kar_s kar_i kar_n a50 a51 (N := 10) rfl (by decide) (by decide) (by decide) (by decide) (by decide) dX4_isSettledBy_85 ?_
    have hrow : e10 (fun j => if j < 10 then J2 (g 50) j else J2 (g 51) j) = sft (qrow na ob) G := by
      rw [← hQL, ← f2 (g 50) (hU.g_ne (by omega) (by omega) (by omega)) (fun j hj => hU.g_ne (by omega) (by omega) (by omega))]
      funext k
      by_cases q : k < 10
      · rw [e10_n q, e10_n q, if_pos q]
      · rw [e10_o q, e10_o q]
    generalize hr0 : (fun j => if j < 10 then J2 (g 50) j else J2 (g 51) j) = r0 at *
    refine z_aload_n h dX4_isSettledBy_88 rfl rfl ?_
    refine z_getR h (by assumption) rfl kw4 1 (by decide) rfl (by assumption) kf_RX4_18 dX4_isSettledBy_89 ?_
    refine z_aload_n h dX4_isSettledBy_92 rfl rfl ?_
    refine z_getR h (by assumption) rfl kw4 4 (by decide) rfl (by assumption) kf_RX4_31 dX4_isSettledBy_93 ?_
    refine z_callVN h (c_X1_reduce l hL4 a51 hgo) (hL4.1) rfl gm_RX4_139 rfl ⟨rfl, rfl⟩ 1 (by decide +kernel) ⟨by decide, by decide⟩ rfl rfl (Nat.le_of_ble_eq_true rfl) ⟨Nat.zero_le _, Nat.zero_le _⟩ dX4_isSettledBy_96 ?_
    rw [zr_zr, zr_s]
    have hCu : CI (gtS p m (chB p m un s) 10) (fun j k => zr J2 (g 51) r0 (g (8 * 4 + j)) k) (I2 (le 4)) := ci_congr hC (fun j hj => by congr 1; funext k; rw [zr_a (Ne.symm (hgo j hj))]) (fun _ _ => rfl)
    have hask := c_ask hk0 hk1 (hri 10) hCu hna hob hG hrow
    obtain ⟨w1, -⟩ := c_ask2 (redu_80 (hri 10) (qrow_8 hna hob)) hask
    generalize rdC (fun j k => zr J2 (g 51) r0 (g (8 * 4 + j)) k) (I2 (le 4)) r0 8 = rr at *
    refine z_aload_n h dX4_isSettledBy_99 rfl rfl ?_
    refine z_getR h (by assumption) rfl kw4 4 (by decide) rfl (by assumption) kf_RX4_31 dX4_isSettledBy_100 ?_
    refine z_callSI h (c_X1_firstName l a51) (va_cwS 1 h.2.2.2.2.1 gm_RX4_142 rfl rfl rfl (by decide +kernel) ⟨by decide, by decide⟩) rfl rfl (Nat.le_of_ble_eq_true rfl) ⟨Nat.zero_le _, Nat.zero_le _⟩ dX4_isSettledBy_103 ?_
    rw [zr_s]
    refine z_iconst (v := -1) h dX4_isSettledBy_106 (by decide) ?_
    refine z_icmp_ne h 114 dX4_isSettledBy_107 (by decide) (fun c107 => ?_) (fun c107 => ?_)
    · refine z_iconst (v := 0) h dX4_isSettledBy_114 (by decide) ?_
      have FJ : ∀ q, q ≠ g 51 → (∀ j, j < 8 → q ≠ g (32 + j)) → zr J2 (g 51) rr q = J q := fun q h1 h2 => (zr_a h1).trans (f2 q h1 h2)
      first
        | exact ret ⟨I2, _, rfl, by rw [show SBc p m un na ob s = true from w1.mp c107]; rfl, f1, FJ⟩ dX4_isSettledBy_115 rfl
        | exact ret ⟨I2, _, rfl, by rw [show SBc p m un na ob s = false from by cases hh : SBc p m un na ob s with | false => rfl | true => exact absurd (w1.mpr hh) c107]; rfl, f1, FJ⟩ dX4_isSettledBy_115 rfl
    · refine z_iconst (v := 1) h dX4_isSettledBy_110 (by decide) ?_
      refine z_goto h 115 dX4_isSettledBy_111 (by decide) ?_
      have FJ : ∀ q, q ≠ g 51 → (∀ j, j < 8 → q ≠ g (32 + j)) → zr J2 (g 51) rr q = J q := fun q h1 h2 => (zr_a h1).trans (f2 q h1 h2)
      first
        | exact ret ⟨I2, _, rfl, by rw [show SBc p m un na ob s = true from w1.mp c107]; rfl, f1, FJ⟩ dX4_isSettledBy_115 rfl
        | exact ret ⟨I2, _, rfl, by rw [show SBc p m un na ob s = false from by cases hh : SBc p m un na ob s with | false => rfl | true => exact absurd (w1.mpr hh) c107]; rfl, f1, FJ⟩ dX4_isSettledBy_115 rfl
  have LL : ∀ (d i : Nat) (I2 : Nat → Nat → Int32) (J2 : Nat → Nat → Int64), i + d = 10 → (∀ q, q ≠ le 4 → I2 q = I q) → (∀ q, q ≠ g 51 → (∀ j, j < 8 → q ≠ g (32 + j)) → J2 q = J q) → CI (gtS p m (chB p m un s) i) (fun j k => J2 (g (8 * 4 + j)) k) (I2 (le 4)) → zV X E S 0 0 (I2, J2, R) 24 [(0, .ref su), (2, .int (s &&& foP p un m)), (3, .int (nI i))] [] := by
    intro d
    induction d with
    | zero =>
      intro i I2 J2 hi f1 f2 hC
      have e : i = 10 := by omega
      subst e
      refine z_iload_n h dX4_isSettledBy_24 rfl rfl ?_
      refine z_bipush (v := 10) h dX4_isSettledBy_25 (by decide) ?_
      rw [show (10 : Int32) = nI 10 from rfl]
      refine z_icmp_ge h 73 dX4_isSettledBy_27 (by decide) (fun c27 => ?_) (fun c27 => ?_)
      · exact z_lk (FIN I2 J2 f1 f2 hC) ⟨rfl, trivial⟩
      · exact absurd (nI_le (by decide) (by decide)) c27
    | succ d ih =>
      intro i I2 J2 hi f1 f2 hC
      refine z_iload_n h dX4_isSettledBy_24 rfl rfl ?_
      refine z_bipush (v := 10) h dX4_isSettledBy_25 (by decide) ?_
      rw [show (10 : Int32) = nI 10 from rfl]
      refine z_icmp_ge h 73 dX4_isSettledBy_27 (by decide) (fun c27 => ?_) (fun c27 => ?_)
      · exact absurd (nle (by decide) (by omega) c27) (by omega)
      · refine z_iload_n h dX4_isSettledBy_30 rfl rfl ?_
        refine z_iconst (v := 1) h dX4_isSettledBy_31 (by decide) ?_
        refine z_iload_n h dX4_isSettledBy_32 rfl rfl ?_
        refine z_ishl h dX4_isSettledBy_33 ?_
        refine z_iand h dX4_isSettledBy_34 ?_
        refine z_if_eq h 67 dX4_isSettledBy_35 (by decide) (fun c35 => ?_) (fun c35 => ?_)
        · refine z_iinc h dX4_isSettledBy_67 rfl (nI_1 i) (by decide) ?_
          refine z_goto h 24 dX4_isSettledBy_70 (by decide) ?_
          refine z_lk (ih (i + 1) I2 J2 (by omega) f1 f2 ?_) ⟨rfl, rfl, rfl, trivial⟩
          unfold gtS
          rw [if_neg (by unfold chB; rw [(bit_iff (by omega)).mp c35]; decide)]
          exact hC
        · have hch : chB p m un s i = true := by
            unfold chB
            cases hh : gb (s &&& foP p un m) i with
            | true => rfl
            | false => exact absurd ((bit_iff (by omega)).mpr hh) c35
          obtain ⟨b1, b2⟩ := chB_ok hm10 hch
          refine z_aload_n h dX4_isSettledBy_38 rfl rfl ?_
          refine z_getR h (by assumption) rfl kw4 2 (by decide) rfl (by assumption) kf_RX4_24 dX4_isSettledBy_39 ?_
          refine z_iload_n h dX4_isSettledBy_42 rfl rfl ?_
          refine z_aaldJ h (by assumption) (zix_nI (by omega) (by decide)) (u15 i (by omega)) dX4_isSettledBy_43 ?_
          refine z_iconst (v := 0) h dX4_isSettledBy_44 (by decide) ?_
          refine z_aload_n h dX4_isSettledBy_45 rfl rfl ?_
          refine z_getR h (by assumption) rfl kw4 4 (by decide) rfl (by assumption) kf_RX4_31 dX4_isSettledBy_46 ?_
          refine z_iconst (v := 0) h dX4_isSettledBy_49 (by decide) ?_
          refine z_bipush (v := 10) h dX4_isSettledBy_50 (by decide) ?_
          have ai := hU.A10 (show 40 + i < 53 by omega)
          refine z_copyl h kar_4 kar_s kar_i kar_n ai a51 (N := 10) rfl (by decide) (by decide) (by decide) (by decide) (by decide) dX4_isSettledBy_52 ?_
          have hrow : e10 (zr J2 (g 51) (fun j => if j < 10 then J2 (g (40 + i)) j else J2 (g 51) j) (g 51)) = fct p m i := by
            rw [zr_s, ← hFL i b1 b2, ← f2 (g (40 + i)) (hU.g_ne (by omega) (by omega) (by omega)) (fun j hj => hU.g_ne (by omega) (by omega) (by omega))]
            funext k
            by_cases q : k < 10
            · rw [e10_n q, e10_n q, if_pos q]
            · rw [e10_o q, e10_o q]
          have hC3 : CI (gtS p m (chB p m un s) i) (fun j k => zr J2 (g 51) (fun j => if j < 10 then J2 (g (40 + i)) j else J2 (g 51) j) (g (8 * 4 + j)) k) (I2 (le 4)) := ci_congr hC (fun j hj => by congr 1; funext k; rw [zr_a (Ne.symm (hgo j hj))]) (fun _ _ => rfl)
          refine z_aload_n h dX4_isSettledBy_55 rfl rfl ?_
          refine z_getR h (by assumption) rfl kw4 1 (by decide) rfl (by assumption) kf_RX4_18 dX4_isSettledBy_56 ?_
          refine z_aload_n h dX4_isSettledBy_59 rfl rfl ?_
          refine z_getR h (by assumption) rfl kw4 4 (by decide) rfl (by assumption) kf_RX4_31 dX4_isSettledBy_60 ?_
          refine z_callVIP h (c_X1_add l hL4 a51 hgo) (hL4.1) rfl gm_RX4_130 rfl ⟨rfl, rfl⟩ 1 (by decide +kernel) ⟨by decide, by decide⟩ rfl rfl (Nat.le_of_ble_eq_true rfl) ⟨Nat.zero_le _, Nat.zero_le _⟩ dX4_isSettledBy_63 (fun r ν hν => ?_)
          obtain ⟨I4, J4, rfl, hr, g1, g2, g3⟩ := add_es hL4 hgo hk0 hk1 (hri i) hC3 (fct_ok hW b1 b2) hrow hν
          refine z_pop h dX4_isSettledBy_66 rfl ?_
          refine z_iinc h dX4_isSettledBy_67 rfl (nI_1 i) (by decide) ?_
          refine z_goto h 24 dX4_isSettledBy_70 (by decide) ?_
          refine z_lk (ih (i + 1) I4 J4 (by omega) (fun q hq => (g1 q hq).trans (f1 q hq)) (fun q h1 h2 => (g2 q h1 (fun j hj => by have := h2 j hj; rw [show 8 * 4 + j = 32 + j by omega]; exact this)).trans ((zr_a h1).trans (f2 q h1 h2))) ?_) ⟨rfl, rfl, rfl, trivial⟩
          unfold gtS
          rw [if_pos hch]
          exact g3
  refine z_iload_n h dX4_isSettledBy_0 rfl rfl ?_
  refine z_aload_n h dX4_isSettledBy_1 rfl rfl ?_
  refine z_aload_n h dX4_isSettledBy_2 rfl rfl ?_
  refine z_getR h (by assumption) rfl kw4 8 (by decide) rfl (by assumption) kf_RX4_60 dX4_isSettledBy_3 ?_
  refine z_iconst (v := 3) h dX4_isSettledBy_6 (by decide) ?_
  refine z_callVI h (c_X3_askedN l hY (w := 3) (by decide)) (by assumption) rfl gm_RX4_105 rfl ⟨rfl, rfl⟩ 1 (by decide +kernel) ⟨by decide, by decide⟩ rfl rfl (Nat.le_of_ble_eq_true rfl) ⟨Nat.zero_le _, Nat.zero_le _⟩ dX4_isSettledBy_7 ?_
  rw [if_pos told, hun]
  refine z_callVI h (c_X4_factsOf l hY hU hn hm10 hFB hPe) (by assumption) rfl gm_RX4_176 rfl ⟨rfl, rfl⟩ 1 (by decide +kernel) ⟨by decide, by decide⟩ rfl rfl (Nat.le_of_ble_eq_true rfl) ⟨Nat.zero_le _, Nat.zero_le _⟩ dX4_isSettledBy_10 ?_
  refine z_iand h dX4_isSettledBy_13 ?_
  refine z_istore_n h dX4_isSettledBy_14 rfl (by decide) ?_
  refine z_aload_n h dX4_isSettledBy_15 rfl rfl ?_
  refine z_getR h (by assumption) rfl kw4 1 (by decide) rfl (by assumption) kf_RX4_18 dX4_isSettledBy_16 ?_
  refine z_callVN h (c_X1_clear l hL4) (hL4.1) rfl gm_RX4_117 rfl ⟨rfl, rfl⟩ 0 (by decide +kernel) ⟨by decide, by decide⟩ rfl rfl (Nat.le_of_ble_eq_true rfl) ⟨Nat.zero_le _, Nat.zero_le _⟩ dX4_isSettledBy_19 ?_
  refine z_iconst (v := 0) h dX4_isSettledBy_22 (by decide) ?_
  refine z_istore_n h dX4_isSettledBy_23 rfl (by decide) ?_
  exact z_lk (LL 10 0 _ J rfl (fun q hq => zr_a hq) (fun _ _ _ => rfl) (ci_nil (fun j hj => by rw [zr_sk, if_pos hj]))) ⟨rfl, rfl, rfl, trivial⟩
