/-! THE CLASS's SUMS: the object su, its story st, its laws lw u (u = 4: those for some facts), its rows g -/
def SU (S : zS) (R : Nat → Nat → Option Nat) (su st lo fl : Nat) (lw rs le g : Nat → Nat) : Prop :=
  zO S su 4 ∧ R su 0 = some lo ∧ R su 1 = some (lw 4) ∧ R su 2 = some fl ∧ R su 3 = some (g 50) ∧ R su 4 = some (g 51) ∧ R su 5 = some (g 52) ∧ R su 6 = some (g 53) ∧ R su 7 = some (g 54) ∧ R su 8 = some st ∧ zA S lo 12 4 ∧ (∀ u, u < 4 → R lo u = some (lw u)) ∧ (∀ u, u < 5 → LA S R (lw u) (rs u) (le u) (fun j => g (8 * u + j))) ∧ zA S fl 14 10 ∧ (∀ i, i < 10 → R fl i = some (g (40 + i))) ∧ (∀ i, i < 53 → zA S (g i) 10 10) ∧ zA S (g 53) 10 32 ∧ zA S (g 54) 10 32 ∧ (∀ i j, i < 55 → j < 55 → g i = g j → i = j) ∧ ∀ u v, u < 5 → v < 5 → le u = le v → u = v
theorem SU.g_ne {S : zS} {R : Nat → Nat → Option Nat} {su st lo fl : Nat} {lw rs le g : Nat → Nat} (h : SU S R su st lo fl lw rs le g) {i j : Nat} (hi : i < 55) (hj : j < 55) (hij : i ≠ j) : g i ≠ g j := fun w => hij (h.2.2.2.2.2.2.2.2.2.2.2.2.2.2.2.2.2.2.1 i j hi hj w)
theorem SU.A10 {S : zS} {R : Nat → Nat → Option Nat} {su st lo fl : Nat} {lw rs le g : Nat → Nat} (h : SU S R su st lo fl lw rs le g) {i : Nat} (hi : i < 53) : zA S (g i) 10 10 := h.2.2.2.2.2.2.2.2.2.2.2.2.2.2.2.1 i hi
theorem SU.sug {S : zS} {R : Nat → Nat → Option Nat} {su st lo fl : Nat} {lw rs le g : Nat → Nat} (h : SU S R su st lo fl lw rs le g) {i : Nat} (hi : i < 55) : g i ≠ su := fun q => by
  have h1 : S.2.1 (g i) = 10 := by
    by_cases w : i < 53
    · exact (h.A10 w).2.1
    · by_cases v : i = 53
      · rw [v]; exact h.2.2.2.2.2.2.2.2.2.2.2.2.2.2.2.2.1.2.1
      · rw [show i = 54 by omega]; exact h.2.2.2.2.2.2.2.2.2.2.2.2.2.2.2.2.2.1.2.1
  rw [q, h.1.2] at h1
  exact absurd h1 (by decide)
def wg (r : Nat → Int64) (n : Nat) (w G : Int64) : Nat → Int64 := fun k => if k = 9 then r 9 - w * G else if k = n then r n + w else r k
def mdB (s n : Int32) : Int32 := if s = 3 then 0 else if s = 2 then -n else n
def swW (s n : Int32) : Int32 := if s = 3 then -n else if s = 4 then 1 else -1

set_option maxHeartbeats 4000000 in
set_option maxRecDepth 100000 in
theorem c_J7_fill (l : Launch) {E : zE} {S : zS} {I : Nat → Nat → Int32} {J : Nat → Nat → Int64} {R : Nat → Nat → Option Nat} {a n : Nat} {v : Int64} (ha : zA S a 10 n) (hn : n < 2 ^ 31) : zN l yJ7_fill_d0a16 wsJ7_fill_d0a16 rmJ7_fill_d0a16 E S [.ref a, .long v] (I, J, R) (I, zr J a (fun k => if k < n then v else J a k), R) := by
  refine z_metN (cc := cJ7_fill_d0a16) (maxL := 5) (by decide) rfl (Nat.le_of_ble_eq_true rfl) (fun X h ret => ?_)
  show zV X E S 0 0 (I, J, R) 0 _ []
  have LL : ∀ (d i : Nat), i + d = n → zV X E S 0 0 (I, zr J a (fun k => if k < i then (fun _ => v) k else J a k), R) 6 [(0, .ref a), (1, .long v), (3, .int (nI i)), (4, .int (nI n))] [] := by
    intro d
    induction d with
    | zero =>
      intro i hi
      have e : i = n := by omega
      subst e
      refine z_iload_n h dJ7_fill_d0a16_6 rfl rfl ?_
      refine z_iload h dJ7_fill_d0a16_7 rfl ?_
      refine z_icmp_ge h 22 dJ7_fill_d0a16_9 (by decide) (fun c9 => ?_) (fun c9 => ?_)
      · exact ret dJ7_fill_d0a16_22
      · exact absurd (nI_le (Nat.le_refl _) (by omega)) c9
    | succ d ih =>
      intro i hi
      refine z_iload_n h dJ7_fill_d0a16_6 rfl rfl ?_
      refine z_iload h dJ7_fill_d0a16_7 rfl ?_
      refine z_icmp_ge h 22 dJ7_fill_d0a16_9 (by decide) (fun c9 => ?_) (fun c9 => ?_)
      · exact absurd (nle (by omega) (by omega) c9) (by omega)
      · refine z_aload_n h dJ7_fill_d0a16_12 rfl rfl ?_
        refine z_iload_n h dJ7_fill_d0a16_13 rfl rfl ?_
        refine z_lload_n h dJ7_fill_d0a16_14 rfl rfl ?_
        refine z_last h (by assumption) (zix_nI (by omega) (by omega)) dJ7_fill_d0a16_15 ?_
        rw [row_up (v := fun _ => v)]
        refine z_iinc h dJ7_fill_d0a16_16 rfl (nI_1 i) (by decide) ?_
        refine z_goto h 6 dJ7_fill_d0a16_19 (by decide) ?_
        exact z_lk (ih (i + 1) (by omega)) ⟨rfl, rfl, rfl, rfl, trivial⟩
  refine z_iconst (v := 0) h dJ7_fill_d0a16_0 (by decide) ?_
  refine z_istore_n h dJ7_fill_d0a16_1 rfl (by decide) ?_
  refine z_aload_n h dJ7_fill_d0a16_2 rfl rfl ?_
  refine z_alenJ h ha rfl dJ7_fill_d0a16_3 ?_
  refine z_istore h dJ7_fill_d0a16_4 (by decide) ?_
  have e := LL n 0 (by omega)
  rw [show (fun k => if k < 0 then (fun _ => v) k else J a k) = J a from row_0, zr_id] at e
  exact z_lk e ⟨rfl, rfl, rfl, rfl, trivial⟩

set_option maxHeartbeats 4000000 in
set_option maxRecDepth 100000 in
theorem c_X4_madeBy (l : Launch) {E : zE} {S : zS} {μ : zM} {s n : Int32} : zI l yX4_madeBy wsX4_madeBy rmX4_madeBy E S [.int s, .int n] μ (mdB s n) μ := by
  refine z_metI (cc := cX4_madeBy) (maxL := 2) (ty := .int) (by decide) rfl (Nat.le_of_ble_eq_true rfl) (fun X h ret => ?_)
  show zV X E S 0 0 μ 0 _ []
  refine z_iload_n h dX4_madeBy_0 rfl rfl ?_
  refine z_iconst (v := 3) h dX4_madeBy_1 (by decide) ?_
  refine z_icmp_ne h 7 dX4_madeBy_2 (by decide) (fun c2 => ?_) (fun c2 => ?_)
  · refine z_iload_n h dX4_madeBy_7 rfl rfl ?_
    refine z_iconst (v := 2) h dX4_madeBy_8 (by decide) ?_
    refine z_icmp_ne h 17 dX4_madeBy_9 (by decide) (fun c9 => ?_) (fun c9 => ?_)
    · rw [show mdB s n = n from by unfold mdB; rw [if_neg c2, if_neg c9]] at ret
      refine z_iload_n h dX4_madeBy_17 rfl rfl ?_
      exact ret dX4_madeBy_18 rfl
    · rw [show mdB s n = -n from by unfold mdB; rw [if_neg c2, if_pos c9]] at ret
      refine z_iload_n h dX4_madeBy_12 rfl rfl ?_
      refine z_ineg h dX4_madeBy_13 ?_
      refine z_goto h 18 dX4_madeBy_14 (by decide) ?_
      exact ret dX4_madeBy_18 rfl
  · rw [show mdB s n = 0 from if_pos c2] at ret
    refine z_iconst (v := 0) h dX4_madeBy_5 (by decide) ?_
    exact ret dX4_madeBy_6 rfl

set_option maxHeartbeats 4000000 in
set_option maxRecDepth 100000 in
theorem c_X4_secondWeight (l : Launch) {E : zE} {S : zS} {μ : zM} {s n : Int32} : zI l yX4_secondWeight wsX4_secondWeight rmX4_secondWeight E S [.int s, .int n] μ (swW s n) μ := by
  refine z_metI (cc := cX4_secondWeight) (maxL := 2) (ty := .int) (by decide) rfl (Nat.le_of_ble_eq_true rfl) (fun X h ret => ?_)
  show zV X E S 0 0 μ 0 _ []
  refine z_iload_n h dX4_secondWeight_0 rfl rfl ?_
  refine z_iconst (v := 3) h dX4_secondWeight_1 (by decide) ?_
  refine z_icmp_ne h 8 dX4_secondWeight_2 (by decide) (fun c2 => ?_) (fun c2 => ?_)
  · refine z_iload_n h dX4_secondWeight_8 rfl rfl ?_
    refine z_iconst (v := 4) h dX4_secondWeight_9 (by decide) ?_
    refine z_icmp_ne h 17 dX4_secondWeight_10 (by decide) (fun c10 => ?_) (fun c10 => ?_)
    · rw [show swW s n = -1 from by unfold swW; rw [if_neg c2, if_neg c10]] at ret
      refine z_iconst (v := -1) h dX4_secondWeight_17 (by decide) ?_
      exact ret dX4_secondWeight_18 rfl
    · rw [show swW s n = 1 from by unfold swW; rw [if_neg c2, if_pos c10]] at ret
      refine z_iconst (v := 1) h dX4_secondWeight_13 (by decide) ?_
      refine z_goto h 18 dX4_secondWeight_14 (by decide) ?_
      exact ret dX4_secondWeight_18 rfl
  · rw [show swW s n = -n from if_pos c2] at ret
    refine z_iload_n h dX4_secondWeight_5 rfl rfl ?_
    refine z_ineg h dX4_secondWeight_6 ?_
    exact ret dX4_secondWeight_7 rfl

set_option maxHeartbeats 4000000 in
set_option maxRecDepth 100000 in
theorem c_X4_startSought (l : Launch) {E : zE} {S : zS} {I : Nat → Nat → Int32} {J : Nat → Nat → Int64} {R : Nat → Nat → Option Nat} {a : Nat} (ha : zA S a 10 10) : zN l yX4_startSought wsX4_startSought rmX4_startSought E S [.ref a] (I, J, R) (I, zr J a (fun k => if k = 8 then 1 else if k < 10 then 0 else J a k), R) := by
  refine z_metN (cc := cX4_startSought) (maxL := 1) (by decide) rfl (Nat.le_of_ble_eq_true rfl) (fun X h ret => ?_)
  show zV X E S 0 0 (I, J, R) 0 _ []
  refine z_aload_n h dX4_startSought_0 rfl rfl ?_
  refine z_lconst (v := 0) h dX4_startSought_1 (by decide) ?_
  refine z_callSN h (c_J7_fill l ha (by decide)) (va_cwS 2 h.2.2.2.2.1 gm_RX4_67 rfl rfl rfl (by decide +kernel) ⟨by decide, by decide⟩) rfl rfl (Nat.le_of_ble_eq_true rfl) ⟨Nat.zero_le _, Nat.zero_le _⟩ dX4_startSought_2 ?_
  refine z_aload_n h dX4_startSought_5 rfl rfl ?_
  refine z_bipush (v := 8) h dX4_startSought_6 (by decide) ?_
  refine z_lconst (v := 1) h dX4_startSought_8 (by decide) ?_
  rw [show (8 : Int32) = nI 8 from rfl]
  refine z_last h (by assumption) (zix_nI (by decide) (by decide)) dX4_startSought_9 ?_
  rw [zu_zr]
  rw [show (fun j => if j = 8 then 1 else if j < 10 then 0 else J a j) = (fun k => if k = 8 then 1 else if k < 10 then 0 else J a k) from rfl]
  exact ret dX4_startSought_10

set_option maxHeartbeats 4000000 in
set_option maxRecDepth 100000 in
theorem c_X4_weigh (l : Launch) {E : zE} {S : zS} {I : Nat → Nat → Int32} {J : Nat → Nat → Int64} {R : Nat → Nat → Option Nat} {st pa ak : Nat} {rw : Nat → Nat} (hY : SY S R st pa ak rw) {su a n m : Nat} {w un sg : Int32} (hs : zO S su 4) (hst : R su 8 = some st) (ha : zA S a 10 10) (hk : I st 2 = nI m) (hk10 : m ≤ 10) (hn : n < 8) : zN l yX4_weigh wsX4_weigh rmX4_weigh E S [.ref su, .ref a, .int w, .int (nI n), .int un, .int sg] (I, J, R) (I, zr J a (wg (J a) n w.toInt64 (gnC (fun i => I (rw i)) (nI n) un sg m)), R) := by
  refine z_metN (cc := cX4_weigh) (maxL := 6) (by decide) rfl (Nat.le_of_ble_eq_true rfl) (fun X h ret => ?_)
  show zV X E S 0 0 (I, J, R) 0 _ []
  have y1 := hY.1
  refine z_iload_n h dX4_weigh_0 rfl rfl ?_
  refine z_if_lt h 40 dX4_weigh_1 (by decide) (fun c1 => ?_) (fun c1 => ?_)
  · exact absurd c1 (nI_pos (by omega))
  · refine z_iload_n h dX4_weigh_4 rfl rfl ?_
    refine z_bipush (v := 8) h dX4_weigh_5 (by decide) ?_
    rw [show (8 : Int32) = nI 8 from rfl]
    refine z_icmp_ge h 40 dX4_weigh_7 (by decide) (fun c7 => ?_) (fun c7 => ?_)
    · exact absurd (nle (by decide) (by omega) c7) (by omega)
    · refine z_aload_n h dX4_weigh_10 rfl rfl ?_
      refine z_iload_n h dX4_weigh_11 rfl rfl ?_
      refine z_dup2 h dX4_weigh_12 rfl rfl ?_
      refine z_lald h (by assumption) (zix_nI (by omega) (by decide)) dX4_weigh_13 ?_
      refine z_iload_n h dX4_weigh_14 rfl rfl ?_
      refine z_i2l h dX4_weigh_15 rfl ?_
      refine z_ladd h dX4_weigh_16 ?_
      refine z_last h (by assumption) (zix_nI (by omega) (by decide)) dX4_weigh_17 ?_
      refine z_aload_n h dX4_weigh_18 rfl rfl ?_
      refine z_bipush (v := 9) h dX4_weigh_19 (by decide) ?_
      refine z_dup2 h dX4_weigh_21 rfl rfl ?_
      rw [show (9 : Int32) = nI 9 from rfl]
      refine z_lald h (by assumption) (zix_nI (by decide) (by decide)) dX4_weigh_22 ?_
      rw [zu_k (show 9 ≠ n by omega)]
      refine z_iload_n h dX4_weigh_23 rfl rfl ?_
      refine z_i2l h dX4_weigh_24 rfl ?_
      refine z_aload_n h dX4_weigh_25 rfl rfl ?_
      refine z_getR h (by assumption) rfl kw4 8 (by decide) rfl (by assumption) kf_RX4_60 dX4_weigh_26 ?_
      refine z_iload_n h dX4_weigh_29 rfl rfl ?_
      refine z_iload h dX4_weigh_30 rfl ?_
      refine z_iload h dX4_weigh_32 rfl ?_
      refine z_callVL h (c_X3_gain l hY hk hk10) (by assumption) rfl gm_RX4_113 rfl ⟨rfl, rfl⟩ 3 (by decide +kernel) ⟨by decide, by decide⟩ rfl rfl (Nat.le_of_ble_eq_true rfl) ⟨Nat.zero_le _, Nat.zero_le _⟩ dX4_weigh_34 ?_
      refine z_lmul h dX4_weigh_37 ?_
      refine z_lsub h dX4_weigh_38 ?_
      refine z_last h (by assumption) (zix_nI (by decide) (by decide)) dX4_weigh_39 ?_
      rw [show zu (zu J a n (J a n + w.toInt64)) a 9 (J a 9 - w.toInt64 * gnC (fun i => I (rw i)) (nI n) un sg m) = zr J a (wg (J a) n w.toInt64 (gnC (fun i => I (rw i)) (nI n) un sg m)) from by
        rw [zu_as (f := J), zu_zr]
        rfl]
      exact ret dX4_weigh_40

set_option maxHeartbeats 4000000 in
set_option maxRecDepth 100000 in
theorem c_X4_weigh0 (l : Launch) {E : zE} {S : zS} {I : Nat → Nat → Int32} {J : Nat → Nat → Int64} {R : Nat → Nat → Option Nat} {su a : Nat} {w un sg : Int32} : zN l yX4_weigh wsX4_weigh rmX4_weigh E S [.ref su, .ref a, .int w, .int (-1), .int un, .int sg] (I, J, R) (I, J, R) := by
  refine z_metN (cc := cX4_weigh) (maxL := 6) (by decide) rfl (Nat.le_of_ble_eq_true rfl) (fun X h ret => ?_)
  show zV X E S 0 0 (I, J, R) 0 _ []
  refine z_iload_n h dX4_weigh_0 rfl rfl ?_
  refine z_if_lt h 40 dX4_weigh_1 (by decide) (fun c1 => ?_) (fun c1 => ?_)
  · exact ret dX4_weigh_40
  · exact absurd (by decide) c1

set_option maxHeartbeats 4000000 in
set_option maxRecDepth 100000 in
theorem c_X4_isFact (l : Launch) {E : zE} {S : zS} {I : Nat → Nat → Int32} {J : Nat → Nat → Int64} {R : Nat → Nat → Option Nat} {su st i : Nat} (hs : zO S su 4) (hst : R su 8 = some st) (hs2 : zO S st 3) : zI l yX4_isFact wsX4_isFact rmX4_isFact E S [.ref su, .int (nI i)] (I, J, R) (b2i (!decide (I st 4 &&& (1 : Int32) <<< (nI i &&& 31) = 0))) (I, J, R) := by
  refine z_metI (cc := cX4_isFact) (maxL := 2) (ty := .boolean) (by decide) rfl (Nat.le_of_ble_eq_true rfl) (fun X h ret => ?_)
  show zV X E S 0 0 (I, J, R) 0 _ []
  have y1 := hs2
  refine z_aload_n h dX4_isFact_0 rfl rfl ?_
  refine z_getR h (by assumption) rfl kw4 8 (by decide) rfl (by assumption) kf_RX4_60 dX4_isFact_1 ?_
  refine z_callVI h (c_X3_facts l hs2) (by assumption) rfl gm_RX4_134 rfl ⟨rfl, rfl⟩ 0 (by decide +kernel) ⟨by decide, by decide⟩ rfl rfl (Nat.le_of_ble_eq_true rfl) ⟨Nat.zero_le _, Nat.zero_le _⟩ dX4_isFact_4 ?_
  refine z_iconst (v := 1) h dX4_isFact_7 (by decide) ?_
  refine z_iload_n h dX4_isFact_8 rfl rfl ?_
  refine z_ishl h dX4_isFact_9 ?_
  refine z_iand h dX4_isFact_10 ?_
  refine z_if_eq h 18 dX4_isFact_11 (by decide) (fun c11 => ?_) (fun c11 => ?_)
  · rw [show b2i (!decide (I st 4 &&& (1 : Int32) <<< (nI i &&& 31) = 0)) = 0 from by rw [decide_eq_true c11]; rfl] at ret
    refine z_iconst (v := 0) h dX4_isFact_18 (by decide) ?_
    exact ret dX4_isFact_19 rfl
  · rw [show b2i (!decide (I st 4 &&& (1 : Int32) <<< (nI i &&& 31) = 0)) = 1 from by rw [decide_eq_false c11]; rfl] at ret
    refine z_iconst (v := 1) h dX4_isFact_14 (by decide) ?_
    refine z_goto h 19 dX4_isFact_15 (by decide) ?_
    exact ret dX4_isFact_19 rfl
