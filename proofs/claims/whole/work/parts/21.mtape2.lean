def one4 (a b c d : Bool) : Int32 := if a = true then 0 else if b = true then 1 else if c = true then 2 else if d = true then 3 else -1

set_option maxHeartbeats 4000000 in
set_option maxRecDepth 100000 in
theorem c_X7_one (l : Launch) {E : zE} {S : zS} {μ : zM} (a b c d : Bool) : zI l yX7_one wsX7_one rmX7_one E S [.int (b2i a), .int (b2i b), .int (b2i c), .int (b2i d)] μ (one4 a b c d) μ := by
  refine z_metI (cc := cX7_one) (maxL := 4) (ty := .int) (by decide) rfl (Nat.le_of_ble_eq_true rfl) (fun X h ret => ?_)
  show zV X E S 0 0 μ 0 _ []
  refine z_iload_n h dX7_one_0 rfl rfl ?_
  refine z_if_eq h 8 dX7_one_1 (by decide) (fun c1 => ?_) (fun c1 => ?_)
  · refine z_iload_n h dX7_one_8 rfl rfl ?_
    refine z_if_eq h 16 dX7_one_9 (by decide) (fun c9 => ?_) (fun c9 => ?_)
    · refine z_iload_n h dX7_one_16 rfl rfl ?_
      refine z_if_eq h 24 dX7_one_17 (by decide) (fun c17 => ?_) (fun c17 => ?_)
      · refine z_iload_n h dX7_one_24 rfl rfl ?_
        refine z_if_eq h 32 dX7_one_25 (by decide) (fun c25 => ?_) (fun c25 => ?_)
        · rw [show one4 a b c d = -1 by unfold one4; rw [if_neg (by rw [b2i_0.mp c1]; decide), if_neg (by rw [b2i_0.mp c9]; decide), if_neg (by rw [b2i_0.mp c17]; decide), if_neg (by rw [b2i_0.mp c25]; decide)]] at ret
          refine z_iconst (v := -1) h dX7_one_32 (by decide) ?_
          exact ret dX7_one_33 rfl
        · rw [show one4 a b c d = 3 by unfold one4; rw [if_neg (by rw [b2i_0.mp c1]; decide), if_neg (by rw [b2i_0.mp c9]; decide), if_neg (by rw [b2i_0.mp c17]; decide), if_pos (b2i_n0.mp c25)]] at ret
          refine z_iconst (v := 3) h dX7_one_28 (by decide) ?_
          refine z_goto h 33 dX7_one_29 (by decide) ?_
          exact ret dX7_one_33 rfl
      · rw [show one4 a b c d = 2 by unfold one4; rw [if_neg (by rw [b2i_0.mp c1]; decide), if_neg (by rw [b2i_0.mp c9]; decide), if_pos (b2i_n0.mp c17)]] at ret
        refine z_iconst (v := 2) h dX7_one_20 (by decide) ?_
        refine z_goto h 33 dX7_one_21 (by decide) ?_
        exact ret dX7_one_33 rfl
    · rw [show one4 a b c d = 1 by unfold one4; rw [if_neg (by rw [b2i_0.mp c1]; decide), if_pos (b2i_n0.mp c9)]] at ret
      refine z_iconst (v := 1) h dX7_one_12 (by decide) ?_
      refine z_goto h 33 dX7_one_13 (by decide) ?_
      exact ret dX7_one_33 rfl
  · rw [show one4 a b c d = 0 by unfold one4; rw [if_pos (b2i_n0.mp c1)]] at ret
    refine z_iconst (v := 0) h dX7_one_4 (by decide) ?_
    refine z_goto h 33 dX7_one_5 (by decide) ?_
    exact ret dX7_one_33 rfl

set_option maxHeartbeats 4000000 in
set_option maxRecDepth 100000 in
theorem c_X7_unit0 (l : Launch) {E : zE} {S : zS} {I : Nat → Nat → Int32} {J : Nat → Nat → Int64} {R : Nat → Nat → Option Nat} {x tp n f e : Nat} (hT : MP S R I x tp n f e) : zI l yX7_unit wsX7_unit rmX7_unit E S [.ref x] (I, J, R) (one4 (mW (I tp) f e (zsb 27)) (mW (I tp) f e (zsb 28)) (mW (I tp) f e (zsb 29)) (mW (I tp) f e (zsb 30))) (I, J, R) := by
  refine z_metI (cc := cX7_unit) (maxL := 1) (ty := .int) (by decide) rfl (Nat.le_of_ble_eq_true rfl) (fun X h ret => ?_)
  show zV X E S 0 0 (I, J, R) 0 _ []
  obtain ⟨h1, h2, h3, h4, h5, h6, h7, h8, h9⟩ := id hT
  refine z_aload_n h dX7_unit_0 rfl rfl ?_
  refine z_ldcS h 27 (by decide) rfl rfl dX7_unit_1 ?_
  refine z_callVI h (c_X7_is l hT (i := 27) (by decide)) (by assumption) rfl gm_RX7_79 rfl ⟨rfl, rfl⟩ 1 (by decide +kernel) ⟨by decide, by decide⟩ rfl rfl (Nat.le_of_ble_eq_true rfl) ⟨Nat.zero_le _, Nat.zero_le _⟩ dX7_unit_3 ?_
  refine z_aload_n h dX7_unit_6 rfl rfl ?_
  refine z_ldcS h 28 (by decide) rfl rfl dX7_unit_7 ?_
  refine z_callVI h (c_X7_is l hT (i := 28) (by decide)) (by assumption) rfl gm_RX7_79 rfl ⟨rfl, rfl⟩ 1 (by decide +kernel) ⟨by decide, by decide⟩ rfl rfl (Nat.le_of_ble_eq_true rfl) ⟨Nat.zero_le _, Nat.zero_le _⟩ dX7_unit_9 ?_
  refine z_aload_n h dX7_unit_12 rfl rfl ?_
  refine z_ldcS h 29 (by decide) rfl rfl dX7_unit_13 ?_
  refine z_callVI h (c_X7_is l hT (i := 29) (by decide)) (by assumption) rfl gm_RX7_79 rfl ⟨rfl, rfl⟩ 1 (by decide +kernel) ⟨by decide, by decide⟩ rfl rfl (Nat.le_of_ble_eq_true rfl) ⟨Nat.zero_le _, Nat.zero_le _⟩ dX7_unit_15 ?_
  refine z_aload_n h dX7_unit_18 rfl rfl ?_
  refine z_ldcS h 30 (by decide) rfl rfl dX7_unit_19 ?_
  refine z_callVI h (c_X7_is l hT (i := 30) (by decide)) (by assumption) rfl gm_RX7_79 rfl ⟨rfl, rfl⟩ 1 (by decide +kernel) ⟨by decide, by decide⟩ rfl rfl (Nat.le_of_ble_eq_true rfl) ⟨Nat.zero_le _, Nat.zero_le _⟩ dX7_unit_21 ?_
  refine z_callSI h (c_X7_one l _ _ _ _) (va_cwS 4 h.2.2.2.2.1 gm_RX7_94 rfl rfl rfl (by decide +kernel) ⟨by decide, by decide⟩) rfl rfl (Nat.le_of_ble_eq_true rfl) ⟨Nat.zero_le _, Nat.zero_le _⟩ dX7_unit_24 ?_
  exact ret dX7_unit_27 rfl

set_option maxHeartbeats 4000000 in
set_option maxRecDepth 100000 in
theorem c_X7_name0 (l : Launch) {E : zE} {S : zS} {I : Nat → Nat → Int32} {J : Nat → Nat → Int64} {R : Nat → Nat → Option Nat} {x tp n f e : Nat} (hT : MP S R I x tp n f e) : zI l yX7_name wsX7_name rmX7_name E S [.ref x] (I, J, R) (if one4 (mW (I tp) f e (zsb 19)) (mW (I tp) f e (zsb 20)) (mW (I tp) f e (zsb 21)) (mW (I tp) f e (zsb 22)) ≠ -1 then one4 (mW (I tp) f e (zsb 19)) (mW (I tp) f e (zsb 20)) (mW (I tp) f e (zsb 21)) (mW (I tp) f e (zsb 22)) else if one4 (mW (I tp) f e (zsb 23)) (mW (I tp) f e (zsb 24)) (mW (I tp) f e (zsb 25)) (mW (I tp) f e (zsb 26)) ≠ -1 then 4 + one4 (mW (I tp) f e (zsb 23)) (mW (I tp) f e (zsb 24)) (mW (I tp) f e (zsb 25)) (mW (I tp) f e (zsb 26)) else -1) (I, J, R) := by
  refine z_metI (cc := cX7_name) (maxL := 2) (ty := .int) (by decide) rfl (Nat.le_of_ble_eq_true rfl) (fun X h ret => ?_)
  show zV X E S 0 0 (I, J, R) 0 _ []
  obtain ⟨h1, h2, h3, h4, h5, h6, h7, h8, h9⟩ := id hT
  refine z_aload_n h dX7_name_0 rfl rfl ?_
  refine z_ldcS h 19 (by decide) rfl rfl dX7_name_1 ?_
  refine z_callVI h (c_X7_is l hT (i := 19) (by decide)) (by assumption) rfl gm_RX7_79 rfl ⟨rfl, rfl⟩ 1 (by decide +kernel) ⟨by decide, by decide⟩ rfl rfl (Nat.le_of_ble_eq_true rfl) ⟨Nat.zero_le _, Nat.zero_le _⟩ dX7_name_3 ?_
  refine z_aload_n h dX7_name_6 rfl rfl ?_
  refine z_ldcS h 20 (by decide) rfl rfl dX7_name_7 ?_
  refine z_callVI h (c_X7_is l hT (i := 20) (by decide)) (by assumption) rfl gm_RX7_79 rfl ⟨rfl, rfl⟩ 1 (by decide +kernel) ⟨by decide, by decide⟩ rfl rfl (Nat.le_of_ble_eq_true rfl) ⟨Nat.zero_le _, Nat.zero_le _⟩ dX7_name_9 ?_
  refine z_aload_n h dX7_name_12 rfl rfl ?_
  refine z_ldcS h 21 (by decide) rfl rfl dX7_name_13 ?_
  refine z_callVI h (c_X7_is l hT (i := 21) (by decide)) (by assumption) rfl gm_RX7_79 rfl ⟨rfl, rfl⟩ 1 (by decide +kernel) ⟨by decide, by decide⟩ rfl rfl (Nat.le_of_ble_eq_true rfl) ⟨Nat.zero_le _, Nat.zero_le _⟩ dX7_name_15 ?_
  refine z_aload_n h dX7_name_18 rfl rfl ?_
  refine z_ldcS h 22 (by decide) rfl rfl dX7_name_19 ?_
  refine z_callVI h (c_X7_is l hT (i := 22) (by decide)) (by assumption) rfl gm_RX7_79 rfl ⟨rfl, rfl⟩ 1 (by decide +kernel) ⟨by decide, by decide⟩ rfl rfl (Nat.le_of_ble_eq_true rfl) ⟨Nat.zero_le _, Nat.zero_le _⟩ dX7_name_21 ?_
  refine z_callSI h (c_X7_one l _ _ _ _) (va_cwS 4 h.2.2.2.2.1 gm_RX7_94 rfl rfl rfl (by decide +kernel) ⟨by decide, by decide⟩) rfl rfl (Nat.le_of_ble_eq_true rfl) ⟨Nat.zero_le _, Nat.zero_le _⟩ dX7_name_24 ?_
  refine z_istore_n h dX7_name_27 rfl (by decide) ?_
  refine z_iload_n h dX7_name_28 rfl rfl ?_
  refine z_iconst (v := -1) h dX7_name_29 (by decide) ?_
  refine z_icmp_eq h 35 dX7_name_30 (by decide) (fun c30 => ?_) (fun c30 => ?_)
  · rw [if_neg (fun w => w c30)] at ret
    refine z_aload_n h dX7_name_35 rfl rfl ?_
    refine z_ldcS h 23 (by decide) rfl rfl dX7_name_36 ?_
    refine z_callVI h (c_X7_is l hT (i := 23) (by decide)) (by assumption) rfl gm_RX7_79 rfl ⟨rfl, rfl⟩ 1 (by decide +kernel) ⟨by decide, by decide⟩ rfl rfl (Nat.le_of_ble_eq_true rfl) ⟨Nat.zero_le _, Nat.zero_le _⟩ dX7_name_38 ?_
    refine z_aload_n h dX7_name_41 rfl rfl ?_
    refine z_ldcS h 24 (by decide) rfl rfl dX7_name_42 ?_
    refine z_callVI h (c_X7_is l hT (i := 24) (by decide)) (by assumption) rfl gm_RX7_79 rfl ⟨rfl, rfl⟩ 1 (by decide +kernel) ⟨by decide, by decide⟩ rfl rfl (Nat.le_of_ble_eq_true rfl) ⟨Nat.zero_le _, Nat.zero_le _⟩ dX7_name_44 ?_
    refine z_aload_n h dX7_name_47 rfl rfl ?_
    refine z_ldcS h 25 (by decide) rfl rfl dX7_name_48 ?_
    refine z_callVI h (c_X7_is l hT (i := 25) (by decide)) (by assumption) rfl gm_RX7_79 rfl ⟨rfl, rfl⟩ 1 (by decide +kernel) ⟨by decide, by decide⟩ rfl rfl (Nat.le_of_ble_eq_true rfl) ⟨Nat.zero_le _, Nat.zero_le _⟩ dX7_name_50 ?_
    refine z_aload_n h dX7_name_53 rfl rfl ?_
    refine z_ldcS h 26 (by decide) rfl rfl dX7_name_54 ?_
    refine z_callVI h (c_X7_is l hT (i := 26) (by decide)) (by assumption) rfl gm_RX7_79 rfl ⟨rfl, rfl⟩ 1 (by decide +kernel) ⟨by decide, by decide⟩ rfl rfl (Nat.le_of_ble_eq_true rfl) ⟨Nat.zero_le _, Nat.zero_le _⟩ dX7_name_56 ?_
    refine z_callSI h (c_X7_one l _ _ _ _) (va_cwS 4 h.2.2.2.2.1 gm_RX7_94 rfl rfl rfl (by decide +kernel) ⟨by decide, by decide⟩) rfl rfl (Nat.le_of_ble_eq_true rfl) ⟨Nat.zero_le _, Nat.zero_le _⟩ dX7_name_59 ?_
    refine z_istore_n h dX7_name_62 rfl (by decide) ?_
    refine z_iload_n h dX7_name_63 rfl rfl ?_
    refine z_iconst (v := -1) h dX7_name_64 (by decide) ?_
    refine z_icmp_ne h 72 dX7_name_65 (by decide) (fun c65 => ?_) (fun c65 => ?_)
    · rw [if_pos c65] at ret
      refine z_iconst (v := 4) h dX7_name_72 (by decide) ?_
      refine z_iload_n h dX7_name_73 rfl rfl ?_
      refine z_iadd h dX7_name_74 ?_
      exact ret dX7_name_75 rfl
    · rw [if_neg (fun w => w c65)] at ret
      refine z_iconst (v := -1) h dX7_name_68 (by decide) ?_
      refine z_goto h 75 dX7_name_69 (by decide) ?_
      exact ret dX7_name_75 rfl
  · rw [if_pos c30] at ret
    refine z_iload_n h dX7_name_33 rfl rfl ?_
    exact ret dX7_name_34 rfl

/-- letters of an entry of a list are those of a text -/
theorem mtc_sub {g : Nat → Int32} {f o : Nat} {s s' : List Int32} : ∀ (d j : Nat), (∀ i, i < j + d → s.getD (o + i) 0 = s'.getD (0 + i) 0) → mtc g f s o d j = mtc g f s' 0 d j
  | 0, _, _ => rfl
  | d + 1, j, h => by
    unfold mtc
    rw [h j (by omega), mtc_sub d (j + 1) (fun i hi => h i (by omega))]
theorem mtc_lst {g : Nat → Int32} {f e k o : Nat} {s s' : List Int32} (hl : s'.length = k) (hef : e - f = k) (h : ∀ i, i < k → s.getD (o + i) 0 = s'.getD (0 + i) 0) : mtc g f s o k 0 = k ↔ mW g f e s' = true := by
  rw [mtc_sub k 0 (fun i hi => h i (by omega))]
  unfold mW
  rw [hl, hef]
  simp
theorem nm_eq (g : Nat → Int32) (f e : Nat) : (if one4 (mW g f e (zsb 19)) (mW g f e (zsb 20)) (mW g f e (zsb 21)) (mW g f e (zsb 22)) ≠ -1 then one4 (mW g f e (zsb 19)) (mW g f e (zsb 20)) (mW g f e (zsb 21)) (mW g f e (zsb 22)) else if one4 (mW g f e (zsb 23)) (mW g f e (zsb 24)) (mW g f e (zsb 25)) (mW g f e (zsb 26)) ≠ -1 then 4 + one4 (mW g f e (zsb 23)) (mW g f e (zsb 24)) (mW g f e (zsb 25)) (mW g f e (zsb 26)) else -1) = fnd g f e (zsb 17) 8 3 := by
  unfold fnd
  by_cases hef : e - f = 3
  · rw [if_pos hef]
    have q0 := mtc_lst (g := g) (o := 0 * 3) (s := zsb 17) (s' := zsb 19) (k := 3) (by decide) hef (by decide)
    have q1 := mtc_lst (g := g) (o := 1 * 3) (s := zsb 17) (s' := zsb 20) (k := 3) (by decide) hef (by decide)
    have q2 := mtc_lst (g := g) (o := 2 * 3) (s := zsb 17) (s' := zsb 21) (k := 3) (by decide) hef (by decide)
    have q3 := mtc_lst (g := g) (o := 3 * 3) (s := zsb 17) (s' := zsb 22) (k := 3) (by decide) hef (by decide)
    have q4 := mtc_lst (g := g) (o := 4 * 3) (s := zsb 17) (s' := zsb 23) (k := 3) (by decide) hef (by decide)
    have q5 := mtc_lst (g := g) (o := 5 * 3) (s := zsb 17) (s' := zsb 24) (k := 3) (by decide) hef (by decide)
    have q6 := mtc_lst (g := g) (o := 6 * 3) (s := zsb 17) (s' := zsb 25) (k := 3) (by decide) hef (by decide)
    have q7 := mtc_lst (g := g) (o := 7 * 3) (s := zsb 17) (s' := zsb 26) (k := 3) (by decide) hef (by decide)
    simp only [fndW, q0, q1, q2, q3, q4, q5, q6, q7, Nat.zero_add, Nat.reduceAdd]
    generalize mW g f e (zsb 19) = a0
    generalize mW g f e (zsb 20) = a1
    generalize mW g f e (zsb 21) = a2
    generalize mW g f e (zsb 22) = a3
    generalize mW g f e (zsb 23) = a4
    generalize mW g f e (zsb 24) = a5
    generalize mW g f e (zsb 25) = a6
    generalize mW g f e (zsb 26) = a7
    revert a0 a1 a2 a3 a4 a5 a6 a7
    decide
  · rw [if_neg hef]
    have w : ∀ i, (zsb i).length = 3 → mW g f e (zsb i) = false := fun i hi => by simp [mW, hi, hef]
    rw [w 19 (by decide), w 20 (by decide), w 21 (by decide), w 22 (by decide), w 23 (by decide), w 24 (by decide), w 25 (by decide), w 26 (by decide)]
    decide
theorem un_eq (g : Nat → Int32) (f e : Nat) : one4 (mW g f e (zsb 27)) (mW g f e (zsb 28)) (mW g f e (zsb 29)) (mW g f e (zsb 30)) = fnd g f e (zsb 18) 4 4 := by
  unfold fnd
  by_cases hef : e - f = 4
  · rw [if_pos hef]
    have q0 := mtc_lst (g := g) (o := 0 * 4) (s := zsb 18) (s' := zsb 27) (k := 4) (by decide) hef (by decide)
    have q1 := mtc_lst (g := g) (o := 1 * 4) (s := zsb 18) (s' := zsb 28) (k := 4) (by decide) hef (by decide)
    have q2 := mtc_lst (g := g) (o := 2 * 4) (s := zsb 18) (s' := zsb 29) (k := 4) (by decide) hef (by decide)
    have q3 := mtc_lst (g := g) (o := 3 * 4) (s := zsb 18) (s' := zsb 30) (k := 4) (by decide) hef (by decide)
    simp only [fndW, q0, q1, q2, q3, Nat.zero_add, Nat.reduceAdd]
    generalize mW g f e (zsb 27) = a0
    generalize mW g f e (zsb 28) = a1
    generalize mW g f e (zsb 29) = a2
    generalize mW g f e (zsb 30) = a3
    revert a0 a1 a2 a3
    decide
  · rw [if_neg hef]
    have w : ∀ i, (zsb i).length = 4 → mW g f e (zsb i) = false := fun i hi => by simp [mW, hi, hef]
    rw [w 27 (by decide), w 28 (by decide), w 29 (by decide), w 30 (by decide)]
    decide
theorem c_X7_name (l : Launch) {E : zE} {S : zS} {I : Nat → Nat → Int32} {J : Nat → Nat → Int64} {R : Nat → Nat → Option Nat} {x tp n f e : Nat} (hT : MP S R I x tp n f e) : zI l yX7_name wsX7_name rmX7_name E S [.ref x] (I, J, R) (fnd (I tp) f e (zsb 17) 8 3) (I, J, R) := nm_eq (I tp) f e ▸ c_X7_name0 l hT
theorem c_X7_unit (l : Launch) {E : zE} {S : zS} {I : Nat → Nat → Int32} {J : Nat → Nat → Int64} {R : Nat → Nat → Option Nat} {x tp n f e : Nat} (hT : MP S R I x tp n f e) : zI l yX7_unit wsX7_unit rmX7_unit E S [.ref x] (I, J, R) (fnd (I tp) f e (zsb 18) 4 4) (I, J, R) := un_eq (I tp) f e ▸ c_X7_unit0 l hT
