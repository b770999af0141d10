/-! small methods of the reference -/
set_option maxHeartbeats 4000000 in
set_option maxRecDepth 100000 in
theorem c_X7_thrown (l : Launch) {E : zE} {S : zS} {I : Nat → Nat → Int32} {J : Nat → Nat → Int64} {R : Nat → Nat → Option Nat} {x : Nat} (d1 : zO S x 7) : zI l yX7_thrown wsX7_thrown rmX7_thrown E S [.ref x] (I, J, R) (I x 0) (I, J, R) := by
  refine z_metI (cc := cX7_thrown) (maxL := 1) (ty := .int) (by decide) rfl (Nat.le_of_ble_eq_true rfl) (fun X h ret => ?_)
  show zV X E S 0 0 (I, J, R) 0 _ []
  refine z_aload_n h dX7_thrown_0 rfl rfl ?_
  refine z_getI h (by assumption) rfl kw7 0 (by decide) rfl kf_RX7_42 dX7_thrown_1 ?_
  exact ret dX7_thrown_4 rfl

set_option maxHeartbeats 4000000 in
set_option maxRecDepth 100000 in
theorem c_X7_sentences (l : Launch) {E : zE} {S : zS} {I : Nat → Nat → Int32} {J : Nat → Nat → Int64} {R : Nat → Nat → Option Nat} {x : Nat} (d1 : zO S x 7) : zI l yX7_sentences wsX7_sentences rmX7_sentences E S [.ref x] (I, J, R) (I x 7) (zu I x 0 0, J, R) := by
  refine z_metI (cc := cX7_sentences) (maxL := 1) (ty := .int) (by decide) rfl (Nat.le_of_ble_eq_true rfl) (fun X h ret => ?_)
  show zV X E S 0 0 (I, J, R) 0 _ []
  refine z_aload_n h dX7_sentences_0 rfl rfl ?_
  refine z_iconst (v := 0) h dX7_sentences_1 (by decide) ?_
  refine z_putI h (by assumption) rfl kw7 0 (by decide) rfl rfl (rfl) (rfl) kf_RX7_42 dX7_sentences_2 ?_
  refine z_aload_n h dX7_sentences_5 rfl rfl ?_
  refine z_getI h (by assumption) rfl kw7 7 (by decide) rfl kf_RX7_205 dX7_sentences_6 ?_
  rw [zu_k (by decide)]
  exact ret dX7_sentences_9 rfl

set_option maxHeartbeats 4000000 in
set_option maxRecDepth 100000 in
theorem c_X7_end (l : Launch) {E : zE} {S : zS} {I : Nat → Nat → Int32} {J : Nat → Nat → Int64} {R : Nat → Nat → Option Nat} {x : Nat} {y : Int32} (d1 : zO S x 7) : zI l yX7_end wsX7_end rmX7_end E S [.ref x, .int y] (I, J, R) (b2i (decide (0 ≤ y ∧ y ≤ I x 2))) (if 0 ≤ y ∧ y ≤ I x 2 then zu (zu I x 0 0) x 2 y else zu I x 0 0, J, R) := by
  refine z_metI (cc := cX7_end) (maxL := 2) (ty := .boolean) (by decide) rfl (Nat.le_of_ble_eq_true rfl) (fun X h ret => ?_)
  show zV X E S 0 0 (I, J, R) 0 _ []
  refine z_aload_n h dX7_end_0 rfl rfl ?_
  refine z_iconst (v := 0) h dX7_end_1 (by decide) ?_
  refine z_putI h (by assumption) rfl kw7 0 (by decide) rfl rfl (rfl) (rfl) kf_RX7_42 dX7_end_2 ?_
  refine z_iload_n h dX7_end_5 rfl rfl ?_
  refine z_if_lt h 17 dX7_end_6 (by decide) (fun c6 => ?_) (fun c6 => ?_)
  · rw [if_neg (fun w => absurd c6 (Int32.not_lt.mpr w.1))] at ret
    rw [b2i_f (decide_eq_false (fun w => absurd c6 (Int32.not_lt.mpr w.1)))] at ret
    refine z_iconst (v := 0) h dX7_end_17 (by decide) ?_
    exact ret dX7_end_18 rfl
  · refine z_iload_n h dX7_end_9 rfl rfl ?_
    refine z_aload_n h dX7_end_10 rfl rfl ?_
    refine z_getI h (by assumption) rfl kw7 2 (by decide) rfl kf_RX7_46 dX7_end_11 ?_
    rw [zu_k (by decide)]
    refine z_icmp_le h 19 dX7_end_14 (by decide) (fun c14 => ?_) (fun c14 => ?_)
    · rw [if_pos ⟨Int32.not_lt.mp c6, c14⟩] at ret
      rw [b2i_t (decide_eq_true ⟨Int32.not_lt.mp c6, c14⟩)] at ret
      refine z_aload_n h dX7_end_19 rfl rfl ?_
      refine z_iload_n h dX7_end_20 rfl rfl ?_
      refine z_putI h (by assumption) rfl kw7 2 (by decide) rfl rfl (rfl) (rfl) kf_RX7_46 dX7_end_21 ?_
      refine z_iconst (v := 1) h dX7_end_24 (by decide) ?_
      exact ret dX7_end_25 rfl
    · rw [if_neg (fun w => c14 w.2)] at ret
      rw [b2i_f (decide_eq_false (fun w => c14 w.2))] at ret
      refine z_iconst (v := 0) h dX7_end_17 (by decide) ?_
      exact ret dX7_end_18 rfl

set_option maxHeartbeats 4000000 in
set_option maxRecDepth 100000 in
theorem c_X7_question (l : Launch) {E : zE} {S : zS} {I : Nat → Nat → Int32} {J : Nat → Nat → Int64} {R : Nat → Nat → Option Nat} {x ak : Nat} {y : Int32} (d1 : zO S x 7) (d2 : R x 5 = some ak) (d3 : zA S ak 9 5) : zI l yX7_question wsX7_question rmX7_question E S [.ref x, .int y] (I, J, R) (if I x 9 ≠ 0 ∧ 0 ≤ y ∧ y ≤ 4 then I ak y.toNatClampNeg else -1) (zu I x 0 0, J, R) := by
  refine z_metI (cc := cX7_question) (maxL := 2) (ty := .int) (by decide) rfl (Nat.le_of_ble_eq_true rfl) (fun X h ret => ?_)
  show zV X E S 0 0 (I, J, R) 0 _ []
  have e9 : zu I x 0 (0 : Int32) x 9 = I x 9 := zu_k (by decide)
  refine z_aload_n h dX7_question_0 rfl rfl ?_
  refine z_iconst (v := 0) h dX7_question_1 (by decide) ?_
  refine z_putI h (by assumption) rfl kw7 0 (by decide) rfl rfl (rfl) (rfl) kf_RX7_42 dX7_question_2 ?_
  refine z_aload_n h dX7_question_5 rfl rfl ?_
  refine z_getI h (by assumption) rfl kw7 9 (by decide) rfl kf_RX7_207 dX7_question_6 ?_
  rw [e9]
  refine z_if_eq h 30 dX7_question_9 (by decide) (fun c9 => ?_) (fun c9 => ?_)
  · rw [if_neg (fun w => w.1 c9)] at ret
    refine z_iconst (v := -1) h dX7_question_30 (by decide) ?_
    exact ret dX7_question_31 rfl
  · refine z_iload_n h dX7_question_12 rfl rfl ?_
    refine z_iconst (v := 0) h dX7_question_13 (by decide) ?_
    refine z_iconst (v := 4) h dX7_question_14 (by decide) ?_
    refine z_callSI h (c_X7_isIn l y 0 4) (va_cwS 3 h.2.2.2.2.1 gm_RX7_176 rfl rfl rfl (by decide +kernel) ⟨by decide, by decide⟩) rfl rfl (Nat.le_of_ble_eq_true rfl) ⟨Nat.zero_le _, Nat.zero_le _⟩ dX7_question_15 ?_
    refine z_if_eq h 30 dX7_question_18 (by decide) (fun c18 => ?_) (fun c18 => ?_)
    · rw [if_neg (fun w => of_decide_eq_false (b2i_0.mp c18) w.2)] at ret
      refine z_iconst (v := -1) h dX7_question_30 (by decide) ?_
      exact ret dX7_question_31 rfl
    · have hy := of_decide_eq_true (b2i_n0.mp c18)
      rw [if_pos ⟨c9, hy⟩] at ret
      obtain ⟨j, hj, rfl⟩ := nI_of (Int32.not_lt.mpr hy.1)
      have hj2 := nle hj (by decide) (show nI j ≤ nI 4 from hy.2)
      rw [nI_clamp hj] at ret
      have na : ak ≠ x := fun q => absurd (d3.2.1.symm.trans (q ▸ d1.2)) (by decide)
      refine z_aload_n h dX7_question_21 rfl rfl ?_
      refine z_getR h (by assumption) rfl kw7 5 (by decide) rfl (by assumption) kf_RX7_20 dX7_question_22 ?_
      refine z_iload_n h dX7_question_25 rfl rfl ?_
      refine z_iald h (by assumption) (zix_nI (by omega) (by decide)) dX7_question_26 ?_
      rw [zu_a na]
      refine z_goto h 31 dX7_question_27 (by decide) ?_
      exact ret dX7_question_31 rfl
