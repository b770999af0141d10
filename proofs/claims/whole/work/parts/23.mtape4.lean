set_option maxHeartbeats 4000000 in
set_option maxRecDepth 100000 in
theorem cM_first (l : Launch) {E : zE} {S : zS} {I I0 : Nat → Nat → Int32} {J : Nat → Nat → Int64} {R : Nat → Nat → Option Nat} {g : Nat → Int32} {x tp n : Nat} {q : zQ} {v : Nat → Int32} (hS : MS S R g I0 I x tp n q v) : zIP l yX7_takesName wsX7_takesName rmX7_takesName E S [.ref x, .int 0] (I, J, R) (fun r ν => r = b2i (decide (nmF g q ≠ -1)) ∧ ∃ I', ν = (I', J, R) ∧ MS S R g I0 I' x tp n (if nmF g q ≠ -1 then nx g n q else q) (if nmF g q ≠ -1 then upd v 16 (nmF g q) else v)) := by
  refine z_metIP (cc := cX7_takesName) (maxL := 3) (ty := .boolean) (by decide) rfl (Nat.le_of_ble_eq_true rfl) (fun X h ret => ?_)
  show zV X E S 0 0 (I, J, R) 0 _ []
  have f1 := hS.1.1
  refine z_aload_n h dX7_takesName_0 rfl rfl ?_
  refine z_callVI h (cM_name l hS) (by assumption) rfl gm_RX7_114 rfl ⟨rfl, rfl⟩ 0 (by decide +kernel) ⟨by decide, by decide⟩ rfl rfl (Nat.le_of_ble_eq_true rfl) ⟨Nat.zero_le _, Nat.zero_le _⟩ dX7_takesName_1 ?_
  refine z_istore_n h dX7_takesName_4 rfl (by decide) ?_
  refine z_iload_n h dX7_takesName_5 rfl rfl ?_
  refine z_iconst (v := -1) h dX7_takesName_6 (by decide) ?_
  refine z_icmp_eq h 22 dX7_takesName_7 (by decide) (fun c7 => ?_) (fun c7 => ?_)
  · refine z_iconst (v := 0) h dX7_takesName_22 (by decide) ?_
    refine ret (r := 0) ⟨(b2i_f (decide_eq_false (fun w => w c7))).symm, I, rfl, ?_⟩ dX7_takesName_23 rfl
    rw [if_neg (fun w => w c7), if_neg (fun w => w c7)]
    exact hS
  · refine z_iload_n h dX7_takesName_10 rfl rfl ?_
    refine z_if_eq h 24 dX7_takesName_11 (by decide) (fun c11 => ?_) (fun c11 => ?_)
    · refine z_iload_n h dX7_takesName_24 rfl rfl ?_
      refine z_if_eq h 36 dX7_takesName_25 (by decide) (fun c25 => ?_) (fun c25 => ?_)
      · refine z_aload_n h dX7_takesName_36 rfl rfl ?_
        refine z_iload_n h dX7_takesName_37 rfl rfl ?_
        refine z_putI h (by assumption) rfl kw7 16 (by decide) rfl rfl (rfl) (rfl) kf_RX7_117 dX7_takesName_38 ?_
        refine z_aload_n h dX7_takesName_41 rfl rfl ?_
        refine z_callVNP h (cM_next l (hS.put (j := 16) (w := nmF g q) (by decide) (by decide) (by decide))) (by assumption) rfl gm_RX7_83 rfl ⟨rfl, rfl⟩ 0 (by decide +kernel) ⟨by decide, by decide⟩ rfl rfl (Nat.le_of_ble_eq_true rfl) ⟨Nat.zero_le _, Nat.zero_le _⟩ dX7_takesName_42 (fun ν hν => ?_)
        obtain ⟨I2, rfl, hS2⟩ := hν
        refine z_iconst (v := 1) h dX7_takesName_45 (by decide) ?_
        refine ret (r := 1) ⟨(b2i_t (decide_eq_true c7)).symm, I2, rfl, ?_⟩ dX7_takesName_46 rfl
        rw [if_pos c7, if_pos c7]
        exact hS2
      · exact absurd rfl c25
    · exact absurd rfl c11

set_option maxHeartbeats 4000000 in
set_option maxRecDepth 100000 in
theorem cM_second (l : Launch) {E : zE} {S : zS} {I I0 : Nat → Nat → Int32} {J : Nat → Nat → Int64} {R : Nat → Nat → Option Nat} {g : Nat → Int32} {x tp n : Nat} {q : zQ} {v : Nat → Int32} (hS : MS S R g I0 I x tp n q v) : zIP l yX7_takesName wsX7_takesName rmX7_takesName E S [.ref x, .int 1] (I, J, R) (fun r ν => r = b2i (decide (nmF g q ≠ -1 ∧ nmF g q ≠ v 16)) ∧ ∃ I', ν = (I', J, R) ∧ MS S R g I0 I' x tp n (if nmF g q ≠ -1 ∧ nmF g q ≠ v 16 then nx g n q else q) (if nmF g q ≠ -1 ∧ nmF g q ≠ v 16 then upd v 17 (nmF g q) else v)) := by
  refine z_metIP (cc := cX7_takesName) (maxL := 3) (ty := .boolean) (by decide) rfl (Nat.le_of_ble_eq_true rfl) (fun X h ret => ?_)
  show zV X E S 0 0 (I, J, R) 0 _ []
  have f1 := hS.1.1
  refine z_aload_n h dX7_takesName_0 rfl rfl ?_
  refine z_callVI h (cM_name l hS) (by assumption) rfl gm_RX7_114 rfl ⟨rfl, rfl⟩ 0 (by decide +kernel) ⟨by decide, by decide⟩ rfl rfl (Nat.le_of_ble_eq_true rfl) ⟨Nat.zero_le _, Nat.zero_le _⟩ dX7_takesName_1 ?_
  refine z_istore_n h dX7_takesName_4 rfl (by decide) ?_
  refine z_iload_n h dX7_takesName_5 rfl rfl ?_
  refine z_iconst (v := -1) h dX7_takesName_6 (by decide) ?_
  refine z_icmp_eq h 22 dX7_takesName_7 (by decide) (fun c7 => ?_) (fun c7 => ?_)
  · refine z_iconst (v := 0) h dX7_takesName_22 (by decide) ?_
    refine ret (r := 0) ⟨(b2i_f (decide_eq_false (fun w => w.1 c7))).symm, I, rfl, ?_⟩ dX7_takesName_23 rfl
    rw [if_neg (fun w => w.1 c7), if_neg (fun w => w.1 c7)]
    exact hS
  · refine z_iload_n h dX7_takesName_10 rfl rfl ?_
    refine z_if_eq h 24 dX7_takesName_11 (by decide) (fun c11 => ?_) (fun c11 => ?_)
    · exact absurd c11 (by decide)
    · refine z_iload_n h dX7_takesName_14 rfl rfl ?_
      refine z_aload_n h dX7_takesName_15 rfl rfl ?_
      refine z_getI h (by assumption) rfl kw7 16 (by decide) rfl kf_RX7_117 dX7_takesName_16 ?_
      rw [hS.2.2.2.2 16 (by decide) (by decide)]
      refine z_icmp_ne h 24 dX7_takesName_19 (by decide) (fun c19 => ?_) (fun c19 => ?_)
      · refine z_iload_n h dX7_takesName_24 rfl rfl ?_
        refine z_if_eq h 36 dX7_takesName_25 (by decide) (fun c25 => ?_) (fun c25 => ?_)
        · exact absurd c25 (by decide)
        · refine z_aload_n h dX7_takesName_28 rfl rfl ?_
          refine z_iload_n h dX7_takesName_29 rfl rfl ?_
          refine z_putI h (by assumption) rfl kw7 17 (by decide) rfl rfl (rfl) (rfl) kf_RX7_120 dX7_takesName_30 ?_
          refine z_goto h 41 dX7_takesName_33 (by decide) ?_
          refine z_aload_n h dX7_takesName_41 rfl rfl ?_
          refine z_callVNP h (cM_next l (hS.put (j := 17) (w := nmF g q) (by decide) (by decide) (by decide))) (by assumption) rfl gm_RX7_83 rfl ⟨rfl, rfl⟩ 0 (by decide +kernel) ⟨by decide, by decide⟩ rfl rfl (Nat.le_of_ble_eq_true rfl) ⟨Nat.zero_le _, Nat.zero_le _⟩ dX7_takesName_42 (fun ν hν => ?_)
          obtain ⟨I2, rfl, hS2⟩ := hν
          refine z_iconst (v := 1) h dX7_takesName_45 (by decide) ?_
          refine ret (r := 1) ⟨(b2i_t (decide_eq_true ⟨c7, c19⟩)).symm, I2, rfl, ?_⟩ dX7_takesName_46 rfl
          rw [if_pos ⟨c7, c19⟩, if_pos ⟨c7, c19⟩]
          exact hS2
      · refine z_iconst (v := 0) h dX7_takesName_22 (by decide) ?_
        refine ret (r := 0) ⟨(b2i_f (decide_eq_false (fun w => w.2 c19))).symm, I, rfl, ?_⟩ dX7_takesName_23 rfl
        rw [if_neg (fun w => w.2 c19), if_neg (fun w => w.2 c19)]
        exact hS

set_option maxHeartbeats 4000000 in
set_option maxRecDepth 100000 in
theorem cM_takesUnit (l : Launch) {E : zE} {S : zS} {I I0 : Nat → Nat → Int32} {J : Nat → Nat → Int64} {R : Nat → Nat → Option Nat} {g : Nat → Int32} {x tp n : Nat} {q : zQ} {v : Nat → Int32} (hS : MS S R g I0 I x tp n q v) : zIP l yX7_takesUnit wsX7_takesUnit rmX7_takesUnit E S [.ref x] (I, J, R) (fun r ν => r = b2i (decide (unF g q ≠ -1)) ∧ ∃ I', ν = (I', J, R) ∧ MS S R g I0 I' x tp n (if unF g q ≠ -1 then nx g n q else q) (upd v 18 (unF g q))) := by
  refine z_metIP (cc := cX7_takesUnit) (maxL := 1) (ty := .boolean) (by decide) rfl (Nat.le_of_ble_eq_true rfl) (fun X h ret => ?_)
  show zV X E S 0 0 (I, J, R) 0 _ []
  have f1 := hS.1.1
  have hS2 := hS.put (j := 18) (w := unF g q) (by decide) (by decide) (by decide)
  refine z_aload_n h dX7_takesUnit_0 rfl rfl ?_
  refine z_aload_n h dX7_takesUnit_1 rfl rfl ?_
  refine z_callVI h (cM_unit l hS) (by assumption) rfl gm_RX7_123 rfl ⟨rfl, rfl⟩ 0 (by decide +kernel) ⟨by decide, by decide⟩ rfl rfl (Nat.le_of_ble_eq_true rfl) ⟨Nat.zero_le _, Nat.zero_le _⟩ dX7_takesUnit_2 ?_
  refine z_putI h (by assumption) rfl kw7 18 (by decide) rfl rfl (rfl) (rfl) kf_RX7_126 dX7_takesUnit_5 ?_
  refine z_aload_n h dX7_takesUnit_8 rfl rfl ?_
  refine z_getI h (by assumption) rfl kw7 18 (by decide) rfl kf_RX7_126 dX7_takesUnit_9 ?_
  rw [show zu I x 18 (unF g q) x 18 = unF g q from zu_s]
  refine z_iconst (v := -1) h dX7_takesUnit_12 (by decide) ?_
  refine z_icmp_ne h 18 dX7_takesUnit_13 (by decide) (fun c13 => ?_) (fun c13 => ?_)
  · refine z_aload_n h dX7_takesUnit_18 rfl rfl ?_
    refine z_callVNP h (cM_next l hS2) (by assumption) rfl gm_RX7_83 rfl ⟨rfl, rfl⟩ 0 (by decide +kernel) ⟨by decide, by decide⟩ rfl rfl (Nat.le_of_ble_eq_true rfl) ⟨Nat.zero_le _, Nat.zero_le _⟩ dX7_takesUnit_19 (fun ν hν => ?_)
    obtain ⟨I2, rfl, hS3⟩ := hν
    refine z_iconst (v := 1) h dX7_takesUnit_22 (by decide) ?_
    refine ret (r := 1) ⟨(b2i_t (decide_eq_true c13)).symm, I2, rfl, ?_⟩ dX7_takesUnit_23 rfl
    rw [if_pos c13]
    exact hS3
  · refine z_iconst (v := 0) h dX7_takesUnit_16 (by decide) ?_
    refine ret (r := 0) ⟨(b2i_f (decide_eq_false (fun w => w c13))).symm, _, rfl, ?_⟩ dX7_takesUnit_17 rfl
    rw [if_neg (fun w => w c13)]
    exact hS2

set_option maxHeartbeats 4000000 in
set_option maxRecDepth 100000 in
theorem cM_takesNumber (l : Launch) {E : zE} {S : zS} {I I0 : Nat → Nat → Int32} {J : Nat → Nat → Int64} {R : Nat → Nat → Option Nat} {g : Nat → Int32} {x tp n : Nat} {q : zQ} {v : Nat → Int32} (hS : MS S R g I0 I x tp n q v) : zIP l yX7_takesNumber wsX7_takesNumber rmX7_takesNumber E S [.ref x] (I, J, R) (fun r ν => r = b2i (decide ((nmW g q.1 q.2).getD (-1) ≠ -1)) ∧ ∃ I', ν = (I', J, R) ∧ MS S R g I0 I' x tp n (if (nmW g q.1 q.2).getD (-1) ≠ -1 then nx g n q else q) (upd v 19 ((nmW g q.1 q.2).getD (-1)))) := by
  refine z_metIP (cc := cX7_takesNumber) (maxL := 1) (ty := .boolean) (by decide) rfl (Nat.le_of_ble_eq_true rfl) (fun X h ret => ?_)
  show zV X E S 0 0 (I, J, R) 0 _ []
  have f1 := hS.1.1
  have hS2 := hS.put (j := 19) (w := (nmW g q.1 q.2).getD (-1)) (by decide) (by decide) (by decide)
  refine z_aload_n h dX7_takesNumber_0 rfl rfl ?_
  refine z_aload_n h dX7_takesNumber_1 rfl rfl ?_
  refine z_callVI h (cM_number l hS) (by assumption) rfl gm_RX7_129 rfl ⟨rfl, rfl⟩ 0 (by decide +kernel) ⟨by decide, by decide⟩ rfl rfl (Nat.le_of_ble_eq_true rfl) ⟨Nat.zero_le _, Nat.zero_le _⟩ dX7_takesNumber_2 ?_
  refine z_putI h (by assumption) rfl kw7 19 (by decide) rfl rfl (rfl) (rfl) kf_RX7_132 dX7_takesNumber_5 ?_
  refine z_aload_n h dX7_takesNumber_8 rfl rfl ?_
  refine z_getI h (by assumption) rfl kw7 19 (by decide) rfl kf_RX7_132 dX7_takesNumber_9 ?_
  rw [show zu I x 19 ((nmW g q.1 q.2).getD (-1)) x 19 = (nmW g q.1 q.2).getD (-1) from zu_s]
  refine z_iconst (v := -1) h dX7_takesNumber_12 (by decide) ?_
  refine z_icmp_ne h 18 dX7_takesNumber_13 (by decide) (fun c13 => ?_) (fun c13 => ?_)
  · refine z_aload_n h dX7_takesNumber_18 rfl rfl ?_
    refine z_callVNP h (cM_next l hS2) (by assumption) rfl gm_RX7_83 rfl ⟨rfl, rfl⟩ 0 (by decide +kernel) ⟨by decide, by decide⟩ rfl rfl (Nat.le_of_ble_eq_true rfl) ⟨Nat.zero_le _, Nat.zero_le _⟩ dX7_takesNumber_19 (fun ν hν => ?_)
    obtain ⟨I2, rfl, hS3⟩ := hν
    refine z_iconst (v := 1) h dX7_takesNumber_22 (by decide) ?_
    refine ret (r := 1) ⟨(b2i_t (decide_eq_true c13)).symm, I2, rfl, ?_⟩ dX7_takesNumber_23 rfl
    rw [if_pos c13]
    exact hS3
  · refine z_iconst (v := 0) h dX7_takesNumber_16 (by decide) ?_
    refine ret (r := 0) ⟨(b2i_f (decide_eq_false (fun w => w c13))).symm, _, rfl, ?_⟩ dX7_takesNumber_17 rfl
    rw [if_neg (fun w => w c13)]
    exact hS2
