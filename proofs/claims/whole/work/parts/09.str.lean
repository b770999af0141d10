/-! THE TEXTS' METHODS -/
theorem zsb_ok : ∀ i, i < 48 → ((zsb i).length < 400 ∧ ∀ j, j < (zsb i).length → (((zsb i).getD j 0 &&& 255).toUInt32 % 65536).toInt32 = (zsb i).getD j 0 ∧ narrow .char (.int ((zsb i).getD j 0)) = .int ((zsb i).getD j 0)) := by decide +kernel

set_option maxHeartbeats 4000000 in
set_option maxRecDepth 100000 in
theorem c_J0_coder (l : Launch) {E : zE} {S : zS} {μ : zM} {i : Nat} (hi : i < zlN) : zI l yJ0_coder_7d493 wsJ0_coder_7d493 rmJ0_coder_7d493 E S [.ref (E.2.2.1 i)] μ (0) μ := by
  refine z_metI (cc := cJ0_coder_7d493) (maxL := 1) (ty := .byte) (by decide) rfl (Nat.le_of_ble_eq_true rfl) (fun X h ret => ?_)
  show zV X E S 0 0 μ 0 _ []
  refine z_gets1 h kf_RJ0_38 dJ0_coder_7d493_0 ?_
  refine z_if_eq h 13 dJ0_coder_7d493_3 (by decide) (fun c3 => absurd c3 (by decide)) (fun c3 => ?_)
  refine z_aload_n h dJ0_coder_7d493_6 rfl rfl ?_
  refine z_getC h hi kf_RJ0_15 dJ0_coder_7d493_7 ?_
  refine z_goto h 14 dJ0_coder_7d493_10 (by decide) ?_
  exact ret dJ0_coder_7d493_14 rfl

set_option maxHeartbeats 4000000 in
set_option maxRecDepth 100000 in
theorem c_J0_isLatin1 (l : Launch) {E : zE} {S : zS} {μ : zM} {i : Nat} (hi : i < zlN) : zI l yJ0_isLatin1_aae02 wsJ0_isLatin1_aae02 rmJ0_isLatin1_aae02 E S [.ref (E.2.2.1 i)] μ (1) μ := by
  refine z_metI (cc := cJ0_isLatin1_aae02) (maxL := 1) (ty := .boolean) (by decide) rfl (Nat.le_of_ble_eq_true rfl) (fun X h ret => ?_)
  show zV X E S 0 0 μ 0 _ []
  refine z_gets1 h kf_RJ0_38 dJ0_isLatin1_aae02_0 ?_
  refine z_if_eq h 17 dJ0_isLatin1_aae02_3 (by decide) (fun c3 => absurd c3 (by decide)) (fun c3 => ?_)
  refine z_aload_n h dJ0_isLatin1_aae02_6 rfl rfl ?_
  refine z_getC h hi kf_RJ0_15 dJ0_isLatin1_aae02_7 ?_
  refine z_if_ne h 17 dJ0_isLatin1_aae02_10 (by decide) (fun c10 => absurd rfl c10) (fun c10 => ?_)
  refine z_iconst (v := 1) h dJ0_isLatin1_aae02_13 (by decide) ?_
  refine z_goto h 18 dJ0_isLatin1_aae02_14 (by decide) ?_
  exact ret dJ0_isLatin1_aae02_18 rfl

set_option maxHeartbeats 4000000 in
set_option maxRecDepth 100000 in
theorem c_J0_length (l : Launch) {E : zE} {S : zS} {μ : zM} {i : Nat} (hi : i < zlN) : zI l yJ0_length_8abf5 wsJ0_length_8abf5 rmJ0_length_8abf5 E S [.ref (E.2.2.1 i)] μ (nI (zsb i).length) μ := by
  refine z_metI (cc := cJ0_length_8abf5) (maxL := 1) (ty := .int) (by decide) rfl (Nat.le_of_ble_eq_true rfl) (fun X h ret => ?_)
  show zV X E S 0 0 μ 0 _ []
  refine z_aload_n h dJ0_length_8abf5_0 rfl rfl ?_
  refine z_getT h hi kf_RJ0_9 dJ0_length_8abf5_1 ?_
  refine z_tlen h hi dJ0_length_8abf5_4 ?_
  refine z_aload_n h dJ0_length_8abf5_5 rfl rfl ?_
  refine z_callTI h hi (c_J0_coder l hi) gm_RJ0_335 rfl ⟨rfl, rfl⟩ 0 (by decide +kernel) ⟨by decide, by decide⟩ rfl rfl (Nat.le_of_ble_eq_true rfl) ⟨Nat.zero_le _, Nat.zero_le _⟩ dJ0_length_8abf5_6 ?_
  refine z_ishr h dJ0_length_8abf5_9 ?_
  rw [show nI (zsb i).length >>> ((0 : Int32) &&& 31) = nI (zsb i).length from sc_shr0 (Nat.lt_trans (zsb_ok i hi).1 (by decide))]
  exact ret dJ0_length_8abf5_10 rfl

set_option maxHeartbeats 4000000 in
set_option maxRecDepth 100000 in
theorem c_J3_check (l : Launch) {E : zE} {S : zS} {μ : zM} {j n q : Nat} (hj : j < n) (hn : n < 400) : zI l yJ3_checkIndex_8e157 wsJ3_checkIndex_8e157 rmJ3_checkIndex_8e157 E S [.int (nI j), .int (nI n), .ref q] μ (nI j) μ := by
  refine z_metI (cc := cJ3_checkIndex_8e157) (maxL := 3) (ty := .int) (by decide) rfl (Nat.le_of_ble_eq_true rfl) (fun X h ret => ?_)
  show zV X E S 0 0 μ 0 _ []
  refine z_iload_n h dJ3_checkIndex_8e157_0 rfl rfl ?_
  refine z_if_lt h 9 dJ3_checkIndex_8e157_1 (by decide) (fun c => absurd c (nI_pos (by omega))) (fun c => ?_)
  refine z_iload_n h dJ3_checkIndex_8e157_4 rfl rfl ?_
  refine z_iload_n h dJ3_checkIndex_8e157_5 rfl rfl ?_
  refine z_icmp_lt h 16 dJ3_checkIndex_8e157_6 (by decide) (fun c => ?_) (fun c => absurd (nI_lt hj (by omega)) c)
  refine z_iload_n h dJ3_checkIndex_8e157_16 rfl rfl ?_
  exact ret dJ3_checkIndex_8e157_17 rfl

set_option maxHeartbeats 4000000 in
set_option maxRecDepth 100000 in
theorem c_J3_checkN (l : Launch) {E : zE} {S : zS} {μ : zM} {j n : Nat} (hj : j < n) (hn : n < 400) : zI l yJ3_checkIndex_8e157 wsJ3_checkIndex_8e157 rmJ3_checkIndex_8e157 E S [.int (nI j), .int (nI n), .null] μ (nI j) μ := by
  refine z_metI (cc := cJ3_checkIndex_8e157) (maxL := 3) (ty := .int) (by decide) rfl (Nat.le_of_ble_eq_true rfl) (fun X h ret => ?_)
  show zV X E S 0 0 μ 0 _ []
  refine z_iload_n h dJ3_checkIndex_8e157_0 rfl rfl ?_
  refine z_if_lt h 9 dJ3_checkIndex_8e157_1 (by decide) (fun c => absurd c (nI_pos (by omega))) (fun c => ?_)
  refine z_iload_n h dJ3_checkIndex_8e157_4 rfl rfl ?_
  refine z_iload_n h dJ3_checkIndex_8e157_5 rfl rfl ?_
  refine z_icmp_lt h 16 dJ3_checkIndex_8e157_6 (by decide) (fun c => ?_) (fun c => absurd (nI_lt hj (by omega)) c)
  refine z_iload_n h dJ3_checkIndex_8e157_16 rfl rfl ?_
  exact ret dJ3_checkIndex_8e157_17 rfl

set_option maxHeartbeats 4000000 in
set_option maxRecDepth 100000 in
theorem c_J0_check (l : Launch) {E : zE} {S : zS} {μ : zM} {j n : Nat} (hj : j < n) (hn : n < 400) : zN l yJ0_checkIndex_df160 wsJ0_checkIndex_df160 rmJ0_checkIndex_df160 E S [.int (nI j), .int (nI n)] μ μ := by
  refine z_metN (cc := cJ0_checkIndex_df160) (maxL := 2) (by decide) rfl (Nat.le_of_ble_eq_true rfl) (fun X h ret => ?_)
  show zV X E S 0 0 μ 0 _ []
  refine z_iload_n h dJ0_checkIndex_df160_0 rfl rfl ?_
  refine z_iload_n h dJ0_checkIndex_df160_1 rfl rfl ?_
  refine z_gets2 h kf_RJ0_1053 dJ0_checkIndex_df160_2 (fun v hv => ?_)
  rcases hv with rfl | ⟨q, rfl⟩
  · refine z_callSI h (c_J3_checkN l hj hn) (va_cwS 3 h.2.2.2.2.1 gm_RJ0_1059 rfl rfl rfl (by decide +kernel) ⟨by decide, by decide⟩) rfl rfl (Nat.le_of_ble_eq_true rfl) ⟨Nat.zero_le _, Nat.zero_le _⟩ dJ0_checkIndex_df160_5 ?_
    refine z_pop h dJ0_checkIndex_df160_8 rfl ?_
    exact ret dJ0_checkIndex_df160_9
  · refine z_callSI h (c_J3_check l hj hn) (va_cwS 3 h.2.2.2.2.1 gm_RJ0_1059 rfl rfl rfl (by decide +kernel) ⟨by decide, by decide⟩) rfl rfl (Nat.le_of_ble_eq_true rfl) ⟨Nat.zero_le _, Nat.zero_le _⟩ dJ0_checkIndex_df160_5 ?_
    refine z_pop h dJ0_checkIndex_df160_8 rfl ?_
    exact ret dJ0_checkIndex_df160_9

set_option maxHeartbeats 4000000 in
set_option maxRecDepth 100000 in
theorem c_J1_charAt (l : Launch) {E : zE} {S : zS} {μ : zM} {i j : Nat} (hi : i < zlN) (hj : j < (zsb i).length) : zI l yJ1_charAt_3b067 wsJ1_charAt_3b067 rmJ1_charAt_3b067 E S [.ref (E.2.2.2 i), .int (nI j)] μ ((zsb i).getD j 0) μ := by
  refine z_metI (cc := cJ1_charAt_3b067) (maxL := 2) (ty := .char) (by decide) rfl (Nat.le_of_ble_eq_true rfl) (fun X h ret => ?_)
  show zV X E S 0 0 μ 0 _ []
  refine z_iload_n h dJ1_charAt_3b067_0 rfl rfl ?_
  refine z_aload_n h dJ1_charAt_3b067_1 rfl rfl ?_
  refine z_tlen h hi dJ1_charAt_3b067_2 ?_
  refine z_callSN h (c_J0_check l hj (zsb_ok i hi).1) (va_cwS 2 h.2.2.2.2.1 gm_RJ1_9 rfl rfl rfl (by decide +kernel) ⟨by decide, by decide⟩) rfl rfl (Nat.le_of_ble_eq_true rfl) ⟨Nat.zero_le _, Nat.zero_le _⟩ dJ1_charAt_3b067_3 ?_
  refine z_aload_n h dJ1_charAt_3b067_6 rfl rfl ?_
  refine z_iload_n h dJ1_charAt_3b067_7 rfl rfl ?_
  refine z_tald h hi (zix_nI hj (Nat.lt_trans (zsb_ok i hi).1 (by decide))) dJ1_charAt_3b067_8 ?_
  refine z_sipush (v := 255) h dJ1_charAt_3b067_9 (by decide) ?_
  refine z_iand h dJ1_charAt_3b067_12 ?_
  refine z_i2c h dJ1_charAt_3b067_13 ((zsb_ok i hi).2 j hj).1 ?_
  exact ret dJ1_charAt_3b067_14 ((zsb_ok i hi).2 j hj).2

set_option maxHeartbeats 4000000 in
set_option maxRecDepth 100000 in
theorem c_J0_charAt (l : Launch) {E : zE} {S : zS} {μ : zM} {i j : Nat} (hi : i < zlN) (hj : j < (zsb i).length) : zI l yJ0_charAt_5068e wsJ0_charAt_5068e rmJ0_charAt_5068e E S [.ref (E.2.2.1 i), .int (nI j)] μ ((zsb i).getD j 0) μ := by
  refine z_metI (cc := cJ0_charAt_5068e) (maxL := 2) (ty := .char) (by decide) rfl (Nat.le_of_ble_eq_true rfl) (fun X h ret => ?_)
  show zV X E S 0 0 μ 0 _ []
  refine z_aload_n h dJ0_charAt_5068e_0 rfl rfl ?_
  refine z_callTI h hi (c_J0_isLatin1 l hi) gm_RJ0_492 rfl ⟨rfl, rfl⟩ 0 (by decide +kernel) ⟨by decide, by decide⟩ rfl rfl (Nat.le_of_ble_eq_true rfl) ⟨Nat.zero_le _, Nat.zero_le _⟩ dJ0_charAt_5068e_1 ?_
  refine z_if_eq h 16 dJ0_charAt_5068e_4 (by decide) (fun c => absurd c (by decide)) (fun c => ?_)
  refine z_aload_n h dJ0_charAt_5068e_7 rfl rfl ?_
  refine z_getT h hi kf_RJ0_9 dJ0_charAt_5068e_8 ?_
  refine z_iload_n h dJ0_charAt_5068e_11 rfl rfl ?_
  refine z_callSI h (c_J1_charAt l hi hj) (va_cwS 2 h.2.2.2.2.1 gm_RJ0_495 rfl rfl rfl (by decide +kernel) ⟨by decide, by decide⟩) rfl rfl (Nat.le_of_ble_eq_true rfl) ⟨Nat.zero_le _, Nat.zero_le _⟩ dJ0_charAt_5068e_12 ?_
  exact ret dJ0_charAt_5068e_15 ((zsb_ok i hi).2 j hj).2
