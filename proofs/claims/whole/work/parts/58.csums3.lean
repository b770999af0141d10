/-! makeLaws of the class: the walk -/

set_option maxHeartbeats 4000000 in
set_option maxRecDepth 100000 in
theorem c_X4_makeLaws (l : Launch) {E : zE} {S : zS} {I : Nat → Nat → Int32} {J : Nat → Nat → Int64} {R : Nat → Nat → Option Nat} {st pa ak : Nat} {rw : Nat → Nat} (hY : SY S R st pa ak rw) {su lo fl : Nat} {lw rs le g : Nat → Nat} (hU : SU S R su st lo fl lw rs le g) {m na : Nat} (hn : I st 2 = nI m) (hW : WT (fun i w => I (rw i) w) m) (hQ : I st 5 ≠ 0 → I ak 1 = nI na ∧ na < 8 ∧ (I ak 2 = -1 ∨ ∃ nb, nb < 8 ∧ I ak 2 = nI nb)) : zNP l yX4_makeLaws wsX4_makeLaws rmX4_makeLaws E S [.ref su] (I, J, R) (fun ν => ∃ J', ν = (I, J', R) ∧ (∀ q, (∀ i, i < 10 → q ≠ g (40 + i)) → q ≠ g 50 → J' q = J q) ∧ (∀ i, i < m → J' (g (40 + i)) = rowC (J (g (40 + i))) (fun i w => I (rw i) w) m i) ∧ (I st 5 ≠ 0 → J' (g 50) = rwQ (J (g 50)) (fun i w => I (rw i) w) m na (I ak 2) (I ak 3) (I ak 4))) := by
  refine z_metNP (cc := cX4_makeLaws) (maxL := 7) (by decide) rfl (Nat.le_of_ble_eq_true rfl) (fun X h ret => ?_)
  show zV X E S 0 0 (I, J, R) 0 _ []
  obtain ⟨u1, u2, u3, u4, u5, u6, u7, u8, u9, u10, u11, u12, u13, u14, u15, u16, u17, u18, u19, u20⟩ := id hU
  have y1 := hY.1
  generalize hPP : (fun i w => I (rw i) w) = P at *
  have hPe : ∀ i w, I (rw i) w = P i w := fun i w => by rw [← hPP]
  have hPf : (fun i => I (rw i)) = P := hPP
  have hm10 := hW.1
  have A136 : ∀ J1 : Nat → Nat → Int64, (∀ j, j < m → J1 (g (40 + j)) = rowC (J (g (40 + j))) P m j) → (∀ q, (∀ j, j < 10 → q ≠ g (40 + j)) → J1 q = J q) → zV X E S 0 0 (I, J1, R) 136 [(0, .ref su)] [] := by
    intro J1 h1 h3
    have hq50 : J1 (g 50) = J (g 50) := h3 _ (fun j hj => hU.g_ne (by omega) (by omega) (by omega))
    have a50 := hU.A10 (show 50 < 53 by decide)
    by_cases told : I st 5 ≠ 0
    · obtain ⟨t1, t2, t3⟩ := hQ told
      refine z_aload_n h dX4_makeLaws_136 rfl rfl ?_
      refine z_getR h (by assumption) rfl kw4 8 (by decide) rfl (by assumption) kf_RX4_60 dX4_makeLaws_137 ?_
      refine z_iconst (v := 3) h dX4_makeLaws_140 (by decide) ?_
      refine z_callVI h (c_X3_askedN l hY (w := 3) (by decide)) (by assumption) rfl gm_RX4_105 rfl ⟨rfl, rfl⟩ 1 (by decide +kernel) ⟨by decide, by decide⟩ rfl rfl (Nat.le_of_ble_eq_true rfl) ⟨Nat.zero_le _, Nat.zero_le _⟩ dX4_makeLaws_141 ?_
      rw [if_pos told]
      refine z_istore_n h dX4_makeLaws_144 rfl (by decide) ?_
      refine z_aload_n h dX4_makeLaws_145 rfl rfl ?_
      refine z_getR h (by assumption) rfl kw4 8 (by decide) rfl (by assumption) kf_RX4_60 dX4_makeLaws_146 ?_
      refine z_iconst (v := 4) h dX4_makeLaws_149 (by decide) ?_
      refine z_callVI h (c_X3_askedN l hY (w := 4) (by decide)) (by assumption) rfl gm_RX4_105 rfl ⟨rfl, rfl⟩ 1 (by decide +kernel) ⟨by decide, by decide⟩ rfl rfl (Nat.le_of_ble_eq_true rfl) ⟨Nat.zero_le _, Nat.zero_le _⟩ dX4_makeLaws_150 ?_
      rw [if_pos told]
      refine z_istore_n h dX4_makeLaws_153 rfl (by decide) ?_
      refine z_aload_n h dX4_makeLaws_154 rfl rfl ?_
      refine z_getR h (by assumption) rfl kw4 3 (by decide) rfl (by assumption) kf_RX4_27 dX4_makeLaws_155 ?_
      refine z_callSN h (c_X4_startSought l a50) (va_cwS 1 h.2.2.2.2.1 gm_RX4_109 rfl rfl rfl (by decide +kernel) ⟨by decide, by decide⟩) rfl rfl (Nat.le_of_ble_eq_true rfl) ⟨Nat.zero_le _, Nat.zero_le _⟩ dX4_makeLaws_158 ?_
      refine z_aload_n h dX4_makeLaws_161 rfl rfl ?_
      refine z_aload_n h dX4_makeLaws_162 rfl rfl ?_
      refine z_getR h (by assumption) rfl kw4 3 (by decide) rfl (by assumption) kf_RX4_27 dX4_makeLaws_163 ?_
      refine z_iconst (v := -1) h dX4_makeLaws_166 (by decide) ?_
      refine z_aload_n h dX4_makeLaws_167 rfl rfl ?_
      refine z_getR h (by assumption) rfl kw4 8 (by decide) rfl (by assumption) kf_RX4_60 dX4_makeLaws_168 ?_
      refine z_iconst (v := 1) h dX4_makeLaws_171 (by decide) ?_
      refine z_callVI h (c_X3_askedN l hY (w := 1) (by decide)) (by assumption) rfl gm_RX4_105 rfl ⟨rfl, rfl⟩ 1 (by decide +kernel) ⟨by decide, by decide⟩ rfl rfl (Nat.le_of_ble_eq_true rfl) ⟨Nat.zero_le _, Nat.zero_le _⟩ dX4_makeLaws_172 ?_
      rw [if_pos told]
      refine z_iload_n h dX4_makeLaws_175 rfl rfl ?_
      refine z_iload_n h dX4_makeLaws_176 rfl rfl ?_
      rw [t1]
      refine z_callVN h (c_X4_weigh l hY u1 u10 a50 hn hm10 t2) (by assumption) rfl gm_RX4_98 rfl ⟨rfl, rfl⟩ 5 (by decide +kernel) ⟨by decide, by decide⟩ rfl rfl (Nat.le_of_ble_eq_true rfl) ⟨Nat.zero_le _, Nat.zero_le _⟩ dX4_makeLaws_177 ?_
      rw [zr_zr, zr_s, hPf]
      refine z_aload_n h dX4_makeLaws_180 rfl rfl ?_
      refine z_aload_n h dX4_makeLaws_181 rfl rfl ?_
      refine z_getR h (by assumption) rfl kw4 3 (by decide) rfl (by assumption) kf_RX4_27 dX4_makeLaws_182 ?_
      refine z_iconst (v := -1) h dX4_makeLaws_185 (by decide) ?_
      refine z_aload_n h dX4_makeLaws_186 rfl rfl ?_
      refine z_getR h (by assumption) rfl kw4 8 (by decide) rfl (by assumption) kf_RX4_60 dX4_makeLaws_187 ?_
      refine z_iconst (v := 2) h dX4_makeLaws_190 (by decide) ?_
      refine z_callVI h (c_X3_askedN l hY (w := 2) (by decide)) (by assumption) rfl gm_RX4_105 rfl ⟨rfl, rfl⟩ 1 (by decide +kernel) ⟨by decide, by decide⟩ rfl rfl (Nat.le_of_ble_eq_true rfl) ⟨Nat.zero_le _, Nat.zero_le _⟩ dX4_makeLaws_191 ?_
      rw [if_pos told]
      refine z_iload_n h dX4_makeLaws_194 rfl rfl ?_
      refine z_iload_n h dX4_makeLaws_195 rfl rfl ?_
      rcases t3 with t3 | ⟨nb, t3, t4⟩
      · rw [t3]
        refine z_callVN h (c_X4_weigh0 l) (u1) rfl gm_RX4_98 rfl ⟨rfl, rfl⟩ 5 (by decide +kernel) ⟨by decide, by decide⟩ rfl rfl (Nat.le_of_ble_eq_true rfl) ⟨Nat.zero_le _, Nat.zero_le _⟩ dX4_makeLaws_196 ?_
        refine ret ⟨_, rfl, fun q hq1 hq2 => ?_, fun i hi => ?_, fun w => ?_⟩ dX4_makeLaws_199
        · rw [zr_a hq2]; exact h3 q hq1
        · rw [zr_a (hU.g_ne (by omega) (by omega) (by omega))]; exact h1 i hi
        · rw [zr_s, hq50, t3]; rfl
      · rw [t4]
        refine z_callVN h (c_X4_weigh l hY u1 u10 a50 hn hm10 t3) (u1) rfl gm_RX4_98 rfl ⟨rfl, rfl⟩ 5 (by decide +kernel) ⟨by decide, by decide⟩ rfl rfl (Nat.le_of_ble_eq_true rfl) ⟨Nat.zero_le _, Nat.zero_le _⟩ dX4_makeLaws_196 ?_
        rw [zr_zr, zr_s, hPf]
        refine ret ⟨_, rfl, fun q hq1 hq2 => ?_, fun i hi => ?_, fun w => ?_⟩ dX4_makeLaws_199
        · rw [zr_a hq2]; exact h3 q hq1
        · rw [zr_a (hU.g_ne (by omega) (by omega) (by omega))]; exact h1 i hi
        · rw [zr_s, hq50, t4]
          unfold rwQ
          dsimp only
          rw [if_neg (nI_nm1 (show nb < 2 ^ 31 by omega)), nI_clamp (by omega)]
    · have told : I st 5 = 0 := by
        by_cases w : I st 5 = 0
        · exact w
        · exact absurd w told
      refine z_aload_n h dX4_makeLaws_136 rfl rfl ?_
      refine z_getR h (by assumption) rfl kw4 8 (by decide) rfl (by assumption) kf_RX4_60 dX4_makeLaws_137 ?_
      refine z_iconst (v := 3) h dX4_makeLaws_140 (by decide) ?_
      refine z_callVI h (c_X3_askedN l hY (w := 3) (by decide)) (by assumption) rfl gm_RX4_105 rfl ⟨rfl, rfl⟩ 1 (by decide +kernel) ⟨by decide, by decide⟩ rfl rfl (Nat.le_of_ble_eq_true rfl) ⟨Nat.zero_le _, Nat.zero_le _⟩ dX4_makeLaws_141 ?_
      rw [if_neg (fun w => w told)]
      refine z_istore_n h dX4_makeLaws_144 rfl (by decide) ?_
      refine z_aload_n h dX4_makeLaws_145 rfl rfl ?_
      refine z_getR h (by assumption) rfl kw4 8 (by decide) rfl (by assumption) kf_RX4_60 dX4_makeLaws_146 ?_
      refine z_iconst (v := 4) h dX4_makeLaws_149 (by decide) ?_
      refine z_callVI h (c_X3_askedN l hY (w := 4) (by decide)) (by assumption) rfl gm_RX4_105 rfl ⟨rfl, rfl⟩ 1 (by decide +kernel) ⟨by decide, by decide⟩ rfl rfl (Nat.le_of_ble_eq_true rfl) ⟨Nat.zero_le _, Nat.zero_le _⟩ dX4_makeLaws_150 ?_
      rw [if_neg (fun w => w told)]
      refine z_istore_n h dX4_makeLaws_153 rfl (by decide) ?_
      refine z_aload_n h dX4_makeLaws_154 rfl rfl ?_
      refine z_getR h (by assumption) rfl kw4 3 (by decide) rfl (by assumption) kf_RX4_27 dX4_makeLaws_155 ?_
      refine z_callSN h (c_X4_startSought l a50) (va_cwS 1 h.2.2.2.2.1 gm_RX4_109 rfl rfl rfl (by decide +kernel) ⟨by decide, by decide⟩) rfl rfl (Nat.le_of_ble_eq_true rfl) ⟨Nat.zero_le _, Nat.zero_le _⟩ dX4_makeLaws_158 ?_
      refine z_aload_n h dX4_makeLaws_161 rfl rfl ?_
      refine z_aload_n h dX4_makeLaws_162 rfl rfl ?_
      refine z_getR h (by assumption) rfl kw4 3 (by decide) rfl (by assumption) kf_RX4_27 dX4_makeLaws_163 ?_
      refine z_iconst (v := -1) h dX4_makeLaws_166 (by decide) ?_
      refine z_aload_n h dX4_makeLaws_167 rfl rfl ?_
      refine z_getR h (by assumption) rfl kw4 8 (by decide) rfl (by assumption) kf_RX4_60 dX4_makeLaws_168 ?_
      refine z_iconst (v := 1) h dX4_makeLaws_171 (by decide) ?_
      refine z_callVI h (c_X3_askedN l hY (w := 1) (by decide)) (by assumption) rfl gm_RX4_105 rfl ⟨rfl, rfl⟩ 1 (by decide +kernel) ⟨by decide, by decide⟩ rfl rfl (Nat.le_of_ble_eq_true rfl) ⟨Nat.zero_le _, Nat.zero_le _⟩ dX4_makeLaws_172 ?_
      rw [if_neg (fun w => w told)]
      refine z_iload_n h dX4_makeLaws_175 rfl rfl ?_
      refine z_iload_n h dX4_makeLaws_176 rfl rfl ?_
      refine z_callVN h (c_X4_weigh0 l) (by assumption) rfl gm_RX4_98 rfl ⟨rfl, rfl⟩ 5 (by decide +kernel) ⟨by decide, by decide⟩ rfl rfl (Nat.le_of_ble_eq_true rfl) ⟨Nat.zero_le _, Nat.zero_le _⟩ dX4_makeLaws_177 ?_
      refine z_aload_n h dX4_makeLaws_180 rfl rfl ?_
      refine z_aload_n h dX4_makeLaws_181 rfl rfl ?_
      refine z_getR h (by assumption) rfl kw4 3 (by decide) rfl (by assumption) kf_RX4_27 dX4_makeLaws_182 ?_
      refine z_iconst (v := -1) h dX4_makeLaws_185 (by decide) ?_
      refine z_aload_n h dX4_makeLaws_186 rfl rfl ?_
      refine z_getR h (by assumption) rfl kw4 8 (by decide) rfl (by assumption) kf_RX4_60 dX4_makeLaws_187 ?_
      refine z_iconst (v := 2) h dX4_makeLaws_190 (by decide) ?_
      refine z_callVI h (c_X3_askedN l hY (w := 2) (by decide)) (by assumption) rfl gm_RX4_105 rfl ⟨rfl, rfl⟩ 1 (by decide +kernel) ⟨by decide, by decide⟩ rfl rfl (Nat.le_of_ble_eq_true rfl) ⟨Nat.zero_le _, Nat.zero_le _⟩ dX4_makeLaws_191 ?_
      rw [if_neg (fun w => w told)]
      refine z_iload_n h dX4_makeLaws_194 rfl rfl ?_
      refine z_iload_n h dX4_makeLaws_195 rfl rfl ?_
      refine z_callVN h (c_X4_weigh0 l) (by assumption) rfl gm_RX4_98 rfl ⟨rfl, rfl⟩ 5 (by decide +kernel) ⟨by decide, by decide⟩ rfl rfl (Nat.le_of_ble_eq_true rfl) ⟨Nat.zero_le _, Nat.zero_le _⟩ dX4_makeLaws_196 ?_
      refine ret ⟨_, rfl, fun q hq1 hq2 => ?_, fun i hi => ?_, fun w => ?_⟩ dX4_makeLaws_199
      · rw [zr_a hq2]; exact h3 q hq1
      · rw [zr_a (hU.g_ne (by omega) (by omega) (by omega))]; exact h1 i hi
      · exact absurd told w
  have LL : ∀ (d i : Nat) (J1 : Nat → Nat → Int64), i + d = m → (∀ j, j < i → J1 (g (40 + j)) = rowC (J (g (40 + j))) P m j) → (∀ j, i ≤ j → j < 10 → J1 (g (40 + j)) = J (g (40 + j))) → (∀ q, (∀ j, j < 10 → q ≠ g (40 + j)) → J1 q = J q) → zV X E S 0 0 (I, J1, R) 2 [(0, .ref su), (1, .int (nI i))] [] := by
    intro d
    induction d with
    | zero =>
      intro i J1 hi h1 h2 h3
      have e : i = m := by omega
      subst e
      refine z_iload_n h dX4_makeLaws_2 rfl rfl ?_
      refine z_aload_n h dX4_makeLaws_3 rfl rfl ?_
      refine z_getR h (by assumption) rfl kw4 8 (by decide) rfl (by assumption) kf_RX4_60 dX4_makeLaws_4 ?_
      refine z_callVI h (c_X3_size l y1) (by assumption) rfl gm_RX4_85 rfl ⟨rfl, rfl⟩ 0 (by decide +kernel) ⟨by decide, by decide⟩ rfl rfl (Nat.le_of_ble_eq_true rfl) ⟨Nat.zero_le _, Nat.zero_le _⟩ dX4_makeLaws_7 ?_
      rw [hn]
      refine z_icmp_ge h 136 dX4_makeLaws_10 (by decide) (fun c10 => ?_) (fun c10 => ?_)
      · exact z_lk (A136 J1 h1 h3) ⟨rfl, trivial⟩
      · exact absurd (nI_le (Nat.le_refl _) (by omega)) c10
    | succ d ih =>
      intro i J1 hi h1 h2 h3
      have him : i < m := by omega
      obtain ⟨s1, s2, s3⟩ := ws_names (hW.2 i him)
      have ai := hU.A10 (show 40 + i < 53 by omega)
      have ri := u15 i (by omega)
      have hJi := h2 i (Nat.le_refl _) (by omega)
      have NEXT : ∀ J2 : Nat → Nat → Int64, J2 = zr J1 (g (40 + i)) (rowC (J (g (40 + i))) P m i) → zV X E S 0 0 (I, J2, R) 130 [(0, .ref su), (1, .int (nI i))] [] := by
        intro J2 hJ2
        refine z_iinc h dX4_makeLaws_130 rfl (nI_1 i) (by decide) ?_
        refine z_goto h 2 dX4_makeLaws_133 (by decide) ?_
        refine z_lk (ih (i + 1) J2 (by omega) (fun j hj => ?_) (fun j hj hj10 => ?_) (fun q hq => ?_)) ⟨rfl, rfl, trivial⟩
        · rw [hJ2]
          by_cases w : j = i
          · rw [w, zr_s]
          · rw [zr_a (hU.g_ne (by omega) (by omega) (by omega))]; exact h1 j (by omega)
        · rw [hJ2, zr_a (hU.g_ne (by omega) (by omega) (by omega))]; exact h2 j (by omega) hj10
        · rw [hJ2, zr_a (hq i (by omega))]; exact h3 q hq
      refine z_iload_n h dX4_makeLaws_2 rfl rfl ?_
      refine z_aload_n h dX4_makeLaws_3 rfl rfl ?_
      refine z_getR h (by assumption) rfl kw4 8 (by decide) rfl (by assumption) kf_RX4_60 dX4_makeLaws_4 ?_
      refine z_callVI h (c_X3_size l y1) (by assumption) rfl gm_RX4_85 rfl ⟨rfl, rfl⟩ 0 (by decide +kernel) ⟨by decide, by decide⟩ rfl rfl (Nat.le_of_ble_eq_true rfl) ⟨Nat.zero_le _, Nat.zero_le _⟩ dX4_makeLaws_7 ?_
      rw [hn]
      refine z_icmp_ge h 136 dX4_makeLaws_10 (by decide) (fun c10 => ?_) (fun c10 => ?_)
      · exact absurd (nle (by omega) (by omega) c10) (by omega)
      · refine z_iload_n h dX4_makeLaws_13 rfl rfl ?_
        refine z_bipush (v := 10) h dX4_makeLaws_14 (by decide) ?_
        rw [show (10 : Int32) = nI 10 from rfl]
        refine z_icmp_ge h 136 dX4_makeLaws_16 (by decide) (fun c16 => ?_) (fun c16 => ?_)
        · exact absurd (nle (by decide) (by omega) c16) (by omega)
        · refine z_aload_n h dX4_makeLaws_19 rfl rfl ?_
          refine z_getR h (by assumption) rfl kw4 8 (by decide) rfl (by assumption) kf_RX4_60 dX4_makeLaws_20 ?_
          refine z_iload_n h dX4_makeLaws_23 rfl rfl ?_
          refine z_iconst (v := 0) h dX4_makeLaws_24 (by decide) ?_
          refine z_callVI h (c_X3_partN l hY hn hm10 him (w := 0) (by decide)) (by assumption) rfl gm_RX4_91 rfl ⟨rfl, rfl⟩ 2 (by decide +kernel) ⟨by decide, by decide⟩ rfl rfl (Nat.le_of_ble_eq_true rfl) ⟨Nat.zero_le _, Nat.zero_le _⟩ dX4_makeLaws_25 ?_
          rw [hPe]
          refine z_istore_n h dX4_makeLaws_28 rfl (by decide) ?_
          refine z_aload_n h dX4_makeLaws_29 rfl rfl ?_
          refine z_getR h (by assumption) rfl kw4 8 (by decide) rfl (by assumption) kf_RX4_60 dX4_makeLaws_30 ?_
          refine z_iload_n h dX4_makeLaws_33 rfl rfl ?_
          refine z_iconst (v := 3) h dX4_makeLaws_34 (by decide) ?_
          refine z_callVI h (c_X3_partN l hY hn hm10 him (w := 3) (by decide)) (by assumption) rfl gm_RX4_91 rfl ⟨rfl, rfl⟩ 2 (by decide +kernel) ⟨by decide, by decide⟩ rfl rfl (Nat.le_of_ble_eq_true rfl) ⟨Nat.zero_le _, Nat.zero_le _⟩ dX4_makeLaws_35 ?_
          rw [hPe]
          refine z_istore_n h dX4_makeLaws_38 rfl (by decide) ?_
          refine z_aload_n h dX4_makeLaws_39 rfl rfl ?_
          refine z_getR h (by assumption) rfl kw4 8 (by decide) rfl (by assumption) kf_RX4_60 dX4_makeLaws_40 ?_
          refine z_iload_n h dX4_makeLaws_43 rfl rfl ?_
          refine z_iconst (v := 4) h dX4_makeLaws_44 (by decide) ?_
          refine z_callVI h (c_X3_partN l hY hn hm10 him (w := 4) (by decide)) (by assumption) rfl gm_RX4_91 rfl ⟨rfl, rfl⟩ 2 (by decide +kernel) ⟨by decide, by decide⟩ rfl rfl (Nat.le_of_ble_eq_true rfl) ⟨Nat.zero_le _, Nat.zero_le _⟩ dX4_makeLaws_45 ?_
          rw [hPe]
          refine z_istore h dX4_makeLaws_48 (by decide) ?_
          refine z_aload_n h dX4_makeLaws_50 rfl rfl ?_
          refine z_getR h (by assumption) rfl kw4 8 (by decide) rfl (by assumption) kf_RX4_60 dX4_makeLaws_51 ?_
          refine z_iload_n h dX4_makeLaws_54 rfl rfl ?_
          refine z_iconst (v := 5) h dX4_makeLaws_55 (by decide) ?_
          refine z_callVI h (c_X3_partN l hY hn hm10 him (w := 5) (by decide)) (by assumption) rfl gm_RX4_91 rfl ⟨rfl, rfl⟩ 2 (by decide +kernel) ⟨by decide, by decide⟩ rfl rfl (Nat.le_of_ble_eq_true rfl) ⟨Nat.zero_le _, Nat.zero_le _⟩ dX4_makeLaws_56 ?_
          rw [hPe]
          refine z_istore h dX4_makeLaws_59 (by decide) ?_
          refine z_aload_n h dX4_makeLaws_61 rfl rfl ?_
          refine z_getR h (by assumption) rfl kw4 2 (by decide) rfl (by assumption) kf_RX4_24 dX4_makeLaws_62 ?_
          refine z_iload_n h dX4_makeLaws_65 rfl rfl ?_
          refine z_aaldJ h (by assumption) (zix_nI (by omega) (by decide)) (ri) dX4_makeLaws_66 ?_
          refine z_astore h dX4_makeLaws_67 (by decide) ?_
          refine z_aload h dX4_makeLaws_69 rfl ?_
          refine z_lconst (v := 0) h dX4_makeLaws_71 (by decide) ?_
          refine z_callSN h (c_J7_fill l ai (by decide)) (va_cwS 2 h.2.2.2.2.1 gm_RX4_67 rfl rfl rfl (by decide +kernel) ⟨by decide, by decide⟩) rfl rfl (Nat.le_of_ble_eq_true rfl) ⟨Nat.zero_le _, Nat.zero_le _⟩ dX4_makeLaws_72 ?_
          refine z_aload h dX4_makeLaws_75 rfl ?_
          refine z_bipush (v := 9) h dX4_makeLaws_77 (by decide) ?_
          refine z_iload_n h dX4_makeLaws_79 rfl rfl ?_
          refine z_iload h dX4_makeLaws_80 rfl ?_
          refine z_callSI h (c_X4_madeBy l) (va_cwS 2 h.2.2.2.2.1 gm_RX4_95 rfl rfl rfl (by decide +kernel) ⟨by decide, by decide⟩) rfl rfl (Nat.le_of_ble_eq_true rfl) ⟨Nat.zero_le _, Nat.zero_le _⟩ dX4_makeLaws_82 ?_
          refine z_i2l h dX4_makeLaws_85 rfl ?_
          rw [show (9 : Int32) = nI 9 from rfl]
          refine z_last h (by assumption) (zix_nI (by decide) (by decide)) dX4_makeLaws_86 ?_
          rw [zu_zr, hJi]
          refine z_aload_n h dX4_makeLaws_87 rfl rfl ?_
          refine z_aload h dX4_makeLaws_88 rfl ?_
          refine z_iconst (v := 1) h dX4_makeLaws_90 (by decide) ?_
          refine z_aload_n h dX4_makeLaws_91 rfl rfl ?_
          refine z_getR h (by assumption) rfl kw4 8 (by decide) rfl (by assumption) kf_RX4_60 dX4_makeLaws_92 ?_
          refine z_iload_n h dX4_makeLaws_95 rfl rfl ?_
          refine z_iconst (v := 1) h dX4_makeLaws_96 (by decide) ?_
          refine z_callVI h (c_X3_partN l hY hn hm10 him (w := 1) (by decide)) (by assumption) rfl gm_RX4_91 rfl ⟨rfl, rfl⟩ 2 (by decide +kernel) ⟨by decide, by decide⟩ rfl rfl (Nat.le_of_ble_eq_true rfl) ⟨Nat.zero_le _, Nat.zero_le _⟩ dX4_makeLaws_97 ?_
          rw [hPe]
          refine z_iload_n h dX4_makeLaws_100 rfl rfl ?_
          refine z_iload h dX4_makeLaws_101 rfl ?_
          rw [s1]
          refine z_callVN h (c_X4_weigh l hY u1 u10 ai hn hm10 s2) (by assumption) rfl gm_RX4_98 rfl ⟨rfl, rfl⟩ 5 (by decide +kernel) ⟨by decide, by decide⟩ rfl rfl (Nat.le_of_ble_eq_true rfl) ⟨Nat.zero_le _, Nat.zero_le _⟩ dX4_makeLaws_103 ?_
          rw [zr_zr, zr_s, hPf, ← s1]
          refine z_aload_n h dX4_makeLaws_106 rfl rfl ?_
          refine z_aload h dX4_makeLaws_107 rfl ?_
          refine z_iload_n h dX4_makeLaws_109 rfl rfl ?_
          refine z_iload h dX4_makeLaws_110 rfl ?_
          refine z_callSI h (c_X4_secondWeight l) (va_cwS 2 h.2.2.2.2.1 gm_RX4_102 rfl rfl rfl (by decide +kernel) ⟨by decide, by decide⟩) rfl rfl (Nat.le_of_ble_eq_true rfl) ⟨Nat.zero_le _, Nat.zero_le _⟩ dX4_makeLaws_112 ?_
          refine z_aload_n h dX4_makeLaws_115 rfl rfl ?_
          refine z_getR h (by assumption) rfl kw4 8 (by decide) rfl (by assumption) kf_RX4_60 dX4_makeLaws_116 ?_
          refine z_iload_n h dX4_makeLaws_119 rfl rfl ?_
          refine z_iconst (v := 2) h dX4_makeLaws_120 (by decide) ?_
          refine z_callVI h (c_X3_partN l hY hn hm10 him (w := 2) (by decide)) (by assumption) rfl gm_RX4_91 rfl ⟨rfl, rfl⟩ 2 (by decide +kernel) ⟨by decide, by decide⟩ rfl rfl (Nat.le_of_ble_eq_true rfl) ⟨Nat.zero_le _, Nat.zero_le _⟩ dX4_makeLaws_121 ?_
          rw [hPe]
          refine z_iload_n h dX4_makeLaws_124 rfl rfl ?_
          refine z_iload h dX4_makeLaws_125 rfl ?_
          by_cases q2 : P i 2 = -1
          · rw [q2]
            refine z_callVN h (c_X4_weigh0 l) (u1) rfl gm_RX4_98 rfl ⟨rfl, rfl⟩ 5 (by decide +kernel) ⟨by decide, by decide⟩ rfl rfl (Nat.le_of_ble_eq_true rfl) ⟨Nat.zero_le _, Nat.zero_le _⟩ dX4_makeLaws_127 ?_
            refine z_lk (NEXT _ ?_) ⟨rfl, rfl, trivial⟩
            unfold rowC
            dsimp only
            rw [if_pos q2]
          · obtain ⟨s4, s5⟩ := s3 q2
            rw [s4]
            refine z_callVN h (c_X4_weigh l hY u1 u10 ai hn hm10 s5) (u1) rfl gm_RX4_98 rfl ⟨rfl, rfl⟩ 5 (by decide +kernel) ⟨by decide, by decide⟩ rfl rfl (Nat.le_of_ble_eq_true rfl) ⟨Nat.zero_le _, Nat.zero_le _⟩ dX4_makeLaws_127 ?_
            rw [zr_zr, zr_s, hPf, ← s4]
            refine z_lk (NEXT _ ?_) ⟨rfl, rfl, trivial⟩
            unfold rowC
            dsimp only
            rw [if_neg q2]
  refine z_iconst (v := 0) h dX4_makeLaws_0 (by decide) ?_
  refine z_istore_n h dX4_makeLaws_1 rfl (by decide) ?_
  exact z_lk (LL m 0 J (by omega) (fun j hj => absurd hj (by omega)) (fun _ _ _ => rfl) (fun _ _ => rfl)) ⟨rfl, rfl, trivial⟩
