/-! settleAmounts, settleAnswer, solve -/
theorem e10_ask {n : Nat} (hn : n < 8) (f : Nat → Int64) : e10 (fun k => if k = n then -1 else if k = 8 then 1 else if k < 10 then 0 else f k) = sft (qrow n none) 0 := by
  rw [sft_q0 hn]
  funext k
  unfold e10 gr
  dsimp only
  by_cases hk : k < 10
  · rw [if_pos hk]
    by_cases q : k = n
    · rw [if_pos q, if_pos q, if_pos q, if_neg (show ¬ k = 8 by omega), if_neg (show ¬ k = 9 by omega)]; decide
    · rw [if_neg q, if_neg q, if_neg q]
      by_cases q8 : k = 8
      · rw [if_pos q8, if_pos q8, if_neg (show ¬ k = 9 by omega)]; decide
      · rw [if_neg q8, if_neg q8, if_pos hk]; split <;> decide
  · rw [if_neg hk, if_neg (show ¬ k = n by omega), if_neg (show ¬ k = n by omega), if_neg (show ¬ k = 8 by omega), if_neg (show ¬ k = 9 by omega)]; rfl
/-- the row of what a name has, reduced by all facts of its unit -/
def rhoA (p : Nat → Nat → Int32) (m u n : Nat) : Nat → Int := redu (gth p m (nI u) aT m).1 (qrow n none)
theorem redu_80 {k : Int} {es : List (Nat × (Nat → Int))} (h : RI k es) {f : Nat → Int} (hf8 : f 8 = 1) : redu es f 8 ≠ 0 := by
  have : ∀ (es : List (Nat × (Nat → Int))) (f : Nat → Int), f 8 ≠ 0 → (∀ q ∈ es, q.2 8 = 0 ∧ q.2 q.1 ≠ 0) → redu es f 8 ≠ 0 := by
    intro es
    induction es with
    | nil => intro f hf _; exact hf
    | cons q es ih => intro f hf hq; exact ih _ (el_8 hf (hq q List.mem_cons_self).1 (hq q List.mem_cons_self).2) (fun p hp => hq p (List.mem_cons_of_mem _ hp))
  exact this es f (by rw [hf8]; decide) (fun q hq => ⟨(h.2.1 q hq).2.2, ech_lead h.1 q hq⟩)

set_option maxHeartbeats 4000000 in
set_option maxRecDepth 100000 in
theorem c_X4_settleAmounts (l : Launch) {E : zE} {S : zS} {I : Nat → Nat → Int32} {J : Nat → Nat → Int64} {R : Nat → Nat → Option Nat} {st su lo fl : Nat} {lw rs le g : Nat → Nat} (hU : SU S R su st lo fl lw rs le g) {p : Nat → Nat → Int32} {m : Nat} (hW : WT p m) (hC : ∀ u, u < 4 → CI (gth p m (nI u) aT m).1 (fun j k => J (g (8 * u + j)) k) (I (le u))) : zNP l yX4_settleAmounts wsX4_settleAmounts rmX4_settleAmounts E S [.ref su] (I, J, R) (fun ν => ∃ J', ν = (I, J', R) ∧ (∀ q, q ≠ g 51 → q ≠ g 53 → q ≠ g 54 → J' q = J q) ∧ (∀ v k, v < 4 → k < 8 → (sd (rhoA p m v k) = true → (J' (g 53) (8 * v + k)).toInt = val 0 (rhoA p m v k) 0 ∧ (J' (g 54) (8 * v + k)).toInt = val 1 (rhoA p m v k) 0) ∧ (sd (rhoA p m v k) = false → J' (g 54) (8 * v + k) = J (g 54) (8 * v + k)))) := by
  refine z_metNP (cc := cX4_settleAmounts) (maxL := 3) (by decide) rfl (Nat.le_of_ble_eq_true rfl) (fun X h ret => ?_)
  show zV X E S 0 0 (I, J, R) 0 _ []
  obtain ⟨u1, u2, u3, u4, u5, u6, u7, u8, u9, u10, u11, u12, u13, u14, u15, u16, u17, u18, u19, u20⟩ := id hU
  have a51 := hU.A10 (show 51 < 53 by decide)
  have hK := kk_KC (p := p) hW.1
  obtain ⟨hk0, hk1⟩ := kc_le hK
  have LU : ∀ (d u : Nat) (J1 : Nat → Nat → Int64), u + d = 4 → (∀ q, q ≠ g 51 → q ≠ g 53 → q ≠ g 54 → J1 q = J q) → (∀ v k, v < 4 → k < 8 → (8 * v + k < 8 * u + 0 → (sd (rhoA p m v k) = true → (J1 (g 53) (8 * v + k)).toInt = val 0 (rhoA p m v k) 0 ∧ (J1 (g 54) (8 * v + k)).toInt = val 1 (rhoA p m v k) 0) ∧ (sd (rhoA p m v k) = false → J1 (g 54) (8 * v + k) = J (g 54) (8 * v + k))) ∧ (8 * u + 0 ≤ 8 * v + k → J1 (g 54) (8 * v + k) = J (g 54) (8 * v + k))) → zV X E S 0 0 (I, J1, R) 2 [(0, .ref su), (1, .int (nI u))] [] := by
    intro d
    induction d with
    | zero =>
      intro u J1 hu f1 f2
      have e : u = 4 := by omega
      subst e
      refine z_iload_n h dX4_settleAmounts_2 rfl rfl ?_
      refine z_iconst (v := 4) h dX4_settleAmounts_3 (by decide) ?_
      rw [show (4 : Int32) = nI 4 from rfl]
      refine z_icmp_ge h 103 dX4_settleAmounts_4 (by decide) (fun c4 => ?_) (fun c4 => ?_)
      · exact ret ⟨J1, rfl, f1, fun v k hv hk => (f2 v k hv hk).1 (by omega)⟩ dX4_settleAmounts_103
      · exact absurd (nI_le (by decide) (by decide)) c4
    | succ d ihU =>
      intro u J0 hu0 g1 g2
      have hu : u < 4 := by omega
      have LN : ∀ (d n : Nat) (J1 : Nat → Nat → Int64), n + d = 8 → (∀ q, q ≠ g 51 → q ≠ g 53 → q ≠ g 54 → J1 q = J q) → (∀ v k, v < 4 → k < 8 → (8 * v + k < 8 * u + n → (sd (rhoA p m v k) = true → (J1 (g 53) (8 * v + k)).toInt = val 0 (rhoA p m v k) 0 ∧ (J1 (g 54) (8 * v + k)).toInt = val 1 (rhoA p m v k) 0) ∧ (sd (rhoA p m v k) = false → J1 (g 54) (8 * v + k) = J (g 54) (8 * v + k))) ∧ (8 * u + n ≤ 8 * v + k → J1 (g 54) (8 * v + k) = J (g 54) (8 * v + k))) → zV X E S 0 0 (I, J1, R) 9 [(0, .ref su), (1, .int (nI u)), (2, .int (nI n))] [] := by
        intro d
        induction d with
        | zero =>
          intro n J1 hn f1 f2
          have e : n = 8 := by omega
          subst e
          refine z_iload_n h dX4_settleAmounts_9 rfl rfl ?_
          refine z_bipush (v := 8) h dX4_settleAmounts_10 (by decide) ?_
          rw [show (8 : Int32) = nI 8 from rfl]
          refine z_icmp_ge h 97 dX4_settleAmounts_12 (by decide) (fun c12 => ?_) (fun c12 => ?_)
          · refine z_iinc h dX4_settleAmounts_97 rfl (nI_1 u) (by decide) ?_
            refine z_goto h 2 dX4_settleAmounts_100 (by decide) ?_
            exact z_lk (ihU (u + 1) J1 (by omega) f1 (fun v k hv hk => ⟨fun w => (f2 v k hv hk).1 (by omega), fun w => (f2 v k hv hk).2 (by omega)⟩)) ⟨rfl, rfl, trivial⟩
          · exact absurd (nI_le (by decide) (by decide)) c12
        | succ d ihN =>
          intro n J1 hn f1 f2
          refine z_iload_n h dX4_settleAmounts_9 rfl rfl ?_
          refine z_bipush (v := 8) h dX4_settleAmounts_10 (by decide) ?_
          rw [show (8 : Int32) = nI 8 from rfl]
          refine z_icmp_ge h 97 dX4_settleAmounts_12 (by decide) (fun c12 => ?_) (fun c12 => ?_)
          · exact absurd (nle (by decide) (by omega) c12) (by omega)
          · refine z_aload_n h dX4_settleAmounts_15 rfl rfl ?_
            refine z_getR h (by assumption) rfl kw4 4 (by decide) rfl (by assumption) kf_RX4_31 dX4_settleAmounts_16 ?_
            refine z_callSN h (c_X4_startSought l a51) (va_cwS 1 h.2.2.2.2.1 gm_RX4_109 rfl rfl rfl (by decide +kernel) ⟨by decide, by decide⟩) rfl rfl (Nat.le_of_ble_eq_true rfl) ⟨Nat.zero_le _, Nat.zero_le _⟩ dX4_settleAmounts_19 ?_
            refine z_aload_n h dX4_settleAmounts_22 rfl rfl ?_
            refine z_getR h (by assumption) rfl kw4 4 (by decide) rfl (by assumption) kf_RX4_31 dX4_settleAmounts_23 ?_
            refine z_iload_n h dX4_settleAmounts_26 rfl rfl ?_
            refine z_ldc2 (v := -1) h (by decide +kernel) dX4_settleAmounts_27 ?_
            refine z_last h (by assumption) (zix_nI (by omega) (by decide)) dX4_settleAmounts_30 ?_
            rw [zu_zr]
            have ee := e10_ask (show n < 8 by omega) (J1 (g 51))
            generalize hr0 : (fun j => if j = n then (-1 : Int64) else if j = 8 then 1 else if j < 10 then 0 else J1 (g 51) j) = r0 at *
            refine z_aload_n h dX4_settleAmounts_31 rfl rfl ?_
            refine z_getR h (by assumption) rfl kw4 0 (by decide) rfl (by assumption) kf_RX4_11 dX4_settleAmounts_32 ?_
            refine z_iload_n h dX4_settleAmounts_35 rfl rfl ?_
            refine z_aaldL h (by assumption) (zix_nI hu (by decide)) (u12 u hu) dX4_settleAmounts_36 ?_
            refine z_aload_n h dX4_settleAmounts_37 rfl rfl ?_
            refine z_getR h (by assumption) rfl kw4 4 (by decide) rfl (by assumption) kf_RX4_31 dX4_settleAmounts_38 ?_
            refine z_callVN h (c_X1_reduce l (u13 u (by omega)) a51 (fun j hj => hU.g_ne (by omega) (by omega) (by omega))) ((u13 u (by omega)).1) rfl gm_RX4_139 rfl ⟨rfl, rfl⟩ 1 (by decide +kernel) ⟨by decide, by decide⟩ rfl rfl (Nat.le_of_ble_eq_true rfl) ⟨Nat.zero_le _, Nat.zero_le _⟩ dX4_settleAmounts_41 ?_
            rw [zr_zr, zr_s]
            have hri := (gth_ri hW (nI u) aT m (Nat.le_refl _)).1
            have hCu : CI (gth p m (nI u) aT m).1 (fun j k => zr J1 (g 51) r0 (g (8 * u + j)) k) (I (le u)) := ci_congr (hC u hu) (fun j hj => by congr 1; funext k; rw [zr_a (hU.g_ne (by omega) (by omega) (by omega)), f1 _ (hU.g_ne (by omega) (by omega) (by omega)) (hU.g_ne (by omega) (by omega) (by omega)) (hU.g_ne (by omega) (by omega) (by omega))]) (fun _ _ => rfl)
            have hask := c_ask (ob := none) hk0 hk1 hri hCu (show n < 8 by omega) (fun nb w => nomatch w) (by decide) ee
            obtain ⟨w1, w2, w3, w4⟩ := c_ask2 (redu_80 hri (qrow_8 (ob := none) (show n < 8 by omega) (fun nb w => nomatch w))) hask
            generalize rdC (fun j k => zr J1 (g 51) r0 (g (8 * u + j)) k) (I (le u)) r0 8 = rr at *
            refine z_aload_n h dX4_settleAmounts_44 rfl rfl ?_
            refine z_getR h (by assumption) rfl kw4 4 (by decide) rfl (by assumption) kf_RX4_31 dX4_settleAmounts_45 ?_
            refine z_callSI h (c_X1_firstName l a51) (va_cwS 1 h.2.2.2.2.1 gm_RX4_142 rfl rfl rfl (by decide +kernel) ⟨by decide, by decide⟩) rfl rfl (Nat.le_of_ble_eq_true rfl) ⟨Nat.zero_le _, Nat.zero_le _⟩ dX4_settleAmounts_48 ?_
            rw [zr_s]
            refine z_iconst (v := -1) h dX4_settleAmounts_51 (by decide) ?_
            refine z_icmp_ne h 91 dX4_settleAmounts_52 (by decide) (fun c52 => ?_) (fun c52 => ?_)
            · refine z_iinc h dX4_settleAmounts_91 rfl (nI_1 n) (by decide) ?_
              refine z_goto h 9 dX4_settleAmounts_94 (by decide) ?_
              refine z_lk (ihN (n + 1) _ (by omega) (fun q h1 h2 h3 => (zr_a h1).trans (f1 q h1 h2 h3)) (fun v k hv hk => ?_)) ⟨rfl, rfl, rfl, trivial⟩
              rw [zr_a (hU.g_ne (by omega) (by omega) (by omega)), zr_a (hU.g_ne (by omega) (by omega) (by omega))]
              refine ⟨fun hlt => ?_, fun hge => (f2 v k hv hk).2 (by omega)⟩
              by_cases w : 8 * v + k < 8 * u + n
              · exact (f2 v k hv hk).1 w
              · have hvu : v = u := by omega
                have hkn : k = n := by omega
                subst hvu
                subst hkn
                refine ⟨fun hsd => absurd (w1.mpr hsd) c52, fun _ => (f2 v k hv hk).2 (by omega)⟩
            · refine z_aload_n h dX4_settleAmounts_55 rfl rfl ?_
              refine z_getR h (by assumption) rfl kw4 6 (by decide) rfl (by assumption) kf_RX4_37 dX4_settleAmounts_56 ?_
              refine z_iload_n h dX4_settleAmounts_59 rfl rfl ?_
              refine z_bipush (v := 8) h dX4_settleAmounts_60 (by decide) ?_
              rw [show (8 : Int32) = nI 8 from rfl]
              refine z_imul h dX4_settleAmounts_62 ?_
              refine z_iload_n h dX4_settleAmounts_63 rfl rfl ?_
              rw [pk_mul, Nat.mul_comm u 8]
              refine z_iadd h dX4_settleAmounts_64 ?_
              rw [nI_add]
              refine z_aload_n h dX4_settleAmounts_65 rfl rfl ?_
              refine z_getR h (by assumption) rfl kw4 4 (by decide) rfl (by assumption) kf_RX4_31 dX4_settleAmounts_66 ?_
              refine z_bipush (v := 9) h dX4_settleAmounts_69 (by decide) ?_
              rw [show (9 : Int32) = nI 9 from rfl]
              refine z_lald h (by assumption) (zix_nI (by decide) (by decide)) dX4_settleAmounts_71 ?_
              rw [zr_sk]
              refine z_last h (by assumption) (zix_nI (by omega) (by decide)) dX4_settleAmounts_72 ?_
              refine z_aload_n h dX4_settleAmounts_73 rfl rfl ?_
              refine z_getR h (by assumption) rfl kw4 7 (by decide) rfl (by assumption) kf_RX4_40 dX4_settleAmounts_74 ?_
              refine z_iload_n h dX4_settleAmounts_77 rfl rfl ?_
              refine z_bipush (v := 8) h dX4_settleAmounts_78 (by decide) ?_
              rw [show (8 : Int32) = nI 8 from rfl]
              refine z_imul h dX4_settleAmounts_80 ?_
              refine z_iload_n h dX4_settleAmounts_81 rfl rfl ?_
              rw [pk_mul, Nat.mul_comm u 8]
              refine z_iadd h dX4_settleAmounts_82 ?_
              rw [nI_add]
              refine z_aload_n h dX4_settleAmounts_83 rfl rfl ?_
              refine z_getR h (by assumption) rfl kw4 4 (by decide) rfl (by assumption) kf_RX4_31 dX4_settleAmounts_84 ?_
              refine z_bipush (v := 8) h dX4_settleAmounts_87 (by decide) ?_
              rw [show (8 : Int32) = nI 8 from rfl]
              refine z_lald h (by assumption) (zix_nI (by decide) (by decide)) dX4_settleAmounts_89 ?_
              rw [zu_a (hU.g_ne (by omega) (by omega) (by omega)), zr_sk]
              refine z_last h (by assumption) (zix_nI (by omega) (by decide)) dX4_settleAmounts_90 ?_
              refine z_iinc h dX4_settleAmounts_91 rfl (nI_1 n) (by decide) ?_
              refine z_goto h 9 dX4_settleAmounts_94 (by decide) ?_
              refine z_lk (ihN (n + 1) _ (by omega) (fun q h1 h2 h3 => by rw [zu_o h3, zu_o h2, zr_a h1]; exact f1 q h1 h2 h3) (fun v k hv hk => ?_)) ⟨rfl, rfl, rfl, trivial⟩
              have n53 : g 53 ≠ g 54 := hU.g_ne (by omega) (by omega) (by omega)
              refine ⟨fun hlt => ?_, fun hge => ?_⟩
              · by_cases w : 8 * v + k < 8 * u + n
                · rw [zu_a n53, zu_k (by omega), zr_ak (hU.g_ne (by omega) (by omega) (by omega)), zu_k (by omega), zu_a (Ne.symm n53), zr_ak (hU.g_ne (by omega) (by omega) (by omega))]
                  exact (f2 v k hv hk).1 w
                · have hvu : v = u := by omega
                  have hkn : k = n := by omega
                  subst hvu
                  subst hkn
                  refine ⟨fun _ => ?_, fun hsd => ?_⟩
                  · rw [zu_a n53, zu_s, zu_s]
                    exact ⟨w2, w3⟩
                  · have := w1.mp c52
                    rw [show redu (gth p m (nI v) aT m).1 (qrow k none) = rhoA p m v k from rfl, hsd] at this
                    exact absurd this (by decide)
              · rw [zu_k (by omega), zu_a (Ne.symm n53), zr_ak (hU.g_ne (by omega) (by omega) (by omega))]
                exact (f2 v k hv hk).2 (by omega)
      refine z_iload_n h dX4_settleAmounts_2 rfl rfl ?_
      refine z_iconst (v := 4) h dX4_settleAmounts_3 (by decide) ?_
      rw [show (4 : Int32) = nI 4 from rfl]
      refine z_icmp_ge h 103 dX4_settleAmounts_4 (by decide) (fun c4 => ?_) (fun c4 => ?_)
      · exact absurd (nle (by decide) (by omega) c4) (by omega)
      · refine z_iconst (v := 0) h dX4_settleAmounts_7 (by decide) ?_
        refine z_istore_n h dX4_settleAmounts_8 rfl (by decide) ?_
        exact z_lk (LN 8 0 J0 rfl g1 g2) ⟨rfl, rfl, rfl, trivial⟩
  refine z_iconst (v := 0) h dX4_settleAmounts_0 (by decide) ?_
  refine z_istore_n h dX4_settleAmounts_1 rfl (by decide) ?_
  exact z_lk (LU 4 0 J rfl (fun _ _ _ _ => rfl) (fun v k hv hk => ⟨fun w => absurd w (by omega), fun _ => rfl⟩)) ⟨rfl, rfl, trivial⟩

set_option maxHeartbeats 4000000 in
set_option maxRecDepth 100000 in
theorem c_X4_settleAnswer (l : Launch) {E : zE} {S : zS} {I : Nat → Nat → Int32} {J : Nat → Nat → Int64} {R : Nat → Nat → Option Nat} {st pa ak : Nat} {rw : Nat → Nat} (hY : SY S R st pa ak rw) {su lo fl : Nat} {lw rs le g : Nat → Nat} (hU : SU S R su st lo fl lw rs le g) {p : Nat → Nat → Int32} {m : Nat} (hW : WT p m) (hC : ∀ u, u < 4 → CI (gth p m (nI u) aT m).1 (fun j k => J (g (8 * u + j)) k) (I (le u))) {u na : Nat} {ob : Option Nat} {G : Int} (hQ : I st 5 ≠ 0 → I ak 3 = nI u ∧ u < 4 ∧ na < 8 ∧ (∀ nb, ob = some nb → nb < 8 ∧ nb ≠ na) ∧ ab G ≤ 1000000 ∧ e10 (J (g 50)) = sft (qrow na ob) G) : zNP l yX4_settleAnswer wsX4_settleAnswer rmX4_settleAnswer E S [.ref su] (I, J, R) (fun ν => ∃ J', ν = (I, J', R) ∧ (∀ q, q ≠ g 51 → q ≠ su → J' q = J q) ∧ (I st 5 ≠ 0 → (sd (redu (gth p m (nI u) aT m).1 (qrow na ob)) = true → (J' su 10).toInt = val 0 (redu (gth p m (nI u) aT m).1 (qrow na ob)) G ∧ (J' su 11).toInt = val 1 (redu (gth p m (nI u) aT m).1 (qrow na ob)) G) ∧ (sd (redu (gth p m (nI u) aT m).1 (qrow na ob)) = false → J' su 10 = J su 10 ∧ J' su 11 = J su 11)) ∧ (I st 5 = 0 → J' = J)) := by
  refine z_metNP (cc := cX4_settleAnswer) (maxL := 2) (by decide) rfl (Nat.le_of_ble_eq_true rfl) (fun X h ret => ?_)
  show zV X E S 0 0 (I, J, R) 0 _ []
  obtain ⟨u1, u2, u3, u4, u5, u6, u7, u8, u9, u10, u11, u12, u13, u14, u15, u16, u17, u18, u19, u20⟩ := id hU
  have y1 := hY.1
  have a50 := hU.A10 (show 50 < 53 by decide)
  have a51 := hU.A10 (show 51 < 53 by decide)
  have hK := kk_KC (p := p) hW.1
  obtain ⟨hk0, hk1⟩ := kc_le hK
  have hsu51 : g 51 ≠ su := hU.sug (by decide)
  by_cases told : I st 5 ≠ 0
  · obtain ⟨t1, t2, t3, t4, t5, t6⟩ := hQ told
    refine z_aload_n h dX4_settleAnswer_0 rfl rfl ?_
    refine z_getR h (by assumption) rfl kw4 8 (by decide) rfl (by assumption) kf_RX4_60 dX4_settleAnswer_1 ?_
    refine z_iconst (v := 3) h dX4_settleAnswer_4 (by decide) ?_
    refine z_callVI h (c_X3_askedN l hY (w := 3) (by decide)) (by assumption) rfl gm_RX4_105 rfl ⟨rfl, rfl⟩ 1 (by decide +kernel) ⟨by decide, by decide⟩ rfl rfl (Nat.le_of_ble_eq_true rfl) ⟨Nat.zero_le _, Nat.zero_le _⟩ dX4_settleAnswer_5 ?_
    rw [if_pos told, t1]
    refine z_istore_n h dX4_settleAnswer_8 rfl (by decide) ?_
    refine z_iload_n h dX4_settleAnswer_9 rfl rfl ?_
    refine z_if_lt h 18 dX4_settleAnswer_10 (by decide) (fun c10 => ?_) (fun c10 => ?_)
    · exact absurd c10 (nI_pos (by omega))
    · refine z_iload_n h dX4_settleAnswer_13 rfl rfl ?_
      refine z_iconst (v := 4) h dX4_settleAnswer_14 (by decide) ?_
      rw [show (4 : Int32) = nI 4 from rfl]
      refine z_icmp_lt h 19 dX4_settleAnswer_15 (by decide) (fun c15 => ?_) (fun c15 => ?_)
      · refine z_aload_n h dX4_settleAnswer_19 rfl rfl ?_
        refine z_getR h (by assumption) rfl kw4 3 (by decide) rfl (by assumption) kf_RX4_27 dX4_settleAnswer_20 ?_
        refine z_iconst (v := 0) h dX4_settleAnswer_23 (by decide) ?_
        refine z_aload_n h dX4_settleAnswer_24 rfl rfl ?_
        refine z_getR h (by assumption) rfl kw4 4 (by decide) rfl (by assumption) kf_RX4_31 dX4_settleAnswer_25 ?_
        refine z_iconst (v := 0) h dX4_settleAnswer_28 (by decide) ?_
        refine z_bipush (v := 10) h dX4_settleAnswer_29 (by decide) ?_
        refine z_copyl h kar_4 kar_s kar_i kar_n a50 a51 (N := 10) rfl (by decide) (by decide) (by decide) (by decide) (by decide) dX4_settleAnswer_31 ?_
        have hrow : e10 (fun j => if j < 10 then J (g 50) j else J (g 51) j) = sft (qrow na ob) G := by
          rw [← t6]
          funext k
          by_cases q : k < 10
          · rw [e10_n q, e10_n q, if_pos q]
          · rw [e10_o q, e10_o q]
        generalize hr0 : (fun j => if j < 10 then J (g 50) j else J (g 51) j) = r0 at *
        refine z_aload_n h dX4_settleAnswer_34 rfl rfl ?_
        refine z_getR h (by assumption) rfl kw4 0 (by decide) rfl (by assumption) kf_RX4_11 dX4_settleAnswer_35 ?_
        refine z_iload_n h dX4_settleAnswer_38 rfl rfl ?_
        refine z_aaldL h (by assumption) (zix_nI t2 (by decide)) (u12 u t2) dX4_settleAnswer_39 ?_
        refine z_aload_n h dX4_settleAnswer_40 rfl rfl ?_
        refine z_getR h (by assumption) rfl kw4 4 (by decide) rfl (by assumption) kf_RX4_31 dX4_settleAnswer_41 ?_
        refine z_callVN h (c_X1_reduce l (u13 u (by omega)) a51 (fun j hj => hU.g_ne (by omega) (by omega) (by omega))) ((u13 u (by omega)).1) rfl gm_RX4_139 rfl ⟨rfl, rfl⟩ 1 (by decide +kernel) ⟨by decide, by decide⟩ rfl rfl (Nat.le_of_ble_eq_true rfl) ⟨Nat.zero_le _, Nat.zero_le _⟩ dX4_settleAnswer_44 ?_
        rw [zr_zr, zr_s]
        have hri := (gth_ri hW (nI u) aT m (Nat.le_refl _)).1
        have hCu : CI (gth p m (nI u) aT m).1 (fun j k => zr J (g 51) r0 (g (8 * u + j)) k) (I (le u)) := ci_congr (hC u t2) (fun j hj => by congr 1; funext k; rw [zr_a (hU.g_ne (by omega) (by omega) (by omega))]) (fun _ _ => rfl)
        have hask := c_ask hk0 hk1 hri hCu t3 t4 t5 hrow
        obtain ⟨w1, w2, w3, w4⟩ := c_ask2 (redu_80 hri (qrow_8 t3 t4)) hask
        generalize rdC (fun j k => zr J (g 51) r0 (g (8 * u + j)) k) (I (le u)) r0 8 = rr at *
        refine z_aload_n h dX4_settleAnswer_47 rfl rfl ?_
        refine z_getR h (by assumption) rfl kw4 4 (by decide) rfl (by assumption) kf_RX4_31 dX4_settleAnswer_48 ?_
        refine z_callSI h (c_X1_firstName l a51) (va_cwS 1 h.2.2.2.2.1 gm_RX4_142 rfl rfl rfl (by decide +kernel) ⟨by decide, by decide⟩) rfl rfl (Nat.le_of_ble_eq_true rfl) ⟨Nat.zero_le _, Nat.zero_le _⟩ dX4_settleAnswer_51 ?_
        rw [zr_s]
        refine z_iconst (v := -1) h dX4_settleAnswer_54 (by decide) ?_
        refine z_icmp_ne h 80 dX4_settleAnswer_55 (by decide) (fun c55 => ?_) (fun c55 => ?_)
        · refine ret ⟨_, rfl, fun q h1 h2 => zr_a h1, fun _ => ⟨fun hsd => absurd (w1.mpr hsd) c55, fun _ => ?_⟩, fun v => absurd told (fun f => f v)⟩ dX4_settleAnswer_80
          rw [zr_a (Ne.symm hsu51)]
          exact ⟨rfl, rfl⟩
        · refine z_aload_n h dX4_settleAnswer_58 rfl rfl ?_
          refine z_aload_n h dX4_settleAnswer_59 rfl rfl ?_
          refine z_getR h (by assumption) rfl kw4 4 (by decide) rfl (by assumption) kf_RX4_31 dX4_settleAnswer_60 ?_
          refine z_bipush (v := 9) h dX4_settleAnswer_63 (by decide) ?_
          rw [show (9 : Int32) = nI 9 from rfl]
          refine z_lald h (by assumption) (zix_nI (by decide) (by decide)) dX4_settleAnswer_65 ?_
          rw [zr_sk]
          refine z_putJ h (by assumption) rfl kw4 10 (by decide) rfl rfl (rfl) (rfl) kf_RX4_47 dX4_settleAnswer_66 ?_
          refine z_aload_n h dX4_settleAnswer_69 rfl rfl ?_
          refine z_aload_n h dX4_settleAnswer_70 rfl rfl ?_
          refine z_getR h (by assumption) rfl kw4 4 (by decide) rfl (by assumption) kf_RX4_31 dX4_settleAnswer_71 ?_
          refine z_bipush (v := 8) h dX4_settleAnswer_74 (by decide) ?_
          rw [show (8 : Int32) = nI 8 from rfl]
          refine z_lald h (by assumption) (zix_nI (by decide) (by decide)) dX4_settleAnswer_76 ?_
          rw [zu_a hsu51, zr_sk]
          refine z_putJ h (by assumption) rfl kw4 11 (by decide) rfl rfl (rfl) (rfl) kf_RX4_51 dX4_settleAnswer_77 ?_
          refine ret ⟨_, rfl, fun q h1 h2 => by rw [zu_o h2, zu_o h2, zr_a h1], fun _ => ⟨fun hsd => ?_, fun hsd => ?_⟩, fun v => absurd told (fun f => f v)⟩ dX4_settleAnswer_80
          · rw [zu_k (by decide), zu_s, zu_s]
            exact ⟨w2, w3⟩
          · have := w1.mp c55
            rw [hsd] at this
            exact absurd this (by decide)
      · exact absurd ((nI_ltI (by omega) (by decide)).mpr t2) c15
  · have told : I st 5 = 0 := by
      by_cases w : I st 5 = 0
      · exact w
      · exact absurd w told
    refine z_aload_n h dX4_settleAnswer_0 rfl rfl ?_
    refine z_getR h (by assumption) rfl kw4 8 (by decide) rfl (by assumption) kf_RX4_60 dX4_settleAnswer_1 ?_
    refine z_iconst (v := 3) h dX4_settleAnswer_4 (by decide) ?_
    refine z_callVI h (c_X3_askedN l hY (w := 3) (by decide)) (by assumption) rfl gm_RX4_105 rfl ⟨rfl, rfl⟩ 1 (by decide +kernel) ⟨by decide, by decide⟩ rfl rfl (Nat.le_of_ble_eq_true rfl) ⟨Nat.zero_le _, Nat.zero_le _⟩ dX4_settleAnswer_5 ?_
    rw [if_neg (fun w => w told)]
    refine z_istore_n h dX4_settleAnswer_8 rfl (by decide) ?_
    refine z_iload_n h dX4_settleAnswer_9 rfl rfl ?_
    refine z_if_lt h 18 dX4_settleAnswer_10 (by decide) (fun c10 => ?_) (fun c10 => ?_)
    · exact ret ⟨_, rfl, fun _ _ _ => rfl, fun v => absurd told v, fun _ => rfl⟩ dX4_settleAnswer_18
    · exact absurd (by decide) c10
