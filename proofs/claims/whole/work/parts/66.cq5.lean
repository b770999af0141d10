/-! lackingName of the class -/
theorem e10_one {n : Nat} (hn : n < 8) (f : Nat → Int64) : e10 (fun j => if j = n then 1 else if j < 10 then 0 else f j) = gr n n 1 0 0 0 := by
  funext k
  unfold e10 gr
  dsimp only
  by_cases hk : k < 10
  · rw [if_pos hk]
    by_cases q : k = n
    · rw [if_pos q, if_pos q, if_pos q]; split <;> split <;> decide
    · rw [if_neg q, if_neg q, if_neg q, if_pos hk]; split <;> split <;> decide
  · rw [if_neg hk, if_neg (show ¬ k = n by omega), if_neg (show ¬ k = n by omega), if_neg (show ¬ k = 8 by omega), if_neg (show ¬ k = 9 by omega)]; rfl
def lcq (p : Nat → Nat → Int32) (m u na : Nat) (ob : Option Nat) (n : Nat) : Bool := alZ (rhoQ p m u na ob) (redu (gth p m (nI u) aT m).1 (gr n n 1 0 0 0))
theorem szq_b {k : Int} {r : Nat → Int} (h : SzQ k r) : ∀ i, i < 8 → ab (r i) ≤ 1000000000 := by
  obtain ⟨B, h1, h2, h3⟩ := h
  intro i hi
  have := h3.1 i (by omega)
  have : (2 : Int) * 9 ^ 7 ≤ 1000000000 := by decide
  omega
theorem szq_q {k : Int} {es : List (Nat × (Nat → Int))} (hk : 0 ≤ k) (h : RI k es) {na : Nat} {ob : Option Nat} (hna : na < 8) (hob : ∀ nb, ob = some nb → nb < 8 ∧ nb ≠ na) {f : Nat} (hf : f < 8) (hne : redu es (qrow na ob) f ≠ 0) : SzQ k (redu es (qrow na ob)) := by
  obtain ⟨t, z, C, D, M, e, hp, p1, p2, p3, p4, μ, ν, p5, p6, p7⟩ := ri_pot h (qrow_prim hna hob) (Nat.le_refl _)
  rw [List.take_length] at hp p1 p2 p3 p4 p7
  cases ob with
  | none => exact red_sizeQ hp p1 p2 hk hna hna (α := -1) rfl (Or.inr ⟨rfl, rfl⟩) (σ := 1) (by decide) p3 p4 p5 p6 p7 hf hne
  | some nb => exact red_sizeQ hp p1 p2 hk hna (hob nb rfl).1 (α := -1) rfl (Or.inl rfl) (σ := 1) (by decide) p3 p4 p5 p6 p7 hf hne
theorem szq_1 {k : Int} {es : List (Nat × (Nat → Int))} (hk : 0 ≤ k) (h : RI k es) {n : Nat} (hn : n < 8) {f : Nat} (hf : f < 8) (hne : redu es (gr n n 1 0 0 0) f ≠ 0) : SzQ k (redu es (gr n n 1 0 0 0)) := by
  obtain ⟨t, z, C, D, M, e, hp, p1, p2, p3, p4, μ, ν, p5, p6, p7⟩ := ri_pot h (gr_prim (a := n) (b := n) (α := 1) (β := 0) (σ := 0) (γ := 0) hn rfl (Or.inr rfl)) (Nat.le_refl _)
  rw [List.take_length] at hp p1 p2 p3 p4 p7
  exact red_sizeQ hp p1 p2 hk hn hn (α := 1) rfl (Or.inr ⟨rfl, rfl⟩) (σ := 0) (by decide) p3 p4 p5 p6 p7 hf hne

set_option maxHeartbeats 4000000 in
set_option maxRecDepth 100000 in
theorem c_X4_lackingName (l : Launch) {E : zE} {S : zS} {I : Nat → Nat → Int32} {J : Nat → Nat → Int64} {R : Nat → Nat → Option Nat} {st pa ak : Nat} {rw : Nat → Nat} (hY : SY S R st pa ak rw) {su lo fl : Nat} {lw rs le g : Nat → Nat} (hU : SU S R su st lo fl lw rs le g) {p : Nat → Nat → Int32} {m u na : Nat} {ob : Option Nat} {G : Int} (hX : I st 5 ≠ 0 → I ak 3 = nI u ∧ u < 4 ∧ (I su 9 = -1 → J su 11 = 0 → WT p m ∧ CI (gth p m (nI u) aT m).1 (fun j k => J (g (8 * u + j)) k) (I (le u)) ∧ na < 8 ∧ (∀ nb, ob = some nb → nb < 8 ∧ nb ≠ na) ∧ ab G ≤ 1000000 ∧ e10 (J (g 50)) = sft (qrow na ob) G)) : zIP l yX4_lackingName wsX4_lackingName rmX4_lackingName E S [.ref su] (I, J, R) (fun r ν => ∃ J', ν = (I, J', R) ∧ r = (if I st 5 ≠ 0 ∧ I su 9 = -1 ∧ J su 11 = 0 then qFr (lcq p m u na ob) 8 0 else -1) ∧ (∀ q, q ≠ g 51 → q ≠ g 52 → J' q = J q)) := by
  refine z_metIP (cc := cX4_lackingName) (maxL := 3) (ty := .int) (by decide) rfl (Nat.le_of_ble_eq_true rfl) (fun X h ret => ?_)
  show zV X E S 0 0 (I, J, R) 0 _ []
  obtain ⟨u1, u2, u3, u4, u5, u6, u7, u8, u9, u10, u11, u12, u13, u14, u15, u16, u17, u18, u19, u20⟩ := id hU
  have y1 := hY.1
  have a50 := hU.A10 (show 50 < 53 by decide)
  have a51 := hU.A10 (show 51 < 53 by decide)
  have a52 := hU.A10 (show 52 < 53 by decide)
  have n12 : g 51 ≠ g 52 := hU.g_ne (by decide) (by decide) (by decide)
  by_cases told : I st 5 ≠ 0
  · obtain ⟨t1, t2, t3⟩ := hX told
    refine z_aload_n h dX4_lackingName_0 rfl rfl ?_
    refine z_getR h (by assumption) rfl kw4 8 (by decide) rfl (by assumption) kf_RX4_60 dX4_lackingName_1 ?_
    refine z_iconst (v := 3) h dX4_lackingName_4 (by decide) ?_
    refine z_callVI h (c_X3_askedN l hY (w := 3) (by decide)) (by assumption) rfl gm_RX4_105 rfl ⟨rfl, rfl⟩ 1 (by decide +kernel) ⟨by decide, by decide⟩ rfl rfl (Nat.le_of_ble_eq_true rfl) ⟨Nat.zero_le _, Nat.zero_le _⟩ dX4_lackingName_5 ?_
    rw [if_pos told, t1]
    refine z_istore_n h dX4_lackingName_8 rfl (by decide) ?_
    refine z_aload_n h dX4_lackingName_9 rfl rfl ?_
    refine z_callVI h (c_X4_hasAnswer l u1) (by assumption) rfl gm_RX4_146 rfl ⟨rfl, rfl⟩ 0 (by decide +kernel) ⟨by decide, by decide⟩ rfl rfl (Nat.le_of_ble_eq_true rfl) ⟨Nat.zero_le _, Nat.zero_le _⟩ dX4_lackingName_10 ?_
    refine z_if_ne h 33 dX4_lackingName_13 (by decide) (fun c13 => ?_) (fun c13 => ?_)
    · have c13 : ¬ J su 11 = 0 := fun w => by rw [decide_eq_true w] at c13; exact absurd rfl c13
      refine z_iconst (v := -1) h dX4_lackingName_33 (by decide) ?_
      exact ret ⟨J, rfl, by rw [if_neg (fun v => c13 v.2.2)], fun _ _ _ => rfl⟩ dX4_lackingName_34 rfl
    · have c13 : J su 11 = 0 := by
        by_cases w : J su 11 = 0
        · exact w
        · rw [decide_eq_false w] at c13; exact absurd c13 (by decide)
      refine z_aload_n h dX4_lackingName_16 rfl rfl ?_
      refine z_getI h (by assumption) rfl kw4 9 (by decide) rfl kf_RX4_43 dX4_lackingName_17 ?_
      refine z_iconst (v := -1) h dX4_lackingName_20 (by decide) ?_
      refine z_icmp_ne h 33 dX4_lackingName_21 (by decide) (fun c21 => ?_) (fun c21 => ?_)
      · refine z_iconst (v := -1) h dX4_lackingName_33 (by decide) ?_
        exact ret ⟨J, rfl, by rw [if_neg (fun v => c21 v.2.1)], fun _ _ _ => rfl⟩ dX4_lackingName_34 rfl
      · refine z_iload_n h dX4_lackingName_24 rfl rfl ?_
        refine z_if_lt h 33 dX4_lackingName_25 (by decide) (fun c25 => ?_) (fun c25 => ?_)
        · exact absurd c25 (nI_pos (by omega))
        · refine z_iload_n h dX4_lackingName_28 rfl rfl ?_
          refine z_iconst (v := 4) h dX4_lackingName_29 (by decide) ?_
          rw [show (4 : Int32) = nI 4 from rfl]
          refine z_icmp_lt h 35 dX4_lackingName_30 (by decide) (fun c30 => ?_) (fun c30 => ?_)
          · obtain ⟨w1, w2, w3, w4, w5, w6⟩ := t3 c21 c13
            have hK := kk_KC (p := p) w1.1
            obtain ⟨hk0, hk1⟩ := kc_le hK
            have hri := (gth_ri w1 (nI u) aT m (Nat.le_refl _)).1
            generalize hes : (gth p m (nI u) aT m).1 = es at *
            have hlq : ∀ n, lcq p m u na ob n = alZ (redu es (qrow na ob)) (redu es (gr n n 1 0 0 0)) := fun n => by unfold lcq rhoQ; rw [hes]
            refine z_aload_n h dX4_lackingName_35 rfl rfl ?_
            refine z_getR h (by assumption) rfl kw4 3 (by decide) rfl (by assumption) kf_RX4_27 dX4_lackingName_36 ?_
            refine z_iconst (v := 0) h dX4_lackingName_39 (by decide) ?_
            refine z_aload_n h dX4_lackingName_40 rfl rfl ?_
            refine z_getR h (by assumption) rfl kw4 4 (by decide) rfl (by assumption) kf_RX4_31 dX4_lackingName_41 ?_
            refine z_iconst (v := 0) h dX4_lackingName_44 (by decide) ?_
            refine z_bipush (v := 10) h dX4_lackingName_45 (by decide) ?_
            refine z_copyl h kar_4 kar_s kar_i kar_n a50 a51 (N := 10) rfl (by decide) (by decide) (by decide) (by decide) (by decide) dX4_lackingName_47 ?_
            have hrow : e10 (fun j => if j < 10 then J (g 50) j else J (g 51) j) = sft (qrow na ob) G := by
              rw [← w6]
              funext k
              by_cases q : k < 10
              · rw [e10_n q, e10_n q, if_pos q]
              · rw [e10_o q, e10_o q]
            generalize hr0 : (fun j => if j < 10 then J (g 50) j else J (g 51) j) = r0 at *
            refine z_aload_n h dX4_lackingName_50 rfl rfl ?_
            refine z_getR h (by assumption) rfl kw4 0 (by decide) rfl (by assumption) kf_RX4_11 dX4_lackingName_51 ?_
            refine z_iload_n h dX4_lackingName_54 rfl rfl ?_
            refine z_aaldL h (by assumption) (zix_nI t2 (by decide)) (u12 u t2) dX4_lackingName_55 ?_
            refine z_aload_n h dX4_lackingName_56 rfl rfl ?_
            refine z_getR h (by assumption) rfl kw4 4 (by decide) rfl (by assumption) kf_RX4_31 dX4_lackingName_57 ?_
            refine z_callVN h (c_X1_reduce l (u13 u (by omega)) a51 (fun j hj => hU.g_ne (by omega) (by omega) (by omega))) ((u13 u (by omega)).1) rfl gm_RX4_139 rfl ⟨rfl, rfl⟩ 1 (by decide +kernel) ⟨by decide, by decide⟩ rfl rfl (Nat.le_of_ble_eq_true rfl) ⟨Nat.zero_le _, Nat.zero_le _⟩ dX4_lackingName_60 ?_
            rw [zr_zr, zr_s]
            have hCu0 : CI es (fun j k => zr J (g 51) r0 (g (8 * u + j)) k) (I (le u)) := ci_congr w2 (fun j hj => by congr 1; funext k; rw [zr_a (hU.g_ne (by omega) (by omega) (by omega))]) (fun _ _ => rfl)
            have hask := c_ask hk0 hk1 hri hCu0 w3 w4 w5 hrow
            generalize rdC (fun j k => zr J (g 51) r0 (g (8 * u + j)) k) (I (le u)) r0 8 = rr at *
            have LL : ∀ (d n : Nat) (J2 : Nat → Nat → Int64), n + d = 8 → J2 (g 51) = rr → (∀ q, q ≠ g 51 → q ≠ g 52 → J2 q = J q) → qFr (lcq p m u na ob) d n = qFr (lcq p m u na ob) 8 0 → zV X E S 0 0 (I, J2, R) 65 [(0, .ref su), (1, .int (nI u)), (2, .int (nI n))] [] := by
              intro d
              induction d with
              | zero =>
                intro n J2 hn h51 f2 he
                have e : n = 8 := by omega
                subst e
                refine z_iload_n h dX4_lackingName_65 rfl rfl ?_
                refine z_bipush (v := 8) h dX4_lackingName_66 (by decide) ?_
                rw [show (8 : Int32) = nI 8 from rfl]
                refine z_icmp_ge h 121 dX4_lackingName_68 (by decide) (fun c68 => ?_) (fun c68 => ?_)
                · refine z_iconst (v := -1) h dX4_lackingName_121 (by decide) ?_
                  exact ret ⟨J2, rfl, by rw [if_pos ⟨told, c21, c13⟩, ← he]; rfl, f2⟩ dX4_lackingName_122 rfl
                · exact absurd (nI_le (by decide) (by decide)) c68
              | succ d ih =>
                intro n J2 hn h51 f2 he
                have hn8 : n < 8 := by omega
                refine z_iload_n h dX4_lackingName_65 rfl rfl ?_
                refine z_bipush (v := 8) h dX4_lackingName_66 (by decide) ?_
                rw [show (8 : Int32) = nI 8 from rfl]
                refine z_icmp_ge h 121 dX4_lackingName_68 (by decide) (fun c68 => ?_) (fun c68 => ?_)
                · exact absurd (nle (by decide) (by omega) c68) (by omega)
                · refine z_aload_n h dX4_lackingName_71 rfl rfl ?_
                  refine z_getR h (by assumption) rfl kw4 5 (by decide) rfl (by assumption) kf_RX4_34 dX4_lackingName_72 ?_
                  refine z_lconst (v := 0) h dX4_lackingName_75 (by decide) ?_
                  refine z_callSN h (c_J7_fill l a52 (by decide)) (va_cwS 2 h.2.2.2.2.1 gm_RX4_67 rfl rfl rfl (by decide +kernel) ⟨by decide, by decide⟩) rfl rfl (Nat.le_of_ble_eq_true rfl) ⟨Nat.zero_le _, Nat.zero_le _⟩ dX4_lackingName_76 ?_
                  refine z_aload_n h dX4_lackingName_79 rfl rfl ?_
                  refine z_getR h (by assumption) rfl kw4 5 (by decide) rfl (by assumption) kf_RX4_34 dX4_lackingName_80 ?_
                  refine z_iload_n h dX4_lackingName_83 rfl rfl ?_
                  refine z_lconst (v := 1) h dX4_lackingName_84 (by decide) ?_
                  refine z_last h (by assumption) (zix_nI (by omega) (by decide)) dX4_lackingName_85 ?_
                  rw [zu_zr]
                  have ee := e10_one hn8 (J2 (g 52))
                  generalize hr1 : (fun j => if j = n then (1 : Int64) else if j < 10 then 0 else J2 (g 52) j) = r1 at *
                  refine z_aload_n h dX4_lackingName_86 rfl rfl ?_
                  refine z_getR h (by assumption) rfl kw4 0 (by decide) rfl (by assumption) kf_RX4_11 dX4_lackingName_87 ?_
                  refine z_iload_n h dX4_lackingName_90 rfl rfl ?_
                  refine z_aaldL h (by assumption) (zix_nI t2 (by decide)) (u12 u t2) dX4_lackingName_91 ?_
                  refine z_aload_n h dX4_lackingName_92 rfl rfl ?_
                  refine z_getR h (by assumption) rfl kw4 5 (by decide) rfl (by assumption) kf_RX4_34 dX4_lackingName_93 ?_
                  refine z_callVN h (c_X1_reduce l (u13 u (by omega)) a52 (fun j hj => hU.g_ne (by omega) (by omega) (by omega))) ((u13 u (by omega)).1) rfl gm_RX4_139 rfl ⟨rfl, rfl⟩ 1 (by decide +kernel) ⟨by decide, by decide⟩ rfl rfl (Nat.le_of_ble_eq_true rfl) ⟨Nat.zero_le _, Nat.zero_le _⟩ dX4_lackingName_96 ?_
                  rw [zr_zr, zr_s]
                  have hCu : CI es (fun j k => zr J2 (g 52) r1 (g (8 * u + j)) k) (I (le u)) := ci_congr w2 (fun j hj => by congr 1; funext k; rw [zr_a (hU.g_ne (by omega) (by omega) (by omega)), f2 _ (hU.g_ne (by omega) (by omega) (by omega)) (hU.g_ne (by omega) (by omega) (by omega))]) (fun _ _ => rfl)
                  have hfn : Fct (kk p m) n n 0 0 := ⟨hn8, hn8, Or.inr ⟨rfl, rfl⟩, by rw [ab_z]; exact hk0⟩
                  have hpm := c_fact hk0 hk1 hri hCu hfn ee
                  generalize rdC (fun j k => zr J2 (g 52) r1 (g (8 * u + j)) k) (I (le u)) r1 8 = qq at *
                  have hal : ALb rr qq = lcq p m u na ob n := by
                    rw [hlq]
                    have hqs : ∃ s2 : Int, (s2 = 1 ∨ s2 = -1) ∧ ∀ i, i < 8 → (qq i).toInt = s2 * redu es (gr n n 1 0 0 0) i := by
                      rcases hpm with w | w
                      · exact ⟨1, Or.inl rfl, fun i hi => by have := w i (by omega); rw [e10_n (by omega)] at this; omega⟩
                      · exact ⟨-1, Or.inr rfl, fun i hi => by have := w i (by omega); rw [e10_n (by omega)] at this; omega⟩
                    obtain ⟨s2, hs2, hq2⟩ := hqs
                    refine al_eq (s1 := if 0 ≤ redu es (qrow na ob) 8 then 1 else -1) (by split; exact Or.inl rfl; exact Or.inr rfl) hs2 (fun i hi => ?_) hq2 (fun f hf h1 h2 i hi => ⟨szq_b (szq_q hk0 hri w3 w4 hf h1) i hi, szq_b (szq_1 hk0 hri hn8 hf h2) i hi⟩)
                    have := hask i (by omega)
                    rw [e10_n (by omega), show sft (redu es (qrow na ob)) G i = redu es (qrow na ob) i from if_neg (by omega)] at this
                    exact this
                  refine z_aload_n h dX4_lackingName_99 rfl rfl ?_
                  refine z_getR h (by assumption) rfl kw4 4 (by decide) rfl (by assumption) kf_RX4_31 dX4_lackingName_100 ?_
                  refine z_aload_n h dX4_lackingName_103 rfl rfl ?_
                  refine z_getR h (by assumption) rfl kw4 5 (by decide) rfl (by assumption) kf_RX4_34 dX4_lackingName_104 ?_
                  refine z_callSI h (c_X4_areAlongside l a51 a52) (va_cwS 2 h.2.2.2.2.1 gm_RX4_166 rfl rfl rfl (by decide +kernel) ⟨by decide, by decide⟩) rfl rfl (Nat.le_of_ble_eq_true rfl) ⟨Nat.zero_le _, Nat.zero_le _⟩ dX4_lackingName_107 ?_
                  rw [zr_a n12, zr_s, h51, hal]
                  refine z_if_eq h 115 dX4_lackingName_110 (by decide) (fun c110 => ?_) (fun c110 => ?_)
                  · have c110 := b2i_0.mp c110
                    refine z_iinc h dX4_lackingName_115 rfl (nI_1 n) (by decide) ?_
                    refine z_goto h 65 dX4_lackingName_118 (by decide) ?_
                    exact z_lk (ih (n + 1) _ (by omega) ((zr_a n12).trans h51) (fun q h1 h2 => (zr_a h2).trans (f2 q h1 h2)) (by rw [← he, qFr_s c110])) ⟨rfl, rfl, rfl, trivial⟩
                  · refine z_iload_n h dX4_lackingName_113 rfl rfl ?_
                    have c110 := b2i_n0.mp c110
                    exact ret ⟨_, rfl, by rw [if_pos ⟨told, c21, c13⟩, ← he, qFr_f c110], fun q h1 h2 => (zr_a h2).trans (f2 q h1 h2)⟩ dX4_lackingName_114 rfl
            refine z_iconst (v := 0) h dX4_lackingName_63 (by decide) ?_
            refine z_istore_n h dX4_lackingName_64 rfl (by decide) ?_
            exact z_lk (LL 8 0 _ rfl zr_s (fun q h1 _ => zr_a h1) rfl) ⟨rfl, rfl, rfl, trivial⟩
          · exact absurd ((nI_ltI (by omega) (by decide)).mpr t2) c30
  · have told0 : I st 5 = 0 := by
      by_cases w : I st 5 = 0
      · exact w
      · exact absurd w told
    refine z_aload_n h dX4_lackingName_0 rfl rfl ?_
    refine z_getR h (by assumption) rfl kw4 8 (by decide) rfl (by assumption) kf_RX4_60 dX4_lackingName_1 ?_
    refine z_iconst (v := 3) h dX4_lackingName_4 (by decide) ?_
    refine z_callVI h (c_X3_askedN l hY (w := 3) (by decide)) (by assumption) rfl gm_RX4_105 rfl ⟨rfl, rfl⟩ 1 (by decide +kernel) ⟨by decide, by decide⟩ rfl rfl (Nat.le_of_ble_eq_true rfl) ⟨Nat.zero_le _, Nat.zero_le _⟩ dX4_lackingName_5 ?_
    rw [if_neg told]
    refine z_istore_n h dX4_lackingName_8 rfl (by decide) ?_
    refine z_aload_n h dX4_lackingName_9 rfl rfl ?_
    refine z_callVI h (c_X4_hasAnswer l u1) (by assumption) rfl gm_RX4_146 rfl ⟨rfl, rfl⟩ 0 (by decide +kernel) ⟨by decide, by decide⟩ rfl rfl (Nat.le_of_ble_eq_true rfl) ⟨Nat.zero_le _, Nat.zero_le _⟩ dX4_lackingName_10 ?_
    refine z_if_ne h 33 dX4_lackingName_13 (by decide) (fun c13 => ?_) (fun c13 => ?_)
    · refine z_iconst (v := -1) h dX4_lackingName_33 (by decide) ?_
      exact ret ⟨J, rfl, by rw [if_neg (fun v => told v.1)], fun _ _ _ => rfl⟩ dX4_lackingName_34 rfl
    · refine z_aload_n h dX4_lackingName_16 rfl rfl ?_
      refine z_getI h (by assumption) rfl kw4 9 (by decide) rfl kf_RX4_43 dX4_lackingName_17 ?_
      refine z_iconst (v := -1) h dX4_lackingName_20 (by decide) ?_
      refine z_icmp_ne h 33 dX4_lackingName_21 (by decide) (fun c21 => ?_) (fun c21 => ?_)
      · refine z_iconst (v := -1) h dX4_lackingName_33 (by decide) ?_
        exact ret ⟨J, rfl, by rw [if_neg (fun v => told v.1)], fun _ _ _ => rfl⟩ dX4_lackingName_34 rfl
      · refine z_iload_n h dX4_lackingName_24 rfl rfl ?_
        refine z_if_lt h 33 dX4_lackingName_25 (by decide) (fun c25 => ?_) (fun c25 => ?_)
        · refine z_iconst (v := -1) h dX4_lackingName_33 (by decide) ?_
          exact ret ⟨J, rfl, by rw [if_neg (fun v => told v.1)], fun _ _ _ => rfl⟩ dX4_lackingName_34 rfl
        · exact absurd (by decide) c25
