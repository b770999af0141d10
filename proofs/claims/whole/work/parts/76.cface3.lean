/-! feed, tale, count of the class -/
/-- the tape's bytes and how many -/
def fdI (I : Nat → Nat → Int32) (t b : Nat) (s : (Nat → Int32) × Nat) : Nat → Nat → Int32 := zu (zr I b s.1) t 1 (nI s.2)
def fd5 (a b c d e : Int32) (s : (Nat → Int32) × Nat) : (Nat → Int32) × Nat := apB e (apB d (apB c (apB b (apB a s))))
theorem c_X5_appendF (l : Launch) {E : zE} {S : zS} {I : Nat → Nat → Int32} {J : Nat → Nat → Int64} {R : Nat → Nat → Option Nat} {t b : Nat} {s : (Nat → Int32) × Nat} {v : Int32} (ht : zO S t 5) (hb : R t 0 = some b) (hB : zA S b 9 400) (hs : s.2 ≤ 400) : zN l yX5_append wsX5_append rmX5_append E S [.ref t, .int v] (fdI I t b s, J, R) (fdI I t b (apB v s), J, R) := by
  have hbt : b ≠ t := fun q => absurd (hB.2.1.symm.trans (q ▸ ht.2)) (by decide)
  have e1 : fdI I t b s b = s.1 := by
    unfold fdI
    rw [zu_o hbt, zr_s]
  have := c_X5_append l (E := E) (I := fdI I t b s) (J := J) (n := s.2) (v := v) ht hb hB (by unfold fdI; rw [zu_s]) hs
  rw [e1] at this
  have e2 : zu (zr (fdI I t b s) b (apB v (s.1, s.2)).1) t 1 (nI (apB v (s.1, s.2)).2) = fdI I t b (apB v s) := by
    unfold fdI
    show zu (zr (zu (zr I b s.1) t 1 (nI s.2)) b (apB v s).1) t 1 (nI (apB v s).2) = _
    funext c i
    by_cases q : c = t
    · subst q
      by_cases r : i = 1
      · subst r; rw [zu_s, zu_s]
      · rw [zu_k r, zr_a (Ne.symm hbt), zu_k r, zr_a (Ne.symm hbt), zu_k r, zr_a (Ne.symm hbt)]
    · rw [zu_a q, zu_a q]
      by_cases r : c = b
      · subst r; rw [zr_s, zr_s]
      · rw [zr_a r, zr_a r, zu_a q, zr_a r]
  rw [e2] at this
  exact this

set_option maxHeartbeats 4000000 in
set_option maxRecDepth 100000 in
theorem c_X6_feed (l : Launch) {E : zE} {S : zS} {I : Nat → Nat → Int32} {J : Nat → Nat → Int64} {R : Nat → Nat → Option Nat} {x t b n : Nat} {a b0 c d e : Int32} (x1 : zO S x 6) (x2 : R x 0 = some t) (t1 : zO S t 5) (t2 : R t 0 = some b) (t3 : zA S b 9 400) (hn : I t 1 = nI n) (h4 : n ≤ 400) : zIP l yX6_feed wsX6_feed rmX6_feed E S [.ref x, .int a, .int b0, .int c, .int d, .int e] (I, J, R) (fun r ν => (I t 1 + (fbC a + fbC b0 + fbC c + fbC d + fbC e) ≤ 400 ∧ r = nI (fd5 a b0 c d e (I b, n)).2 ∧ ν = (fdI I t b (fd5 a b0 c d e (I b, n)), J, R)) ∨ (¬ I t 1 + (fbC a + fbC b0 + fbC c + fbC d + fbC e) ≤ 400 ∧ r = -1 ∧ ν = (I, J, R))) := by
  refine z_metIP (cc := cX6_feed) (maxL := 7) (ty := .int) (by decide) rfl (Nat.le_of_ble_eq_true rfl) (fun X h ret => ?_)
  show zV X E S 0 0 (I, J, R) 0 _ []
  have h0 : ((I b, n) : (Nat → Int32) × Nat).2 ≤ 400 := h4
  have h1 := (apB_le (v := a) h0).1
  have h2 := (apB_le (v := b0) h1).1
  have h3 := (apB_le (v := c) h2).1
  have h5 := (apB_le (v := d) h3).1
  have h6 := (apB_le (v := e) h5).1
  refine z_iload_n h dX6_feed_0 rfl rfl ?_
  refine z_callSI h (c_X5_filledBytes l a) (va_cwS 1 h.2.2.2.2.1 gm_RX6_51 rfl rfl rfl (by decide +kernel) ⟨by decide, by decide⟩) rfl rfl (Nat.le_of_ble_eq_true rfl) ⟨Nat.zero_le _, Nat.zero_le _⟩ dX6_feed_1 ?_
  refine z_iload_n h dX6_feed_4 rfl rfl ?_
  refine z_callSI h (c_X5_filledBytes l b0) (va_cwS 1 h.2.2.2.2.1 gm_RX6_51 rfl rfl rfl (by decide +kernel) ⟨by decide, by decide⟩) rfl rfl (Nat.le_of_ble_eq_true rfl) ⟨Nat.zero_le _, Nat.zero_le _⟩ dX6_feed_5 ?_
  refine z_iadd h dX6_feed_8 ?_
  refine z_iload_n h dX6_feed_9 rfl rfl ?_
  refine z_callSI h (c_X5_filledBytes l c) (va_cwS 1 h.2.2.2.2.1 gm_RX6_51 rfl rfl rfl (by decide +kernel) ⟨by decide, by decide⟩) rfl rfl (Nat.le_of_ble_eq_true rfl) ⟨Nat.zero_le _, Nat.zero_le _⟩ dX6_feed_10 ?_
  refine z_iadd h dX6_feed_13 ?_
  refine z_iload h dX6_feed_14 rfl ?_
  refine z_callSI h (c_X5_filledBytes l d) (va_cwS 1 h.2.2.2.2.1 gm_RX6_51 rfl rfl rfl (by decide +kernel) ⟨by decide, by decide⟩) rfl rfl (Nat.le_of_ble_eq_true rfl) ⟨Nat.zero_le _, Nat.zero_le _⟩ dX6_feed_16 ?_
  refine z_iadd h dX6_feed_19 ?_
  refine z_iload h dX6_feed_20 rfl ?_
  refine z_callSI h (c_X5_filledBytes l e) (va_cwS 1 h.2.2.2.2.1 gm_RX6_51 rfl rfl rfl (by decide +kernel) ⟨by decide, by decide⟩) rfl rfl (Nat.le_of_ble_eq_true rfl) ⟨Nat.zero_le _, Nat.zero_le _⟩ dX6_feed_22 ?_
  refine z_iadd h dX6_feed_25 ?_
  refine z_istore h dX6_feed_26 (by decide) ?_
  refine z_aload_n h dX6_feed_28 rfl rfl ?_
  refine z_getR h (by assumption) rfl kw6 0 (by decide) rfl (by assumption) kf_RX6_12 dX6_feed_29 ?_
  refine z_callVI h (c_X5_size l t1) (by assumption) rfl gm_RX6_55 rfl ⟨rfl, rfl⟩ 0 (by decide +kernel) ⟨by decide, by decide⟩ rfl rfl (Nat.le_of_ble_eq_true rfl) ⟨Nat.zero_le _, Nat.zero_le _⟩ dX6_feed_32 ?_
  refine z_iload h dX6_feed_35 rfl ?_
  refine z_iadd h dX6_feed_37 ?_
  refine z_sipush (v := 400) h dX6_feed_38 (by decide) ?_
  refine z_icmp_le h 46 dX6_feed_41 (by decide) (fun c41 => ?_) (fun c41 => ?_)
  · have e0 : (I, J, R) = (fdI I t b (I b, n), J, R) := by
      unfold fdI
      rw [zmB hn]
    rw [e0]
    refine z_aload_n h dX6_feed_46 rfl rfl ?_
    refine z_getR h (by assumption) rfl kw6 0 (by decide) rfl (by assumption) kf_RX6_12 dX6_feed_47 ?_
    refine z_iload_n h dX6_feed_50 rfl rfl ?_
    refine z_callVN h (c_X5_appendF l t1 t2 t3 (by assumption)) (by assumption) rfl gm_RX6_59 rfl ⟨rfl, rfl⟩ 1 (by decide +kernel) ⟨by decide, by decide⟩ rfl rfl (Nat.le_of_ble_eq_true rfl) ⟨Nat.zero_le _, Nat.zero_le _⟩ dX6_feed_51 ?_
    refine z_aload_n h dX6_feed_54 rfl rfl ?_
    refine z_getR h (by assumption) rfl kw6 0 (by decide) rfl (by assumption) kf_RX6_12 dX6_feed_55 ?_
    refine z_iload_n h dX6_feed_58 rfl rfl ?_
    refine z_callVN h (c_X5_appendF l t1 t2 t3 (by assumption)) (by assumption) rfl gm_RX6_59 rfl ⟨rfl, rfl⟩ 1 (by decide +kernel) ⟨by decide, by decide⟩ rfl rfl (Nat.le_of_ble_eq_true rfl) ⟨Nat.zero_le _, Nat.zero_le _⟩ dX6_feed_59 ?_
    refine z_aload_n h dX6_feed_62 rfl rfl ?_
    refine z_getR h (by assumption) rfl kw6 0 (by decide) rfl (by assumption) kf_RX6_12 dX6_feed_63 ?_
    refine z_iload_n h dX6_feed_66 rfl rfl ?_
    refine z_callVN h (c_X5_appendF l t1 t2 t3 (by assumption)) (by assumption) rfl gm_RX6_59 rfl ⟨rfl, rfl⟩ 1 (by decide +kernel) ⟨by decide, by decide⟩ rfl rfl (Nat.le_of_ble_eq_true rfl) ⟨Nat.zero_le _, Nat.zero_le _⟩ dX6_feed_67 ?_
    refine z_aload_n h dX6_feed_70 rfl rfl ?_
    refine z_getR h (by assumption) rfl kw6 0 (by decide) rfl (by assumption) kf_RX6_12 dX6_feed_71 ?_
    refine z_iload h dX6_feed_74 rfl ?_
    refine z_callVN h (c_X5_appendF l t1 t2 t3 (by assumption)) (by assumption) rfl gm_RX6_59 rfl ⟨rfl, rfl⟩ 1 (by decide +kernel) ⟨by decide, by decide⟩ rfl rfl (Nat.le_of_ble_eq_true rfl) ⟨Nat.zero_le _, Nat.zero_le _⟩ dX6_feed_76 ?_
    refine z_aload_n h dX6_feed_79 rfl rfl ?_
    refine z_getR h (by assumption) rfl kw6 0 (by decide) rfl (by assumption) kf_RX6_12 dX6_feed_80 ?_
    refine z_iload h dX6_feed_83 rfl ?_
    refine z_callVN h (c_X5_appendF l t1 t2 t3 (by assumption)) (by assumption) rfl gm_RX6_59 rfl ⟨rfl, rfl⟩ 1 (by decide +kernel) ⟨by decide, by decide⟩ rfl rfl (Nat.le_of_ble_eq_true rfl) ⟨Nat.zero_le _, Nat.zero_le _⟩ dX6_feed_85 ?_
    refine z_aload_n h dX6_feed_88 rfl rfl ?_
    refine z_getR h (by assumption) rfl kw6 0 (by decide) rfl (by assumption) kf_RX6_12 dX6_feed_89 ?_
    refine z_callVI h (c_X5_size l t1) (by assumption) rfl gm_RX6_55 rfl ⟨rfl, rfl⟩ 0 (by decide +kernel) ⟨by decide, by decide⟩ rfl rfl (Nat.le_of_ble_eq_true rfl) ⟨Nat.zero_le _, Nat.zero_le _⟩ dX6_feed_92 ?_
    rw [show ∀ s, fdI I t b s t 1 = nI s.2 from fun s => by unfold fdI; rw [zu_s]]
    exact ret (Or.inl ⟨c41, rfl, rfl⟩) dX6_feed_95 rfl
  · refine z_iconst (v := -1) h dX6_feed_44 (by decide) ?_
    exact ret (Or.inr ⟨c41, rfl, rfl⟩) dX6_feed_45 rfl

set_option maxHeartbeats 4000000 in
set_option maxRecDepth 100000 in
theorem c_X6_tale (l : Launch) {E : zE} {S : zS} {I : Nat → Nat → Int32} {J : Nat → Nat → Int64} {R : Nat → Nat → Option Nat} {x t b n rd ch su st dr : Nat} (x1 : zO S x 6) (x2 : R x 0 = some t) (x4 : R x 1 = some rd) (x5 : R x 2 = some ch) (x6 : R x 3 = some su) (x7 : R x 4 = some st) (x8 : R x 5 = some dr) (t1 : zO S t 5) (rd1 : zO S rd 2) (ch1 : zO S ch 0) (su1 : zO S su 4) (dr1 : zO S dr 3) {postR : Int32 → zM → Prop} (hR : zIP l yX2_read wsX2_read rmX2_read E S [.ref rd, .ref dr] (I, J, R) postR) (hP : ∀ {r ν}, postR r ν → ∃ I1 f e, ν = (I1, J, R) ∧ TP S R I1 t b n f e) {post : zM → Prop} (hM : ∀ I1 I2 f e, postR (-1) (I1, J, R) → TP S (zu (zu R x 4 (some dr)) x 5 (some st)) I2 t b 0 f e → fr [t] I1 I2 → zNP l yX4_solve wsX4_solve rmX4_solve E S [.ref su] (zu I2 ch 2 0, J, zu (zu (zu R x 4 (some dr)) x 5 (some st)) su 8 (some dr)) post) : zIP l yX6_tale wsX6_tale rmX6_tale E S [.ref x] (I, J, R) (fun r ν => (∃ r1, ¬ r1 = -1 ∧ postR r1 ν ∧ r = 0) ∨ (r = 1 ∧ post ν)) := by
  refine z_metIP (cc := cX6_tale) (maxL := 2) (ty := .boolean) (by decide) rfl (Nat.le_of_ble_eq_true rfl) (fun X h ret => ?_)
  show zV X E S 0 0 (I, J, R) 0 _ []
  have nt : t ≠ x := fun q => absurd (x1.2.symm.trans (q ▸ t1.2)) (by decide)
  have r0 : (zu (zu R x 4 (some dr)) x 5 (some st)) x 0 = some t := by rw [zu_k (by decide), zu_k (by decide)]; exact x2
  have r2 : (zu (zu R x 4 (some dr)) x 5 (some st)) x 2 = some ch := by rw [zu_k (by decide), zu_k (by decide)]; exact x5
  have r3 : (zu (zu R x 4 (some dr)) x 5 (some st)) x 3 = some su := by rw [zu_k (by decide), zu_k (by decide)]; exact x6
  have r4 : (zu (zu R x 4 (some dr)) x 5 (some st)) x 4 = some dr := by rw [zu_k (by decide), zu_s]
  have r5 : (zu R x 4 (some dr)) x 5 = some dr := by rw [zu_k (by decide)]; exact x8
  refine z_aload_n h dX6_tale_0 rfl rfl ?_
  refine z_getR h (by assumption) rfl kw6 1 (by decide) rfl (by assumption) kf_RX6_21 dX6_tale_1 ?_
  refine z_aload_n h dX6_tale_4 rfl rfl ?_
  refine z_getR h (by assumption) rfl kw6 5 (by decide) rfl (by assumption) kf_RX6_39 dX6_tale_5 ?_
  refine z_callVIP h (hR) (by assumption) rfl gm_RX6_67 rfl ⟨rfl, rfl⟩ 1 (by decide +kernel) ⟨by decide, by decide⟩ rfl rfl (Nat.le_of_ble_eq_true rfl) ⟨Nat.zero_le _, Nat.zero_le _⟩ dX6_tale_8 (fun r ν hν => ?_)
  obtain ⟨I1, f, e, rfl, hT⟩ := hP hν
  refine z_iconst (v := -1) h dX6_tale_11 (by decide) ?_
  refine z_icmp_eq h 17 dX6_tale_12 (by decide) (fun c12 => ?_) (fun c12 => ?_)
  · subst c12
    have hT2 : TP S (zu (zu R x 4 (some dr)) x 5 (some st)) I1 t b n f e := ⟨hT.1, by rw [zu_a nt, zu_a nt]; exact hT.2.1, hT.2.2⟩
    refine z_aload_n h dX6_tale_17 rfl rfl ?_
    refine z_getR h (by assumption) rfl kw6 4 (by decide) rfl (by assumption) kf_RX6_35 dX6_tale_18 ?_
    refine z_astore_n h dX6_tale_21 rfl (by decide) ?_
    refine z_aload_n h dX6_tale_22 rfl rfl ?_
    refine z_aload_n h dX6_tale_23 rfl rfl ?_
    refine z_getR h (by assumption) rfl kw6 5 (by decide) rfl (by assumption) kf_RX6_39 dX6_tale_24 ?_
    refine z_putR h (by assumption) rfl kw6 4 (by decide) rfl rfl (rfl) (rfl) kf_RX6_35 dX6_tale_27 ?_
    refine z_aload_n h dX6_tale_30 rfl rfl ?_
    refine z_aload_n h dX6_tale_31 rfl rfl ?_
    refine z_putR h (by assumption) rfl kw6 5 (by decide) rfl rfl (rfl) (rfl) kf_RX6_39 dX6_tale_32 ?_
    refine z_aload_n h dX6_tale_35 rfl rfl ?_
    refine z_getR h (by assumption) rfl kw6 0 (by decide) rfl (by assumption) kf_RX6_12 dX6_tale_36 ?_
    refine z_iconst (v := 0) h dX6_tale_39 (by decide) ?_
    refine z_callVIP h (c_X5_cut l hT2) (by assumption) rfl gm_RX6_63 rfl ⟨rfl, rfl⟩ 1 (by decide +kernel) ⟨by decide, by decide⟩ rfl rfl (Nat.le_of_ble_eq_true rfl) ⟨Nat.zero_le _, Nat.zero_le _⟩ dX6_tale_40 (fun r ν hv => ?_)
    have hv2 : ∃ f e, tpN S J (zu (zu R x 4 (some dr)) x 5 (some st)) I1 t b 0 f e ν := by
      rcases hv with ⟨_, q, _⟩ | ⟨_, q, h1, h2, h3⟩
      · rcases q with q | q
        · exact absurd q (by decide)
        · exact absurd (nI_le (a := 0) (Nat.zero_le _) (by have := hT.2.2.2.2.2.2.1; omega)) q
      · have : q = 0 := (nI_inj (by decide) (by have := hT.2.2.2.2.2.2.1; omega) (show nI 0 = nI q from h1)).symm
        subst this
        exact ⟨_, _, h3⟩
    obtain ⟨f2, e2, I2, rfl, hT3, hF⟩ := hv2
    refine z_pop h dX6_tale_43 rfl ?_
    refine z_aload_n h dX6_tale_44 rfl rfl ?_
    refine z_getR h (by assumption) rfl kw6 2 (by decide) rfl (by assumption) kf_RX6_28 dX6_tale_45 ?_
    refine z_callVN h (c_X0_clear l ch1) (by assumption) rfl gm_RX6_71 rfl ⟨rfl, rfl⟩ 0 (by decide +kernel) ⟨by decide, by decide⟩ rfl rfl (Nat.le_of_ble_eq_true rfl) ⟨Nat.zero_le _, Nat.zero_le _⟩ dX6_tale_48 ?_
    refine z_aload_n h dX6_tale_51 rfl rfl ?_
    refine z_getR h (by assumption) rfl kw6 3 (by decide) rfl (by assumption) kf_RX6_47 dX6_tale_52 ?_
    refine z_aload_n h dX6_tale_55 rfl rfl ?_
    refine z_getR h (by assumption) rfl kw6 4 (by decide) rfl (by assumption) kf_RX6_35 dX6_tale_56 ?_
    refine z_callVNP h (c_X4_begin l su1 dr1 (hM I1 I2 f2 e2 hν hT3 hF)) (by assumption) rfl gm_RX6_74 rfl ⟨rfl, rfl⟩ 1 (by decide +kernel) ⟨by decide, by decide⟩ rfl rfl (Nat.le_of_ble_eq_true rfl) ⟨Nat.zero_le _, Nat.zero_le _⟩ dX6_tale_59 (fun ν hν2 => ?_)
    refine z_iconst (v := 1) h dX6_tale_62 (by decide) ?_
    exact ret (Or.inr ⟨rfl, hν2⟩) dX6_tale_63 rfl
  · refine z_iconst (v := 0) h dX6_tale_15 (by decide) ?_
    exact ret (Or.inl ⟨r, c12, hν, rfl⟩) dX6_tale_16 rfl

set_option maxHeartbeats 4000000 in
set_option maxRecDepth 100000 in
theorem c_X6_count (l : Launch) {E : zE} {S : zS} {I : Nat → Nat → Int32} {J : Nat → Nat → Int64} {R : Nat → Nat → Option Nat} {x t ch su st : Nat} {w N : Int32} (x1 : zO S x 6) (x2 : R x 0 = some t) (x5 : R x 2 = some ch) (x6 : R x 3 = some su) (x7 : R x 4 = some st) (t1 : zO S t 5) (ch1 : zO S ch 0) (su1 : zO S su 4) (y1 : zO S st 3) (hM : zI l yX4_settledAtFirst wsX4_settledAtFirst rmX4_settledAtFirst E S [.ref su] (I, J, R) N (I, J, R)) : zI l yX6_count wsX6_count rmX6_count E S [.ref x, .int w] (I, J, R) (if w = 0 then I t 1 else if w = 1 then bcJ (I st 4) else if w = 2 then (if I st 5 = 0 then 0 else I st 3 + 1) else if w = 3 then N else if w = 4 then I ch 2 else -1) (I, J, R) := by
  refine z_metI (cc := cX6_count) (maxL := 2) (ty := .int) (by decide) rfl (Nat.le_of_ble_eq_true rfl) (fun X h ret => ?_)
  show zV X E S 0 0 (I, J, R) 0 _ []
  refine z_iload_n h dX6_count_0 rfl rfl ?_
  by_cases w0 : w = 0
  · subst w0
    rw [if_pos rfl] at ret
    refine z_tswI h 36 dX6_count_1 (by decide) (by decide) (off := 35) (by decide) (by decide) ?_
    refine z_aload_n h dX6_count_36 rfl rfl ?_
    refine z_getR h (by assumption) rfl kw6 0 (by decide) rfl (by assumption) kf_RX6_12 dX6_count_37 ?_
    refine z_callVI h (c_X5_size l t1) (by assumption) rfl gm_RX6_55 rfl ⟨rfl, rfl⟩ 0 (by decide +kernel) ⟨by decide, by decide⟩ rfl rfl (Nat.le_of_ble_eq_true rfl) ⟨Nat.zero_le _, Nat.zero_le _⟩ dX6_count_40 ?_
    exact ret dX6_count_43 rfl
  by_cases w1 : w = 1
  · subst w1
    rw [if_neg (by decide), if_pos rfl] at ret
    refine z_tswI h 44 dX6_count_1 (by decide) (by decide) (off := 43) (by decide) (by decide) ?_
    refine z_aload_n h dX6_count_44 rfl rfl ?_
    refine z_getR h (by assumption) rfl kw6 4 (by decide) rfl (by assumption) kf_RX6_35 dX6_count_45 ?_
    refine z_callVI h (c_X3_facts l y1) (by assumption) rfl gm_RX6_138 rfl ⟨rfl, rfl⟩ 0 (by decide +kernel) ⟨by decide, by decide⟩ rfl rfl (Nat.le_of_ble_eq_true rfl) ⟨Nat.zero_le _, Nat.zero_le _⟩ dX6_count_48 ?_
    refine z_callSI h (c_J6_bitCount l) (va_cwS 1 h.2.2.2.2.1 gm_RX6_141 rfl rfl rfl (by decide +kernel) ⟨by decide, by decide⟩) rfl rfl (Nat.le_of_ble_eq_true rfl) ⟨Nat.zero_le _, Nat.zero_le _⟩ dX6_count_51 ?_
    exact ret dX6_count_54 rfl
  by_cases w2 : w = 2
  · subst w2
    rw [if_neg (by decide), if_neg (by decide), if_pos rfl] at ret
    refine z_tswI h 55 dX6_count_1 (by decide) (by decide) (off := 54) (by decide) (by decide) ?_
    refine z_aload_n h dX6_count_55 rfl rfl ?_
    refine z_getR h (by assumption) rfl kw6 4 (by decide) rfl (by assumption) kf_RX6_35 dX6_count_56 ?_
    refine z_callVI h (c_X3_stages l y1) (by assumption) rfl gm_RX6_146 rfl ⟨rfl, rfl⟩ 0 (by decide +kernel) ⟨by decide, by decide⟩ rfl rfl (Nat.le_of_ble_eq_true rfl) ⟨Nat.zero_le _, Nat.zero_le _⟩ dX6_count_59 ?_
    exact ret dX6_count_62 rfl
  by_cases w3 : w = 3
  · subst w3
    rw [if_neg (by decide), if_neg (by decide), if_neg (by decide), if_pos rfl] at ret
    refine z_tswI h 63 dX6_count_1 (by decide) (by decide) (off := 62) (by decide) (by decide) ?_
    refine z_aload_n h dX6_count_63 rfl rfl ?_
    refine z_getR h (by assumption) rfl kw6 3 (by decide) rfl (by assumption) kf_RX6_47 dX6_count_64 ?_
    refine z_callVI h (hM) (by assumption) rfl gm_RX6_149 rfl ⟨rfl, rfl⟩ 0 (by decide +kernel) ⟨by decide, by decide⟩ rfl rfl (Nat.le_of_ble_eq_true rfl) ⟨Nat.zero_le _, Nat.zero_le _⟩ dX6_count_67 ?_
    exact ret dX6_count_70 rfl
  by_cases w4 : w = 4
  · subst w4
    rw [if_neg (by decide), if_neg (by decide), if_neg (by decide), if_neg (by decide), if_pos rfl] at ret
    refine z_tswI h 71 dX6_count_1 (by decide) (by decide) (off := 70) (by decide) (by decide) ?_
    refine z_aload_n h dX6_count_71 rfl rfl ?_
    refine z_getR h (by assumption) rfl kw6 2 (by decide) rfl (by assumption) kf_RX6_28 dX6_count_72 ?_
    refine z_callVI h (c_X0_size l ch1) (by assumption) rfl gm_RX6_128 rfl ⟨rfl, rfl⟩ 0 (by decide +kernel) ⟨by decide, by decide⟩ rfl rfl (Nat.le_of_ble_eq_true rfl) ⟨Nat.zero_le _, Nat.zero_le _⟩ dX6_count_75 ?_
    exact ret dX6_count_78 rfl
  refine z_tswO h 79 dX6_count_1 (by
    have e : ∀ n : Int32, w ≠ n → w.toInt ≠ n.toInt := fun n q v => q (Int32.toInt_inj.mp v)
    have q0 := e 0 w0
    have q1 := e 1 w1
    have q2 := e 2 w2
    have q3 := e 3 w3
    have q4 := e 4 w4
    rw [show (0 : Int32).toInt = 0 from rfl] at q0
    rw [show (1 : Int32).toInt = 1 from rfl] at q1
    rw [show (2 : Int32).toInt = 2 from rfl] at q2
    rw [show (3 : Int32).toInt = 3 from rfl] at q3
    rw [show (4 : Int32).toInt = 4 from rfl] at q4
    omega) (by decide) ?_
  refine z_iconst (v := -1) h dX6_count_79 (by decide) ?_
  rw [if_neg w0, if_neg w1, if_neg w2, if_neg w3, if_neg w4] at ret
  exact ret dX6_count_80 rfl
