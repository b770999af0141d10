/-! WHAT put() KEPT: the object ch, its rows sa and na, k of them -/
def CH (S : zS) (R : Nat → Nat → Option Nat) (I : Nat → Nat → Int32) (ch sa na k : Nat) : Prop := zO S ch 0 ∧ R ch 0 = some sa ∧ R ch 1 = some na ∧ zA S sa 9 50 ∧ zA S na 9 50 ∧ sa ≠ na ∧ I ch 2 = nI k ∧ k ≤ 50
theorem CH.ne {S : zS} {R : Nat → Nat → Option Nat} {I : Nat → Nat → Int32} {ch sa na k : Nat} (h : CH S R I ch sa na k) : ch ≠ sa ∧ ch ≠ na := ⟨fun q => absurd (h.2.2.2.1.2.1.symm.trans (q ▸ h.1.2)) (by decide), fun q => absurd (h.2.2.2.2.1.2.1.symm.trans (q ▸ h.1.2)) (by decide)⟩

set_option maxHeartbeats 4000000 in
set_option maxRecDepth 100000 in
theorem c_X0_size (l : Launch) {E : zE} {S : zS} {I : Nat → Nat → Int32} {J : Nat → Nat → Int64} {R : Nat → Nat → Option Nat} {ch : Nat} (h1 : zO S ch 0) : zI l yX0_size wsX0_size rmX0_size E S [.ref ch] (I, J, R) (I ch 2) (I, J, R) := by
  refine z_metI (cc := cX0_size) (maxL := 1) (ty := .int) (by decide) rfl (Nat.le_of_ble_eq_true rfl) (fun X h ret => ?_)
  show zV X E S 0 0 (I, J, R) 0 _ []
  refine z_aload_n h dX0_size_0 rfl rfl ?_
  refine z_getI h (by assumption) rfl kw0 2 (by decide) rfl kf_RX0_18 dX0_size_1 ?_
  exact ret dX0_size_4 rfl

set_option maxHeartbeats 4000000 in
set_option maxRecDepth 100000 in
theorem c_X0_clear (l : Launch) {E : zE} {S : zS} {I : Nat → Nat → Int32} {J : Nat → Nat → Int64} {R : Nat → Nat → Option Nat} {ch : Nat} (h1 : zO S ch 0) : zN l yX0_clear wsX0_clear rmX0_clear E S [.ref ch] (I, J, R) (zu I ch 2 0, J, R) := by
  refine z_metN (cc := cX0_clear) (maxL := 1) (by decide) rfl (Nat.le_of_ble_eq_true rfl) (fun X h ret => ?_)
  show zV X E S 0 0 (I, J, R) 0 _ []
  refine z_aload_n h dX0_clear_0 rfl rfl ?_
  refine z_iconst (v := 0) h dX0_clear_1 (by decide) ?_
  refine z_putI h (by assumption) rfl kw0 2 (by decide) rfl rfl (rfl) (rfl) kf_RX0_18 dX0_clear_2 ?_
  exact ret dX0_clear_5

set_option maxHeartbeats 4000000 in
set_option maxRecDepth 100000 in
theorem c_X0_dropLast (l : Launch) {E : zE} {S : zS} {I : Nat → Nat → Int32} {J : Nat → Nat → Int64} {R : Nat → Nat → Option Nat} {ch sa na k : Nat} (hC : CH S R I ch sa na k) (hk : 0 < k) : zN l yX0_dropLast wsX0_dropLast rmX0_dropLast E S [.ref ch] (I, J, R) (zu I ch 2 (nI (k - 1)), J, R) := by
  refine z_metN (cc := cX0_dropLast) (maxL := 1) (by decide) rfl (Nat.le_of_ble_eq_true rfl) (fun X h ret => ?_)
  show zV X E S 0 0 (I, J, R) 0 _ []
  obtain ⟨h1, h2, h3, h4, h5, h6, h7, h8⟩ := id hC
  refine z_aload_n h dX0_dropLast_0 rfl rfl ?_
  refine z_getI h (by assumption) rfl kw0 2 (by decide) rfl kf_RX0_18 dX0_dropLast_1 ?_
  rw [h7]
  refine z_if_le h 17 dX0_dropLast_4 (by decide) (fun c4 => ?_) (fun c4 => ?_)
  · exact absurd c4 (nI_nle hk (by omega))
  · refine z_aload_n h dX0_dropLast_7 rfl rfl ?_
    refine z_dup h dX0_dropLast_8 rfl ?_
    refine z_getI h (by assumption) rfl kw0 2 (by decide) rfl kf_RX0_18 dX0_dropLast_9 ?_
    rw [h7]
    refine z_iconst (v := 1) h dX0_dropLast_12 (by decide) ?_
    refine z_isub h dX0_dropLast_13 ?_
    rw [show nI k - 1 = nI (k - 1) from pk_sub (b := 1) hk]
    refine z_putI h (by assumption) rfl kw0 2 (by decide) rfl rfl (rfl) (rfl) kf_RX0_18 dX0_dropLast_14 ?_
    exact ret dX0_dropLast_17

set_option maxHeartbeats 4000000 in
set_option maxRecDepth 100000 in
theorem c_X0_lastSentence (l : Launch) {E : zE} {S : zS} {I : Nat → Nat → Int32} {J : Nat → Nat → Int64} {R : Nat → Nat → Option Nat} {ch sa na k : Nat} (hC : CH S R I ch sa na k) (hk : 0 < k) : zI l yX0_lastSentence wsX0_lastSentence rmX0_lastSentence E S [.ref ch] (I, J, R) (I sa (k - 1)) (I, J, R) := by
  refine z_metI (cc := cX0_lastSentence) (maxL := 1) (ty := .int) (by decide) rfl (Nat.le_of_ble_eq_true rfl) (fun X h ret => ?_)
  show zV X E S 0 0 (I, J, R) 0 _ []
  obtain ⟨h1, h2, h3, h4, h5, h6, h7, h8⟩ := id hC
  refine z_aload_n h dX0_lastSentence_0 rfl rfl ?_
  refine z_getI h (by assumption) rfl kw0 2 (by decide) rfl kf_RX0_18 dX0_lastSentence_1 ?_
  rw [h7]
  refine z_if_le h 21 dX0_lastSentence_4 (by decide) (fun c4 => ?_) (fun c4 => ?_)
  · exact absurd c4 (nI_nle hk (by omega))
  · refine z_aload_n h dX0_lastSentence_7 rfl rfl ?_
    refine z_getR h (by assumption) rfl kw0 0 (by decide) rfl (by assumption) kf_RX0_9 dX0_lastSentence_8 ?_
    refine z_aload_n h dX0_lastSentence_11 rfl rfl ?_
    refine z_getI h (by assumption) rfl kw0 2 (by decide) rfl kf_RX0_18 dX0_lastSentence_12 ?_
    rw [h7]
    refine z_iconst (v := 1) h dX0_lastSentence_15 (by decide) ?_
    refine z_isub h dX0_lastSentence_16 ?_
    rw [show nI k - 1 = nI (k - 1) from pk_sub (b := 1) hk]
    refine z_iald h (by assumption) (zix_nI (by omega) (by decide)) dX0_lastSentence_17 ?_
    refine z_goto h 22 dX0_lastSentence_18 (by decide) ?_
    exact ret dX0_lastSentence_22 rfl

set_option maxHeartbeats 4000000 in
set_option maxRecDepth 100000 in
theorem c_X0_lastNumber (l : Launch) {E : zE} {S : zS} {I : Nat → Nat → Int32} {J : Nat → Nat → Int64} {R : Nat → Nat → Option Nat} {ch sa na k : Nat} (hC : CH S R I ch sa na k) (hk : 0 < k) : zI l yX0_lastNumber wsX0_lastNumber rmX0_lastNumber E S [.ref ch] (I, J, R) (I na (k - 1)) (I, J, R) := by
  refine z_metI (cc := cX0_lastNumber) (maxL := 1) (ty := .int) (by decide) rfl (Nat.le_of_ble_eq_true rfl) (fun X h ret => ?_)
  show zV X E S 0 0 (I, J, R) 0 _ []
  obtain ⟨h1, h2, h3, h4, h5, h6, h7, h8⟩ := id hC
  refine z_aload_n h dX0_lastNumber_0 rfl rfl ?_
  refine z_getI h (by assumption) rfl kw0 2 (by decide) rfl kf_RX0_18 dX0_lastNumber_1 ?_
  rw [h7]
  refine z_if_le h 21 dX0_lastNumber_4 (by decide) (fun c4 => ?_) (fun c4 => ?_)
  · exact absurd c4 (nI_nle hk (by omega))
  · refine z_aload_n h dX0_lastNumber_7 rfl rfl ?_
    refine z_getR h (by assumption) rfl kw0 1 (by decide) rfl (by assumption) kf_RX0_15 dX0_lastNumber_8 ?_
    refine z_aload_n h dX0_lastNumber_11 rfl rfl ?_
    refine z_getI h (by assumption) rfl kw0 2 (by decide) rfl kf_RX0_18 dX0_lastNumber_12 ?_
    rw [h7]
    refine z_iconst (v := 1) h dX0_lastNumber_15 (by decide) ?_
    refine z_isub h dX0_lastNumber_16 ?_
    rw [show nI k - 1 = nI (k - 1) from pk_sub (b := 1) hk]
    refine z_iald h (by assumption) (zix_nI (by omega) (by decide)) dX0_lastNumber_17 ?_
    refine z_goto h 22 dX0_lastNumber_18 (by decide) ?_
    exact ret dX0_lastNumber_22 rfl

set_option maxHeartbeats 4000000 in
set_option maxRecDepth 100000 in
theorem c_X0_dropFirst (l : Launch) {E : zE} {S : zS} {I : Nat → Nat → Int32} {J : Nat → Nat → Int64} {R : Nat → Nat → Option Nat} {ch sa na k : Nat} (hC : CH S R I ch sa na k) : zNP l yX0_dropFirst wsX0_dropFirst rmX0_dropFirst E S [.ref ch] (I, J, R) (fun ν => ∃ I', ν = (I', J, R) ∧ fr [sa, na, ch] I I' ∧ I' ch 2 = nI 49 ∧ ∀ j, j < 49 → I' sa j = I sa (j + 1) ∧ I' na j = I na (j + 1)) := by
  refine z_metNP (cc := cX0_dropFirst) (maxL := 2) (by decide) rfl (Nat.le_of_ble_eq_true rfl) (fun X h ret => ?_)
  show zV X E S 0 0 (I, J, R) 0 _ []
  obtain ⟨h1, h2, h3, h4, h5, h6, h7, h8⟩ := id hC
  obtain ⟨n1, n2⟩ := hC.ne
  have L2 : ∀ (d i : Nat) (I1 : Nat → Nat → Int32), i + d = 50 → 1 ≤ i → fr [sa, na] I I1 → (∀ j, j + 1 < i → I1 sa j = I sa (j + 1) ∧ I1 na j = I na (j + 1)) → (∀ j, i ≤ j + 1 → I1 sa j = I sa j ∧ I1 na j = I na j) → zV X E S 0 0 (I1, J, R) 2 [(0, .ref ch), (1, .int (nI i))] [] := by
    intro d
    induction d with
    | zero =>
      intro i I1 hi h1i hf hlo hhi
      have hi50 : i = 50 := by omega
      subst hi50
      refine z_iload_n h dX0_dropFirst_2 rfl rfl ?_
      refine z_bipush (v := 50) h dX0_dropFirst_3 (by decide) ?_
      rw [show (50 : Int32) = nI 50 from rfl]
      refine z_icmp_ge h 42 dX0_dropFirst_5 (by decide) (fun c5 => ?_) (fun c5 => ?_)
      · refine z_aload_n h dX0_dropFirst_42 rfl rfl ?_
        refine z_bipush (v := 49) h dX0_dropFirst_43 (by decide) ?_
        refine z_putI h (by assumption) rfl kw0 2 (by decide) rfl rfl (rfl) (rfl) kf_RX0_18 dX0_dropFirst_45 ?_
        refine ret ⟨_, rfl, fr_zu (fr_mono hf (by simp)) (by simp), zu_s, fun j hj => ?_⟩ dX0_dropFirst_48
        rw [zu_a (Ne.symm n1), zu_a (Ne.symm n2)]
        exact hlo j (by omega)
      · exact absurd (nI_le (by decide) (by decide)) c5
    | succ d ih =>
      intro i I1 hi h1i hf hlo hhi
      refine z_iload_n h dX0_dropFirst_2 rfl rfl ?_
      refine z_bipush (v := 50) h dX0_dropFirst_3 (by decide) ?_
      rw [show (50 : Int32) = nI 50 from rfl]
      refine z_icmp_ge h 42 dX0_dropFirst_5 (by decide) (fun c5 => ?_) (fun c5 => ?_)
      · exact absurd (nle (by decide) (by omega) c5) (by omega)
      · refine z_aload_n h dX0_dropFirst_8 rfl rfl ?_
        refine z_getR h (by assumption) rfl kw0 0 (by decide) rfl (by assumption) kf_RX0_9 dX0_dropFirst_9 ?_
        refine z_iload_n h dX0_dropFirst_12 rfl rfl ?_
        refine z_iconst (v := 1) h dX0_dropFirst_13 (by decide) ?_
        refine z_isub h dX0_dropFirst_14 ?_
        rw [show nI i - 1 = nI (i - 1) from pk_sub (b := 1) h1i]
        refine z_aload_n h dX0_dropFirst_15 rfl rfl ?_
        refine z_getR h (by assumption) rfl kw0 0 (by decide) rfl (by assumption) kf_RX0_9 dX0_dropFirst_16 ?_
        refine z_iload_n h dX0_dropFirst_19 rfl rfl ?_
        refine z_iald h (by assumption) (zix_nI (by omega) (by decide)) dX0_dropFirst_20 ?_
        refine z_iast h (by assumption) (zix_nI (by omega) (by decide)) dX0_dropFirst_21 ?_
        refine z_aload_n h dX0_dropFirst_22 rfl rfl ?_
        refine z_getR h (by assumption) rfl kw0 1 (by decide) rfl (by assumption) kf_RX0_15 dX0_dropFirst_23 ?_
        refine z_iload_n h dX0_dropFirst_26 rfl rfl ?_
        refine z_iconst (v := 1) h dX0_dropFirst_27 (by decide) ?_
        refine z_isub h dX0_dropFirst_28 ?_
        rw [show nI i - 1 = nI (i - 1) from pk_sub (b := 1) h1i]
        refine z_aload_n h dX0_dropFirst_29 rfl rfl ?_
        refine z_getR h (by assumption) rfl kw0 1 (by decide) rfl (by assumption) kf_RX0_15 dX0_dropFirst_30 ?_
        refine z_iload_n h dX0_dropFirst_33 rfl rfl ?_
        refine z_iald h (by assumption) (zix_nI (by omega) (by decide)) dX0_dropFirst_34 ?_
        refine z_iast h (by assumption) (zix_nI (by omega) (by decide)) dX0_dropFirst_35 ?_
        refine z_iinc h dX0_dropFirst_36 rfl (nI_1 i) (by decide) ?_
        refine z_goto h 2 dX0_dropFirst_39 (by decide) ?_
        have e1 : zu I1 sa (i - 1) (I1 sa i) na i = I1 na i := zu_a (Ne.symm h6)
        rw [e1]
        have hh := hhi i (by omega)
        refine z_lk (ih (i + 1) _ (by omega) (by omega) (fr_zu (fr_zu hf (by simp)) (by simp)) (fun j hj => ?_) (fun j hj => ?_)) ⟨rfl, rfl, trivial⟩
        · by_cases e : j = i - 1
          · subst e
            refine ⟨?_, ?_⟩
            · rw [zu_a h6, zu_s, show i - 1 + 1 = i by omega]; exact hh.1
            · rw [zu_s, show i - 1 + 1 = i by omega]; exact hh.2
          · refine ⟨?_, ?_⟩
            · rw [zu_k e, zu_k e]; exact (hlo j (by omega)).1
            · rw [zu_k e, zu_k e]; exact (hlo j (by omega)).2
        · refine ⟨?_, ?_⟩
          · rw [zu_k (by omega), zu_k (by omega)]; exact (hhi j (by omega)).1
          · rw [zu_k (by omega), zu_k (by omega)]; exact (hhi j (by omega)).2
  refine z_iconst (v := 1) h dX0_dropFirst_0 (by decide) ?_
  refine z_istore_n h dX0_dropFirst_1 rfl (by decide) ?_
  exact z_lk (L2 49 1 I (by omega) (by omega) fr_rf (fun j hj => absurd hj (by omega)) (fun j _ => ⟨rfl, rfl⟩)) ⟨rfl, rfl, trivial⟩

set_option maxHeartbeats 4000000 in
set_option maxRecDepth 100000 in
theorem c_X0_keep (l : Launch) {E : zE} {S : zS} {I : Nat → Nat → Int32} {J : Nat → Nat → Int64} {R : Nat → Nat → Option Nat} {ch sa na k : Nat} (hC : CH S R I ch sa na k) {s w : Int32} : zNP l yX0_keep wsX0_keep rmX0_keep E S [.ref ch, .int s, .int w] (I, J, R) (fun ν => ∃ I', ν = (I', J, R) ∧ fr [sa, na, ch] I I' ∧ ((k < 50 ∧ I' ch 2 = nI (k + 1) ∧ (∀ j, j < k → I' sa j = I sa j ∧ I' na j = I na j) ∧ I' sa k = s ∧ I' na k = w) ∨ (k = 50 ∧ I' ch 2 = nI 50 ∧ (∀ j, j < 49 → I' sa j = I sa (j + 1) ∧ I' na j = I na (j + 1)) ∧ I' sa 49 = s ∧ I' na 49 = w))) := by
  refine z_metNP (cc := cX0_keep) (maxL := 3) (by decide) rfl (Nat.le_of_ble_eq_true rfl) (fun X h ret => ?_)
  show zV X E S 0 0 (I, J, R) 0 _ []
  obtain ⟨h1, h2, h3, h4, h5, h6, h7, h8⟩ := id hC
  obtain ⟨n1, n2⟩ := hC.ne
  have J13 : ∀ (I1 : Nat → Nat → Int32) (m : Nat), m < 50 → I1 ch 2 = nI m → fr [sa, na, ch] I I1 → ((k < 50 ∧ m = k ∧ I1 = I) ∨ (k = 50 ∧ m = 49 ∧ ∀ j, j < 49 → I1 sa j = I sa (j + 1) ∧ I1 na j = I na (j + 1))) → zV X E S 0 0 (I1, J, R) 13 [(0, .ref ch), (1, .int s), (2, .int w)] [] := by
    intro I1 m hm hk hf hcase
    refine z_aload_n h dX0_keep_13 rfl rfl ?_
    refine z_getR h (by assumption) rfl kw0 0 (by decide) rfl (by assumption) kf_RX0_9 dX0_keep_14 ?_
    refine z_aload_n h dX0_keep_17 rfl rfl ?_
    refine z_getI h (by assumption) rfl kw0 2 (by decide) rfl kf_RX0_18 dX0_keep_18 ?_
    rw [hk]
    refine z_iload_n h dX0_keep_21 rfl rfl ?_
    refine z_iast h (by assumption) (zix_nI hm (by decide)) dX0_keep_22 ?_
    refine z_aload_n h dX0_keep_23 rfl rfl ?_
    refine z_getR h (by assumption) rfl kw0 1 (by decide) rfl (by assumption) kf_RX0_15 dX0_keep_24 ?_
    refine z_aload_n h dX0_keep_27 rfl rfl ?_
    refine z_getI h (by assumption) rfl kw0 2 (by decide) rfl kf_RX0_18 dX0_keep_28 ?_
    rw [zu_a n1, hk]
    refine z_iload_n h dX0_keep_31 rfl rfl ?_
    refine z_iast h (by assumption) (zix_nI hm (by decide)) dX0_keep_32 ?_
    refine z_aload_n h dX0_keep_33 rfl rfl ?_
    refine z_dup h dX0_keep_34 rfl ?_
    refine z_getI h (by assumption) rfl kw0 2 (by decide) rfl kf_RX0_18 dX0_keep_35 ?_
    rw [zu_a n2, zu_a n1, hk]
    refine z_iconst (v := 1) h dX0_keep_38 (by decide) ?_
    refine z_iadd h dX0_keep_39 ?_
    rw [nI_1]
    refine z_putI h (by assumption) rfl kw0 2 (by decide) rfl rfl (rfl) (rfl) kf_RX0_18 dX0_keep_40 ?_
    refine ret ⟨_, rfl, fr_zu (fr_zu (fr_zu hf (by simp)) (by simp)) (by simp), ?_⟩ dX0_keep_43
    rcases hcase with ⟨c1, c2, c3⟩ | ⟨c1, c2, c3⟩
    · subst c2
      subst c3
      refine Or.inl ⟨c1, zu_s, fun j hj => ?_, ?_, ?_⟩
      · rw [zu_a (Ne.symm n1), zu_a (Ne.symm n2), zu_a h6, zu_k (by omega), zu_k (by omega), zu_a (Ne.symm h6)]
        exact ⟨rfl, rfl⟩
      · rw [zu_a (Ne.symm n1), zu_a h6]; exact zu_s
      · rw [zu_a (Ne.symm n2)]; exact zu_s
    · subst c2
      refine Or.inr ⟨c1, zu_s, fun j hj => ?_, ?_, ?_⟩
      · rw [zu_a (Ne.symm n1), zu_a (Ne.symm n2), zu_a h6, zu_k (by omega), zu_k (by omega), zu_a (Ne.symm h6)]
        exact c3 j hj
      · rw [zu_a (Ne.symm n1), zu_a h6]; exact zu_s
      · rw [zu_a (Ne.symm n2)]; exact zu_s
  refine z_aload_n h dX0_keep_0 rfl rfl ?_
  refine z_getI h (by assumption) rfl kw0 2 (by decide) rfl kf_RX0_18 dX0_keep_1 ?_
  rw [h7]
  refine z_bipush (v := 50) h dX0_keep_4 (by decide) ?_
  rw [show (50 : Int32) = nI 50 from rfl]
  refine z_icmp_lt h 13 dX0_keep_6 (by decide) (fun c6 => ?_) (fun c6 => ?_)
  · have c6 := nlt (by omega) (by decide) c6
    exact z_lk (J13 I k c6 h7 fr_rf (Or.inl ⟨c6, rfl, rfl⟩)) ⟨rfl, rfl, rfl, trivial⟩
  · have c6 := nnlt (by omega) (by decide) c6
    refine z_aload_n h dX0_keep_9 rfl rfl ?_
    refine z_callVNP h (c_X0_dropFirst l hC) (by assumption) rfl gm_RX0_22 rfl ⟨rfl, rfl⟩ 0 (by decide +kernel) ⟨by decide, by decide⟩ rfl rfl (Nat.le_of_ble_eq_true rfl) ⟨Nat.zero_le _, Nat.zero_le _⟩ dX0_keep_10 (fun ν hν => ?_)
    obtain ⟨I1, rfl, hf1, hk1, hj1⟩ := hν
    exact z_lk (J13 I1 49 (by decide) hk1 hf1 (Or.inr ⟨by omega, rfl, hj1⟩)) ⟨rfl, rfl, rfl, trivial⟩
