set_option maxHeartbeats 4000000 in
set_option maxRecDepth 100000 in
theorem c_X5_size (l : Launch) {E : zE} {S : zS} {I : Nat → Nat → Int32} {J : Nat → Nat → Int64} {R : Nat → Nat → Option Nat} {t : Nat} (ht : zO S t 5) : zI l yX5_size wsX5_size rmX5_size E S [.ref t] (I, J, R) (I t 1) (I, J, R) := by
  refine z_metI (cc := cX5_size) (maxL := 1) (ty := .int) (by decide) rfl (Nat.le_of_ble_eq_true rfl) (fun X h ret => ?_)
  show zV X E S 0 0 (I, J, R) 0 _ []
  refine z_aload_n h dX5_size_0 rfl rfl ?_
  refine z_getI h (by assumption) rfl kw5 1 (by decide) rfl kf_RX5_15 dX5_size_1 ?_
  exact ret dX5_size_4 rfl

set_option maxHeartbeats 4000000 in
set_option maxRecDepth 100000 in
theorem c_X5_start (l : Launch) {E : zE} {S : zS} {I : Nat → Nat → Int32} {J : Nat → Nat → Int64} {R : Nat → Nat → Option Nat} {t : Nat} (ht : zO S t 5) : zI l yX5_start wsX5_start rmX5_start E S [.ref t] (I, J, R) (I t 2) (I, J, R) := by
  refine z_metI (cc := cX5_start) (maxL := 1) (ty := .int) (by decide) rfl (Nat.le_of_ble_eq_true rfl) (fun X h ret => ?_)
  show zV X E S 0 0 (I, J, R) 0 _ []
  refine z_aload_n h dX5_start_0 rfl rfl ?_
  refine z_getI h (by assumption) rfl kw5 2 (by decide) rfl kf_RX5_19 dX5_start_1 ?_
  exact ret dX5_start_4 rfl

set_option maxHeartbeats 4000000 in
set_option maxRecDepth 100000 in
theorem c_X5_isOver (l : Launch) {E : zE} {S : zS} {I : Nat → Nat → Int32} {J : Nat → Nat → Int64} {R : Nat → Nat → Option Nat} {t : Nat} (ht : zO S t 5) : zI l yX5_isOver wsX5_isOver rmX5_isOver E S [.ref t] (I, J, R) (b2i (decide (I t 1 ≤ I t 2))) (I, J, R) := by
  refine z_metI (cc := cX5_isOver) (maxL := 1) (ty := .boolean) (by decide) rfl (Nat.le_of_ble_eq_true rfl) (fun X h ret => ?_)
  show zV X E S 0 0 (I, J, R) 0 _ []
  refine z_aload_n h dX5_isOver_0 rfl rfl ?_
  refine z_getI h (by assumption) rfl kw5 2 (by decide) rfl kf_RX5_19 dX5_isOver_1 ?_
  refine z_aload_n h dX5_isOver_4 rfl rfl ?_
  refine z_getI h (by assumption) rfl kw5 1 (by decide) rfl kf_RX5_15 dX5_isOver_5 ?_
  refine z_icmp_lt h 15 dX5_isOver_8 (by decide) (fun c8 => ?_) (fun c8 => ?_)
  · have e := b2i_f (b := decide (I t 1 ≤ I t 2)) (by simpa using c8)
    rw [e] at ret
    refine z_iconst (v := 0) h dX5_isOver_15 (by decide) ?_
    exact ret dX5_isOver_16 rfl
  · have e := b2i_t (b := decide (I t 1 ≤ I t 2)) (by simpa using c8)
    rw [e] at ret
    refine z_iconst (v := 1) h dX5_isOver_11 (by decide) ?_
    refine z_goto h 16 dX5_isOver_12 (by decide) ?_
    exact ret dX5_isOver_16 rfl

set_option maxHeartbeats 4000000 in
set_option maxRecDepth 100000 in
theorem c_X5_isLetter (l : Launch) {E : zE} {S : zS} {μ : zM} (c : Int32) : zI l yX5_isLetter wsX5_isLetter rmX5_isLetter E S [.int c] μ (b2i (isL c)) μ := by
  refine z_metI (cc := cX5_isLetter) (maxL := 1) (ty := .boolean) (by decide) rfl (Nat.le_of_ble_eq_true rfl) (fun X h ret => ?_)
  show zV X E S 0 0 μ 0 _ []
  refine z_iload_n h dX5_isLetter_0 rfl rfl ?_
  refine z_bipush (v := 97) h dX5_isLetter_1 (by decide) ?_
  refine z_icmp_lt h 16 dX5_isLetter_3 (by decide) (fun c3 => ?_) (fun c3 => ?_)
  · have e := b2i_f (b := isL c) (by simp only [isL, Bool.and_eq_false_iff, decide_eq_false_iff_not, Int32.not_le]; exact Or.inl c3)
    rw [e] at ret
    refine z_iconst (v := 0) h dX5_isLetter_16 (by decide) ?_
    exact ret dX5_isLetter_17 rfl
  · refine z_iload_n h dX5_isLetter_6 rfl rfl ?_
    refine z_bipush (v := 122) h dX5_isLetter_7 (by decide) ?_
    refine z_icmp_gt h 16 dX5_isLetter_9 (by decide) (fun c9 => ?_) (fun c9 => ?_)
    · have e := b2i_f (b := isL c) (by simp only [isL, Bool.and_eq_false_iff, decide_eq_false_iff_not, Int32.not_le]; exact Or.inr c9)
      rw [e] at ret
      refine z_iconst (v := 0) h dX5_isLetter_16 (by decide) ?_
      exact ret dX5_isLetter_17 rfl
    · have e := b2i_t (b := isL c) (by simp only [isL, Bool.and_eq_true, decide_eq_true_eq]; exact ⟨Int32.not_lt.mp c3, Int32.not_lt.mp c9⟩)
      rw [e] at ret
      refine z_iconst (v := 1) h dX5_isLetter_12 (by decide) ?_
      refine z_goto h 17 dX5_isLetter_13 (by decide) ?_
      exact ret dX5_isLetter_17 rfl

set_option maxHeartbeats 4000000 in
set_option maxRecDepth 100000 in
theorem c_X5_isDigit (l : Launch) {E : zE} {S : zS} {μ : zM} (c : Int32) : zI l yX5_isDigit wsX5_isDigit rmX5_isDigit E S [.int c] μ (b2i (isD c)) μ := by
  refine z_metI (cc := cX5_isDigit) (maxL := 1) (ty := .boolean) (by decide) rfl (Nat.le_of_ble_eq_true rfl) (fun X h ret => ?_)
  show zV X E S 0 0 μ 0 _ []
  refine z_iload_n h dX5_isDigit_0 rfl rfl ?_
  refine z_bipush (v := 48) h dX5_isDigit_1 (by decide) ?_
  refine z_icmp_lt h 16 dX5_isDigit_3 (by decide) (fun c3 => ?_) (fun c3 => ?_)
  · have e := b2i_f (b := isD c) (by simp only [isD, Bool.and_eq_false_iff, decide_eq_false_iff_not, Int32.not_le]; exact Or.inl c3)
    rw [e] at ret
    refine z_iconst (v := 0) h dX5_isDigit_16 (by decide) ?_
    exact ret dX5_isDigit_17 rfl
  · refine z_iload_n h dX5_isDigit_6 rfl rfl ?_
    refine z_bipush (v := 57) h dX5_isDigit_7 (by decide) ?_
    refine z_icmp_gt h 16 dX5_isDigit_9 (by decide) (fun c9 => ?_) (fun c9 => ?_)
    · have e := b2i_f (b := isD c) (by simp only [isD, Bool.and_eq_false_iff, decide_eq_false_iff_not, Int32.not_le]; exact Or.inr c9)
      rw [e] at ret
      refine z_iconst (v := 0) h dX5_isDigit_16 (by decide) ?_
      exact ret dX5_isDigit_17 rfl
    · have e := b2i_t (b := isD c) (by simp only [isD, Bool.and_eq_true, decide_eq_true_eq]; exact ⟨Int32.not_lt.mp c3, Int32.not_lt.mp c9⟩)
      rw [e] at ret
      refine z_iconst (v := 1) h dX5_isDigit_12 (by decide) ?_
      refine z_goto h 17 dX5_isDigit_13 (by decide) ?_
      exact ret dX5_isDigit_17 rfl

set_option maxHeartbeats 4000000 in
set_option maxRecDepth 100000 in
theorem c_X5_advance (l : Launch) {E : zE} {S : zS} {I : Nat → Nat → Int32} {J : Nat → Nat → Int64} {R : Nat → Nat → Option Nat} {t b n p : Nat} (ht : zO S t 5) (hb : R t 0 = some b) (hB : zA S b 9 400) (hn : I t 1 = nI n) (h4 : n ≤ 400) (hp : I t 3 = nI p) (hp4 : p ≤ n) : zN l yX5_advance wsX5_advance rmX5_advance E S [.ref t] (I, J, R) (zu (zu I t 2 (nI (skp (I b) n p))) t 3 (nI (wnd (I b) n (skp (I b) n p))), J, R) := by
  refine z_metN (cc := cX5_advance) (maxL := 4) (by decide) rfl (Nat.le_of_ble_eq_true rfl) (fun X h ret => ?_)
  show zV X E S 0 0 (I, J, R) 0 _ []
  have L5 : ∀ (d i : Nat), i + d = n → zV X E S 0 0 (I, J, R) 41 [(0, .ref t), (1, .int (nI (skW (I b) d i)))] [] → zV X E S 0 0 (I, J, R) 5 [(0, .ref t), (1, .int (nI i))] [] := by
    intro d
    induction d with
    | zero =>
      intro i hi k
      refine z_iload_n h dX5_advance_5 rfl rfl ?_
      refine z_aload_n h dX5_advance_6 rfl rfl ?_
      refine z_getI h (by assumption) rfl kw5 1 (by decide) rfl kf_RX5_15 dX5_advance_7 ?_
      refine z_icmp_ge h 41 dX5_advance_10 (by decide) (fun c10 => ?_) (fun c10 => ?_)
      · exact k
      · rw [hn] at c10; exact absurd (nI_le (by omega) (by omega)) c10
    | succ d ih =>
      intro i hi k
      refine z_iload_n h dX5_advance_5 rfl rfl ?_
      refine z_aload_n h dX5_advance_6 rfl rfl ?_
      refine z_getI h (by assumption) rfl kw5 1 (by decide) rfl kf_RX5_15 dX5_advance_7 ?_
      refine z_icmp_ge h 41 dX5_advance_10 (by decide) (fun c10 => ?_) (fun c10 => ?_)
      · rw [hn] at c10; exact absurd (nle (by omega) (by omega) c10) (by omega)
      · refine z_aload_n h dX5_advance_13 rfl rfl ?_
        refine z_getR h (by assumption) rfl kw5 0 (by decide) rfl (by assumption) kf_RX5_9 dX5_advance_14 ?_
        refine z_iload_n h dX5_advance_17 rfl rfl ?_
        refine z_iald h (by assumption) (zix_nI (by omega) (by decide)) dX5_advance_18 ?_
        refine z_bipush (v := 32) h dX5_advance_19 (by decide) ?_
        refine z_icmp_eq h 35 dX5_advance_21 (by decide) (fun c21 => ?_) (fun c21 => ?_)
        · rw [skW, if_pos (show isB (I b i) = true by simp [isB, c21])] at k
          refine z_iinc h dX5_advance_35 rfl (nI_1 i) (by decide) ?_
          refine z_goto h 5 dX5_advance_38 (by decide) ?_
          exact z_lk (ih (i + 1) (by omega) k) ⟨rfl, rfl, trivial⟩
        · refine z_aload_n h dX5_advance_24 rfl rfl ?_
          refine z_getR h (by assumption) rfl kw5 0 (by decide) rfl (by assumption) kf_RX5_9 dX5_advance_25 ?_
          refine z_iload_n h dX5_advance_28 rfl rfl ?_
          refine z_iald h (by assumption) (zix_nI (by omega) (by decide)) dX5_advance_29 ?_
          refine z_bipush (v := 10) h dX5_advance_30 (by decide) ?_
          refine z_icmp_ne h 41 dX5_advance_32 (by decide) (fun c32 => ?_) (fun c32 => ?_)
          · rw [skW, if_neg (show ¬ isB (I b i) = true by simp [isB, c21, c32])] at k
            exact k
          · rw [skW, if_pos (show isB (I b i) = true by simp [isB, c32])] at k
            refine z_iinc h dX5_advance_35 rfl (nI_1 i) (by decide) ?_
            refine z_goto h 5 dX5_advance_38 (by decide) ?_
            exact z_lk (ih (i + 1) (by omega) k) ⟨rfl, rfl, trivial⟩
  have L89 : ∀ (g w : Bool) (d i : Nat), i + d = n → zV X E S 0 0 (zu I t 2 (nI (skp (I b) n p)), J, R) 135 [(0, .ref t), (1, .int (nI (if w = true then rnW (I b) g d i else i)))] [] → zV X E S 0 0 (zu I t 2 (nI (skp (I b) n p)), J, R) 89 [(0, .ref t), (1, .int (nI i)), (2, .int (b2i g)), (3, .int (b2i w))] [] := by
    intro g w d
    have hn2 : zu I t 2 (nI (skp (I b) n p)) t 1 = nI n := (zu_k (by decide)).trans hn
    have hbt : b ≠ t := fun q => absurd (ht.2.symm.trans (q ▸ hB.2.1)) (by decide)
    have hI : ∀ j, zu I t 2 (nI (skp (I b) n p)) b j = I b j := fun j => zu_a hbt
    induction d with
    | zero =>
      intro i hi k
      refine z_iload_n h dX5_advance_89 rfl rfl ?_
      refine z_if_eq h 135 dX5_advance_90 (by decide) (fun c90 => ?_) (fun c90 => ?_)
      · rw [show (if w = true then rnW (I b) g 0 i else i) = i by unfold rnW; split <;> rfl] at k
        exact z_lk k ⟨rfl, rfl, trivial⟩
      · refine z_iload_n h dX5_advance_93 rfl rfl ?_
        refine z_aload_n h dX5_advance_94 rfl rfl ?_
        refine z_getI h (by assumption) rfl kw5 1 (by decide) rfl kf_RX5_15 dX5_advance_95 ?_
        refine z_icmp_ge h 135 dX5_advance_98 (by decide) (fun c98 => ?_) (fun c98 => ?_)
        · rw [show (if w = true then rnW (I b) g 0 i else i) = i by unfold rnW; split <;> rfl] at k
          exact z_lk k ⟨rfl, rfl, trivial⟩
        · rw [hn2] at c98; exact absurd (nI_le (by omega) (by omega)) c98
    | succ d ih =>
      intro i hi k
      refine z_iload_n h dX5_advance_89 rfl rfl ?_
      refine z_if_eq h 135 dX5_advance_90 (by decide) (fun c90 => ?_) (fun c90 => ?_)
      · rw [if_neg (show ¬ w = true by rw [b2i_0.mp c90]; decide)] at k
        exact z_lk k ⟨rfl, rfl, trivial⟩
      · refine z_iload_n h dX5_advance_93 rfl rfl ?_
        refine z_aload_n h dX5_advance_94 rfl rfl ?_
        refine z_getI h (by assumption) rfl kw5 1 (by decide) rfl kf_RX5_15 dX5_advance_95 ?_
        refine z_icmp_ge h 135 dX5_advance_98 (by decide) (fun c98 => ?_) (fun c98 => ?_)
        · rw [hn2] at c98; exact absurd (nle (by omega) (by omega) c98) (by omega)
        · refine z_aload_n h dX5_advance_101 rfl rfl ?_
          refine z_getR h (by assumption) rfl kw5 0 (by decide) rfl (by assumption) kf_RX5_9 dX5_advance_102 ?_
          refine z_iload_n h dX5_advance_105 rfl rfl ?_
          refine z_iald h (by assumption) (zix_nI (by omega) (by decide)) dX5_advance_106 ?_
          refine z_callSI h (c_X5_isLetter l _) (va_cwS 1 h.2.2.2.2.1 gm_RX5_35 rfl rfl rfl (by decide +kernel) ⟨by decide, by decide⟩) rfl rfl (Nat.le_of_ble_eq_true rfl) ⟨Nat.zero_le _, Nat.zero_le _⟩ dX5_advance_107 ?_
          refine z_if_ne h 129 dX5_advance_110 (by decide) (fun c110 => ?_) (fun c110 => ?_)
          · rw [hI] at c110
            rw [if_pos (b2i_n0.mp c90), rnW, if_pos (show (isL (I b i) || (g && isD (I b i))) = true by rw [b2i_n0.mp c110]; rfl)] at k
            refine z_iinc h dX5_advance_129 rfl (nI_1 i) (by decide) ?_
            refine z_goto h 89 dX5_advance_132 (by decide) ?_
            exact z_lk (ih (i + 1) (by omega) (by rw [if_pos (b2i_n0.mp c90)]; exact k)) ⟨rfl, rfl, rfl, rfl, trivial⟩
          · refine z_iload_n h dX5_advance_113 rfl rfl ?_
            refine z_if_eq h 135 dX5_advance_114 (by decide) (fun c114 => ?_) (fun c114 => ?_)
            · rw [hI] at c110
              rw [if_pos (b2i_n0.mp c90), rnW, if_neg (show ¬ (isL (I b i) || (g && isD (I b i))) = true by rw [b2i_0.mp (c110), b2i_0.mp c114]; simp)] at k
              exact z_lk k ⟨rfl, rfl, trivial⟩
            · refine z_aload_n h dX5_advance_117 rfl rfl ?_
              refine z_getR h (by assumption) rfl kw5 0 (by decide) rfl (by assumption) kf_RX5_9 dX5_advance_118 ?_
              refine z_iload_n h dX5_advance_121 rfl rfl ?_
              refine z_iald h (by assumption) (zix_nI (by omega) (by decide)) dX5_advance_122 ?_
              refine z_callSI h (c_X5_isDigit l _) (va_cwS 1 h.2.2.2.2.1 gm_RX5_31 rfl rfl rfl (by decide +kernel) ⟨by decide, by decide⟩) rfl rfl (Nat.le_of_ble_eq_true rfl) ⟨Nat.zero_le _, Nat.zero_le _⟩ dX5_advance_123 ?_
              refine z_if_eq h 135 dX5_advance_126 (by decide) (fun c126 => ?_) (fun c126 => ?_)
              · rw [hI] at c110 c126
                rw [if_pos (b2i_n0.mp c90), rnW, if_neg (show ¬ (isL (I b i) || (g && isD (I b i))) = true by rw [b2i_0.mp (c110), b2i_0.mp c126]; simp)] at k
                exact z_lk k ⟨rfl, rfl, trivial⟩
              · rw [hI] at c110 c126
                rw [if_pos (b2i_n0.mp c90), rnW, if_pos (show (isL (I b i) || (g && isD (I b i))) = true by rw [b2i_n0.mp c126, b2i_n0.mp c114]; simp)] at k
                refine z_iinc h dX5_advance_129 rfl (nI_1 i) (by decide) ?_
                refine z_goto h 89 dX5_advance_132 (by decide) ?_
                exact z_lk (ih (i + 1) (by omega) (by rw [if_pos (b2i_n0.mp c90)]; exact k)) ⟨rfl, rfl, rfl, rfl, trivial⟩
  have hs := skp_le (I b) hp4
  refine z_aload_n h dX5_advance_0 rfl rfl ?_
  refine z_getI h (by assumption) rfl kw5 3 (by decide) rfl kf_RX5_22 dX5_advance_1 ?_
  rw [hp]
  refine z_istore_n h dX5_advance_4 rfl (by decide) ?_
  refine z_lk (L5 (n - p) p (by omega) ?_) ⟨rfl, rfl, trivial⟩
  show zV X E S 0 0 (I, J, R) 41 [(0, .ref t), (1, .int (nI (skp (I b) n p)))] []
  have hn2 : zu I t 2 (nI (skp (I b) n p)) t 1 = nI n := (zu_k (by decide)).trans hn
  have hbt : b ≠ t := fun q => absurd (ht.2.symm.trans (q ▸ hB.2.1)) (by decide)
  have hI : ∀ j, zu I t 2 (nI (skp (I b) n p)) b j = I b j := fun j => zu_a hbt
  refine z_aload_n h dX5_advance_41 rfl rfl ?_
  refine z_iload_n h dX5_advance_42 rfl rfl ?_
  refine z_putI h (by assumption) rfl kw5 2 (by decide) rfl rfl (rfl) (rfl) kf_RX5_19 dX5_advance_43 ?_
  refine z_iload_n h dX5_advance_46 rfl rfl ?_
  refine z_aload_n h dX5_advance_47 rfl rfl ?_
  refine z_getI h (by assumption) rfl kw5 1 (by decide) rfl kf_RX5_15 dX5_advance_48 ?_
  refine z_icmp_ge h 135 dX5_advance_51 (by decide) (fun c51 => ?_) (fun c51 => ?_)
  · rw [hn2] at c51
    have e : wnd (I b) n (skp (I b) n p) = skp (I b) n p := by unfold wnd; exact if_neg (Nat.not_lt.mpr (nle (by omega) (by omega) c51))
    rw [e] at ret
    refine z_aload_n h dX5_advance_135 rfl rfl ?_
    refine z_iload_n h dX5_advance_136 rfl rfl ?_
    refine z_putI h (by assumption) rfl kw5 3 (by decide) rfl rfl rfl rfl kf_RX5_22 dX5_advance_137 ?_
    exact ret dX5_advance_140
  · rw [hn2] at c51
    have hlt := nnle (by omega) (by omega) c51
    refine z_aload_n h dX5_advance_54 rfl rfl ?_
    refine z_getR h (by assumption) rfl kw5 0 (by decide) rfl (by assumption) kf_RX5_9 dX5_advance_55 ?_
    refine z_iload_n h dX5_advance_58 rfl rfl ?_
    refine z_iald h (by assumption) (zix_nI (by omega) (by decide)) dX5_advance_59 ?_
    refine z_callSI h (c_X5_isDigit l _) (va_cwS 1 h.2.2.2.2.1 gm_RX5_31 rfl rfl rfl (by decide +kernel) ⟨by decide, by decide⟩) rfl rfl (Nat.le_of_ble_eq_true rfl) ⟨Nat.zero_le _, Nat.zero_le _⟩ dX5_advance_60 ?_
    rw [hI]
    refine z_istore_n h dX5_advance_63 rfl (by decide) ?_
    refine z_iload_n h dX5_advance_64 rfl rfl ?_
    refine z_if_ne h 80 dX5_advance_65 (by decide) (fun c65 => ?_) (fun c65 => ?_)
    · refine z_iconst (v := 1) h dX5_advance_80 (by decide) ?_
      refine z_goto h 85 dX5_advance_81 (by decide) ?_
      refine z_istore_n h dX5_advance_85 rfl (by decide) ?_
      refine z_iinc h dX5_advance_86 rfl (nI_1 _) (by decide) ?_
      refine z_lv (lv' := [(0, .ref t), (1, .int (nI (skp (I b) n p + 1))), (2, .int (b2i (isD (I b (skp (I b) n p))))), (3, .int (b2i true))]) ⟨rfl, rfl, rfl, rfl, trivial⟩ ?_
      refine L89 _ true (n - (skp (I b) n p + 1)) _ (by omega) ?_
      rw [show (if true = true then rnW (I b) (isD (I b (skp (I b) n p))) (n - (skp (I b) n p + 1)) (skp (I b) n p + 1) else skp (I b) n p + 1) = wnd (I b) n (skp (I b) n p) by unfold wnd; rw [if_pos hlt]; rw [if_pos rfl, if_pos (by rw [b2i_n0.mp c65]; rfl)]]
      refine z_aload_n h dX5_advance_135 rfl rfl ?_
      refine z_iload_n h dX5_advance_136 rfl rfl ?_
      refine z_putI h (by assumption) rfl kw5 3 (by decide) rfl rfl rfl rfl kf_RX5_22 dX5_advance_137 ?_
      exact ret dX5_advance_140
    · refine z_aload_n h dX5_advance_68 rfl rfl ?_
      refine z_getR h (by assumption) rfl kw5 0 (by decide) rfl (by assumption) kf_RX5_9 dX5_advance_69 ?_
      refine z_iload_n h dX5_advance_72 rfl rfl ?_
      refine z_iald h (by assumption) (zix_nI (by omega) (by decide)) dX5_advance_73 ?_
      refine z_callSI h (c_X5_isLetter l _) (va_cwS 1 h.2.2.2.2.1 gm_RX5_35 rfl rfl rfl (by decide +kernel) ⟨by decide, by decide⟩) rfl rfl (Nat.le_of_ble_eq_true rfl) ⟨Nat.zero_le _, Nat.zero_le _⟩ dX5_advance_74 ?_
      rw [hI]
      refine z_if_eq h 84 dX5_advance_77 (by decide) (fun c77 => ?_) (fun c77 => ?_)
      · refine z_iconst (v := 0) h dX5_advance_84 (by decide) ?_
        refine z_istore_n h dX5_advance_85 rfl (by decide) ?_
        refine z_iinc h dX5_advance_86 rfl (nI_1 _) (by decide) ?_
        refine z_lv (lv' := [(0, .ref t), (1, .int (nI (skp (I b) n p + 1))), (2, .int (b2i (isD (I b (skp (I b) n p))))), (3, .int (b2i false))]) ⟨rfl, rfl, rfl, rfl, trivial⟩ ?_
        refine L89 _ false (n - (skp (I b) n p + 1)) _ (by omega) ?_
        rw [show (if false = true then rnW (I b) (isD (I b (skp (I b) n p))) (n - (skp (I b) n p + 1)) (skp (I b) n p + 1) else skp (I b) n p + 1) = wnd (I b) n (skp (I b) n p) by unfold wnd; rw [if_pos hlt]; rw [if_neg (by decide), if_neg (by rw [b2i_0.mp c77, b2i_0.mp (c65)]; decide)]]
        refine z_aload_n h dX5_advance_135 rfl rfl ?_
        refine z_iload_n h dX5_advance_136 rfl rfl ?_
        refine z_putI h (by assumption) rfl kw5 3 (by decide) rfl rfl rfl rfl kf_RX5_22 dX5_advance_137 ?_
        exact ret dX5_advance_140
      · refine z_iconst (v := 1) h dX5_advance_80 (by decide) ?_
        refine z_goto h 85 dX5_advance_81 (by decide) ?_
        refine z_istore_n h dX5_advance_85 rfl (by decide) ?_
        refine z_iinc h dX5_advance_86 rfl (nI_1 _) (by decide) ?_
        refine z_lv (lv' := [(0, .ref t), (1, .int (nI (skp (I b) n p + 1))), (2, .int (b2i (isD (I b (skp (I b) n p))))), (3, .int (b2i true))]) ⟨rfl, rfl, rfl, rfl, trivial⟩ ?_
        refine L89 _ true (n - (skp (I b) n p + 1)) _ (by omega) ?_
        rw [show (if true = true then rnW (I b) (isD (I b (skp (I b) n p))) (n - (skp (I b) n p + 1)) (skp (I b) n p + 1) else skp (I b) n p + 1) = wnd (I b) n (skp (I b) n p) by unfold wnd; rw [if_pos hlt]; rw [if_pos rfl, if_pos (by rw [b2i_n0.mp c77]; simp)]]
        refine z_aload_n h dX5_advance_135 rfl rfl ?_
        refine z_iload_n h dX5_advance_136 rfl rfl ?_
        refine z_putI h (by assumption) rfl kw5 3 (by decide) rfl rfl rfl rfl kf_RX5_22 dX5_advance_137 ?_
        exact ret dX5_advance_140
