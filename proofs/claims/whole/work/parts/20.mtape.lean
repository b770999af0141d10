/-! THE REFERENCE's tape: the object x, its bytes tp -/
def MP (S : zS) (R : Nat → Nat → Option Nat) (I : Nat → Nat → Int32) (x tp n f e : Nat) : Prop := zO S x 7 ∧ R x 1 = some tp ∧ zA S tp 8 400 ∧ I x 2 = nI n ∧ I x 13 = nI f ∧ I x 14 = nI e ∧ n ≤ 400 ∧ f ≤ e ∧ e ≤ n
theorem MP.ne {S : zS} {R : Nat → Nat → Option Nat} {I : Nat → Nat → Int32} {x tp n f e : Nat} (h : MP S R I x tp n f e) : tp ≠ x := fun q => absurd (h.1.2.symm.trans (q ▸ h.2.2.1.2.1)) (by decide)
/-- only the two places of the word have changed -/
def mpN (S : zS) (J : Nat → Nat → Int64) (R : Nat → Nat → Option Nat) (I : Nat → Nat → Int32) (x tp n f e : Nat) (ν : zM) : Prop := ∃ I', ν = (I', J, R) ∧ MP S R I' x tp n f e ∧ fr [x] I I' ∧ ∀ j, j ≠ 13 → j ≠ 14 → I' x j = I x j

set_option maxHeartbeats 4000000 in
set_option maxRecDepth 100000 in
theorem c_X7_isSmall (l : Launch) {E : zE} {S : zS} {μ : zM} (c : Int32) : zI l yX7_isSmall wsX7_isSmall rmX7_isSmall E S [.int c] μ (b2i (isL c)) μ := by
  refine z_metI (cc := cX7_isSmall) (maxL := 1) (ty := .boolean) (by decide) rfl (Nat.le_of_ble_eq_true rfl) (fun X h ret => ?_)
  show zV X E S 0 0 μ 0 _ []
  refine z_iload_n h dX7_isSmall_0 rfl rfl ?_
  refine z_bipush (v := 97) h dX7_isSmall_1 (by decide) ?_
  refine z_icmp_lt h 16 dX7_isSmall_3 (by decide) (fun c3 => ?_) (fun c3 => ?_)
  · have e := b2i_f (b := isL c) (by simp only [isL, Bool.and_eq_false_iff, decide_eq_false_iff_not, Int32.not_le]; exact Or.inl c3)
    rw [e] at ret
    refine z_iconst (v := 0) h dX7_isSmall_16 (by decide) ?_
    exact ret dX7_isSmall_17 rfl
  · refine z_iload_n h dX7_isSmall_6 rfl rfl ?_
    refine z_bipush (v := 122) h dX7_isSmall_7 (by decide) ?_
    refine z_icmp_gt h 16 dX7_isSmall_9 (by decide) (fun c9 => ?_) (fun c9 => ?_)
    · have e := b2i_f (b := isL c) (by simp only [isL, Bool.and_eq_false_iff, decide_eq_false_iff_not, Int32.not_le]; exact Or.inr c9)
      rw [e] at ret
      refine z_iconst (v := 0) h dX7_isSmall_16 (by decide) ?_
      exact ret dX7_isSmall_17 rfl
    · have e := b2i_t (b := isL c) (by simp only [isL, Bool.and_eq_true, decide_eq_true_eq]; exact ⟨Int32.not_lt.mp c3, Int32.not_lt.mp c9⟩)
      rw [e] at ret
      refine z_iconst (v := 1) h dX7_isSmall_12 (by decide) ?_
      refine z_goto h 17 dX7_isSmall_13 (by decide) ?_
      exact ret dX7_isSmall_17 rfl

set_option maxHeartbeats 4000000 in
set_option maxRecDepth 100000 in
theorem c_X7_isDigit (l : Launch) {E : zE} {S : zS} {μ : zM} (c : Int32) : zI l yX7_isDigit wsX7_isDigit rmX7_isDigit E S [.int c] μ (b2i (isD c)) μ := by
  refine z_metI (cc := cX7_isDigit) (maxL := 1) (ty := .boolean) (by decide) rfl (Nat.le_of_ble_eq_true rfl) (fun X h ret => ?_)
  show zV X E S 0 0 μ 0 _ []
  refine z_iload_n h dX7_isDigit_0 rfl rfl ?_
  refine z_bipush (v := 48) h dX7_isDigit_1 (by decide) ?_
  refine z_icmp_lt h 16 dX7_isDigit_3 (by decide) (fun c3 => ?_) (fun c3 => ?_)
  · have e := b2i_f (b := isD c) (by simp only [isD, Bool.and_eq_false_iff, decide_eq_false_iff_not, Int32.not_le]; exact Or.inl c3)
    rw [e] at ret
    refine z_iconst (v := 0) h dX7_isDigit_16 (by decide) ?_
    exact ret dX7_isDigit_17 rfl
  · refine z_iload_n h dX7_isDigit_6 rfl rfl ?_
    refine z_bipush (v := 57) h dX7_isDigit_7 (by decide) ?_
    refine z_icmp_gt h 16 dX7_isDigit_9 (by decide) (fun c9 => ?_) (fun c9 => ?_)
    · have e := b2i_f (b := isD c) (by simp only [isD, Bool.and_eq_false_iff, decide_eq_false_iff_not, Int32.not_le]; exact Or.inr c9)
      rw [e] at ret
      refine z_iconst (v := 0) h dX7_isDigit_16 (by decide) ?_
      exact ret dX7_isDigit_17 rfl
    · have e := b2i_t (b := isD c) (by simp only [isD, Bool.and_eq_true, decide_eq_true_eq]; exact ⟨Int32.not_lt.mp c3, Int32.not_lt.mp c9⟩)
      rw [e] at ret
      refine z_iconst (v := 1) h dX7_isDigit_12 (by decide) ?_
      refine z_goto h 17 dX7_isDigit_13 (by decide) ?_
      exact ret dX7_isDigit_17 rfl

set_option maxHeartbeats 4000000 in
set_option maxRecDepth 100000 in
theorem c_X7_next (l : Launch) {E : zE} {S : zS} {I : Nat → Nat → Int32} {J : Nat → Nat → Int64} {R : Nat → Nat → Option Nat} {x tp n p : Nat} (ht : zO S x 7) (hb : R x 1 = some tp) (hB : zA S tp 8 400) (hn : I x 2 = nI n) (h4 : n ≤ 400) (hp : I x 14 = nI p) (hp4 : p ≤ n) : zNP l yX7_next wsX7_next rmX7_next E S [.ref x] (I, J, R) (mpN S J R I x tp n (skp (I tp) n p) (wnd (I tp) n (skp (I tp) n p))) := by
  refine z_metNP (cc := cX7_next) (maxL := 2) (by decide) rfl (Nat.le_of_ble_eq_true rfl) (fun X h ret => ?_)
  show zV X E S 0 0 (I, J, R) 0 _ []
  have hbt : tp ≠ x := fun q => absurd (ht.2.symm.trans (q ▸ hB.2.1)) (by decide)
  have L8 : ∀ (d i : Nat), i + d = n → zV X E S 0 0 (zu I x 13 (nI (skW (I tp) d i)), J, R) 60 [(0, .ref x)] [] → zV X E S 0 0 (zu I x 13 (nI i), J, R) 8 [(0, .ref x)] [] := by
    intro d
    have hI : ∀ i j, zu I x 13 (nI i) tp j = I tp j := fun i j => zu_a hbt
    have hn2 : ∀ i, zu I x 13 (nI i) x 2 = nI n := fun i => (zu_k (by decide)).trans hn
    have hs : ∀ i, zu I x 13 (nI i) x 13 = nI i := fun i => zu_s
    induction d with
    | zero =>
      intro i hi k
      refine z_aload_n h dX7_next_8 rfl rfl ?_
      refine z_getI h (by assumption) rfl kw7 13 (by decide) rfl kf_RX7_60 dX7_next_9 ?_
      refine z_aload_n h dX7_next_12 rfl rfl ?_
      refine z_getI h (by assumption) rfl kw7 2 (by decide) rfl kf_RX7_46 dX7_next_13 ?_
      rw [hs, hn2]
      refine z_icmp_ge h 60 dX7_next_16 (by decide) (fun c16 => ?_) (fun c16 => ?_)
      · exact k
      · exact absurd (nI_le (by omega) (by omega)) c16
    | succ d ih =>
      intro i hi k
      refine z_aload_n h dX7_next_8 rfl rfl ?_
      refine z_getI h (by assumption) rfl kw7 13 (by decide) rfl kf_RX7_60 dX7_next_9 ?_
      refine z_aload_n h dX7_next_12 rfl rfl ?_
      refine z_getI h (by assumption) rfl kw7 2 (by decide) rfl kf_RX7_46 dX7_next_13 ?_
      rw [hs, hn2]
      refine z_icmp_ge h 60 dX7_next_16 (by decide) (fun c16 => ?_) (fun c16 => ?_)
      · exact absurd (nle (by omega) (by omega) c16) (by omega)
      · refine z_aload_n h dX7_next_19 rfl rfl ?_
        refine z_getR h (by assumption) rfl kw7 1 (by decide) rfl (by assumption) kf_RX7_9 dX7_next_20 ?_
        refine z_aload_n h dX7_next_23 rfl rfl ?_
        refine z_getI h (by assumption) rfl kw7 13 (by decide) rfl kf_RX7_60 dX7_next_24 ?_
        rw [hs]
        refine z_bald h (by assumption) (zix_nI (by omega) (by decide)) dX7_next_27 ?_
        rw [hI]
        refine z_bipush (v := 32) h dX7_next_28 (by decide) ?_
        refine z_icmp_eq h 47 dX7_next_30 (by decide) (fun c30 => ?_) (fun c30 => ?_)
        · rw [skW, if_pos (show isB (I tp i) = true by simp [isB, c30])] at k
          refine z_aload_n h dX7_next_47 rfl rfl ?_
          refine z_dup h dX7_next_48 rfl ?_
          refine z_getI h (by assumption) rfl kw7 13 (by decide) rfl kf_RX7_60 dX7_next_49 ?_
          rw [hs]
          refine z_iconst (v := 1) h dX7_next_52 (by decide) ?_
          refine z_iadd h dX7_next_53 ?_
          rw [nI_1]
          refine z_putI h (by assumption) rfl kw7 13 (by decide) rfl rfl rfl rfl kf_RX7_60 dX7_next_54 ?_
          refine z_goto h 8 dX7_next_57 (by decide) ?_
          rw [zu_zu]
          exact z_lk (ih (i + 1) (by omega) k) ⟨rfl, trivial⟩
        · refine z_aload_n h dX7_next_33 rfl rfl ?_
          refine z_getR h (by assumption) rfl kw7 1 (by decide) rfl (by assumption) kf_RX7_9 dX7_next_34 ?_
          refine z_aload_n h dX7_next_37 rfl rfl ?_
          refine z_getI h (by assumption) rfl kw7 13 (by decide) rfl kf_RX7_60 dX7_next_38 ?_
          rw [hs]
          refine z_bald h (by assumption) (zix_nI (by omega) (by decide)) dX7_next_41 ?_
          rw [hI]
          refine z_bipush (v := 10) h dX7_next_42 (by decide) ?_
          refine z_icmp_ne h 60 dX7_next_44 (by decide) (fun c44 => ?_) (fun c44 => ?_)
          · rw [skW, if_neg (show ¬ isB (I tp i) = true by simp [isB, c30, c44])] at k
            exact k
          · rw [skW, if_pos (show isB (I tp i) = true by simp [isB, c44])] at k
            refine z_aload_n h dX7_next_47 rfl rfl ?_
            refine z_dup h dX7_next_48 rfl ?_
            refine z_getI h (by assumption) rfl kw7 13 (by decide) rfl kf_RX7_60 dX7_next_49 ?_
            rw [hs]
            refine z_iconst (v := 1) h dX7_next_52 (by decide) ?_
            refine z_iadd h dX7_next_53 ?_
            rw [nI_1]
            refine z_putI h (by assumption) rfl kw7 13 (by decide) rfl rfl rfl rfl kf_RX7_60 dX7_next_54 ?_
            refine z_goto h 8 dX7_next_57 (by decide) ?_
            rw [zu_zu]
            exact z_lk (ih (i + 1) (by omega) k) ⟨rfl, trivial⟩
  have hs := skp_le (I tp) hp4
  obtain ⟨f, hf⟩ : ∃ f, f = skp (I tp) n p := ⟨_, rfl⟩
  rw [← hf] at ret hs
  have hI : ∀ i j, zu (zu I x 13 (nI f)) x 14 (nI i) tp j = I tp j := fun i j => (zu_a hbt).trans (zu_a hbt)
  have hn2 : ∀ i, zu (zu I x 13 (nI f)) x 14 (nI i) x 2 = nI n := fun i => (zu_k (by decide)).trans ((zu_k (by decide)).trans hn)
  have h14 : ∀ i, zu (zu I x 13 (nI f)) x 14 (nI i) x 14 = nI i := fun i => zu_s
  have h13 : ∀ i, zu (zu I x 13 (nI f)) x 14 (nI i) x 13 = nI f := fun i => (zu_k (by decide)).trans zu_s
  have FIN : ∀ i, f ≤ i → i ≤ n → i = wnd (I tp) n f → mpN S J R I x tp n f (wnd (I tp) n f) (zu (zu I x 13 (nI f)) x 14 (nI i), J, R) := by
    intro i h1 h2 h3
    refine ⟨_, rfl, ⟨ht, hb, hB, hn2 i, h13 i, by rw [h14, h3], h4, by omega, by omega⟩, fr_zu (fr_zu fr_rf (by simp)) (by simp), fun j j1 j2 => ?_⟩
    rw [zu_k j2, zu_k j1]
  have L100 : ∀ (d i : Nat), i + d = n → f < n → wnd (I tp) n f = (if (isD (I tp f) || isL (I tp f)) = true then rnW (I tp) (isD (I tp f)) d i else i) → f ≤ i → zV X E S 0 0 (zu (zu I x 13 (nI f)) x 14 (nI i), J, R) 100 [(0, .ref x), (1, .int (I tp f))] [] := by
    intro d
    induction d with
    | zero =>
      intro i hi hfn hw hfi
      refine z_aload_n h dX7_next_100 rfl rfl ?_
      refine z_getI h (by assumption) rfl kw7 14 (by decide) rfl kf_RX7_57 dX7_next_101 ?_
      refine z_aload_n h dX7_next_104 rfl rfl ?_
      refine z_getI h (by assumption) rfl kw7 2 (by decide) rfl kf_RX7_46 dX7_next_105 ?_
      rw [h14, hn2]
      refine z_icmp_ge h 183 dX7_next_108 (by decide) (fun c108 => ?_) (fun c108 => ?_)
      · exact ret (FIN i hfi (by omega) (by rw [hw]; unfold rnW; split <;> rfl)) dX7_next_183
      · exact absurd (nI_le (by omega) (by omega)) c108
    | succ d ih =>
      intro i hi hfn hw hfi
      have STOP : (isD (I tp f) || isL (I tp f)) = false ∨ ((isL (I tp i) || (isD (I tp f) && isD (I tp i))) = false) → zV X E S 0 0 (zu (zu I x 13 (nI f)) x 14 (nI i), J, R) 183 [(0, .ref x), (1, .int (I tp f))] [] := by
        intro hq
        refine ret (FIN i hfi (by omega) ?_) dX7_next_183
        rw [hw]
        rcases hq with q | q
        · rw [if_neg (by rw [q]; decide)]
        · unfold rnW
          rw [if_neg (show ¬ (isL (I tp i) || (isD (I tp f) && isD (I tp i))) = true by rw [q]; decide)]
          split <;> rfl
      have GO : (isD (I tp f) || isL (I tp f)) = true → (isL (I tp i) || (isD (I tp f) && isD (I tp i))) = true → zV X E S 0 0 (zu (zu I x 13 (nI f)) x 14 (nI i), J, R) 170 [(0, .ref x), (1, .int (I tp f))] [] := by
        intro q1 q2
        rw [if_pos q1] at hw
        unfold rnW at hw
        rw [if_pos q2] at hw
        refine z_aload_n h dX7_next_170 rfl rfl ?_
        refine z_dup h dX7_next_171 rfl ?_
        refine z_getI h (by assumption) rfl kw7 14 (by decide) rfl kf_RX7_57 dX7_next_172 ?_
        rw [h14]
        refine z_iconst (v := 1) h dX7_next_175 (by decide) ?_
        refine z_iadd h dX7_next_176 ?_
        rw [nI_1]
        refine z_putI h (by assumption) rfl kw7 14 (by decide) rfl rfl rfl rfl kf_RX7_57 dX7_next_177 ?_
        refine z_goto h 100 dX7_next_180 (by decide) ?_
        rw [zu_zu]
        exact ih (i + 1) (by omega) hfn (by rw [if_pos q1]; exact hw) (by omega)
      refine z_aload_n h dX7_next_100 rfl rfl ?_
      refine z_getI h (by assumption) rfl kw7 14 (by decide) rfl kf_RX7_57 dX7_next_101 ?_
      refine z_aload_n h dX7_next_104 rfl rfl ?_
      refine z_getI h (by assumption) rfl kw7 2 (by decide) rfl kf_RX7_46 dX7_next_105 ?_
      rw [h14, hn2]
      refine z_icmp_ge h 183 dX7_next_108 (by decide) (fun c108 => ?_) (fun c108 => ?_)
      · exact absurd (nle (by omega) (by omega) c108) (by omega)
      · refine z_iload_n h dX7_next_111 rfl rfl ?_
        refine z_callSI h (c_X7_isSmall l _) (va_cwS 1 h.2.2.2.2.1 gm_RX7_63 rfl rfl rfl (by decide +kernel) ⟨by decide, by decide⟩) rfl rfl (Nat.le_of_ble_eq_true rfl) ⟨Nat.zero_le _, Nat.zero_le _⟩ dX7_next_112 ?_
        refine z_if_eq h 133 dX7_next_115 (by decide) (fun c115 => ?_) (fun c115 => ?_)
        · refine z_iload_n h dX7_next_133 rfl rfl ?_
          refine z_callSI h (c_X7_isDigit l _) (va_cwS 1 h.2.2.2.2.1 gm_RX7_67 rfl rfl rfl (by decide +kernel) ⟨by decide, by decide⟩) rfl rfl (Nat.le_of_ble_eq_true rfl) ⟨Nat.zero_le _, Nat.zero_le _⟩ dX7_next_134 ?_
          refine z_if_eq h 183 dX7_next_137 (by decide) (fun c137 => ?_) (fun c137 => ?_)
          · first | exact STOP (Or.inl (by rw [b2i_0.mp c137, b2i_0.mp c115]; rfl)) | exact STOP (Or.inr (by rw [b2i_0.mp c130, b2i_0.mp c137]; simp))
          · refine z_aload_n h dX7_next_140 rfl rfl ?_
            refine z_getR h (by assumption) rfl kw7 1 (by decide) rfl (by assumption) kf_RX7_9 dX7_next_141 ?_
            refine z_aload_n h dX7_next_144 rfl rfl ?_
            refine z_getI h (by assumption) rfl kw7 14 (by decide) rfl kf_RX7_57 dX7_next_145 ?_
            rw [h14]
            refine z_bald h (by assumption) (zix_nI (by omega) (by decide)) dX7_next_148 ?_
            rw [hI]
            refine z_callSI h (c_X7_isSmall l _) (va_cwS 1 h.2.2.2.2.1 gm_RX7_63 rfl rfl rfl (by decide +kernel) ⟨by decide, by decide⟩) rfl rfl (Nat.le_of_ble_eq_true rfl) ⟨Nat.zero_le _, Nat.zero_le _⟩ dX7_next_149 ?_
            refine z_if_ne h 170 dX7_next_152 (by decide) (fun c152 => ?_) (fun c152 => ?_)
            · exact GO (by rw [b2i_n0.mp c137]; rfl) (by rw [b2i_n0.mp c152]; rfl)
            · refine z_aload_n h dX7_next_155 rfl rfl ?_
              refine z_getR h (by assumption) rfl kw7 1 (by decide) rfl (by assumption) kf_RX7_9 dX7_next_156 ?_
              refine z_aload_n h dX7_next_159 rfl rfl ?_
              refine z_getI h (by assumption) rfl kw7 14 (by decide) rfl kf_RX7_57 dX7_next_160 ?_
              rw [h14]
              refine z_bald h (by assumption) (zix_nI (by omega) (by decide)) dX7_next_163 ?_
              rw [hI]
              refine z_callSI h (c_X7_isDigit l _) (va_cwS 1 h.2.2.2.2.1 gm_RX7_67 rfl rfl rfl (by decide +kernel) ⟨by decide, by decide⟩) rfl rfl (Nat.le_of_ble_eq_true rfl) ⟨Nat.zero_le _, Nat.zero_le _⟩ dX7_next_164 ?_
              refine z_if_eq h 183 dX7_next_167 (by decide) (fun c167 => ?_) (fun c167 => ?_)
              · exact STOP (Or.inr (by rw [b2i_0.mp c152, b2i_0.mp c167]; simp))
              · exact GO (by rw [b2i_n0.mp c137]; rfl) (by rw [b2i_n0.mp c137, b2i_n0.mp c167]; simp)
        · refine z_aload_n h dX7_next_118 rfl rfl ?_
          refine z_getR h (by assumption) rfl kw7 1 (by decide) rfl (by assumption) kf_RX7_9 dX7_next_119 ?_
          refine z_aload_n h dX7_next_122 rfl rfl ?_
          refine z_getI h (by assumption) rfl kw7 14 (by decide) rfl kf_RX7_57 dX7_next_123 ?_
          rw [h14]
          refine z_bald h (by assumption) (zix_nI (by omega) (by decide)) dX7_next_126 ?_
          rw [hI]
          refine z_callSI h (c_X7_isSmall l _) (va_cwS 1 h.2.2.2.2.1 gm_RX7_63 rfl rfl rfl (by decide +kernel) ⟨by decide, by decide⟩) rfl rfl (Nat.le_of_ble_eq_true rfl) ⟨Nat.zero_le _, Nat.zero_le _⟩ dX7_next_127 ?_
          refine z_if_ne h 170 dX7_next_130 (by decide) (fun c130 => ?_) (fun c130 => ?_)
          · exact GO (by rw [b2i_n0.mp c115]; simp) (by rw [b2i_n0.mp c130]; rfl)
          · refine z_iload_n h dX7_next_133 rfl rfl ?_
            refine z_callSI h (c_X7_isDigit l _) (va_cwS 1 h.2.2.2.2.1 gm_RX7_67 rfl rfl rfl (by decide +kernel) ⟨by decide, by decide⟩) rfl rfl (Nat.le_of_ble_eq_true rfl) ⟨Nat.zero_le _, Nat.zero_le _⟩ dX7_next_134 ?_
            refine z_if_eq h 183 dX7_next_137 (by decide) (fun c137 => ?_) (fun c137 => ?_)
            · first | exact STOP (Or.inl (by rw [b2i_0.mp c137, b2i_0.mp c115]; rfl)) | exact STOP (Or.inr (by rw [b2i_0.mp c130, b2i_0.mp c137]; simp))
            · refine z_aload_n h dX7_next_140 rfl rfl ?_
              refine z_getR h (by assumption) rfl kw7 1 (by decide) rfl (by assumption) kf_RX7_9 dX7_next_141 ?_
              refine z_aload_n h dX7_next_144 rfl rfl ?_
              refine z_getI h (by assumption) rfl kw7 14 (by decide) rfl kf_RX7_57 dX7_next_145 ?_
              rw [h14]
              refine z_bald h (by assumption) (zix_nI (by omega) (by decide)) dX7_next_148 ?_
              rw [hI]
              refine z_callSI h (c_X7_isSmall l _) (va_cwS 1 h.2.2.2.2.1 gm_RX7_63 rfl rfl rfl (by decide +kernel) ⟨by decide, by decide⟩) rfl rfl (Nat.le_of_ble_eq_true rfl) ⟨Nat.zero_le _, Nat.zero_le _⟩ dX7_next_149 ?_
              refine z_if_ne h 170 dX7_next_152 (by decide) (fun c152 => ?_) (fun c152 => ?_)
              · exact GO (by rw [b2i_n0.mp c137]; rfl) (by rw [b2i_n0.mp c152]; rfl)
              · refine z_aload_n h dX7_next_155 rfl rfl ?_
                refine z_getR h (by assumption) rfl kw7 1 (by decide) rfl (by assumption) kf_RX7_9 dX7_next_156 ?_
                refine z_aload_n h dX7_next_159 rfl rfl ?_
                refine z_getI h (by assumption) rfl kw7 14 (by decide) rfl kf_RX7_57 dX7_next_160 ?_
                rw [h14]
                refine z_bald h (by assumption) (zix_nI (by omega) (by decide)) dX7_next_163 ?_
                rw [hI]
                refine z_callSI h (c_X7_isDigit l _) (va_cwS 1 h.2.2.2.2.1 gm_RX7_67 rfl rfl rfl (by decide +kernel) ⟨by decide, by decide⟩) rfl rfl (Nat.le_of_ble_eq_true rfl) ⟨Nat.zero_le _, Nat.zero_le _⟩ dX7_next_164 ?_
                refine z_if_eq h 183 dX7_next_167 (by decide) (fun c167 => ?_) (fun c167 => ?_)
                · exact STOP (Or.inr (by rw [b2i_0.mp c152, b2i_0.mp c167]; simp))
                · exact GO (by rw [b2i_n0.mp c137]; rfl) (by rw [b2i_n0.mp c137, b2i_n0.mp c167]; simp)
  refine z_aload_n h dX7_next_0 rfl rfl ?_
  refine z_aload_n h dX7_next_1 rfl rfl ?_
  refine z_getI h (by assumption) rfl kw7 14 (by decide) rfl kf_RX7_57 dX7_next_2 ?_
  rw [hp]
  refine z_putI h (by assumption) rfl kw7 13 (by decide) rfl rfl (rfl) (rfl) kf_RX7_60 dX7_next_5 ?_
  refine z_lk (L8 (n - p) p (by omega) ?_) ⟨rfl, trivial⟩
  rw [show skW (I tp) (n - p) p = f from hf.symm]
  refine z_aload_n h dX7_next_60 rfl rfl ?_
  refine z_aload_n h dX7_next_61 rfl rfl ?_
  refine z_getI h (by assumption) rfl kw7 13 (by decide) rfl kf_RX7_60 dX7_next_62 ?_
  rw [show zu I x 13 (nI f) x 13 = nI f from zu_s]
  refine z_putI h (by assumption) rfl kw7 14 (by decide) rfl rfl (rfl) (rfl) kf_RX7_57 dX7_next_65 ?_
  refine z_aload_n h dX7_next_68 rfl rfl ?_
  refine z_getI h (by assumption) rfl kw7 13 (by decide) rfl kf_RX7_60 dX7_next_69 ?_
  refine z_aload_n h dX7_next_72 rfl rfl ?_
  refine z_getI h (by assumption) rfl kw7 2 (by decide) rfl kf_RX7_46 dX7_next_73 ?_
  rw [h13, hn2]
  refine z_icmp_ne h 80 dX7_next_76 (by decide) (fun c76 => ?_) (fun c76 => ?_)
  · have c76 : f < n := by
      have : f ≠ n := fun q => c76 (by rw [q])
      omega
    refine z_aload_n h dX7_next_80 rfl rfl ?_
    refine z_getR h (by assumption) rfl kw7 1 (by decide) rfl (by assumption) kf_RX7_9 dX7_next_81 ?_
    refine z_aload_n h dX7_next_84 rfl rfl ?_
    refine z_getI h (by assumption) rfl kw7 13 (by decide) rfl kf_RX7_60 dX7_next_85 ?_
    rw [h13]
    refine z_bald h (by assumption) (zix_nI (by omega) (by decide)) dX7_next_88 ?_
    rw [hI]
    refine z_istore_n h dX7_next_89 rfl (by decide) ?_
    refine z_aload_n h dX7_next_90 rfl rfl ?_
    refine z_dup h dX7_next_91 rfl ?_
    refine z_getI h (by assumption) rfl kw7 14 (by decide) rfl kf_RX7_57 dX7_next_92 ?_
    rw [h14]
    refine z_iconst (v := 1) h dX7_next_95 (by decide) ?_
    refine z_iadd h dX7_next_96 ?_
    rw [nI_1]
    refine z_putI h (by assumption) rfl kw7 14 (by decide) rfl rfl (rfl) (rfl) kf_RX7_57 dX7_next_97 ?_
    rw [zu_zu]
    exact z_lk (L100 (n - (f + 1)) (f + 1) (by omega) c76 (by unfold wnd; rw [if_pos c76]) (by omega)) ⟨rfl, rfl, trivial⟩
  · have e := (nI_eq (by omega) (by omega)).mp c76
    exact ret (FIN f (Nat.le_refl _) hs.2 (by unfold wnd; rw [if_neg (by omega)])) dX7_next_79

set_option maxHeartbeats 4000000 in
set_option maxRecDepth 100000 in
theorem c_X7_is (l : Launch) {E : zE} {S : zS} {I : Nat → Nat → Int32} {J : Nat → Nat → Int64} {R : Nat → Nat → Option Nat} {x tp n f e i : Nat} (hT : MP S R I x tp n f e) (hi : i < zlN) : zI l yX7_is wsX7_is rmX7_is E S [.ref x, .ref (E.2.2.1 i)] (I, J, R) (b2i (mW (I tp) f e (zsb i))) (I, J, R) := by
  refine z_metI (cc := cX7_is) (maxL := 3) (ty := .boolean) (by decide) rfl (Nat.le_of_ble_eq_true rfl) (fun X h ret => ?_)
  show zV X E S 0 0 (I, J, R) 0 _ []
  obtain ⟨h1, h2, h3, h4, h5, h6, h7, h8, h9⟩ := id hT
  have hL := (zsb_ok i hi).1
  have L20 : e - f = (zsb i).length → ∀ (d j : Nat), j + d = (zsb i).length → (mtc (I tp) f (zsb i) 0 (zsb i).length 0 = (zsb i).length ↔ mtc (I tp) f (zsb i) 0 d j = (zsb i).length) → zV X E S 0 0 (I, J, R) 20 [(0, .ref x), (1, .ref (E.2.2.1 i)), (2, .int (nI j))] [] := by
    intro hef d
    have YES : mtc (I tp) f (zsb i) 0 (zsb i).length 0 = (zsb i).length → mW (I tp) f e (zsb i) = true := fun q => by simp [mW, hef, q]
    have NO : ¬ mtc (I tp) f (zsb i) 0 (zsb i).length 0 = (zsb i).length → mW (I tp) f e (zsb i) = false := fun q => by simp [mW, q]
    induction d with
    | zero =>
      intro j hj hm
      refine z_iload_n h dX7_is_20 rfl rfl ?_
      refine z_aload_n h dX7_is_21 rfl rfl ?_
      refine z_callTI h hi (c_J0_length l hi) gm_RX7_70 rfl ⟨rfl, rfl⟩ 0 (by decide +kernel) ⟨by decide, by decide⟩ rfl rfl (Nat.le_of_ble_eq_true rfl) ⟨Nat.zero_le _, Nat.zero_le _⟩ dX7_is_22 ?_
      refine z_icmp_ge h 55 dX7_is_25 (by decide) (fun _ => ?_) (fun c => absurd (nI_le (by omega) (by omega)) c)
      refine z_iconst (v := 1) h dX7_is_55 (by decide) ?_
      rw [b2i_t (YES (hm.mpr (by unfold mtc; omega)))] at ret
      exact ret dX7_is_56 rfl
    | succ d ih =>
      intro j hj hm
      refine z_iload_n h dX7_is_20 rfl rfl ?_
      refine z_aload_n h dX7_is_21 rfl rfl ?_
      refine z_callTI h hi (c_J0_length l hi) gm_RX7_70 rfl ⟨rfl, rfl⟩ 0 (by decide +kernel) ⟨by decide, by decide⟩ rfl rfl (Nat.le_of_ble_eq_true rfl) ⟨Nat.zero_le _, Nat.zero_le _⟩ dX7_is_22 ?_
      refine z_icmp_ge h 55 dX7_is_25 (by decide) (fun c => absurd (nle (by omega) (by omega) c) (by omega)) (fun _ => ?_)
      refine z_aload_n h dX7_is_28 rfl rfl ?_
      refine z_getR h (by assumption) rfl kw7 1 (by decide) rfl (by assumption) kf_RX7_9 dX7_is_29 ?_
      refine z_aload_n h dX7_is_32 rfl rfl ?_
      refine z_getI h (by assumption) rfl kw7 13 (by decide) rfl kf_RX7_60 dX7_is_33 ?_
      rw [h5]
      refine z_iload_n h dX7_is_36 rfl rfl ?_
      refine z_iadd h dX7_is_37 ?_
      rw [nI_add]
      refine z_bald h (by assumption) (zix_nI (j := f + j) (by omega) (by decide)) dX7_is_38 ?_
      refine z_aload_n h dX7_is_39 rfl rfl ?_
      refine z_iload_n h dX7_is_40 rfl rfl ?_
      refine z_callTI h hi (c_J0_charAt l hi (j := j) (by omega)) gm_RX7_75 rfl ⟨rfl, rfl⟩ 1 (by decide +kernel) ⟨by decide, by decide⟩ rfl rfl (Nat.le_of_ble_eq_true rfl) ⟨Nat.zero_le _, Nat.zero_le _⟩ dX7_is_41 ?_
      refine z_icmp_eq h 49 dX7_is_44 (by decide) (fun c44 => ?_) (fun c44 => ?_)
      · rw [mtc, if_pos (by rw [Nat.zero_add]; exact c44)] at hm
        refine z_iinc h dX7_is_49 rfl (nI_1 j) (by decide) ?_
        refine z_goto h 20 dX7_is_52 (by decide) ?_
        exact z_lk (ih (j + 1) (by omega) hm) ⟨rfl, rfl, rfl, trivial⟩
      · rw [mtc, if_neg (by rw [Nat.zero_add]; exact c44)] at hm
        refine z_iconst (v := 0) h dX7_is_47 (by decide) ?_
        rw [b2i_f (NO (fun q => by have := hm.mp q; omega))] at ret
        exact ret dX7_is_48 rfl
  refine z_aload_n h dX7_is_0 rfl rfl ?_
  refine z_getI h (by assumption) rfl kw7 14 (by decide) rfl kf_RX7_57 dX7_is_1 ?_
  refine z_aload_n h dX7_is_4 rfl rfl ?_
  refine z_getI h (by assumption) rfl kw7 13 (by decide) rfl kf_RX7_60 dX7_is_5 ?_
  rw [h6, h5]
  refine z_isub h dX7_is_8 ?_
  rw [pk_sub h8]
  refine z_aload_n h dX7_is_9 rfl rfl ?_
  refine z_callTI h hi (c_J0_length l hi) gm_RX7_70 rfl ⟨rfl, rfl⟩ 0 (by decide +kernel) ⟨by decide, by decide⟩ rfl rfl (Nat.le_of_ble_eq_true rfl) ⟨Nat.zero_le _, Nat.zero_le _⟩ dX7_is_10 ?_
  refine z_icmp_eq h 18 dX7_is_13 (by decide) (fun c13 => ?_) (fun c13 => ?_)
  · have hef := (nI_eq (by omega) (by omega)).mp c13
    refine z_iconst (v := 0) h dX7_is_18 (by decide) ?_
    refine z_istore_n h dX7_is_19 rfl (by decide) ?_
    exact z_lk (L20 hef (zsb i).length 0 (by omega) Iff.rfl) ⟨rfl, rfl, rfl, trivial⟩
  · have hne : ¬ e - f = (zsb i).length := fun q => c13 (by rw [q])
    refine z_iconst (v := 0) h dX7_is_16 (by decide) ?_
    rw [b2i_f (show mW (I tp) f e (zsb i) = false by simp [mW, hne])] at ret
    exact ret dX7_is_17 rfl

set_option maxHeartbeats 4000000 in
set_option maxRecDepth 100000 in
theorem c_X7_takes (l : Launch) {E : zE} {S : zS} {I : Nat → Nat → Int32} {J : Nat → Nat → Int64} {R : Nat → Nat → Option Nat} {x tp n f e i : Nat} (hT : MP S R I x tp n f e) (hi : i < zlN) : zIP l yX7_takes wsX7_takes rmX7_takes E S [.ref x, .ref (E.2.2.1 i)] (I, J, R) (fun r ν => r = b2i (mW (I tp) f e (zsb i)) ∧ mpN S J R I x tp n (if mW (I tp) f e (zsb i) = true then nxF (I tp) n e else f) (if mW (I tp) f e (zsb i) = true then nxE (I tp) n e else e) ν) := by
  refine z_metIP (cc := cX7_takes) (maxL := 2) (ty := .boolean) (by decide) rfl (Nat.le_of_ble_eq_true rfl) (fun X h ret => ?_)
  show zV X E S 0 0 (I, J, R) 0 _ []
  obtain ⟨h1, h2, h3, h4, h5, h6, h7, h8, h9⟩ := id hT
  refine z_aload_n h dX7_takes_0 rfl rfl ?_
  refine z_aload_n h dX7_takes_1 rfl rfl ?_
  refine z_callVI h (c_X7_is l hT hi) (by assumption) rfl gm_RX7_79 rfl ⟨rfl, rfl⟩ 1 (by decide +kernel) ⟨by decide, by decide⟩ rfl rfl (Nat.le_of_ble_eq_true rfl) ⟨Nat.zero_le _, Nat.zero_le _⟩ dX7_takes_2 ?_
  refine z_if_ne h 10 dX7_takes_5 (by decide) (fun c5 => ?_) (fun c5 => ?_)
  · have m := b2i_n0.mp c5
    refine z_aload_n h dX7_takes_10 rfl rfl ?_
    refine z_callVNP h (c_X7_next l h1 h2 h3 h4 h7 h6 h9) (by assumption) rfl gm_RX7_83 rfl ⟨rfl, rfl⟩ 0 (by decide +kernel) ⟨by decide, by decide⟩ rfl rfl (Nat.le_of_ble_eq_true rfl) ⟨Nat.zero_le _, Nat.zero_le _⟩ dX7_takes_11 (fun ν hν => ?_)
    refine z_iconst (v := 1) h dX7_takes_14 (by decide) ?_
    refine ret (r := 1) ⟨by rw [m]; rfl, ?_⟩ dX7_takes_15 rfl
    rw [if_pos m, if_pos m]
    exact hν
  · have m := b2i_0.mp c5
    refine z_iconst (v := 0) h dX7_takes_8 (by decide) ?_
    refine ret (r := 0) ⟨by rw [m]; rfl, ?_⟩ dX7_takes_9 rfl
    rw [m]
    exact ⟨_, rfl, hT, fr_rf, fun _ _ _ => rfl⟩
