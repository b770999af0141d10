/-! sentence, put, undo of the reference -/
/-- what the reference keeps of changes -/
def MKP (S : zS) (R : Nat → Nat → Option Nat) (I : Nat → Nat → Int32) (x td ks kn m k : Nat) : Prop := TD S R I x td m ∧ R x 10 = some ks ∧ R x 11 = some kn ∧ zA S ks 9 50 ∧ zA S kn 9 50 ∧ ks ≠ kn ∧ ks ≠ td ∧ kn ≠ td ∧ I x 12 = nI k ∧ k ≤ 50
theorem in_nI {y : Int32} {m : Nat} (hm : m ≤ 99) (h : 0 ≤ y ∧ y ≤ nI m - 1) : ∃ i, i < m ∧ y = nI i := by
  have h2 := (ns_eq (by omega)).mpr h.2
  have h1 := h.1
  rw [Int32.le_iff_toInt_le] at h1
  rw [Int32.lt_iff_toInt_lt, nI_toInt (by omega)] at h2
  have h1 : 0 ≤ y.toInt := h1
  refine ⟨y.toInt.toNat, by omega, ?_⟩
  rw [← Int32.toInt_inj, nI_toInt (by omega)]
  omega
def ALm (I : Nat → Nat → Int32) (td m : Nat) (s v : Int32) : Prop := (0 ≤ s ∧ s ≤ nI m - 1) ∧ (if tdP I td s.toNatClampNeg 0 = 3 then 2 ≤ v ∧ v ≤ 9 else 0 ≤ v ∧ v ≤ 999)

set_option maxHeartbeats 4000000 in
set_option maxRecDepth 100000 in
theorem c_X7_sentence_ (l : Launch) {E : zE} {S : zS} {I : Nat → Nat → Int32} {J : Nat → Nat → Int64} {R : Nat → Nat → Option Nat} {x td m : Nat} (hD : TD S R I x td m) {y w : Int32} : zIP l yX7_sentence_ wsX7_sentence_ rmX7_sentence_ E S [.ref x, .int y, .int w] (I, J, R) (fun r ν => (((0 ≤ y ∧ y ≤ nI m - 1) ∧ 0 ≤ w ∧ w ≤ 6) ∧ r = tdP I td y.toNatClampNeg w.toNatClampNeg ∧ ν = (zu I x 0 0, J, R)) ∨ (¬ ((0 ≤ y ∧ y ≤ nI m - 1) ∧ 0 ≤ w ∧ w ≤ 6) ∧ r = 0 ∧ ν = (zu I x 0 1, J, R))) := by
  refine z_metIP (cc := cX7_sentence_) (maxL := 3) (ty := .int) (by decide) rfl (Nat.le_of_ble_eq_true rfl) (fun X h ret => ?_)
  show zV X E S 0 0 (I, J, R) 0 _ []
  obtain ⟨d1, d2, d3, d4, d5⟩ := id hD
  have nd : td ≠ x := fun q => absurd (d1.2.symm.trans (q ▸ d3.2.1)) (by decide)
  refine z_aload_n h dX7_sentence__0 rfl rfl ?_
  refine z_iload_n h dX7_sentence__1 rfl rfl ?_
  refine z_iconst (v := 0) h dX7_sentence__2 (by decide) ?_
  refine z_aload_n h dX7_sentence__3 rfl rfl ?_
  refine z_getI h (by assumption) rfl kw7 7 (by decide) rfl kf_RX7_205 dX7_sentence__4 ?_
  rw [d4]
  refine z_iconst (v := 1) h dX7_sentence__7 (by decide) ?_
  refine z_isub h dX7_sentence__8 ?_
  refine z_callSI h (c_X7_isIn l y 0 (nI m - 1)) (va_cwS 3 h.2.2.2.2.1 gm_RX7_176 rfl rfl rfl (by decide +kernel) ⟨by decide, by decide⟩) rfl rfl (Nat.le_of_ble_eq_true rfl) ⟨Nat.zero_le _, Nat.zero_le _⟩ dX7_sentence__9 ?_
  refine z_if_eq h 25 dX7_sentence__12 (by decide) (fun c12 => ?_) (fun c12 => ?_)
  · have hno : ¬ ((0 ≤ y ∧ y ≤ nI m - 1) ∧ 0 ≤ w ∧ w ≤ 6) := fun q => of_decide_eq_false (b2i_0.mp c12) q.1
    refine z_iconst (v := 1) h dX7_sentence__25 (by decide) ?_
    refine z_goto h 30 dX7_sentence__26 (by decide) ?_
    refine z_putI h (by assumption) rfl kw7 0 (by decide) rfl rfl (rfl) (rfl) kf_RX7_42 dX7_sentence__30 ?_
    refine z_aload_n h dX7_sentence__33 rfl rfl ?_
    refine z_getI h (by assumption) rfl kw7 0 (by decide) rfl kf_RX7_42 dX7_sentence__34 ?_
    rw [zu_s]
    refine z_if_le h 44 dX7_sentence__37 (by decide) (fun c37 => ?_) (fun c37 => ?_)
    · exact absurd c37 (by decide)
    · refine z_iconst (v := 0) h dX7_sentence__40 (by decide) ?_
      refine z_goto h 50 dX7_sentence__41 (by decide) ?_
      exact ret (Or.inr ⟨hno, rfl, rfl⟩) dX7_sentence__50 rfl
  · have c12 := of_decide_eq_true (b2i_n0.mp c12)
    refine z_iload_n h dX7_sentence__15 rfl rfl ?_
    refine z_iconst (v := 0) h dX7_sentence__16 (by decide) ?_
    refine z_bipush (v := 6) h dX7_sentence__17 (by decide) ?_
    refine z_callSI h (c_X7_isIn l w 0 6) (va_cwS 3 h.2.2.2.2.1 gm_RX7_176 rfl rfl rfl (by decide +kernel) ⟨by decide, by decide⟩) rfl rfl (Nat.le_of_ble_eq_true rfl) ⟨Nat.zero_le _, Nat.zero_le _⟩ dX7_sentence__19 ?_
    refine z_if_ne h 29 dX7_sentence__22 (by decide) (fun c22 => ?_) (fun c22 => ?_)
    · have c22 := of_decide_eq_true (b2i_n0.mp c22)
      obtain ⟨i, hi, rfl⟩ := in_nI (by omega) c12
      obtain ⟨j, hj, rfl⟩ := in_nI (m := 7) (by decide) c22
      refine z_iconst (v := 0) h dX7_sentence__29 (by decide) ?_
      refine z_putI h (by assumption) rfl kw7 0 (by decide) rfl rfl (rfl) (rfl) kf_RX7_42 dX7_sentence__30 ?_
      refine z_aload_n h dX7_sentence__33 rfl rfl ?_
      refine z_getI h (by assumption) rfl kw7 0 (by decide) rfl kf_RX7_42 dX7_sentence__34 ?_
      rw [zu_s]
      refine z_if_le h 44 dX7_sentence__37 (by decide) (fun c37 => ?_) (fun c37 => absurd (by decide) c37)
      refine z_aload_n h dX7_sentence__44 rfl rfl ?_
      refine z_iload_n h dX7_sentence__45 rfl rfl ?_
      refine z_iload_n h dX7_sentence__46 rfl rfl ?_
      refine z_callVI h (c_X7_of l d1 d2 d3 (i := i) (w := j) (by omega)) (by assumption) rfl gm_RX7_214 rfl ⟨rfl, rfl⟩ 2 (by decide +kernel) ⟨by decide, by decide⟩ rfl rfl (Nat.le_of_ble_eq_true rfl) ⟨Nat.zero_le _, Nat.zero_le _⟩ dX7_sentence__47 ?_
      refine ret (Or.inl ⟨⟨c12, c22⟩, ?_, rfl⟩) dX7_sentence__50 rfl
      rw [nI_clamp (by omega), nI_clamp (by omega)]
      unfold tdP
      rw [zu_o nd]
    · have hno : ¬ ((0 ≤ y ∧ y ≤ nI m - 1) ∧ 0 ≤ w ∧ w ≤ 6) := fun q => of_decide_eq_false (b2i_0.mp c22) q.2
      refine z_iconst (v := 1) h dX7_sentence__25 (by decide) ?_
      refine z_goto h 30 dX7_sentence__26 (by decide) ?_
      refine z_putI h (by assumption) rfl kw7 0 (by decide) rfl rfl (rfl) (rfl) kf_RX7_42 dX7_sentence__30 ?_
      refine z_aload_n h dX7_sentence__33 rfl rfl ?_
      refine z_getI h (by assumption) rfl kw7 0 (by decide) rfl kf_RX7_42 dX7_sentence__34 ?_
      rw [zu_s]
      refine z_if_le h 44 dX7_sentence__37 (by decide) (fun c37 => ?_) (fun c37 => ?_)
      · exact absurd c37 (by decide)
      · refine z_iconst (v := 0) h dX7_sentence__40 (by decide) ?_
        refine z_goto h 50 dX7_sentence__41 (by decide) ?_
        exact ret (Or.inr ⟨hno, rfl, rfl⟩) dX7_sentence__50 rfl

set_option maxHeartbeats 4000000 in
set_option maxRecDepth 100000 in
theorem c_X7_put (l : Launch) {E : zE} {S : zS} {I : Nat → Nat → Int32} {J : Nat → Nat → Int64} {R : Nat → Nat → Option Nat} {x td ks kn m k : Nat} (hK : MKP S R I x td ks kn m k) {s v : Int32} : zIP l yX7_put wsX7_put rmX7_put E S [.ref x, .int s, .int v] (I, J, R) (fun r ν => (¬ ALm I td m s v ∧ r = 0 ∧ ν = (zu I x 0 0, J, R)) ∨ (ALm I td m s v ∧ r = 1 ∧ ∃ I', ν = (I', J, R) ∧ fr [x, ks, kn, td] I I' ∧ I' td = (fun j => if j = 7 * s.toNatClampNeg + 4 then v else I td j) ∧ (∀ j, j ≠ 0 → j ≠ 12 → I' x j = I x j) ∧ I' x 0 = 0 ∧ ((k < 50 ∧ I' x 12 = nI (k + 1) ∧ (∀ j, j < k → I' ks j = I ks j ∧ I' kn j = I kn j) ∧ I' ks k = s ∧ I' kn k = tdP I td s.toNatClampNeg 4) ∨ (k = 50 ∧ I' x 12 = nI 50 ∧ (∀ j, j < 49 → I' ks j = I ks (j + 1) ∧ I' kn j = I kn (j + 1)) ∧ I' ks 49 = s ∧ I' kn 49 = tdP I td s.toNatClampNeg 4)))) := by
  refine z_metIP (cc := cX7_put) (maxL := 4) (ty := .boolean) (by decide) rfl (Nat.le_of_ble_eq_true rfl) (fun X h ret => ?_)
  show zV X E S 0 0 (I, J, R) 0 _ []
  obtain ⟨⟨d1, d2, d3, d4, d5⟩, p2, p3, p4, p5, p6, p7, p8, p9, p10⟩ := id hK
  have nd : td ≠ x := fun q => absurd (d1.2.symm.trans (q ▸ d3.2.1)) (by decide)
  have ns : ks ≠ x := fun q => absurd (d1.2.symm.trans (q ▸ p4.2.1)) (by decide)
  have nn : kn ≠ x := fun q => absurd (d1.2.symm.trans (q ▸ p5.2.1)) (by decide)
  have tdZ : ∀ i w, tdP (zu I x 0 0) td i w = tdP I td i w := fun i w => by unfold tdP; rw [zu_o nd]
  have T122 : ∀ (i : Nat) (I1 : Nat → Nat → Int32) (k1 : Nat), i < m → s = nI i → ALm I td m s v → k1 < 50 → I1 x 12 = nI k1 → I1 td = I td → fr [x, ks, kn] I I1 → (∀ j, j ≠ 0 → j ≠ 12 → I1 x j = I x j) → I1 x 0 = 0 → ((k < 50 ∧ k1 = k ∧ I1 ks = I ks ∧ I1 kn = I kn) ∨ (k = 50 ∧ k1 = 49 ∧ ∀ j, j < 49 → I1 ks j = I ks (j + 1) ∧ I1 kn j = I kn (j + 1))) → zV X E S 0 0 (I1, J, R) 122 [(0, .ref x), (1, .int s), (2, .int v)] [] := by
    intro i I1 k1 hi hsi hAL hk1 e12 etd hf hx hx0 hc
    subst hsi
    have tdE : tdP (zu I1 ks k1 (nI i)) td i 4 = tdP I td i 4 := by
      unfold tdP
      rw [zu_o (Ne.symm p7), etd]
    refine z_aload_n h dX7_put_122 rfl rfl ?_
    refine z_getR h (by assumption) rfl kw7 10 (by decide) rfl (by assumption) kf_RX7_26 dX7_put_123 ?_
    refine z_aload_n h dX7_put_126 rfl rfl ?_
    refine z_getI h (by assumption) rfl kw7 12 (by decide) rfl kf_RX7_211 dX7_put_127 ?_
    rw [e12]
    refine z_iload_n h dX7_put_130 rfl rfl ?_
    refine z_iast h (by assumption) (zix_nI hk1 (by decide)) dX7_put_131 ?_
    refine z_aload_n h dX7_put_132 rfl rfl ?_
    refine z_getR h (by assumption) rfl kw7 11 (by decide) rfl (by assumption) kf_RX7_29 dX7_put_133 ?_
    refine z_aload_n h dX7_put_136 rfl rfl ?_
    refine z_getI h (by assumption) rfl kw7 12 (by decide) rfl kf_RX7_211 dX7_put_137 ?_
    rw [zu_a (Ne.symm ns), e12]
    refine z_aload_n h dX7_put_140 rfl rfl ?_
    refine z_iload_n h dX7_put_141 rfl rfl ?_
    refine z_iconst (v := 4) h dX7_put_142 (by decide) ?_
    refine z_callVI h (c_X7_of l d1 d2 d3 (i := i) (w := 4) (by omega)) (by assumption) rfl gm_RX7_214 rfl ⟨rfl, rfl⟩ 2 (by decide +kernel) ⟨by decide, by decide⟩ rfl rfl (Nat.le_of_ble_eq_true rfl) ⟨Nat.zero_le _, Nat.zero_le _⟩ dX7_put_143 ?_
    rw [tdE]
    refine z_iast h (by assumption) (zix_nI hk1 (by decide)) dX7_put_146 ?_
    refine z_aload_n h dX7_put_147 rfl rfl ?_
    refine z_dup h dX7_put_148 rfl ?_
    refine z_getI h (by assumption) rfl kw7 12 (by decide) rfl kf_RX7_211 dX7_put_149 ?_
    rw [zu_a (Ne.symm nn), zu_a (Ne.symm ns), e12]
    refine z_iconst (v := 1) h dX7_put_152 (by decide) ?_
    refine z_iadd h dX7_put_153 ?_
    rw [nI_1]
    refine z_putI h (by assumption) rfl kw7 12 (by decide) rfl rfl (rfl) (rfl) kf_RX7_211 dX7_put_154 ?_
    refine z_aload_n h dX7_put_157 rfl rfl ?_
    refine z_getR h (by assumption) rfl kw7 3 (by decide) rfl (by assumption) kf_RX7_13 dX7_put_158 ?_
    refine z_bipush (v := 7) h dX7_put_161 (by decide) ?_
    refine z_iload_n h dX7_put_163 rfl rfl ?_
    rw [show (7 : Int32) = nI 7 from rfl]
    refine z_imul h dX7_put_164 ?_
    rw [pk_mul]
    refine z_iconst (v := 4) h dX7_put_165 (by decide) ?_
    rw [show (4 : Int32) = nI 4 from rfl]
    refine z_iadd h dX7_put_166 ?_
    rw [nI_add]
    refine z_iload_n h dX7_put_167 rfl rfl ?_
    refine z_iast h (by assumption) (zix_nI (by omega) (by decide)) dX7_put_168 ?_
    refine z_iconst (v := 1) h dX7_put_169 (by decide) ?_
    refine ret (Or.inr ⟨hAL, rfl, _, rfl, ?_, ?_, ?_, ?_, ?_⟩) dX7_put_170 rfl
    · intro a ha
      simp only [List.mem_cons, List.not_mem_nil, or_false, not_or] at ha
      rw [zu_o ha.2.2.2, zu_o ha.1, zu_o ha.2.2.1, zu_o ha.2.1]
      exact hf a (by simp [ha.1, ha.2.1, ha.2.2.1])
    · rw [nI_clamp (by omega)]
      funext j
      by_cases q : j = 7 * i + 4
      · rw [if_pos q, q, zu_s]
      · rw [if_neg q, zu_k q, zu_o nd, zu_o (Ne.symm p8), zu_o (Ne.symm p7), etd]
    · intro j h1 h2
      rw [zu_a (Ne.symm nd), zu_k h2, zu_a (Ne.symm nn), zu_a (Ne.symm ns)]
      exact hx j h1 h2
    · rw [zu_a (Ne.symm nd), zu_k (by decide), zu_a (Ne.symm nn), zu_a (Ne.symm ns)]
      exact hx0
    · rw [nI_clamp (by omega), zu_a (Ne.symm nd), zu_s]
      have eks : ∀ j, zu (zu (zu (zu I1 ks k1 (nI i)) kn k1 (tdP I td i 4)) x 12 (nI (k1 + 1))) td (7 * i + 4) v ks j = if j = k1 then nI i else I1 ks j := fun j => by
        rw [zu_a p7, zu_a ns, zu_a p6]
        by_cases q : j = k1
        · rw [if_pos q, q, zu_s]
        · rw [if_neg q, zu_k q]
      have ekn : ∀ j, zu (zu (zu (zu I1 ks k1 (nI i)) kn k1 (tdP I td i 4)) x 12 (nI (k1 + 1))) td (7 * i + 4) v kn j = if j = k1 then tdP I td i 4 else I1 kn j := fun j => by
        rw [zu_a p8, zu_a nn]
        by_cases q : j = k1
        · rw [if_pos q, q, zu_s]
        · rw [if_neg q, zu_k q, zu_a (Ne.symm p6)]
      rcases hc with ⟨c1, c2, c3, c4⟩ | ⟨c1, c2, c3⟩
      · subst c2
        refine Or.inl ⟨c1, rfl, fun j hj => ⟨?_, ?_⟩, ?_, ?_⟩
        · rw [eks, if_neg (by omega), c3]
        · rw [ekn, if_neg (by omega), c4]
        · rw [eks, if_pos rfl]
        · rw [ekn, if_pos rfl]
      · subst c2
        refine Or.inr ⟨c1, rfl, fun j hj => ⟨?_, ?_⟩, ?_, ?_⟩
        · rw [eks, if_neg (by omega)]; exact (c3 j hj).1
        · rw [ekn, if_neg (by omega)]; exact (c3 j hj).2
        · rw [eks, if_pos rfl]
        · rw [ekn, if_pos rfl]
  have L2 : ∀ (d a i : Nat) (I1 : Nat → Nat → Int32), i < m → s = nI i → ALm I td m s v → k = 50 → a + d = 50 → 1 ≤ a → fr [ks, kn] (zu I x 0 0) I1 → (∀ j, j + 1 < a → I1 ks j = I ks (j + 1) ∧ I1 kn j = I kn (j + 1)) → (∀ j, a ≤ j + 1 → I1 ks j = I ks j ∧ I1 kn j = I kn j) → zV X E S 0 0 (I1, J, R) 72 [(0, .ref x), (1, .int s), (2, .int v), (3, .int (nI a))] [] := by
    intro d
    induction d with
    | zero =>
      intro a i I1 hi hsi hAL hk50 ha h1a hf hlo hhi
      have ha50 : a = 50 := by omega
      subst ha50
      have e12 : I1 x 12 = nI 50 := by rw [hf x (by simp [Ne.symm ns, Ne.symm nn]), zu_k (by decide), p9, hk50]
      refine z_iload_n h dX7_put_72 rfl rfl ?_
      refine z_bipush (v := 50) h dX7_put_73 (by decide) ?_
      rw [show (50 : Int32) = nI 50 from rfl]
      refine z_icmp_ge h 112 dX7_put_75 (by decide) (fun c75 => ?_) (fun c75 => ?_)
      · refine z_aload_n h dX7_put_112 rfl rfl ?_
        refine z_dup h dX7_put_113 rfl ?_
        refine z_getI h (by assumption) rfl kw7 12 (by decide) rfl kf_RX7_211 dX7_put_114 ?_
        rw [e12]
        refine z_iconst (v := 1) h dX7_put_117 (by decide) ?_
        refine z_isub h dX7_put_118 ?_
        rw [show nI 50 - 1 = nI 49 from pk_sub (b := 1) (by decide)]
        refine z_putI h (by assumption) rfl kw7 12 (by decide) rfl rfl (rfl) (rfl) kf_RX7_211 dX7_put_119 ?_
        exact z_lk (T122 i _ 49 hi hsi hAL (by decide) zu_s (by rw [zu_o nd, hf td (by simp [Ne.symm p7, Ne.symm p8]), zu_o nd]) (fun b hb => by
          simp only [List.mem_cons, List.not_mem_nil, or_false, not_or] at hb
          rw [zu_o hb.1, hf b (by simp [hb.2.1, hb.2.2]), zu_o hb.1]) (fun j h1 h2 => by rw [zu_k h2, hf x (by simp [Ne.symm ns, Ne.symm nn]), zu_k h1]) (by rw [zu_k (by decide), hf x (by simp [Ne.symm ns, Ne.symm nn]), zu_s]) (Or.inr ⟨hk50, rfl, fun j hj => by rw [zu_a ns, zu_a nn]; exact hlo j (by omega)⟩)) ⟨rfl, rfl, rfl, trivial⟩
      · exact absurd (nI_le (by decide) (by decide)) c75
    | succ d ih =>
      intro a i I1 hi hsi hAL hk50 ha h1a hf hlo hhi
      refine z_iload_n h dX7_put_72 rfl rfl ?_
      refine z_bipush (v := 50) h dX7_put_73 (by decide) ?_
      rw [show (50 : Int32) = nI 50 from rfl]
      refine z_icmp_ge h 112 dX7_put_75 (by decide) (fun c75 => ?_) (fun c75 => ?_)
      · exact absurd (nle (by decide) (by omega) c75) (by omega)
      · refine z_aload_n h dX7_put_78 rfl rfl ?_
        refine z_getR h (by assumption) rfl kw7 10 (by decide) rfl (by assumption) kf_RX7_26 dX7_put_79 ?_
        refine z_iload_n h dX7_put_82 rfl rfl ?_
        refine z_iconst (v := 1) h dX7_put_83 (by decide) ?_
        refine z_isub h dX7_put_84 ?_
        rw [show nI a - 1 = nI (a - 1) from pk_sub (b := 1) h1a]
        refine z_aload_n h dX7_put_85 rfl rfl ?_
        refine z_getR h (by assumption) rfl kw7 10 (by decide) rfl (by assumption) kf_RX7_26 dX7_put_86 ?_
        refine z_iload_n h dX7_put_89 rfl rfl ?_
        refine z_iald h (by assumption) (zix_nI (by omega) (by decide)) dX7_put_90 ?_
        refine z_iast h (by assumption) (zix_nI (by omega) (by decide)) dX7_put_91 ?_
        refine z_aload_n h dX7_put_92 rfl rfl ?_
        refine z_getR h (by assumption) rfl kw7 11 (by decide) rfl (by assumption) kf_RX7_29 dX7_put_93 ?_
        refine z_iload_n h dX7_put_96 rfl rfl ?_
        refine z_iconst (v := 1) h dX7_put_97 (by decide) ?_
        refine z_isub h dX7_put_98 ?_
        rw [show nI a - 1 = nI (a - 1) from pk_sub (b := 1) h1a]
        refine z_aload_n h dX7_put_99 rfl rfl ?_
        refine z_getR h (by assumption) rfl kw7 11 (by decide) rfl (by assumption) kf_RX7_29 dX7_put_100 ?_
        refine z_iload_n h dX7_put_103 rfl rfl ?_
        refine z_iald h (by assumption) (zix_nI (by omega) (by decide)) dX7_put_104 ?_
        refine z_iast h (by assumption) (zix_nI (by omega) (by decide)) dX7_put_105 ?_
        refine z_iinc h dX7_put_106 rfl (nI_1 a) (by decide) ?_
        refine z_goto h 72 dX7_put_109 (by decide) ?_
        have e1 : zu I1 ks (a - 1) (I1 ks a) kn a = I1 kn a := zu_a (Ne.symm p6)
        rw [e1]
        have hh := hhi a (by omega)
        refine z_lk (ih (a + 1) i _ hi hsi hAL hk50 (by omega) (by omega) (fr_zu (fr_zu hf (by simp)) (by simp)) (fun j hj => ?_) (fun j hj => ?_)) ⟨rfl, rfl, rfl, rfl, trivial⟩
        · by_cases e : j = a - 1
          · subst e
            refine ⟨?_, ?_⟩
            · rw [zu_a p6, zu_s, show a - 1 + 1 = a by omega]; exact hh.1
            · rw [zu_s, show a - 1 + 1 = a by omega]; exact hh.2
          · refine ⟨?_, ?_⟩
            · rw [zu_k e, zu_k e]; exact (hlo j (by omega)).1
            · rw [zu_k e, zu_k e]; exact (hlo j (by omega)).2
        · refine ⟨?_, ?_⟩
          · rw [zu_k (by omega), zu_k (by omega)]; exact (hhi j (by omega)).1
          · rw [zu_k (by omega), zu_k (by omega)]; exact (hhi j (by omega)).2
  have J61 : ∀ i, i < m → s = nI i → ALm I td m s v → zV X E S 0 0 ((zu I x 0 0), J, R) 61 [(0, .ref x), (1, .int s), (2, .int v)] [] := by
    intro i hi hsi hAL
    refine z_aload_n h dX7_put_61 rfl rfl ?_
    refine z_getI h (by assumption) rfl kw7 12 (by decide) rfl kf_RX7_211 dX7_put_62 ?_
    rw [zu_k (by decide), p9]
    refine z_bipush (v := 50) h dX7_put_65 (by decide) ?_
    rw [show (50 : Int32) = nI 50 from rfl]
    refine z_icmp_ne h 122 dX7_put_67 (by decide) (fun c67 => ?_) (fun c67 => ?_)
    · have hk50 : k < 50 := by
        have : k ≠ 50 := fun q => c67 (by rw [q])
        omega
      exact z_lk (T122 i _ k hi hsi hAL hk50 (by rw [zu_k (by decide)]; exact p9) (zu_o nd) (fun b hb => by
        simp only [List.mem_cons, List.not_mem_nil, or_false, not_or] at hb
        rw [zu_o hb.1]) (fun j h1 _ => zu_k h1) zu_s (Or.inl ⟨hk50, rfl, zu_o ns, zu_o nn⟩)) ⟨rfl, rfl, rfl, trivial⟩
    · have hk50 : k = 50 := nI_inj (by omega) (by decide) (Decidable.of_not_not (by first | exact c67 | exact fun q => q c67))
      refine z_iconst (v := 1) h dX7_put_70 (by decide) ?_
      refine z_istore_n h dX7_put_71 rfl (by decide) ?_
      exact z_lk (L2 49 1 i _ hi hsi hAL hk50 (by omega) (by omega) fr_rf (fun j hj => absurd hj (by omega)) (fun j _ => by rw [zu_a ns, zu_a nn]; exact ⟨rfl, rfl⟩)) ⟨rfl, rfl, rfl, rfl, trivial⟩
  refine z_aload_n h dX7_put_0 rfl rfl ?_
  refine z_iconst (v := 0) h dX7_put_1 (by decide) ?_
  refine z_putI h (by assumption) rfl kw7 0 (by decide) rfl rfl (rfl) (rfl) kf_RX7_42 dX7_put_2 ?_
  refine z_iload_n h dX7_put_5 rfl rfl ?_
  refine z_iconst (v := 0) h dX7_put_6 (by decide) ?_
  refine z_aload_n h dX7_put_7 rfl rfl ?_
  refine z_getI h (by assumption) rfl kw7 7 (by decide) rfl kf_RX7_205 dX7_put_8 ?_
  rw [zu_k (by decide), d4]
  refine z_iconst (v := 1) h dX7_put_11 (by decide) ?_
  refine z_isub h dX7_put_12 ?_
  refine z_callSI h (c_X7_isIn l s 0 (nI m - 1)) (va_cwS 3 h.2.2.2.2.1 gm_RX7_176 rfl rfl rfl (by decide +kernel) ⟨by decide, by decide⟩) rfl rfl (Nat.le_of_ble_eq_true rfl) ⟨Nat.zero_le _, Nat.zero_le _⟩ dX7_put_13 ?_
  refine z_if_eq h 59 dX7_put_16 (by decide) (fun c16 => ?_) (fun c16 => ?_)
  · have hno : ¬ ALm I td m s v := fun q => of_decide_eq_false (b2i_0.mp c16) q.1
    refine z_iconst (v := 0) h dX7_put_59 (by decide) ?_
    exact ret (Or.inl ⟨hno, rfl, rfl⟩) dX7_put_60 rfl
  · have c16 := of_decide_eq_true (b2i_n0.mp c16)
    obtain ⟨i, hi, hsi⟩ := in_nI (by omega) c16
    subst hsi
    by_cases hs3 : tdP I td i 0 = 3
    · skip
      refine z_iload_n h dX7_put_19 rfl rfl ?_
      refine z_aload_n h dX7_put_20 rfl rfl ?_
      refine z_iload_n h dX7_put_21 rfl rfl ?_
      refine z_iconst (v := 0) h dX7_put_22 (by decide) ?_
      refine z_callVI h (c_X7_of l d1 d2 d3 (i := i) (w := 0) (by omega)) (by assumption) rfl gm_RX7_214 rfl ⟨rfl, rfl⟩ 2 (by decide +kernel) ⟨by decide, by decide⟩ rfl rfl (Nat.le_of_ble_eq_true rfl) ⟨Nat.zero_le _, Nat.zero_le _⟩ dX7_put_23 ?_
      rw [tdZ]
      refine z_iconst (v := 3) h dX7_put_26 (by decide) ?_
      refine z_icmp_ne h 34 dX7_put_27 (by decide) (fun c27 => ?_) (fun c27 => ?_)
      · exact absurd hs3 c27
      · refine z_iconst (v := 2) h dX7_put_30 (by decide) ?_
        refine z_goto h 35 dX7_put_31 (by decide) ?_
        refine z_aload_n h dX7_put_35 rfl rfl ?_
        refine z_iload_n h dX7_put_36 rfl rfl ?_
        refine z_iconst (v := 0) h dX7_put_37 (by decide) ?_
        refine z_callVI h (c_X7_of l d1 d2 d3 (i := i) (w := 0) (by omega)) (by assumption) rfl gm_RX7_214 rfl ⟨rfl, rfl⟩ 2 (by decide +kernel) ⟨by decide, by decide⟩ rfl rfl (Nat.le_of_ble_eq_true rfl) ⟨Nat.zero_le _, Nat.zero_le _⟩ dX7_put_38 ?_
        rw [tdZ]
        refine z_iconst (v := 3) h dX7_put_41 (by decide) ?_
        refine z_icmp_ne h 50 dX7_put_42 (by decide) (fun c42 => ?_) (fun c42 => ?_)
        · exact absurd hs3 c42
        · refine z_bipush (v := 9) h dX7_put_45 (by decide) ?_
          refine z_goto h 53 dX7_put_47 (by decide) ?_
          refine z_callSI h (c_X7_isIn l v 2 9) (va_cwS 3 h.2.2.2.2.1 gm_RX7_176 rfl rfl rfl (by decide +kernel) ⟨by decide, by decide⟩) rfl rfl (Nat.le_of_ble_eq_true rfl) ⟨Nat.zero_le _, Nat.zero_le _⟩ dX7_put_53 ?_
          refine z_if_ne h 61 dX7_put_56 (by decide) (fun c56 => ?_) (fun c56 => ?_)
          · have c56 := of_decide_eq_true (b2i_n0.mp c56)
            refine z_lk (J61 i hi rfl ?_) ⟨rfl, rfl, rfl, trivial⟩
            unfold ALm
            rw [nI_clamp (by omega), if_pos hs3]
            exact ⟨c16, c56⟩
          · have c56 := of_decide_eq_false (b2i_0.mp c56)
            have hno : ¬ ALm I td m (nI i) v := fun q => by
              unfold ALm at q
              rw [nI_clamp (by omega), if_pos hs3] at q
              exact c56 q.2
            refine z_iconst (v := 0) h dX7_put_59 (by decide) ?_
            exact ret (Or.inl ⟨hno, rfl, rfl⟩) dX7_put_60 rfl
    · skip
      refine z_iload_n h dX7_put_19 rfl rfl ?_
      refine z_aload_n h dX7_put_20 rfl rfl ?_
      refine z_iload_n h dX7_put_21 rfl rfl ?_
      refine z_iconst (v := 0) h dX7_put_22 (by decide) ?_
      refine z_callVI h (c_X7_of l d1 d2 d3 (i := i) (w := 0) (by omega)) (by assumption) rfl gm_RX7_214 rfl ⟨rfl, rfl⟩ 2 (by decide +kernel) ⟨by decide, by decide⟩ rfl rfl (Nat.le_of_ble_eq_true rfl) ⟨Nat.zero_le _, Nat.zero_le _⟩ dX7_put_23 ?_
      rw [tdZ]
      refine z_iconst (v := 3) h dX7_put_26 (by decide) ?_
      refine z_icmp_ne h 34 dX7_put_27 (by decide) (fun c27 => ?_) (fun c27 => ?_)
      · refine z_iconst (v := 0) h dX7_put_34 (by decide) ?_
        refine z_aload_n h dX7_put_35 rfl rfl ?_
        refine z_iload_n h dX7_put_36 rfl rfl ?_
        refine z_iconst (v := 0) h dX7_put_37 (by decide) ?_
        refine z_callVI h (c_X7_of l d1 d2 d3 (i := i) (w := 0) (by omega)) (by assumption) rfl gm_RX7_214 rfl ⟨rfl, rfl⟩ 2 (by decide +kernel) ⟨by decide, by decide⟩ rfl rfl (Nat.le_of_ble_eq_true rfl) ⟨Nat.zero_le _, Nat.zero_le _⟩ dX7_put_38 ?_
        rw [tdZ]
        refine z_iconst (v := 3) h dX7_put_41 (by decide) ?_
        refine z_icmp_ne h 50 dX7_put_42 (by decide) (fun c42 => ?_) (fun c42 => ?_)
        · refine z_sipush (v := 999) h dX7_put_50 (by decide) ?_
          refine z_callSI h (c_X7_isIn l v 0 999) (va_cwS 3 h.2.2.2.2.1 gm_RX7_176 rfl rfl rfl (by decide +kernel) ⟨by decide, by decide⟩) rfl rfl (Nat.le_of_ble_eq_true rfl) ⟨Nat.zero_le _, Nat.zero_le _⟩ dX7_put_53 ?_
          refine z_if_ne h 61 dX7_put_56 (by decide) (fun c56 => ?_) (fun c56 => ?_)
          · have c56 := of_decide_eq_true (b2i_n0.mp c56)
            refine z_lk (J61 i hi rfl ?_) ⟨rfl, rfl, rfl, trivial⟩
            unfold ALm
            rw [nI_clamp (by omega), if_neg hs3]
            exact ⟨c16, c56⟩
          · have c56 := of_decide_eq_false (b2i_0.mp c56)
            have hno : ¬ ALm I td m (nI i) v := fun q => by
              unfold ALm at q
              rw [nI_clamp (by omega), if_neg hs3] at q
              exact c56 q.2
            refine z_iconst (v := 0) h dX7_put_59 (by decide) ?_
            exact ret (Or.inl ⟨hno, rfl, rfl⟩) dX7_put_60 rfl
        · exact absurd (Decidable.of_not_not (by first | exact c42 | exact fun q => q c42)) hs3
      · exact absurd (Decidable.of_not_not (by first | exact c27 | exact fun q => q c27)) hs3

set_option maxHeartbeats 4000000 in
set_option maxRecDepth 100000 in
theorem c_X7_undo (l : Launch) {E : zE} {S : zS} {I : Nat → Nat → Int32} {J : Nat → Nat → Int64} {R : Nat → Nat → Option Nat} {x td ks kn m k i : Nat} (hK : MKP S R I x td ks kn m k) (hks : 0 < k → I ks (k - 1) = nI i ∧ i < 10) : zIP l yX7_undo wsX7_undo rmX7_undo E S [.ref x] (I, J, R) (fun r ν => (k = 0 ∧ r = -1 ∧ ν = (zu I x 0 0, J, R)) ∨ (0 < k ∧ r = nI i ∧ ν = (zu (zu (zu I x 0 0) x 12 (nI (k - 1))) td (7 * i + 4) (I kn (k - 1)), J, R))) := by
  refine z_metIP (cc := cX7_undo) (maxL := 1) (ty := .int) (by decide) rfl (Nat.le_of_ble_eq_true rfl) (fun X h ret => ?_)
  show zV X E S 0 0 (I, J, R) 0 _ []
  obtain ⟨⟨d1, d2, d3, d4, d5⟩, p2, p3, p4, p5, p6, p7, p8, p9, p10⟩ := id hK
  have nd : td ≠ x := fun q => absurd (d1.2.symm.trans (q ▸ d3.2.1)) (by decide)
  have ns : ks ≠ x := fun q => absurd (d1.2.symm.trans (q ▸ p4.2.1)) (by decide)
  have nn : kn ≠ x := fun q => absurd (d1.2.symm.trans (q ▸ p5.2.1)) (by decide)
  refine z_aload_n h dX7_undo_0 rfl rfl ?_
  refine z_iconst (v := 0) h dX7_undo_1 (by decide) ?_
  refine z_putI h (by assumption) rfl kw7 0 (by decide) rfl rfl (rfl) (rfl) kf_RX7_42 dX7_undo_2 ?_
  refine z_aload_n h dX7_undo_5 rfl rfl ?_
  refine z_getI h (by assumption) rfl kw7 12 (by decide) rfl kf_RX7_211 dX7_undo_6 ?_
  rw [zu_k (by decide), p9]
  refine z_if_ne h 14 dX7_undo_9 (by decide) (fun c9 => ?_) (fun c9 => ?_)
  · have hk0 : 0 < k := Nat.pos_of_ne_zero (fun w => c9 (by rw [w]; rfl))
    obtain ⟨hs, hi⟩ := hks hk0
    refine z_aload_n h dX7_undo_14 rfl rfl ?_
    refine z_dup h dX7_undo_15 rfl ?_
    refine z_getI h (by assumption) rfl kw7 12 (by decide) rfl kf_RX7_211 dX7_undo_16 ?_
    rw [zu_k (by decide), p9]
    refine z_iconst (v := 1) h dX7_undo_19 (by decide) ?_
    refine z_isub h dX7_undo_20 ?_
    rw [show nI k - 1 = nI (k - 1) from pk_sub (b := 1) hk0]
    refine z_putI h (by assumption) rfl kw7 12 (by decide) rfl rfl (rfl) (rfl) kf_RX7_211 dX7_undo_21 ?_
    refine z_aload_n h dX7_undo_24 rfl rfl ?_
    refine z_getR h (by assumption) rfl kw7 3 (by decide) rfl (by assumption) kf_RX7_13 dX7_undo_25 ?_
    refine z_bipush (v := 7) h dX7_undo_28 (by decide) ?_
    rw [show (7 : Int32) = nI 7 from rfl]
    refine z_aload_n h dX7_undo_30 rfl rfl ?_
    refine z_getR h (by assumption) rfl kw7 10 (by decide) rfl (by assumption) kf_RX7_26 dX7_undo_31 ?_
    refine z_aload_n h dX7_undo_34 rfl rfl ?_
    refine z_getI h (by assumption) rfl kw7 12 (by decide) rfl kf_RX7_211 dX7_undo_35 ?_
    rw [zu_s]
    refine z_iald h (by assumption) (zix_nI (by omega) (by decide)) dX7_undo_38 ?_
    rw [zu_o ns, zu_o ns, hs]
    refine z_imul h dX7_undo_39 ?_
    rw [pk_mul]
    refine z_iconst (v := 4) h dX7_undo_40 (by decide) ?_
    rw [show (4 : Int32) = nI 4 from rfl]
    refine z_iadd h dX7_undo_41 ?_
    rw [nI_add]
    refine z_aload_n h dX7_undo_42 rfl rfl ?_
    refine z_getR h (by assumption) rfl kw7 11 (by decide) rfl (by assumption) kf_RX7_29 dX7_undo_43 ?_
    refine z_aload_n h dX7_undo_46 rfl rfl ?_
    refine z_getI h (by assumption) rfl kw7 12 (by decide) rfl kf_RX7_211 dX7_undo_47 ?_
    rw [zu_s]
    refine z_iald h (by assumption) (zix_nI (by omega) (by decide)) dX7_undo_50 ?_
    rw [zu_o nn, zu_o nn]
    refine z_iast h (by assumption) (zix_nI (by omega) (by decide)) dX7_undo_51 ?_
    refine z_aload_n h dX7_undo_52 rfl rfl ?_
    refine z_getR h (by assumption) rfl kw7 10 (by decide) rfl (by assumption) kf_RX7_26 dX7_undo_53 ?_
    refine z_aload_n h dX7_undo_56 rfl rfl ?_
    refine z_getI h (by assumption) rfl kw7 12 (by decide) rfl kf_RX7_211 dX7_undo_57 ?_
    rw [zu_a (Ne.symm nd), zu_s]
    refine z_iald h (by assumption) (zix_nI (by omega) (by decide)) dX7_undo_60 ?_
    rw [zu_o p7, zu_o ns, zu_o ns, hs]
    exact ret (Or.inr ⟨hk0, rfl, rfl⟩) dX7_undo_61 rfl
  · have hk0 : k = 0 := nI_inj (by omega) (by decide) (Decidable.of_not_not (by first | exact c9 | exact fun q => q c9))
    refine z_iconst (v := -1) h dX7_undo_12 (by decide) ?_
    exact ret (Or.inl ⟨hk0, rfl, rfl⟩) dX7_undo_13 rfl
