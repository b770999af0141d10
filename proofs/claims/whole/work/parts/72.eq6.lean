/-! BOTH SIDES SAY THE SAME: answers; only the told sentences count -/
def PE (p p' : Nat → Nat → Int32) (m : Nat) : Prop := ∀ i, i < m → ∀ w, w < 6 → p i w = p' i w
section EQ6
variable {p p' : Nat → Nat → Int32} {m : Nat}
theorem ev_c (h : PE p p' m) : ∀ i, i ≤ m → ev p i = ev p' i
  | 0, _ => rfl
  | i + 1, hi => by
    unfold ev
    rw [ev_c h i (by omega), h i (by omega) 0 (by omega)]
theorem gby_c {f g : Nat → Int32} (h : ∀ w, w < 6 → f w = g w) (nm : Int32) : gby f nm = gby g nm := by
  unfold gby
  rw [h 0 (by omega), h 1 (by omega), h 2 (by omega), h 4 (by omega)]
theorem gz_c (h : PE p p' m) (nm un sg : Int32) : ∀ i, i ≤ m → gz p nm un sg i = gz p' nm un sg i
  | 0, _ => rfl
  | i + 1, hi => by
    unfold gz
    rw [gz_c h nm un sg i (by omega), h i (by omega) 3 (by omega), h i (by omega) 5 (by omega), gby_c (h i (by omega))]
theorem gA_c (h : PE p p' m) (a b c d : Int32) : gA p m a b c d = gA p' m a b c d := by
  unfold gA
  rw [gz_c h _ _ _ m (Nat.le_refl _), gz_c h _ _ _ m (Nat.le_refl _)]
theorem fct_c (h : PE p p' m) {i : Nat} (hi : i < m) : fct p m i = fct p' m i := by
  have hD : ∀ w, w < 6 → fD p m i w = fD p' m i w := fun w hw => by
    unfold fD
    rw [h i hi w hw, h i hi 3 (by omega), h i hi 5 (by omega), gz_c h _ _ _ m (Nat.le_refl _)]
  unfold fct fB fA fβ fγ
  rw [hD 1 (by omega), hD 2 (by omega), h i hi 0 (by omega), h i hi 1 (by omega), h i hi 2 (by omega), h i hi 4 (by omega)]
theorem sel_c (h : PE p p' m) (un : Int32) (st : Nat → Bool) {i : Nat} (hi : i < m) : sel p un st i = sel p' un st i := by
  unfold sel
  rw [h i hi 0 (by omega), h i hi 3 (by omega)]
theorem gth_c (h : PE p p' m) (un : Int32) (st : Nat → Bool) : ∀ i, i ≤ m → gth p m un st i = gth p' m un st i
  | 0, _ => rfl
  | i + 1, hi => by
    unfold gth
    rw [gth_c h un st i (by omega), sel_c h un st (show i < m by omega), fct_c h (show i < m by omega)]
theorem AB_c (h : PE p p' m) (un : Int32) (st : Nat → Bool) (na : Nat) (ob : Option Nat) : AB p m un st na ob = AB p' m un st na ob := by
  unfold AB
  rw [gth_c h un st m (Nat.le_refl _)]
theorem QA_c (h : PE p p' m) : QA p m = QA p' m := by
  unfold QA
  refine qFr_congr (fun j _ hj => ?_)
  have hj : j < m := by omega
  rw [h j hj 0 (by omega), h j hj 3 (by omega), gth_c h _ _ m (Nat.le_refl _)]
theorem HA_c (h : PE p p' m) (t un : Int32) (na : Nat) (ob : Option Nat) : HA t p m un na ob = HA t p' m un na ob := by
  unfold HA
  rw [QA_c h, AB_c h]
theorem WS_c (h : PE p p' m) {i : Nat} (hi : i < m) (hw : WS p i) : WS p' i := by
  unfold WS at *
  rw [← h i hi 0 (by omega), ← h i hi 1 (by omega), ← h i hi 2 (by omega), ← h i hi 3 (by omega), ← h i hi 4 (by omega)]
  exact hw
theorem WT_c (h : PE p p' m) (hw : WT p m) : WT p' m := ⟨hw.1, fun i hi => WS_c h hi (hw.2 i hi)⟩
theorem fcP_c (h : PE p p' m) : ∀ i, i ≤ m → fcP p i = fcP p' i
  | 0, _ => rfl
  | i + 1, hi => by
    unfold fcP
    rw [fcP_c h i (by omega), h i (by omega) 0 (by omega)]
theorem idM_c (h : PE p p' m) (q : Int32 → Bool) (a : Int32) : ∀ i, i ≤ m → idM p q a i = idM p' q a i
  | 0, _ => rfl
  | i + 1, hi => by
    rw [idM_s, idM_s, idM_c h q a i (by omega), h i (by omega) 0 (by omega)]
theorem lkq_c (h : PE p p' m) (un : Int32) (na : Nat) (ob : Option Nat) (n : Nat) : lkq p m un na ob n = lkq p' m un na ob n := by
  unfold lkq
  rw [gth_c h un _ m (Nat.le_refl _)]
theorem stq_c (h : PE p p' m) (sg un : Int32) (na : Nat) : stq p m sg un na = stq p' m sg un na := by
  unfold stq
  rw [AB_c h, gth_c h un _ m (Nat.le_refl _), gz_c h _ _ _ m (Nat.le_refl _)]
theorem stg_c (h : PE p p' m) (t : Int32) : stg t p m = stg t p' m := by
  unfold stg
  rw [ev_c h m (Nat.le_refl _)]
theorem PE.sy (h : PE p p' m) : PE p' p m := fun i hi w hw => (h i hi w hw).symm
end EQ6
/-! the answers -/
theorem val_0 (ρ : Nat → Int) (G : Int) : val 0 ρ 0 + val 1 ρ 0 * G = val 0 ρ G := by
  unfold val
  rw [if_pos rfl, if_neg (show ¬ (1 : Int32) = 0 by decide), if_pos rfl]
  by_cases h : 0 ≤ ρ 8
  · rw [if_pos h, if_pos h, if_pos h]; omega
  · rw [if_neg h, if_neg h, if_neg h]
    have := Int.neg_mul (ρ 8) G
    omega
theorem val_1 (ρ : Nat → Int) (G G' : Int) : val 1 ρ G = val 1 ρ G' := by
  unfold val
  rw [if_neg (show ¬ (1 : Int32) = 0 by decide), if_neg (show ¬ (1 : Int32) = 0 by decide)]
theorem val_1n {ρ : Nat → Int} {G : Int} (h : ρ 8 ≠ 0) : val 1 ρ G ≠ 0 := by
  unfold val
  rw [if_neg (show ¬ (1 : Int32) = 0 by decide)]
  split <;> omega
theorem w01 {w : Int32} : (0 ≤ w ∧ w ≤ 1) ↔ (w = 0 ∨ w = 1) := by
  rw [Int32.le_iff_toInt_le, Int32.le_iff_toInt_le, ← Int32.toInt_inj, ← Int32.toInt_inj]
  show (0 ≤ w.toInt ∧ w.toInt ≤ 1) ↔ (w.toInt = 0 ∨ w.toInt = 1)
  omega
theorem ans_eq {t b r : Int64} {w : Int32} {C : Prop} {ρ : Nat → Int} {G : Int} (h1 : C → t.toInt = val 0 ρ G ∧ b.toInt = val 1 ρ G ∧ ρ 8 ≠ 0) (h2 : ¬ C → b = 0) (hr : ((0 ≤ w ∧ w ≤ 1) ∧ C → r.toInt = val w ρ G) ∧ (¬ ((0 ≤ w ∧ w ≤ 1) ∧ C) → r.toInt = -1000000000000)) : r = apC t b w := by
  rw [w01] at hr
  rw [← Int64.toInt_inj]
  unfold apC
  by_cases c : C
  · obtain ⟨a1, a2, a3⟩ := h1 c
    have hb : b ≠ 0 := fun q => val_1n (G := G) a3 (by rw [← a2, q]; rfl)
    rw [if_neg hb]
    by_cases w0 : w = 0
    · rw [if_pos w0, a1, hr.1 ⟨Or.inl w0, c⟩, w0]
    · rw [if_neg w0]
      by_cases w1 : w = 1
      · rw [if_pos w1, a2, hr.1 ⟨Or.inr w1, c⟩, w1]
      · rw [if_neg w1, hr.2 (fun q => q.1.elim w0 w1)]; rfl
  · rw [if_pos (h2 c), hr.2 (fun q => c q.2)]; rfl
