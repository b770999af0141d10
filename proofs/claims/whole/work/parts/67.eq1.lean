/-! BOTH SIDES SAY THE SAME: what the rows of facts mean -/
theorem dt_9 {ρ x : Nat → Int} (h : ∀ i, i < 8 → ρ i = 0) (h8 : ρ 8 = 0) : dt ρ x 10 = ρ 9 * x 9 := by
  show dt ρ x 9 + ρ 9 * x 9 = _
  rw [dt_0 (m := 9) (fun i hi => by
    by_cases q : i = 8
    · rw [q, h8]; simp
    · rw [h i (by omega)]; simp)]
  omega
theorem ad_sem {k : Int} {es : List (Nat × (Nat → Int))} (h : RI k es) {a b : Nat} {β γ : Int} (hf : Fct k a b β γ) : ((ad es (gr a b 1 β 0 γ)).2 = true → ∀ x, (Sol 10 (ad es (gr a b 1 β 0 γ)).1 x ↔ (Sol 10 es x ∧ dt (gr a b 1 β 0 γ) x 10 = 0))) ∧ ((ad es (gr a b 1 β 0 γ)).2 = false → ∀ x, Sol 10 es x → dt (gr a b 1 β 0 γ) x 10 = 0 → x 9 = 0) := by
  have hab : a ≠ b ∨ β = 0 := by
    rcases hf.2.2.1 with w | w
    · exact Or.inl w.1
    · exact Or.inr w.2
  have hpr := gr_prim (γ := γ) (σ := 0) hf.1 (α := 1) rfl hab
  obtain ⟨a1, a2, μ, ν, a3, a4, a5⟩ := redu_spec h.1 hpr
  have h8 : redu es (gr a b 1 β 0 γ) 8 = 0 := redu_8 (fun q hq => (h.2.1 q hq).2.2) (gr_8 hf.1 hf.2.1)
  unfold ad
  by_cases w : fiN (redu es (gr a b 1 β 0 γ)) 8 0 = 8
  · rw [if_pos w]
    have hz : ∀ i, i < 8 → redu es (gr a b 1 β 0 γ) i = 0 := fun i hi => fi_z _ 8 0 (by omega) i (by omega) (by omega)
    refine ⟨fun h9 x => ?_, fun h9 x hx hx0 => ?_⟩
    · have h9 : redu es (gr a b 1 β 0 γ) 9 = 0 := of_decide_eq_true h9
      refine ⟨fun hx => ⟨hx, ?_⟩, fun v => v.1⟩
      have e := a5 x hx
      rw [dt_9 hz h8, h9, Int.zero_mul, Int.mul_zero] at e
      exact (Int.mul_eq_zero.mp e.symm).resolve_left a4
    · have h9 : redu es (gr a b 1 β 0 γ) 9 ≠ 0 := of_decide_eq_false h9
      have e := a5 x hx
      rw [dt_9 hz h8, hx0, Int.mul_zero] at e
      have := (Int.mul_eq_zero.mp e).resolve_left a3
      exact (Int.mul_eq_zero.mp this).resolve_left h9
  · rw [if_neg w]
    refine ⟨fun _ x => ?_, fun h9 => Bool.noConfusion h9⟩
    rw [sol_snoc]
    constructor
    · rintro ⟨s1, s2⟩
      refine ⟨s1, ?_⟩
      have e := a5 x s1
      have s2 : dt (redu es (gr a b 1 β 0 γ)) x 10 = 0 := s2
      rw [s2, Int.mul_zero] at e
      exact (Int.mul_eq_zero.mp e.symm).resolve_left a4
    · rintro ⟨s1, s2⟩
      refine ⟨s1, ?_⟩
      have e := a5 x s1
      rw [s2, Int.mul_zero] at e
      exact (Int.mul_eq_zero.mp e).resolve_left a3
section EQ1
variable {p : Nat → Nat → Int32} {m : Nat} {un : Int32} {st st' : Nat → Bool}
theorem sel_fact {i : Nat} (h : sel p un st i = true) : p i 0 < 5 := by
  unfold sel at h
  simp only [Bool.and_eq_true, decide_eq_true_eq] at h
  exact h.1.2
theorem gth_sem (hW : WT p m) : ∀ i, i ≤ m → ((gth p m un st i).2 = true → ∀ x, (Sol 10 (gth p m un st i).1 x ↔ ∀ j, j < i → sel p un st j = true → dt (fct p m j) x 10 = 0)) ∧ ((gth p m un st i).2 = false → ∀ x, (∀ j, j < i → sel p un st j = true → dt (fct p m j) x 10 = 0) → x 9 = 0)
  | 0, _ => ⟨fun _ x => ⟨fun _ j hj => absurd hj (by omega), fun _ q hq => absurd hq List.not_mem_nil⟩, fun h => Bool.noConfusion h⟩
  | i + 1, hi => by
    obtain ⟨h1, h2⟩ := gth_sem hW i (by omega)
    have hr := (gth_ri hW un st i (by omega)).1
    unfold gth
    cases hb : (gth p m un st i).2 with
    | false =>
      rw [Bool.false_and, if_neg (by decide)]
      refine ⟨fun w => absurd (hb.symm.trans w) (by decide), fun _ x hx => h2 hb x (fun j hj => hx j (by omega))⟩
    | true =>
      cases hs : sel p un st i with
      | false =>
        rw [Bool.and_false, if_neg (by decide)]
        refine ⟨fun _ x => ?_, fun w => absurd (hb.symm.trans w) (by decide)⟩
        rw [h1 hb x]
        refine ⟨fun v j hj hsj => ?_, fun v j hj => v j (by omega)⟩
        by_cases q : j = i
        · rw [q, hs] at hsj; exact absurd hsj (by decide)
        · exact v j (by omega) hsj
      | true =>
        rw [Bool.and_true, if_pos rfl]
        obtain ⟨s1, s2⟩ := ad_sem hr (fct_ok hW (show i < m by omega) (sel_fact hs))
        refine ⟨fun w x => ?_, fun w x hx => ?_⟩
        · have e := s1 w x
          rw [h1 hb x] at e
          refine e.trans ⟨fun v j hj hsj => ?_, fun v => ⟨fun j hj => v j (by omega), v i (by omega) hs⟩⟩
          by_cases q : j = i
          · rw [q]; exact v.2
          · exact v.1 j (by omega) hsj
        · exact s2 w x ((h1 hb x).mpr (fun j hj => hx j (by omega))) (hx i (by omega) hs)
/-- facts of which some are enough to quarrel quarrel -/
theorem gth_sub (hW : WT p m) {i i' : Nat} (hi : i ≤ m) (hi' : i' ≤ m) (h : (gth p m un st i).2 = true) (hs : ∀ j, j < i' → sel p un st' j = true → j < i ∧ sel p un st j = true) : (gth p m un st' i').2 = true := by
  cases hb : (gth p m un st' i').2 with
  | true => rfl
  | false =>
    exfalso
    have hr := (gth_ri hW un st i hi).1
    obtain ⟨s, x, hs0, hx, hf⟩ := ech_free hr.1 (fun _ => 1)
    have h9 : x 9 = s := by rw [hf 9 (fun q hq w => by have := (hr.2.1 q hq).1; omega)]; omega
    have hx2 := ((gth_sem hW i hi).1 h x).mp hx
    have := (gth_sem hW i' hi').2 hb x (fun j hj hsj => hx2 j (hs j hj hsj).1 (hs j hj hsj).2)
    omega
theorem gth_congr : ∀ {i : Nat}, (∀ j, j < i → sel p un st j = sel p un st' j) → gth p m un st i = gth p m un st' i
  | 0, _ => rfl
  | i + 1, h => by
    unfold gth
    rw [gth_congr (fun j hj => h j (by omega)), h i (by omega)]
theorem gth_more {i : Nat} : ∀ {j : Nat}, i ≤ j → (∀ n, i ≤ n → n < j → sel p un st n = false) → gth p m un st j = gth p m un st i
  | 0, h, _ => by rw [show i = 0 by omega]
  | j + 1, h, hs => by
    by_cases q : i = j + 1
    · rw [q]
    · have ih := gth_more (i := i) (j := j) (by omega) (fun n h1 h2 => hs n h1 (by omega))
      show (if (gth p m un st j).2 && sel p un st j then _ else gth p m un st j) = _
      rw [hs j (by omega) (by omega), Bool.and_false, if_neg (by decide), ih]
theorem gth_gtS {s2 : Nat → Bool} : ∀ {i : Nat}, (∀ j, j < i → s2 j = sel p un st j) → (∀ j, j ≤ i → (gth p m un st j).2 = true) → (gth p m un st i).1 = gtS p m s2 i
  | 0, _, _ => rfl
  | i + 1, hs, hb => by
    have ih := gth_gtS (i := i) (fun j hj => hs j (by omega)) (fun j hj => hb j (by omega))
    unfold gth gtS
    rw [hb i (by omega), Bool.true_and, hs i (by omega), ih]
    split
    · rfl
    · exact ih
theorem gtS_more {s2 : Nat → Bool} {i : Nat} : ∀ {j : Nat}, i ≤ j → (∀ n, i ≤ n → n < j → s2 n = false) → gtS p m s2 j = gtS p m s2 i
  | 0, h, _ => by rw [show i = 0 by omega]
  | j + 1, h, hs => by
    by_cases q : i = j + 1
    · rw [q]
    · have ih := gtS_more (i := i) (j := j) (by omega) (fun n h1 h2 => hs n h1 (by omega))
      show (if s2 j = true then _ else _) = _
      rw [hs j (by omega) (by omega), if_neg (by decide), ih]
/-- the prefix by bits -/
theorem bt_mask : ∀ i, i < 10 → ∀ j, j < 10 → bt ((1 : Int32) <<< (nI (i + 1) &&& 31) - 1) j = decide (j ≤ i) := by decide +kernel
theorem bt_al : ∀ m, m < 11 → ∀ j, j < 10 → bt (al m) j = decide (j < m) := by decide +kernel
theorem gth_all (hm : m ≤ 10) : gth p m un (bt (al m)) m = gth p m un aT m := gth_congr (fun j hj => by
  unfold sel aT
  rw [bt_al m (by omega) j (by omega), decide_eq_true hj])
theorem gth_pre (hm : m ≤ 10) {i : Nat} (hi : i < m) : gth p m un (bt ((1 : Int32) <<< (nI (i + 1) &&& 31) - 1)) m = gth p m un aT (i + 1) := by
  rw [gth_more (i := i + 1) (j := m) (by omega) (fun n h1 h2 => by
    unfold sel
    rw [bt_mask i (by omega) n (by omega), decide_eq_false (by omega)]; rfl)]
  exact gth_congr (fun j hj => by
    unfold sel aT
    rw [bt_mask i (by omega) j (by omega), decide_eq_true (by omega)])
theorem qFr_congr {q q' : Nat → Bool} : ∀ {d i : Nat}, (∀ j, i ≤ j → j < i + d → q j = q' j) → qFr q d i = qFr q' d i
  | 0, _, _ => rfl
  | d + 1, i, h => by
    show (if q i = true then _ else _) = if q' i = true then _ else _
    rw [h i (by omega) (by omega), qFr_congr (fun j h1 h2 => h j (by omega) (by omega))]
theorem QA_QC (hm : m ≤ 10) : QA p m = QC p m := by
  unfold QA QC
  refine qFr_congr (fun j _ hj => ?_)
  unfold QCb
  rw [gth_pre hm (by omega)]
theorem qFr_none {q : Nat → Bool} : ∀ {d i : Nat}, i + d < 1000 → qFr q d i = -1 → ∀ j, i ≤ j → j < i + d → q j = false
  | 0, i, _, _, j, h1, h2 => absurd h2 (by omega)
  | d + 1, i, hd, h, j, h1, h2 => by
    have h : (if q i = true then nI i else qFr q d (i + 1)) = -1 := h
    by_cases w : q i = true
    · rw [if_pos w] at h; exact absurd h (nI_nm1 (by omega))
    · rw [if_neg w] at h
      by_cases v : j = i
      · rw [v]; cases hh : q i with
        | false => rfl
        | true => exact absurd hh w
      · exact qFr_none (by omega) h j (by omega) (by omega)
/-- without a quarrel every unit's facts go together -/
theorem QC_ok (hW : WT p m) (h : QC p m = -1) (un : Int32) : ∀ i, i ≤ m → (gth p m un aT i).2 = true
  | 0, _ => rfl
  | i + 1, hi => by
    have ih := QC_ok hW h un i (by omega)
    have hm := hW.1
    have hq := qFr_none (by omega) h i (by omega) (by omega)
    unfold QCb at hq
    by_cases w : sel p un aT i = true
    · have w2 := w
      unfold sel at w2
      simp only [Bool.and_eq_true, decide_eq_true_eq] at w2
      rw [decide_eq_true w2.1.2, Bool.true_and, w2.2] at hq
      cases hh : (gth p m un aT (i + 1)).2 with
      | true => rfl
      | false => rw [hh] at hq; exact absurd hq (by decide)
    · have : sel p un aT i = false := by cases hh : sel p un aT i with
        | false => rfl
        | true => exact absurd hh w
      show (if (gth p m un aT i).2 && sel p un aT i then _ else gth p m un aT i).2 = true
      rw [this, Bool.and_false, if_neg (by decide)]
      exact ih
end EQ1
