/-! BOTH SIDES SAY THE SAME: settled, lacking -/
theorem dt_fr {ρ x f : Nat → Int} {s : Int} : ∀ {m : Nat}, (∀ k, k < m → ρ k * x k = s * (ρ k * f k)) → dt ρ x m = s * dt ρ f m
  | 0, _ => (Int.mul_zero s).symm
  | m + 1, h => by
    show dt ρ x m + ρ m * x m = s * (dt ρ f m + ρ m * f m)
    rw [dt_fr (fun k hk => h k (by omega)), h m (by omega), Int.mul_add]
theorem dt_ei {ρ : Nat → Int} {i m : Nat} (hi : i < m) : dt ρ (fun k => if k = i then 1 else 0) m = ρ i := by
  rw [dt_at hi, dt_0 (fun k _ => by
    by_cases q : k = i
    · simp only [if_pos q, Int.mul_zero]
    · simp only [if_neg q, Int.mul_zero])]
  simp only [if_pos, Int.mul_one, Int.add_zero]
theorem dt_e2 {ρ : Nat → Int} {i j m : Nat} {a b : Int} (hi : i < m) (hj : j < m) (hij : i ≠ j) : dt ρ (fun k => if k = i then a else if k = j then b else 0) m = ρ i * a + ρ j * b := by
  rw [dt_at hi, dt_at (r := ρ) (x := fun k => if k = i then 0 else if k = i then a else if k = j then b else 0) hj, dt_0 (fun k _ => by
    by_cases q : k = j
    · simp only [if_pos q, Int.mul_zero]
    · by_cases q2 : k = i
      · simp only [if_neg q, if_pos q2, Int.mul_zero]
      · simp only [if_neg q, if_neg q2, Int.mul_zero])]
  simp only [if_pos, if_neg (Ne.symm hij), Int.add_zero]
section EQ2
variable {k : Int} {es : List (Nat × (Nat → Int))}
theorem ri_fr8 (hr : RI k es) : (∀ q ∈ es, q.1 ≠ 8) ∧ (∀ q ∈ es, q.1 ≠ 9) := ⟨fun q hq w => by have := (hr.2.1 q hq).1; omega, fun q hq w => by have := (hr.2.1 q hq).1; omega⟩
theorem sd_sem (hr : RI k es) {f : Nat → Int} (hp : prim 10 f) : sd (redu es f) = true ↔ ∀ x, Sol 10 es x → x 8 = 0 → x 9 = 0 → dt f x 10 = 0 := by
  obtain ⟨a1, a2, μ, ν, a3, a4, a5⟩ := redu_spec hr.1 hp
  rw [sd_iff]
  constructor
  · intro h x hx h8 h9
    have e := a5 x hx
    rw [dt_0 (r := redu es f) (fun i hi => by
      by_cases q : i < 8
      · rw [h i q, Int.zero_mul]
      · rcases (show i = 8 ∨ i = 9 by omega) with w | w <;> rw [w]
        · rw [h8, Int.mul_zero]
        · rw [h9, Int.mul_zero]), Int.mul_zero] at e
    exact (Int.mul_eq_zero.mp e.symm).resolve_left a4
  · intro h i hi
    by_cases q : ∀ r ∈ es, r.1 ≠ i
    · obtain ⟨s, x, hs, hx, hf⟩ := ech_free hr.1 (fun j => if j = i then 1 else 0)
      have h8 := hf 8 (ri_fr8 hr).1
      have h9 := hf 9 (ri_fr8 hr).2
      simp only [if_neg (show ¬ 8 = i by omega), Int.mul_zero] at h8
      simp only [if_neg (show ¬ 9 = i by omega), Int.mul_zero] at h9
      have e := a5 x hx
      rw [h x hx h8 h9, Int.mul_zero, dt_fr (s := s) (f := fun j => if j = i then 1 else 0) (fun j hj => by
        by_cases v : ∀ r ∈ es, r.1 ≠ j
        · rw [hf j v, Int.mul_left_comm]
        · simp only [Classical.not_forall] at v
          obtain ⟨r, hr1, hr2⟩ := v
          have hr2 : r.1 = j := Decidable.of_not_not hr2
          have := a2 r hr1
          rw [hr2] at this
          rw [this, Int.zero_mul, Int.zero_mul, Int.mul_zero]), dt_ei (by omega)] at e
      exact (Int.mul_eq_zero.mp ((Int.mul_eq_zero.mp e).resolve_left a3)).resolve_left hs
    · simp only [Classical.not_forall] at q
      obtain ⟨r, hr1, hr2⟩ := q
      have hr2 : r.1 = i := Decidable.of_not_not hr2
      rw [← hr2]
      exact a2 r hr1
theorem sd_mono (hr : RI k es) {k' : Int} {es' : List (Nat × (Nat → Int))} (hr' : RI k' es') {f : Nat → Int} (hp : prim 10 f) (hs : ∀ x, Sol 10 es' x → Sol 10 es x) (h : sd (redu es f) = true) : sd (redu es' f) = true := (sd_sem hr' hp).mpr (fun x hx => (sd_sem hr hp).mp h x (hs x hx))
/-- rows that lie alongside -/
theorem par_r (hr : RI k es) {f g : Nat → Int} (hf : prim 10 f) (hg : prim 10 g) (h : ∀ x, Sol 10 es x → x 8 = 0 → x 9 = 0 → dt g x 10 = 0 → dt f x 10 = 0) {i j : Nat} (hi : i < 8) (hj : j < 8) : redu es f i * redu es g j = redu es f j * redu es g i := by
  obtain ⟨a1, a2, μ, ν, a3, a4, a5⟩ := redu_spec hr.1 hf
  obtain ⟨b1, b2, μ', ν', b3, b4, b5⟩ := redu_spec hr.1 hg
  have pz : ∀ {i : Nat}, ¬ (∀ r ∈ es, r.1 ≠ i) → redu es f i = 0 ∧ redu es g i = 0 := by
    intro i q
    simp only [Classical.not_forall] at q
    obtain ⟨r, hr1, hr2⟩ := q
    have hr2 : r.1 = i := Decidable.of_not_not hr2
    rw [← hr2]
    exact ⟨a2 r hr1, b2 r hr1⟩
  by_cases e : i = j
  · rw [e]
  by_cases qi : ∀ r ∈ es, r.1 ≠ i
  · by_cases qj : ∀ r ∈ es, r.1 ≠ j
    · obtain ⟨s, x, hs, hx, hfx⟩ := ech_free hr.1 (fun n => if n = i then redu es g j else if n = j then -(redu es g i) else 0)
      have h8 := hfx 8 (ri_fr8 hr).1
      have h9 := hfx 9 (ri_fr8 hr).2
      simp only [if_neg (show ¬ 8 = i by omega), if_neg (show ¬ 8 = j by omega), Int.mul_zero] at h8
      simp only [if_neg (show ¬ 9 = i by omega), if_neg (show ¬ 9 = j by omega), Int.mul_zero] at h9
      have key : ∀ ρ : Nat → Int, (∀ r ∈ es, ρ r.1 = 0) → dt ρ x 10 = s * (ρ i * redu es g j + ρ j * -(redu es g i)) := by
        intro ρ hρ
        rw [dt_fr (s := s) (f := fun n => if n = i then redu es g j else if n = j then -(redu es g i) else 0) (fun n hn => by
          by_cases v : ∀ r ∈ es, r.1 ≠ n
          · rw [hfx n v, Int.mul_left_comm]
          · simp only [Classical.not_forall] at v
            obtain ⟨r, hr1, hr2⟩ := v
            have hr2 : r.1 = n := Decidable.of_not_not hr2
            have := hρ r hr1
            rw [hr2] at this
            rw [this, Int.zero_mul, Int.zero_mul, Int.mul_zero]), dt_e2 (by omega) (by omega) e]
      have eg := b5 x hx
      rw [key _ b2, show redu es g i * redu es g j + redu es g j * -(redu es g i) = 0 by grind, Int.mul_zero, Int.mul_zero] at eg
      have ef := a5 x hx
      rw [h x hx h8 h9 ((Int.mul_eq_zero.mp eg.symm).resolve_left b4), Int.mul_zero, key _ a2] at ef
      have := (Int.mul_eq_zero.mp ((Int.mul_eq_zero.mp ef).resolve_left a3)).resolve_left hs
      grind
    · rw [(pz qj).1, (pz qj).2, Int.mul_zero, Int.zero_mul]
  · rw [(pz qi).1, (pz qi).2, Int.mul_zero, Int.zero_mul]
theorem par_l (hr : RI k es) {f g : Nat → Int} (hf : prim 10 f) (hg : prim 10 g) (h : alZ (redu es f) (redu es g) = true) : ∀ x, Sol 10 es x → x 8 = 0 → x 9 = 0 → dt g x 10 = 0 → dt f x 10 = 0 := by
  obtain ⟨a1, a2, μ, ν, a3, a4, a5⟩ := redu_spec hr.1 hf
  obtain ⟨b1, b2, μ', ν', b3, b4, b5⟩ := redu_spec hr.1 hg
  unfold alZ at h
  simp only [Bool.and_eq_true, Bool.not_eq_true', decide_eq_false_iff_not] at h
  obtain ⟨⟨h1, h2⟩, h3⟩ := h
  rw [all8_iff] at h3
  intro x hx h8 h9 hg0
  have eg := b5 x hx
  rw [hg0, Int.mul_zero] at eg
  have eg := (Int.mul_eq_zero.mp eg).resolve_left b3
  have : redu es g (fiN (redu es f) 8 0) * dt (redu es f) x 10 = redu es f (fiN (redu es f) 8 0) * dt (redu es g) x 10 := by
    rw [← dt_sc (r := fun i => redu es g (fiN (redu es f) 8 0) * redu es f i) (fun _ _ => rfl), ← dt_sc (r := fun i => redu es f (fiN (redu es f) 8 0) * redu es g i) (q := redu es g) (fun _ _ => rfl)]
    show dt _ x 8 + _ * x 8 + _ * x 9 = dt _ x 8 + _ * x 8 + _ * x 9
    rw [h8, h9, Int.mul_zero, Int.mul_zero, Int.mul_zero, Int.mul_zero]
    congr 2
    exact dt_eq (fun i hi => by
      have := of_decide_eq_true (h3 i hi)
      rw [Int.mul_comm, this, Int.mul_comm]) (fun _ _ => rfl)
  rw [eg, Int.mul_zero] at this
  have e := a5 x hx
  rw [(Int.mul_eq_zero.mp this).resolve_left h2, Int.mul_zero] at e
  exact (Int.mul_eq_zero.mp e.symm).resolve_left a4
theorem sd_one (hr : RI k es) {n : Nat} (hn : n < 8) : sd (redu es (qrow n none)) = sd (redu es (gr n n 1 0 0 0)) := by
  rw [Bool.eq_iff_iff, sd_sem hr (qrow_prim hn (fun _ w => by cases w)), sd_sem hr (gr_prim hn rfl (Or.inr rfl))]
  refine ⟨fun h x hx h8 h9 => ?_, fun h x hx h8 h9 => ?_⟩
  · have := h x hx h8 h9
    rw [show qrow n none = gr n n (-1) 0 1 0 from rfl, dt_gr (by omega) (by omega), h8, h9] at this
    rw [dt_gr (by omega) (by omega), h8, h9]
    omega
  · have := h x hx h8 h9
    rw [dt_gr (by omega) (by omega), h8, h9] at this
    rw [show qrow n none = gr n n (-1) 0 1 0 from rfl, dt_gr (by omega) (by omega), h8, h9]
    omega
theorem lk_eq (hr : RI k es) (hk : 0 ≤ k) {na n : Nat} {ob : Option Nat} (hna : na < 8) (hob : ∀ nb, ob = some nb → nb < 8 ∧ nb ≠ na) (hn : n < 8) (hu : sd (redu es (qrow na ob)) = false) : (!sd (redu es (qrow n none)) && ((ad es (gr n n 1 0 0 0)).2 && sd (redu (ad es (gr n n 1 0 0 0)).1 (qrow na ob)))) = alZ (redu es (qrow na ob)) (redu es (gr n n 1 0 0 0)) := by
  have hF : Fct k n n 0 0 := ⟨hn, hn, Or.inr ⟨rfl, rfl⟩, hk⟩
  have hq := qrow_prim hna hob
  have hg : prim 10 (gr n n 1 0 0 0) := gr_prim hn rfl (Or.inr rfl)
  have hra := (ad_ri hk hr hF).1
  have hsa := (ad_sem hr hF).1
  rw [sd_one hr hn]
  rw [Bool.eq_iff_iff]
  simp only [Bool.and_eq_true, Bool.not_eq_true']
  constructor
  · rintro ⟨h1, h2, h3⟩
    have h4 := (sd_sem hra hq).mp h3
    have hp : ∀ x, Sol 10 es x → x 8 = 0 → x 9 = 0 → dt (gr n n 1 0 0 0) x 10 = 0 → dt (qrow na ob) x 10 = 0 := fun x hx h8 h9 hx0 => h4 x ((hsa h2 x).mpr ⟨hx, hx0⟩) h8 h9
    have hne : fiN (redu es (qrow na ob)) 8 0 ≠ 8 := of_decide_eq_false hu
    have hle := fi_le (redu es (qrow na ob)) 8 0
    have hnz := fi_ne (redu es (qrow na ob)) 8 0 (by omega)
    unfold alZ
    simp only [Bool.and_eq_true, Bool.not_eq_true', decide_eq_false_iff_not]
    refine ⟨⟨hne, fun w => ?_⟩, all8_iff.mpr (fun i hi => decide_eq_true ?_)⟩
    · have : sd (redu es (gr n n 1 0 0 0)) = true := sd_iff.mpr (fun i hi => by
        have e := par_r hr hq hg hp (i := i) (j := fiN (redu es (qrow na ob)) 8 0) hi (by omega)
        rw [w, Int.mul_zero] at e
        exact (Int.mul_eq_zero.mp e.symm).resolve_left hnz)
      rw [this] at h1
      exact Bool.noConfusion h1
    · rw [par_r hr hq hg hp hi (show fiN (redu es (qrow na ob)) 8 0 < 8 by omega), Int.mul_comm]
  · intro h
    have hp := par_l hr hq hg h
    unfold alZ at h
    simp only [Bool.and_eq_true, Bool.not_eq_true', decide_eq_false_iff_not] at h
    obtain ⟨⟨h1, h2⟩, h3⟩ := h
    have hle := fi_le (redu es (qrow na ob)) 8 0
    have hs : sd (redu es (gr n n 1 0 0 0)) = false := by
      cases hh : sd (redu es (gr n n 1 0 0 0)) with
      | false => rfl
      | true => exact absurd (sd_iff.mp hh _ (by omega)) h2
    have h5 : (ad es (gr n n 1 0 0 0)).2 = true := by
      unfold ad
      rw [if_neg (of_decide_eq_false hs)]
    exact ⟨hs, h5, (sd_sem hra hq).mpr (fun x hx h8 h9 => hp x ((hsa h5 x).mp hx).1 h8 h9 ((hsa h5 x).mp hx).2)⟩
end EQ2
