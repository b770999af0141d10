/-! add of the class -/
section CADD
variable {k : Int} {es : List (Nat × (Nat → Int))} {T : Nat → Nat → Int64} {L : Nat → Int32}
theorem rz_zero {T : Nat → Nat → Int} {f : Nat → Int} {i : Nat} : ∀ {j : Nat}, (∀ m, m < j → L m ≠ 0 → T m i = 0) → f i = 0 → rdZ T L f j i = 0
  | 0, _, h => h
  | j + 1, hT, h => by
    unfold rdZ
    by_cases q : L j = 0
    · rw [if_pos q]; exact rz_zero (fun m hm => hT m (by omega)) h
    · rw [if_neg q]
      exact el_zero (rz_zero (fun m hm => hT m (by omega)) h) (hT j (by omega) q)
theorem rz_off {T : Nat → Nat → Int} {f : Nat → Int} {i : Nat} (hLi : L i ≠ 0) : ∀ {j : Nat}, i < j → (∀ m, m < j → m ≠ i → L m ≠ 0 → T m i = 0) → rdZ T L f j i = 0
  | 0, h, _ => absurd h (by omega)
  | j + 1, h, hT => by
    unfold rdZ
    by_cases q : L j = 0
    · rw [if_pos q]
      have : i ≠ j := fun w => hLi (by rw [w]; exact q)
      exact rz_off hLi (by omega) (fun m hm => hT m (by omega))
    · rw [if_neg q]
      by_cases w : i = j
      · rw [w]; exact el_at
      · exact el_zero (rz_off hLi (by omega) (fun m hm => hT m (by omega))) (hT j (by omega) (Ne.symm w) q)
theorem rz_sem (hC : CI es T L) {f : Nat → Int} : ∀ {j : Nat}, j ≤ 8 → ∃ μ ν : Int, μ ≠ 0 ∧ ν ≠ 0 ∧ ∀ x, Sol 10 es x → μ * dt (rdZ (fun j => e10 (T j)) L f j) x 10 = ν * dt f x 10
  | 0, _ => ⟨1, 1, by decide, by decide, fun _ _ => rfl⟩
  | j + 1, hj => by
    obtain ⟨μ, ν, h1, h2, h3⟩ := rz_sem hC (f := f) (j := j) (by omega)
    unfold rdZ
    by_cases q : L j = 0
    · rw [if_pos q]; exact ⟨μ, ν, h1, h2, h3⟩
    · rw [if_neg q]
      obtain ⟨p1, p2, p3, p4, p5⟩ := hC.2 j (by omega) q
      obtain ⟨μ', ν', b1, b2, b3⟩ := el_mul (r := rdZ (fun j => e10 (T j)) L f j) (b := e10 (T j)) (l := j) (by omega)
      refine ⟨μ' * μ, ν * ν', Int.mul_ne_zero b1 h1, Int.mul_ne_zero h2 b2, fun x hx => ?_⟩
      have c1 := b3 x (p5 x hx)
      have c2 := h3 x hx
      show μ' * μ * dt (el (rdZ (fun j => e10 (T j)) L f j) (e10 (T j)) j) x 10 = _
      grind
theorem rz_8pos (hC : CI es T L) {f : Nat → Int} (hf : 0 < f 8) : ∀ {j : Nat}, j ≤ 8 → 0 < rdZ (fun j => e10 (T j)) L f j 8
  | 0, _ => hf
  | j + 1, hj => by
    have ih := rz_8pos hC hf (j := j) (by omega)
    unfold rdZ
    by_cases q : L j = 0
    · rw [if_pos q]; exact ih
    · rw [if_neg q]
      obtain ⟨p1, p2, p3, p4, p5⟩ := hC.2 j (by omega) q
      unfold el
      split
      · exact ih
      · obtain ⟨s, hs, he⟩ := nrm_mul (m := 10) (e := fun i => rdZ (fun j => e10 (T j)) L f j i * e10 (T j) j - e10 (T j) i * rdZ (fun j => e10 (T j)) L f j j)
        have h1 := he 8 (by decide)
        have h2 : 0 < rdZ (fun j => e10 (T j)) L f j 8 * e10 (T j) j - e10 (T j) 8 * rdZ (fun j => e10 (T j)) L f j j := by
          rw [p3, Int.zero_mul, Int.sub_zero]; exact Int.mul_pos ih p2
        rw [h1] at h2
        exact Int.pos_of_mul_pos_right h2 (by omega) 
theorem c_pm (hE : Ech 10 es) (hl8 : ∀ q ∈ es, q.1 < 8) (hC : CI es T L) {f : Nat → Int} (hp : prim 10 f) (hpz : prim 10 (rdZ (fun j => e10 (T j)) L f 8)) : (∀ i, i < 10 → rdZ (fun j => e10 (T j)) L f 8 i = redu es f i) ∨ (∀ i, i < 10 → rdZ (fun j => e10 (T j)) L f 8 i = - redu es f i) := by
  obtain ⟨μ, ν, h1, h2, h3⟩ := rz_sem hC (f := f) (Nat.le_refl 8)
  obtain ⟨a1, a2, μ', ν', a3, a4, a5⟩ := redu_spec hE hp
  have hoff : ∀ q ∈ es, rdZ (fun j => e10 (T j)) L f 8 q.1 = 0 := fun q hq => by
    have hq8 := hl8 q hq
    have hL : L q.1 ≠ 0 := (hC.1 q.1 hq8).mpr ⟨q, hq, rfl⟩
    exact rz_off hL hq8 (fun m hm hne hLm => (hC.2 m hm hLm).2.2.2.1 q.1 hq8 (Ne.symm hne) hL)
  have hs := ech_same hE hoff a2 (α := μ * ν') (β := ν * μ') (fun x hx => by
    have c1 := h3 x hx
    have c2 := a5 x hx
    grind)
  exact prim_pm (Int.mul_ne_zero h1 a4) (Int.mul_ne_zero h2 a3) hpz a1 hs
/-- the asked row with what is gained: a shift of the last place -/
def sft (ρ : Nat → Int) (G : Int) : Nat → Int := fun i => if i = 9 then ρ 9 + ρ 8 * G else ρ i
theorem dt_sft (ρ : Nat → Int) (G : Int) (x : Nat → Int) : dt (sft ρ G) x 10 = dt ρ x 10 + ρ 8 * G * x 9 := by
  have h1 : dt (sft ρ G) x 9 = dt ρ x 9 := dt_eq (fun i hi => if_neg (by omega)) (fun _ _ => rfl)
  show dt (sft ρ G) x 9 + sft ρ G 9 * x 9 = dt ρ x 9 + ρ 9 * x 9 + ρ 8 * G * x 9
  rw [h1, show sft ρ G 9 = ρ 9 + ρ 8 * G from if_pos rfl]
  grind
theorem sft_prim {ρ : Nat → Int} {G : Int} (h : prim 10 ρ) : prim 10 (sft ρ G) := by
  unfold prim at *
  have hd : ∀ i, i < 10 → ((gv (sft ρ G) 10 : Nat) : Int) ∣ ρ i := by
    intro i hi
    have h8 : ((gv (sft ρ G) 10 : Nat) : Int) ∣ ρ 8 := gv_dvd (e := sft ρ G) (k := 8) (by decide)
    have h9 : ((gv (sft ρ G) 10 : Nat) : Int) ∣ ρ 9 + ρ 8 * G := gv_dvd (e := sft ρ G) (k := 9) (by decide)
    by_cases q : i = 9
    · subst q
      have h10 := Int.dvd_sub h9 (Int.dvd_trans h8 (Int.dvd_mul_right _ G))
      rw [show ρ 9 + ρ 8 * G - ρ 8 * G = ρ 9 by omega] at h10
      exact h10
    · have := gv_dvd (e := sft ρ G) (k := i) hi
      rw [show sft ρ G i = ρ i from if_neg q] at this
      exact this
  have h2 := dvd_gv hd
  by_cases q : gv ρ 10 = 0
  · have : gv (sft ρ G) 10 = gv (fun _ => 0) 10 := gv_congr (fun i hi => by
      have z : ∀ i, i < 10 → ρ i = 0 := fun i hi => gv_zero q hi
      unfold sft
      split
      · rw [z 9 (by decide), z 8 (by decide)]; simp
      · rw [z i hi])
    rw [this]; decide
  · have := Nat.le_of_dvd (by omega) h2
    omega
theorem dt_e8 (g : Nat → Int) : dt g (fun i => if i = 8 then 1 else 0) 10 = g 8 := by simp [dt]
theorem e8_sol {es : List (Nat × (Nat → Int))} (h : ∀ q ∈ es, q.2 8 = 0) : Sol 10 es (fun i => if i = 8 then 1 else 0) := fun q hq => by
  rw [dt_e8, h q hq]
theorem redu_sc (h : RI k es) {f : Nat → Int} (hp : prim 10 f) (hf8 : f 8 = 1) : ∀ x, Sol 10 es x → dt (redu es f) x 10 = redu es f 8 * dt f x 10 := by
  obtain ⟨a1, a2, μ, ν, a3, a4, a5⟩ := redu_spec h.1 hp
  have E8 := e8_sol (fun q hq => (h.2.1 q hq).2.2)
  have e := a5 _ E8
  rw [dt_e8, dt_e8, hf8, Int.mul_one] at e
  intro x hx
  have := a5 x hx
  rw [← e] at this
  have h2 : μ * dt (redu es f) x 10 = μ * (redu es f 8 * dt f x 10) := by grind
  exact Int.eq_of_mul_eq_mul_left a3 h2
theorem c_q (h : RI k es) (hC : CI es T L) {f : Nat → Int} {G : Int} (hp : prim 10 f) (hf8 : f 8 = 1) (hpz : prim 10 (rdZ (fun j => e10 (T j)) L (sft f G) 8)) (i : Nat) (hi : i < 10) : rdZ (fun j => e10 (T j)) L (sft f G) 8 i = (if 0 ≤ redu es f 8 then 1 else -1) * sft (redu es f) G i := by
  have hl8 : ∀ q ∈ es, q.1 < 8 := fun q hq => (h.2.1 q hq).1
  obtain ⟨μ, ν, h1, h2, h3⟩ := rz_sem hC (f := sft f G) (Nat.le_refl 8)
  obtain ⟨a1, a2, -⟩ := redu_spec h.1 hp
  have hsc := redu_sc h hp hf8
  have hoff : ∀ q ∈ es, rdZ (fun j => e10 (T j)) L (sft f G) 8 q.1 = 0 := fun q hq => by
    have hq8 := hl8 q hq
    have hL : L q.1 ≠ 0 := (hC.1 q.1 hq8).mpr ⟨q, hq, rfl⟩
    exact rz_off hL hq8 (fun m hm hne hLm => (hC.2 m hm hLm).2.2.2.1 q.1 hq8 (Ne.symm hne) hL)
  have hoff2 : ∀ q ∈ es, sft (redu es f) G q.1 = 0 := fun q hq => by
    have hq8 := hl8 q hq
    rw [show sft (redu es f) G q.1 = redu es f q.1 from if_neg (by omega)]
    exact a2 q hq
  have h80 : redu es f 8 ≠ 0 := by
    have : ∀ (es : List (Nat × (Nat → Int))) (f : Nat → Int), f 8 ≠ 0 → (∀ q ∈ es, q.2 8 = 0 ∧ q.2 q.1 ≠ 0) → redu es f 8 ≠ 0 := by
      intro es
      induction es with
      | nil => intro f hf _; exact hf
      | cons q es ih => intro f hf hq; exact ih _ (el_8 hf (hq q List.mem_cons_self).1 (hq q List.mem_cons_self).2) (fun p hp => hq p (List.mem_cons_of_mem _ hp))
    exact this es f (by rw [hf8]; decide) (fun q hq => ⟨(h.2.1 q hq).2.2, ech_lead h.1 q hq⟩)
  have hs := ech_same h.1 hoff hoff2 (α := μ * redu es f 8) (β := ν) (fun x hx => by
    have c1 := h3 x hx
    have c2 := hsc x hx
    rw [dt_sft] at c1
    rw [dt_sft, c2]
    rw [hf8] at c1
    grind)
  have hpos := rz_8pos hC (f := sft f G) (show 0 < sft f G 8 by rw [show sft f G 8 = f 8 from if_neg (by decide), hf8]; decide) (Nat.le_refl 8)
  have e8 : sft (redu es f) G 8 = redu es f 8 := if_neg (by decide)
  rcases prim_pm (Int.mul_ne_zero h1 h80) h2 hpz (sft_prim a1) hs with q | q
  · have := q 8 (by decide)
    rw [e8] at this
    rw [q i hi, if_pos (by omega)]; omega
  · have := q 8 (by decide)
    rw [e8] at this
    rw [q i hi, if_neg (by omega)]; omega
end CADD
