/-! ELIMINATION, as both do it; what a row is when it is reduced by rows -/
def el (r b : Nat → Int) (l : Nat) : Nat → Int := if r l = 0 then r else nrm 10 (fun k => r k * b l - b k * r l)
def redu (es : List (Nat × (Nat → Int))) (f : Nat → Int) : Nat → Int := es.foldl (fun r q => el r q.2 q.1) f
theorem dt_smul {e r x : Nat → Int} {t : Int} {m : Nat} (h : ∀ k, k < m → e k = t * r k) : dt e x m = t * dt r x m := dt_sc h
theorem el_mul {r b : Nat → Int} {l : Nat} (hb : b l ≠ 0) : ∃ μ ν : Int, μ ≠ 0 ∧ ν ≠ 0 ∧ ∀ x, dt b x 10 = 0 → μ * dt (el r b l) x 10 = ν * dt r x 10 := by
  unfold el
  by_cases h : r l = 0
  · rw [if_pos h]; exact ⟨1, 1, by decide, by decide, fun _ _ => rfl⟩
  · rw [if_neg h]
    obtain ⟨g, hg, he⟩ := nrm_mul (m := 10) (e := fun k => r k * b l - b k * r l)
    refine ⟨g, b l, by omega, hb, fun x hx => ?_⟩
    rw [← dt_smul he, dt_comb, hx]
    omega
theorem el_prim {r b : Nat → Int} {l : Nat} (hr : prim 10 r) : prim 10 (el r b l) := by
  unfold el
  split
  · exact hr
  · exact nrm_prim
theorem nrm_0 {m : Nat} {e : Nat → Int} {j : Nat} (h : e j = 0) : nrm m e j = 0 := by
  unfold nrm
  split
  · rw [h]; exact Int.zero_ediv _
  · exact h
theorem el_at {r b : Nat → Int} {l : Nat} : el r b l l = 0 := by
  unfold el
  by_cases h : r l = 0
  · rw [if_pos h]; exact h
  · rw [if_neg h]
    refine nrm_0 ?_
    show r l * b l - b l * r l = 0
    grind
theorem el_zero {r b : Nat → Int} {l j : Nat} (h : r j = 0) (g : b j = 0) : el r b l j = 0 := by
  unfold el
  split
  · exact h
  · refine nrm_0 ?_
    show r j * b l - b j * r l = 0
    rw [h, g]; simp
theorem redu_zero {j : Nat} : ∀ {es : List (Nat × (Nat → Int))} {f : Nat → Int}, (∀ p ∈ es, p.2 j = 0) → f j = 0 → redu es f j = 0
  | [], _, _, h => h
  | q :: es, f, hp, h => redu_zero (es := es) (f := el f q.2 q.1) (fun p hpm => hp p (List.mem_cons_of_mem _ hpm)) (el_zero h (hp q List.mem_cons_self))
theorem redu_spec : ∀ {es : List (Nat × (Nat → Int))} {f : Nat → Int}, Ech 10 es → prim 10 f → prim 10 (redu es f) ∧ (∀ q ∈ es, redu es f q.1 = 0) ∧ ∃ μ ν : Int, μ ≠ 0 ∧ ν ≠ 0 ∧ ∀ x, Sol 10 es x → μ * dt (redu es f) x 10 = ν * dt f x 10
  | [], f, _, hf => ⟨hf, fun q h => absurd h List.not_mem_nil, 1, 1, by decide, by decide, fun _ _ => rfl⟩
  | q :: es, f, hE, hf => by
    obtain ⟨h1, h2, h3, h4⟩ := hE
    obtain ⟨a1, a2, μ, ν, a3, a4, a5⟩ := redu_spec (es := es) (f := el f q.2 q.1) h4 (el_prim hf)
    obtain ⟨μ', ν', b1, b2, b3⟩ := el_mul (r := f) (b := q.2) (l := q.1) h2
    refine ⟨a1, fun p hp => ?_, μ' * μ, ν * ν', Int.mul_ne_zero b1 a3, Int.mul_ne_zero a4 b2, fun x hx => ?_⟩
    · rcases List.mem_cons.mp hp with w | w
      · rw [w]; exact redu_zero (es := es) (fun p hp => (h3 p hp).1) el_at
      · exact a2 p w
    · have c1 := a5 x (fun p hp => hx p (List.mem_cons_of_mem _ hp))
      have c2 := b3 x (hx q List.mem_cons_self)
      show μ' * μ * dt (redu es (el f q.2 q.1)) x 10 = _
      grind
theorem redu_snoc {es : List (Nat × (Nat → Int))} {q : Nat × (Nat → Int)} {f : Nat → Int} : redu (es ++ [q]) f = el (redu es f) q.2 q.1 := by
  unfold redu
  rw [List.foldl_append]
  rfl
theorem ech_snoc {m : Nat} {l : Nat} {r : Nat → Int} : ∀ {es : List (Nat × (Nat → Int))}, Ech m es → l < m → r l ≠ 0 → (∀ q ∈ es, r q.1 = 0) → Ech m (es ++ [(l, r)])
  | [], _, hl, hr, _ => ⟨hl, hr, fun p hp => absurd hp List.not_mem_nil, trivial⟩
  | q :: es, h, hl, hr, ho => by
    obtain ⟨h1, h2, h3, h4⟩ := h
    refine ⟨h1, h2, fun p hp => ?_, ech_snoc h4 hl hr (fun p hp => ho p (List.mem_cons_of_mem _ hp))⟩
    rcases List.mem_append.mp hp with w | w
    · exact h3 p w
    · rw [List.mem_singleton] at w
      rw [w]
      have := ho q List.mem_cons_self
      exact ⟨this, fun v => hr (by rw [show l = q.1 from v]; exact this)⟩
theorem ech_take {m : Nat} : ∀ {es : List (Nat × (Nat → Int))} (j : Nat), Ech m es → Ech m (es.take j)
  | [], j, _ => by rw [List.take_nil]; trivial
  | q :: es, 0, _ => trivial
  | q :: es, j + 1, h => by
    obtain ⟨h1, h2, h3, h4⟩ := h
    exact ⟨h1, h2, fun p hp => h3 p (List.mem_of_mem_take hp), ech_take j h4⟩
theorem gr_prim {a b : Nat} {α β σ γ : Int} (ha : a < 8) (hα : ab α = 1) (hab : a ≠ b ∨ β = 0) : prim 10 (gr a b α β σ γ) := by
  unfold prim
  have h1 : ((gv (gr a b α β σ γ) 10 : Nat) : Int) ∣ gr a b α β σ γ a := gv_dvd (by omega)
  have h2 : gr a b α β σ γ a = α := by
    unfold gr
    rw [if_pos rfl, if_neg (show ¬ a = 8 by omega), if_neg (show ¬ a = 9 by omega)]
    rcases hab with q | q
    · rw [if_neg q]; omega
    · rw [q]; split <;> omega
  rw [h2] at h1
  have h3 := Int.natAbs_dvd_natAbs.mpr h1
  have h4 : α.natAbs = 1 := by unfold ab at hα; omega
  rw [h4] at h3
  have := Nat.le_of_dvd (by decide) h3
  simpa using this
/-! THE ROWS THAT THE REFERENCE KEEPS -/
def RI (k : Int) (es : List (Nat × (Nat → Int))) : Prop := Ech 10 es ∧ (∀ q ∈ es, q.1 < 8 ∧ prim 10 q.2 ∧ q.2 8 = 0) ∧ (∀ j, j ≤ es.length → ∃ (t : Nat → Nat) (z : Nat → Int) (C : Nat → Nat → Int) (D M : Int) (e : Nat → Int), Pot k (es.take j) t z C D M e) ∧ ∀ j q, es[j]? = some q → SzA k q.2 ∨ SzB k q.2 q.1 j
theorem ri_nil {k : Int} : RI k [] := ⟨trivial, fun q h => absurd h List.not_mem_nil, fun j _ => ⟨_, _, _, _, _, _, by rw [List.take_nil]; exact pot_init⟩, fun j q h => by simp at h⟩
theorem ri_take {k : Int} {es : List (Nat × (Nat → Int))} (h : RI k es) (j : Nat) : Ech 10 (es.take j) ∧ (∀ q ∈ es.take j, q.1 < 8) := ⟨ech_take j h.1, fun q hq => (h.2.1 q (List.mem_of_mem_take hq)).1⟩
theorem ri_add {k : Int} {es : List (Nat × (Nat → Int))} (hk : 0 ≤ k) (h : RI k es) {a b : Nat} {β γ : Int} (hf : Fct k a b β γ) {l : Nat} (hl : l < 8) (hrl : redu es (gr a b 1 β 0 γ) l ≠ 0) : RI k (es ++ [(l, redu es (gr a b 1 β 0 γ))]) := by
  obtain ⟨h1, h2, h3, h4⟩ := id h
  have hab : a ≠ b ∨ β = 0 := by
    rcases hf.2.2.1 with w | w
    · exact Or.inl w.1
    · exact Or.inr w.2
  obtain ⟨a1, a2, μ, ν, a3, a4, a5⟩ := redu_spec h1 (gr_prim (γ := γ) (σ := 0) hf.1 (α := 1) rfl hab)
  have h8 : redu es (gr a b 1 β 0 γ) 8 = 0 := redu_zero (fun p hp => (h2 p hp).2.2) (by
    have ha := hf.1
    have hb := hf.2.1
    unfold gr
    rw [if_neg (show ¬ 8 = a by omega), if_neg (show ¬ 8 = b by omega), if_pos rfl, if_neg (by decide)]
    rfl)
  have hl8 : ∀ q ∈ es, q.1 < 8 := fun q hq => (h2 q hq).1
  obtain ⟨t, z, C, D, M, e, hp⟩ := h3 es.length (Nat.le_refl _)
  rw [List.take_length] at hp
  refine ⟨ech_snoc h1 (by omega) hrl a2, fun q hq => ?_, fun j hj => ?_, fun j q hq => ?_⟩
  · rcases List.mem_append.mp hq with w | w
    · exact h2 q w
    · rw [List.mem_singleton] at w
      rw [w]; exact ⟨hl, a1, h8⟩
  · rw [List.length_append] at hj
    by_cases q : j ≤ es.length
    · rw [List.take_append_of_le_length q]; exact h3 j q
    · have : j = es.length + 1 := by simp at hj; omega
      rw [this, show es.length + 1 = (es ++ [(l, redu es (gr a b 1 β 0 γ))]).length by simp, List.take_length]
      exact pot_add hp h1 hl8 hk hf a2 a1 a3 a4 a5 hl hrl
  · by_cases w : j < es.length
    · rw [List.getElem?_append_left w] at hq
      exact h4 j q hq
    · have hj := (List.getElem?_eq_some_iff.mp hq).1
      rw [List.length_append] at hj
      have hj2 : j = es.length := by simp at hj; omega
      subst hj2
      rw [List.getElem?_append_right (Nat.le_refl _), Nat.sub_self] at hq
      have hq2 : (l, redu es (gr a b 1 β 0 γ)) = q := by simpa using hq
      rw [← hq2]
      exact red_size hp h1 hl8 hk hf a2 a1 a3 a4 a5 hl hrl
/-! NO OVERFLOW -/
def KC (k : Int) (e : Nat) : Prop := e ≤ 10 ∧ 0 ≤ k ∧ ((e = 0 ∧ k ≤ 999) ∨ k ≤ 9990 * (e : Int))
theorem num1 {k B1 B2 : Int} (hk : 0 ≤ k) (hk2 : k ≤ 99900) (h1 : 0 ≤ B1) (g1 : B1 ≤ 9 ^ 7) (h2 : 0 ≤ B2) (g2 : B2 ≤ 90 ^ 4) : 2 * (B1 * B2) < 2 ^ 63 ∧ 2 * (k * (B1 * B2)) < 8 * 2 ^ 63 := by
  have a1 : B1 * B2 ≤ 9 ^ 7 * 90 ^ 4 := mle g1 g2 h2 (by decide)
  have a2 : k * (B1 * B2) ≤ 99900 * (9 ^ 7 * 90 ^ 4) := mle hk2 a1 (m0 h1 h2) (by decide)
  have c1 : 2 * ((9 : Int) ^ 7 * 90 ^ 4) < 2 ^ 63 := by decide
  have c2 : 2 * (99900 * ((9 : Int) ^ 7 * 90 ^ 4)) < 8 * 2 ^ 63 := by decide
  omega
theorem num2 {k B1 B2 : Int} {e n : Nat} (hK : KC k e) (h1 : 0 ≤ B1) (h2 : 0 ≤ B2) (g1 : B1 * B1 ≤ 90 ^ n) (g2 : B2 * B2 ≤ 90 ^ n) (hn : n ≤ 8) (hne : n + e ≤ 9) : 2 * (k * (B1 * B2)) < 8 * 2 ^ 64 := by
  obtain ⟨k1, k2, k3⟩ := hK
  have a1 : B1 * B2 ≤ 90 ^ n := by
    have := sq0 (B1 - B2)
    grind
  have a2 := mll a1 k2
  have key : ∀ n : Nat, n < 9 → ∀ e : Nat, e < 10 → n + e ≤ 9 → 2 * ((if e = 0 then 999 else 9990 * (e : Int)) * 90 ^ n) < 8 * 2 ^ 64 := by decide
  have b1 := key n (by omega) e (by omega) hne
  have b2 : k * 90 ^ n ≤ (if e = 0 then 999 else 9990 * (e : Int)) * 90 ^ n := by
    refine Int.mul_le_mul_of_nonneg_right ?_ (by have := p90_pos n; omega)
    split
    · rcases k3 with ⟨_, w⟩ | w
      · exact w
      · subst e; omega
    · rcases k3 with ⟨w, _⟩ | w
      · omega
      · exact w
  omega
theorem num3 {k B1 B2 : Int} {e n : Nat} (hK : KC k e) (h1 : 0 ≤ B1) (h2 : 0 ≤ B2) (g1 : B1 ≤ 2 * 9 ^ 7) (g2 : B2 * B2 ≤ 90 ^ n) (hn : n ≤ 8) (hne : n + e ≤ 11) : 2 * (B1 * B2) < 2 ^ 63 ∧ 2 * (k * (B1 * B2)) < 8 * 2 ^ 63 := by
  obtain ⟨k1, k2, k3⟩ := hK
  have q8 := p90_mono hn
  have q44 : (90 : Int) ^ 4 * 90 ^ 4 = 90 ^ 8 := by decide
  have c0 : B2 ≤ 90 ^ 4 := sq_le (by decide) (by omega)
  have a0 : B1 * B2 ≤ 2 * 9 ^ 7 * 90 ^ 4 := mle g1 c0 h2 (by decide)
  have c1 : 2 * (2 * (9 : Int) ^ 7 * 90 ^ 4) < 2 ^ 63 := by decide
  refine ⟨by omega, ?_⟩
  by_cases q : n ≤ 7
  · have q7 := p90_mono q
    have q77 : (90 : Int) ^ 7 ≤ 2 * 9 ^ 7 * (2 * 9 ^ 7) := by decide
    have c3 : B2 ≤ 2 * 9 ^ 7 := sq_le (by decide) (by omega)
    have a1 : B1 * B2 ≤ 2 * 9 ^ 7 * (2 * 9 ^ 7) := mle g1 c3 h2 (by decide)
    have a2 : k * (B1 * B2) ≤ 99900 * (2 * 9 ^ 7 * (2 * 9 ^ 7)) := mle (by omega) a1 (m0 h1 h2) (by decide)
    have c2 : 2 * (99900 * (2 * (9 : Int) ^ 7 * (2 * 9 ^ 7))) < 8 * 2 ^ 63 := by decide
    omega
  · have a2 : k * (B1 * B2) ≤ 29970 * (2 * 9 ^ 7 * 90 ^ 4) := mle (by omega) a0 (m0 h1 h2) (by decide)
    have c2 : 2 * (29970 * (2 * (9 : Int) ^ 7 * 90 ^ 4)) < 8 * 2 ^ 63 := by decide
    omega
theorem num4 {k B1 B2 : Int} (hk : 0 ≤ k) (hk2 : k ≤ 99900) (h1 : 0 ≤ B1) (g1 : B1 ≤ 2 * 9 ^ 7) (h2 : 0 ≤ B2) (g2 : B2 ≤ 9 ^ 7) : 2 * (B1 * B2) < 2 ^ 63 ∧ 2 * (k * (B1 * B2)) < 8 * 2 ^ 63 := by
  have a1 : B1 * B2 ≤ 2 * 9 ^ 7 * 9 ^ 7 := mle g1 g2 h2 (by decide)
  have a2 : k * (B1 * B2) ≤ 99900 * (2 * 9 ^ 7 * 9 ^ 7) := mle hk2 a1 (m0 h1 h2) (by decide)
  have c1 : 2 * (2 * (9 : Int) ^ 7 * 9 ^ 7) < 2 ^ 63 := by decide
  have c2 : 2 * (99900 * (2 * (9 : Int) ^ 7 * 9 ^ 7)) < 8 * 2 ^ 63 := by decide
  omega
