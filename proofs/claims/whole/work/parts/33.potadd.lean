/-! THE POTENTIALS GO ON WITH A NEW ROW -/
theorem sol_snoc {m : Nat} {es : List (Nat × (Nat → Int))} {q : Nat × (Nat → Int)} {x : Nat → Int} : Sol m (es ++ [q]) x ↔ Sol m es x ∧ dt q.2 x m = 0 := by
  unfold Sol
  constructor
  · intro h
    exact ⟨fun p hp => h p (List.mem_append_left _ hp), h q (List.mem_append_right _ List.mem_cons_self)⟩
  · intro h p hp
    rcases List.mem_append.mp hp with w | w
    · exact h.1 p w
    · rw [List.mem_singleton] at w
      rw [w]; exact h.2
theorem lead_snoc {es : List (Nat × (Nat → Int))} {l u : Nat} {r : Nat → Int} : (∃ q ∈ es ++ [(l, r)], q.1 = u) ↔ ((∃ q ∈ es, q.1 = u) ∨ l = u) := by
  constructor
  · rintro ⟨q, hq, e⟩
    rcases List.mem_append.mp hq with w | w
    · exact Or.inl ⟨q, w, e⟩
    · rw [List.mem_singleton] at w
      rw [w] at e; exact Or.inr e
  · rintro (⟨q, hq, e⟩ | e)
    · exact ⟨q, List.mem_append_left _ hq, e⟩
    · exact ⟨(l, r), List.mem_append_right _ List.mem_cons_self, e⟩
theorem p81 (m : Nat) : (9 : Int) ^ m * 9 ^ m ≤ 90 ^ m := by
  induction m with
  | zero => decide
  | succ m ih =>
    rw [Int.pow_succ, Int.pow_succ]
    have := p90_pos m
    grind
theorem K10 {n : Nat} (h : 2 ≤ n) : (10 * (9 : Int) ^ (n - 1)) * (10 * 9 ^ (n - 1)) ≤ 90 ^ n := by
  obtain ⟨m, rfl⟩ : ∃ m, n = m + 2 := ⟨n - 2, by omega⟩
  rw [show m + 2 - 1 = m + 1 by omega, Int.pow_succ, Int.pow_succ, Int.pow_succ]
  have := p81 m
  grind
theorem K9 {n : Nat} (h : 1 ≤ n) : (9 * (9 : Int) ^ (n - 1)) * (9 * 9 ^ (n - 1)) ≤ 90 ^ n := by
  obtain ⟨m, rfl⟩ : ∃ m, n = m + 1 := ⟨n - 1, by omega⟩
  rw [show m + 1 - 1 = m by omega, Int.pow_succ]
  have := p81 m
  have := p90_pos m
  grind
theorem MK {M K A B : Int} (h : M * M ≤ A) (g : K * K ≤ B) (hA : 0 ≤ A) (hK : 0 ≤ K * K) : (M * K) * (M * K) ≤ A * B := by
  have := mle h g hK hA
  grind
theorem sq0 (K : Int) : 0 ≤ K * K := by
  rcases Int.le_total 0 K with h | h
  · exact m0 h h
  · have := m0 (show 0 ≤ -K by omega) (show 0 ≤ -K by omega)
    grind
theorem cbM1 {k c x y l Na Nb : Int} (hk : 0 ≤ k) (hl0 : 0 ≤ l) (hl : l ≤ 9 * Nb) (hA : 0 ≤ Na) (hc : 8 * c ≤ k * (2 * Na - x - y)) : 8 * (l * c) ≤ k * (2 * (9 * (Na * Nb)) - l * x - l * y) := by
  have h1 := mll hc hl0
  have h2 : 0 ≤ k * ((9 * Nb - l) * Na) := m0 hk (m0 (by omega) hA)
  grind
theorem cbM2 {k c x y l Na Nb : Int} (hk : 0 ≤ k) (hl0 : 0 ≤ l) (hl : l ≤ 9 * Na) (hA : 0 ≤ Nb) (hc : 8 * c ≤ k * (2 * Nb - x - y)) : 8 * (l * c) ≤ k * (2 * (9 * (Na * Nb)) - l * x - l * y) := by
  have h1 := mll hc hl0
  have h2 : 0 ≤ k * ((9 * Na - l) * Nb) := m0 hk (m0 (by omega) hA)
  grind
theorem rel_sc {m zs zu C xu xs x9 : Int} (h : zs * xu - zu * xs + C * x9 = 0) : m * zs * xu - m * zu * xs + m * C * x9 = 0 := by grind
theorem rel_x {za zb zu zs β γ Cua Csb xa xb xu xs x9 : Int} (h1 : za * xu - zu * xa + Cua * x9 = 0) (h2 : zb * xs - zs * xb + Csb * x9 = 0) (h3 : xa + β * xb + γ * x9 = 0) : za * zs * xu - -(β * zb) * zu * xs + (γ * zs * zu + zs * Cua + β * zu * Csb) * x9 = 0 := by grind
theorem rel_ng {p q c xu xs x9 : Int} (h : p * xu - q * xs + c * x9 = 0) : q * xs - p * xu + -c * x9 = 0 := by grind
theorem cbX {k zu zs za zb β γ Cua Csb A B : Int} (hk : 0 ≤ k) (h1 : ab zu ≤ A) (h2 : ab zs ≤ B) (hβ : ab β ≤ 9) (hγ : ab γ ≤ k) (c1 : 8 * ab Cua ≤ k * (2 * A - ab zu - ab za)) (c3 : 8 * ab Csb ≤ k * (2 * B - ab zs - ab zb)) : 8 * ab (γ * zs * zu + zs * Cua + β * zu * Csb) ≤ k * (2 * (9 * (A * B)) - ab (-(β * zb) * zu) - ab (za * zs)) := by
  have key := cbD hk (ab_0 zu) h1 (ab_0 zs) h2 (ab_0 β) hβ c1 c3 hγ
  have a1 := ab_add (γ * zs * zu + zs * Cua) (β * zu * Csb)
  have a2 := ab_add (γ * zs * zu) (zs * Cua)
  simp only [ab_mul, ab_neg] at a1 a2 ⊢
  grind
theorem le_c {k c X Y Z : Int} (h : 8 * c ≤ k * (X - Y - Z)) : 8 * c ≤ k * (X - Z - Y) := by grind
section POTADD
variable {k : Int} {es : List (Nat × (Nat → Int))} {t : Nat → Nat} {z : Nat → Int} {C : Nat → Nat → Int} {D M : Int} {e : Nat → Int} {a b : Nat} {β γ : Int}
theorem pot_init : Pot k [] (fun u => u) (fun _ => 1) (fun _ _ => 0) 1 1 (fun _ => 0) := by
  have hc : ∀ u, u < 8 → cn (fun u => u) u 8 = 1 := by decide
  refine ⟨fun u hu => ⟨by show u ≤ 8; omega, fun _ => rfl⟩, fun u hu => ⟨fun ⟨q, hq, _⟩ => absurd hq List.not_mem_nil, fun h => absurd rfl h⟩, by decide, fun u hu _ => ⟨by show (1 : Int) ≠ 0; decide, ?_⟩, fun u s hu hs _ hus => ⟨?_, fun x _ => ?_⟩, by decide, by decide, by decide, fun u hu h => absurd h (by show ¬ u = 8; omega)⟩
  · show ab 1 ≤ 9 ^ (cn (fun u => u) u 8 - 1)
    rw [hc u hu]; decide
  · show 8 * ab 0 ≤ k * (2 * 9 ^ (cn (fun u => u) u 8 - 1) - ab 1 - ab 1)
    rw [hc u hu]
    show (0 : Int) ≤ k * 0
    omega
  · have : s = u := hus
    subst this
    show 1 * x s - 1 * x s + 0 * x 9 = 0
    omega
theorem pot_close (hp : Pot k es t z C D M e) (hk : 0 ≤ k) {c : Nat} (hc : c < 8) (htc : t c = c) {κ K : Int} (hκ : κ ≠ 0) (hK : ab κ ≤ K) {e2 : Nat → Int} {r : Nat → Int} (hM : (M * K) * (M * K) ≤ 90 ^ (cn t 8 8 + cn t c 8)) (he : ∀ u, u < 8 → t u = c → 8 * ab (e2 u) ≤ k * (2 * (M * K) - ab (D * κ)) ∧ ∀ x, Sol 10 es x → dt r x 10 = 0 → D * κ * x u + e2 u * x 9 = 0) : Pot k (es ++ [(c, r)]) (tm t c 8) z C (D * κ) (M * K) (fun u => if t u = c then e2 u else κ * e u) := by
  obtain ⟨h1, h2, h3, h4, h5, h6, h7, h8, h9⟩ := hp
  refine ⟨fun u hu => ?_, fun u hu => ?_, ?_, fun u hu hlt => ?_, fun u s hu hs hlt hus => ?_, Int.mul_ne_zero h6 hκ, ?_, ?_, fun u hu h8u => ?_⟩
  · by_cases q : t u = c
    · rw [tm_t q]; exact ⟨Nat.le_refl _, fun w => absurd w (by omega)⟩
    · rw [tm_f q]
      refine ⟨(h1 u hu).1, fun w => ?_⟩
      have := (h1 u hu).2 w
      rw [tm_f (by omega)]; exact this
  · rw [lead_snoc, h2 u hu]
    by_cases q : t u = c
    · rw [tm_t q]
      refine ⟨fun _ => by omega, fun _ => ?_⟩
      by_cases w : c = u
      · exact Or.inr w
      · exact Or.inl (by omega)
    · rw [tm_f q]
      refine ⟨fun w => w.resolve_right (fun v => q (by rw [← v]; exact htc)), Or.inl⟩
  · rw [nl_up htc 8 (fun u hu _ => by omega), if_pos hc, h3, List.length_append]
    rfl
  · by_cases q : t u = c
    · rw [tm_t q] at hlt; omega
    · rw [tm_f q] at hlt ⊢
      rw [cn_oth q (by omega)]
      exact h4 u hu hlt
  · by_cases q : t u = c
    · rw [tm_t q] at hlt; omega
    · rw [tm_f q] at hlt hus ⊢
      have q2 : ¬ t s = c := fun w => by rw [tm_t w] at hus; omega
      rw [tm_f q2] at hus
      rw [cn_oth q (by omega)]
      have := h5 u s hu hs hlt hus
      exact ⟨this.1, fun x hx => this.2 x (sol_snoc.mp hx).1⟩
  · rw [ab_mul]; exact mle h7 hK (ab_0 _) (by have := ab_0 D; omega)
  · rw [cn_sum (by omega)]; exact hM
  · show 8 * ab (if t u = c then e2 u else κ * e u) ≤ k * (2 * (M * K) - ab (D * κ)) ∧ ∀ x : Nat → Int, Sol 10 (es ++ [(c, r)]) x → D * κ * x u + (if t u = c then e2 u else κ * e u) * x 9 = 0
    by_cases q : t u = c
    · rw [if_pos q]
      have := he u hu q
      exact ⟨this.1, fun x hx => this.2 x (sol_snoc.mp hx).1 (sol_snoc.mp hx).2⟩
    · rw [tm_f q] at h8u
      rw [if_neg q]
      obtain ⟨b1, b2⟩ := h9 u hu h8u
      have := cbL hk (ab_0 κ) hK (by have := ab_0 D; omega) b1
      refine ⟨by rw [ab_mul, ab_mul]; grind, fun x hx => ?_⟩
      have := b2 x (sol_snoc.mp hx).1
      grind
theorem pot_merge (hp : Pot k es t z C D M e) (hk : 0 ≤ k) (ha : a < 8) (hb : b < 8) (hta : t a < 8) (htb : t b < 8) (hne : t a ≠ t b) (hβ : β ≠ 0) (hβ9 : ab β ≤ 9) (hγ : ab γ ≤ k) {l ρ : Nat} (hlρ : (l = t a ∧ ρ = t b) ∨ (l = t b ∧ ρ = t a)) {r : Nat → Int} (hr : ∀ x, Sol 10 es x → dt r x 10 = 0 → x a + β * x b + γ * x 9 = 0) : ∃ (z' : Nat → Int) (C' : Nat → Nat → Int), Pot k (es ++ [(l, r)]) (tm t l ρ) z' C' D M e := by
  obtain ⟨h1, h2, h3, h4, h5, h6, h7, h8, h9⟩ := hp
  have hra := (h1 a ha).2 hta
  have hrb := (h1 b hb).2 htb
  have hll : t l = l ∧ l < 8 ∧ t ρ = ρ ∧ ρ < 8 ∧ l ≠ ρ := by rcases hlρ with ⟨w, v⟩ | ⟨w, v⟩ <;> subst w <;> subst v <;> omega
  obtain ⟨hl1, hl2, hρ1, hρ2, hlρ2⟩ := hll
  have na1 := cn_pos (t := t) (c := t a) rfl (m := 8) ha
  have nb1 := cn_pos (t := t) (c := t b) rfl (m := 8) hb
  have hcn : cn (tm t l ρ) ρ 8 = cn t (t a) 8 + cn t (t b) 8 := by
    rw [cn_sum (Ne.symm hlρ2)]
    rcases hlρ with ⟨w, v⟩ | ⟨w, v⟩ <;> subst w <;> subst v <;> omega
  have hN : (9 : Int) ^ (cn (tm t l ρ) ρ 8 - 1) = 9 * (9 ^ (cn t (t a) 8 - 1) * 9 ^ (cn t (t b) 8 - 1)) := by
    rw [hcn, show cn t (t a) 8 + cn t (t b) 8 - 1 = 1 + ((cn t (t a) 8 - 1) + (cn t (t b) 8 - 1)) by omega, Int.pow_add, Int.pow_add]
    rfl
  have hA : ∀ u, t u = t a ∨ t u = t b → tm t l ρ u = ρ := by
    intro u hu
    by_cases q : t u = l
    · exact tm_t q
    · rw [tm_f q]
      rcases hlρ with ⟨w, v⟩ | ⟨w, v⟩ <;> subst w <;> subst v <;> omega
  have hB : ∀ u, ¬ t u = t a → ¬ t u = t b → tm t l ρ u = t u ∧ t u ≠ ρ ∧ t u ≠ l := by
    intro u q1 q2
    have h : t u ≠ ρ ∧ t u ≠ l := by rcases hlρ with ⟨w, v⟩ | ⟨w, v⟩ <;> subst w <;> subst v <;> omega
    exact ⟨tm_f h.2, h⟩
  obtain ⟨za0, za⟩ := h4 a ha hta
  obtain ⟨zb0, zb⟩ := h4 b hb htb
  have Na1 := p9_pos (cn t (t a) 8 - 1)
  have Nb1 := p9_pos (cn t (t b) 8 - 1)
  obtain ⟨Na, hNa⟩ : ∃ N : Int, 9 ^ (cn t (t a) 8 - 1) = N := ⟨_, rfl⟩
  obtain ⟨Nb, hNb⟩ : ∃ N : Int, 9 ^ (cn t (t b) 8 - 1) = N := ⟨_, rfl⟩
  rw [hNa, hNb] at hN
  rw [hNa] at za Na1
  rw [hNb] at zb Nb1
  have hX : ∀ u s, u < 8 → s < 8 → t u = t a → t s = t b → 8 * ab (γ * z s * z u + z s * C u a + β * z u * C s b) ≤ k * (2 * (9 * (Na * Nb)) - ab (-(β * z b) * z u) - ab (z a * z s)) ∧ ∀ x, Sol 10 es x → dt r x 10 = 0 → z a * z s * x u - -(β * z b) * z u * x s + (γ * z s * z u + z s * C u a + β * z u * C s b) * x 9 = 0 := by
    intro u s hu hs qu qs
    obtain ⟨zu0, zu⟩ := h4 u hu (by omega)
    obtain ⟨zs0, zs⟩ := h4 s hs (by omega)
    rw [qu, hNa] at zu
    rw [qs, hNb] at zs
    obtain ⟨c1, c2⟩ := h5 u a hu ha (by omega) qu.symm
    obtain ⟨c3, c4⟩ := h5 s b hs hb (by omega) qs.symm
    rw [qu, hNa] at c1
    rw [qs, hNb] at c3
    exact ⟨cbX hk zu zs hβ9 hγ c1 c3, fun x hx hx2 => rel_x (c2 x hx) (c4 x hx) (hr x hx hx2)⟩
  refine ⟨fun u => if t u = t a then -(β * z b) * z u else if t u = t b then z a * z u else z u, fun u s => if t u = t a then (if t s = t a then -(β * z b) * C u s else γ * z s * z u + z s * C u a + β * z u * C s b) else if t u = t b then (if t s = t b then z a * C u s else -(γ * z u * z s + z u * C s a + β * z s * C u b)) else C u s, fun u hu => ?_, fun u hu => ?_, ?_, fun u hu hlt => ?_, fun u s hu hs hlt hus => ?_, h6, h7, ?_, fun u hu h8u => ?_⟩
  · by_cases q : t u = l
    · rw [tm_t q]; exact ⟨by omega, fun _ => by rw [tm_f (by omega)]; exact hρ1⟩
    · rw [tm_f q]
      refine ⟨(h1 u hu).1, fun w => ?_⟩
      have := (h1 u hu).2 w
      rw [tm_f (by omega)]; exact this
  · rw [lead_snoc, h2 u hu]
    by_cases q : t u = l
    · rw [tm_t q]
      refine ⟨fun _ w => ?_, fun _ => ?_⟩
      · rw [← w] at q; omega
      · by_cases w : l = u
        · exact Or.inr w
        · exact Or.inl (by omega)
    · rw [tm_f q]
      refine ⟨fun w => w.resolve_right (fun v => q (by rw [← v]; exact hl1)), Or.inl⟩
  · rw [nl_up hl1 8 (fun u hu q w => by rw [w] at q; omega), if_pos hl2, h3, List.length_append]
    rfl
  · show (if t u = t a then -(β * z b) * z u else if t u = t b then z a * z u else z u) ≠ 0 ∧ ab (if t u = t a then -(β * z b) * z u else if t u = t b then z a * z u else z u) ≤ 9 ^ (cn (tm t l ρ) (tm t l ρ u) 8 - 1)
    by_cases q1 : t u = t a
    · rw [if_pos q1, hA u (Or.inl q1), hN]
      obtain ⟨y0, y1⟩ := h4 u hu (by omega)
      rw [q1, hNa] at y1
      refine ⟨Int.mul_ne_zero (by have := Int.mul_ne_zero hβ zb0; omega) y0, ?_⟩
      rw [ab_mul, ab_neg, ab_mul]
      have s1 := mle hβ9 zb (ab_0 _) (by omega)
      have s2 := mle s1 y1 (ab_0 _) (by omega)
      rw [show 9 * (Na * Nb) = 9 * Nb * Na by rw [Int.mul_comm Na Nb, Int.mul_assoc]]
      exact s2
    · by_cases q2 : t u = t b
      · rw [if_neg q1, if_pos q2, hA u (Or.inr q2), hN]
        obtain ⟨y0, y1⟩ := h4 u hu (by omega)
        rw [q2, hNb] at y1
        refine ⟨Int.mul_ne_zero za0 y0, ?_⟩
        rw [ab_mul]
        have s1 := mle za y1 (ab_0 _) (by omega)
        have s2 := m0 (show 0 ≤ Na by omega) (show 0 ≤ Nb by omega)
        omega
      · obtain ⟨w1, w2, w3⟩ := hB u q1 q2
        rw [if_neg q1, if_neg q2]
        rw [w1] at hlt ⊢
        rw [cn_oth w3 w2]
        exact h4 u hu hlt
  · show 8 * ab (if t u = t a then (if t s = t a then -(β * z b) * C u s else γ * z s * z u + z s * C u a + β * z u * C s b) else if t u = t b then (if t s = t b then z a * C u s else -(γ * z u * z s + z u * C s a + β * z s * C u b)) else C u s) ≤ k * (2 * 9 ^ (cn (tm t l ρ) (tm t l ρ u) 8 - 1) - ab (if t u = t a then -(β * z b) * z u else if t u = t b then z a * z u else z u) - ab (if t s = t a then -(β * z b) * z s else if t s = t b then z a * z s else z s)) ∧ ∀ x, Sol 10 (es ++ [(l, r)]) x → (if t s = t a then -(β * z b) * z s else if t s = t b then z a * z s else z s) * x u - (if t u = t a then -(β * z b) * z u else if t u = t b then z a * z u else z u) * x s + (if t u = t a then (if t s = t a then -(β * z b) * C u s else γ * z s * z u + z s * C u a + β * z u * C s b) else if t u = t b then (if t s = t b then z a * C u s else -(γ * z u * z s + z u * C s a + β * z s * C u b)) else C u s) * x 9 = 0
    by_cases q1 : t u = t a
    · rw [hA u (Or.inl q1), hN]
      rw [hA u (Or.inl q1)] at hus
      simp only [if_pos q1]
      by_cases w1 : t s = t a
      · simp only [if_pos w1]
        obtain ⟨c1, c2⟩ := h5 u s hu hs (by omega) (by omega)
        rw [q1, hNa] at c1
        have s1 := mle hβ9 zb (ab_0 _) (by omega)
        refine ⟨?_, fun x hx => rel_sc (c2 x (sol_snoc.mp hx).1)⟩
        rw [ab_mul, ab_mul, ab_mul, ab_neg, ab_mul]
        exact cbM1 hk (m0 (ab_0 β) (ab_0 (z b))) s1 (by omega) c1
      · have w2 : t s = t b := by
          by_cases w2 : t s = t b
          · exact w2
          · have := hB s w1 w2; omega
        simp only [if_neg w1, if_pos w2]
        obtain ⟨c1, c2⟩ := hX u s hu hs q1 w2
        exact ⟨c1, fun x hx => c2 x (sol_snoc.mp hx).1 (sol_snoc.mp hx).2⟩
    · by_cases q2 : t u = t b
      · rw [hA u (Or.inr q2), hN]
        rw [hA u (Or.inr q2)] at hus
        simp only [if_neg q1, if_pos q2]
        by_cases w2 : t s = t b
        · simp only [if_neg (show ¬ t s = t a by omega), if_pos w2]
          obtain ⟨c1, c2⟩ := h5 u s hu hs (by omega) (by omega)
          rw [q2, hNb] at c1
          have s1 : ab (z a) ≤ 9 * Na := by omega
          refine ⟨?_, fun x hx => rel_sc (c2 x (sol_snoc.mp hx).1)⟩
          rw [ab_mul, ab_mul, ab_mul]
          exact cbM2 hk (ab_0 (z a)) s1 (by omega) c1
        · have w1 : t s = t a := by
            by_cases w1 : t s = t a
            · exact w1
            · have := hB s w1 w2; omega
          simp only [if_neg w2, if_pos w1]
          obtain ⟨c1, c2⟩ := hX s u hs hu w1 q2
          exact ⟨by rw [ab_neg]; exact le_c c1, fun x hx => rel_ng (c2 x (sol_snoc.mp hx).1 (sol_snoc.mp hx).2)⟩
      · obtain ⟨w1, w2, w3⟩ := hB u q1 q2
        rw [w1] at hlt hus ⊢
        have v1 : ¬ t s = t a := fun v => by rw [hA s (Or.inl v)] at hus; omega
        have v2 : ¬ t s = t b := fun v => by rw [hA s (Or.inr v)] at hus; omega
        rw [(hB s v1 v2).1] at hus
        simp only [if_neg q1, if_neg q2, if_neg v1, if_neg v2]
        rw [cn_oth w3 w2]
        have := h5 u s hu hs hlt hus
        exact ⟨this.1, fun x hx => this.2 x (sol_snoc.mp hx).1⟩
  · rw [cn_oth (by omega) (by omega)]; exact h8
  · have q : ¬ t u = l := fun w => by rw [tm_t w] at h8u; omega
    rw [tm_f q] at h8u
    have := h9 u hu h8u
    exact ⟨this.1, fun x hx => this.2 x (sol_snoc.mp hx).1⟩
end POTADD
