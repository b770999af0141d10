/-! WHAT A ROW IS BY THE POTENTIALS -/
section CAND
variable {k : Int} {es : List (Nat × (Nat → Int))} {t : Nat → Nat} {z : Nat → Int} {C : Nat → Nat → Int} {D M : Int} {e : Nat → Int} {a b : Nat} {α β σ γ : Int}
theorem gr_cases {j : Nat} (hab : a ≠ b ∨ β = 0) (ha8 : a = 8 → α = 0) (hb8 : b = 8 → β = 0) (hj : j < 9) : gr a b α β σ γ j = 0 ∨ gr a b α β σ γ j = α ∨ gr a b α β σ γ j = β ∨ gr a b α β σ γ j = σ := by
  unfold gr
  rw [if_neg (show ¬ j = 9 by omega)]
  by_cases h8 : j = 8
  · rw [if_pos h8]
    by_cases h1 : j = a <;> by_cases h2 : j = b
    · rw [if_pos h1, if_pos h2, ha8 (by omega), hb8 (by omega)]; omega
    · rw [if_pos h1, if_neg h2, ha8 (by omega)]; omega
    · rw [if_neg h1, if_pos h2, hb8 (by omega)]; omega
    · rw [if_neg h1, if_neg h2]; omega
  · rw [if_neg h8]
    by_cases h1 : j = a <;> by_cases h2 : j = b
    · rcases hab with q | q
      · omega
      · rw [if_pos h1, if_pos h2, q]; omega
    · rw [if_pos h1, if_neg h2]; omega
    · rw [if_neg h1, if_pos h2]; omega
    · rw [if_neg h1, if_neg h2]; omega
theorem gr_two {j : Nat} (hj : j < 8) : ab (gr a b α β σ γ j) ≤ ab α + ab β := by
  unfold gr
  rw [if_neg (show ¬ j = 9 by omega), if_neg (show ¬ j = 8 by omega)]
  have h1 : ab (if j = a then α else 0) ≤ ab α := by split; · omega
                                                     · rw [ab_z]; exact ab_0 α
  have h2 : ab (if j = b then β else 0) ≤ ab β := by split; · omega
                                                     · rw [ab_z]; exact ab_0 β
  have h3 := ab_add (if j = a then α else 0) ((if j = b then β else 0) + (0 + 0))
  have h4 : (if j = b then β else 0) + ((0 : Int) + 0) = (if j = b then β else 0) := by omega
  rw [h4] at h3 ⊢
  omega
theorem BR_gr {B : Int} (hk : 0 ≤ k) (hB : 0 ≤ B) (ha : a ≤ 8) (hb : b ≤ 8) (hab : a ≠ b ∨ β = 0) (ha8 : a = 8 → α = 0) (hb8 : b = 8 → β = 0) (h1 : ab α ≤ B) (h2 : ab β ≤ B) (h3 : ab σ ≤ B) (h4 : 8 * ab γ ≤ k * (2 * B - ab α - ab β)) : BR k B (gr a b α β σ γ) := by
  constructor
  · intro j hj
    rcases gr_cases (σ := σ) (γ := γ) hab ha8 hb8 hj with q | q | q | q <;> rw [q]
    · exact hB
    · exact h1
    · exact h2
    · exact h3
  · intro j hj
    rw [gr_9 ha hb]
    have := mll (gr_two (a := a) (b := b) (α := α) (β := β) (σ := σ) (γ := γ) hj) hk
    grind
def md (t : Nat → Nat) (z : Nat → Int) (D : Int) (a b : Nat) : Int := if t a = t b then pd t z D a else pd t z D a * pd t z D b
def cd (t : Nat → Nat) (z : Nat → Int) (C : Nat → Nat → Int) (D : Int) (e : Nat → Int) (a b : Nat) (α β σ γ : Int) : Nat → Int :=
  if t a = t b then gr (t a) (t a) (α * pn t z a + β * pn t z b) 0 (σ * pd t z D a) (α * pc t C e a + β * pc t C e b + pd t z D a * γ)
  else gr (t a) (t b) (α * (pd t z D b * pn t z a)) (β * (pd t z D a * pn t z b)) (σ * (pd t z D a * pd t z D b)) (α * (pd t z D b * pc t C e a) + β * (pd t z D a * pc t C e b) + pd t z D a * pd t z D b * γ)
theorem pd_same (q : t a = t b) : pd t z D b = pd t z D a := by unfold pd; rw [q]
theorem pB_same (q : t a = t b) : pB t M b = pB t M a := by unfold pB; rw [q]
theorem pn_8 (q : t a = 8) : pn t z a = 0 := if_pos q
theorem md_ne (hp : Pot k es t z C D M e) (hk : 0 ≤ k) (ha : a < 8) (hb : b < 8) : md t z D a b ≠ 0 := by
  unfold md
  split
  · exact (pot_rd hp hk ha).1
  · exact Int.mul_ne_zero (pot_rd hp hk ha).1 (pot_rd hp hk hb).1
theorem cd_sol (hp : Pot k es t z C D M e) (hk : 0 ≤ k) (ha : a < 8) (hb : b < 8) {x : Nat → Int} (hx : Sol 10 es x) : dt (cd t z C D e a b α β σ γ) x 10 = md t z D a b * dt (gr a b α β σ γ) x 10 := by
  have h1 := (pot_rd hp hk ha).2.2.2.2.1 x hx
  have h2 := (pot_rd hp hk hb).2.2.2.2.1 x hx
  have t1 := (hp.1 a ha).1
  have t2 := (hp.1 b hb).1
  rw [dt_gr (show a < 10 by omega) (show b < 10 by omega)]
  unfold cd md
  by_cases q : t a = t b
  · rw [if_pos q, if_pos q, dt_gr (by omega) (by omega)]
    rw [pd_same q, ← q] at h2
    grind
  · rw [if_neg q, if_neg q, dt_gr (by omega) (by omega)]
    grind
theorem cd_off (hp : Pot k es t z C D M e) (hl : ∀ q ∈ es, q.1 < 8) (ha : a < 8) (hb : b < 8) : ∀ q ∈ es, cd t z C D e a b α β σ γ q.1 = 0 := by
  intro q hq
  have h1 := hl q hq
  have h2 := (hp.2.1 q.1 h1).mp ⟨q, hq, rfl⟩
  have h3 : ∀ c, c < 8 → q.1 ≠ t c := fun c hc w => by
    have := pot_root hp hc (by omega)
    rw [← w] at this
    exact h2 this
  unfold cd
  split
  · exact gr_off (h3 a ha) (h3 a ha) h1
  · exact gr_off (h3 a ha) (h3 b hb) h1
theorem red_le (hp : Pot k es t z C D M e) (hE : Ech 10 es) (hl : ∀ q ∈ es, q.1 < 8) (hk : 0 ≤ k) (ha : a < 8) (hb : b < 8) {r : Nat → Int} (hoff : ∀ q ∈ es, r q.1 = 0) (hpr : prim 10 r) {μ ν : Int} (hμ : μ ≠ 0) (hν : ν ≠ 0) (hs : ∀ x, Sol 10 es x → μ * dt r x 10 = ν * dt (gr a b α β σ γ) x 10) :
    (∀ j, j < 10 → ab (r j) ≤ ab (cd t z C D e a b α β σ γ j)) ∧ ∀ j, j < 10 → (r j = 0 ↔ cd t z C D e a b α β σ γ j = 0) := by
  have hm := md_ne hp hk ha hb
  have h1 := ech_same hE (v := r) (w := cd t z C D e a b α β σ γ) hoff (cd_off hp hl ha hb) (α := μ * md t z D a b) (β := ν) (fun x hx => by
    rw [cd_sol hp hk ha hb hx]
    have := hs x hx
    grind)
  have hm2 := Int.mul_ne_zero hμ hm
  constructor
  · intro j hj
    have := prim_le hm2 hν hpr h1 j hj
    unfold ab
    omega
  · intro j hj
    have h2 := h1 j hj
    constructor
    · intro q
      rw [q, Int.mul_zero] at h2
      exact (Int.mul_eq_zero.mp h2.symm).resolve_left hν
    · intro q
      rw [q, Int.mul_zero] at h2
      exact (Int.mul_eq_zero.mp h2).resolve_left hm2
theorem cd_BRd (hp : Pot k es t z C D M e) (hk : 0 ≤ k) (ha : a < 8) (hb : b < 8) (hα : ab α = 1) (hβ : ab β ≤ 9) (hγ : ab γ ≤ k) (q : t a ≠ t b) : BR k (9 * (pB t M a * pB t M b)) (cd t z C D e a b α β 0 γ) := by
  obtain ⟨a1, a2, a3, a4, a5, a6⟩ := pot_rd hp hk ha
  obtain ⟨b1, b2, b3, b4, b5, b6⟩ := pot_rd hp hk hb
  have A1 := pB_pos hp (u := a)
  have B1 := pB_pos hp (u := b)
  have hA := m0 (show 0 ≤ pB t M a by omega) (show 0 ≤ pB t M b by omega)
  have c1 := cbD hk (ab_0 (pd t z D a)) a2 (ab_0 (pd t z D b)) b2 (ab_0 β) hβ a4 b4 hγ
  have s1 := mle b2 a3 (ab_0 _) (by omega)
  have s2 := mle a2 b3 (ab_0 _) (by omega)
  have s3 : ab β * (ab (pd t z D a) * ab (pn t z b)) ≤ 9 * (pB t M a * pB t M b) := mle hβ s2 (m0 (ab_0 _) (ab_0 _)) (by omega)
  unfold cd
  rw [if_neg q]
  refine BR_gr hk (by omega) (hp.1 a ha).1 (hp.1 b hb).1 (Or.inl q) (fun w => by rw [pn_8 w]; simp) (fun w => by rw [pn_8 w]; simp) ?_ ?_ ?_ ?_
  · rw [ab_mul, ab_mul, hα]; grind
  · rw [ab_mul, ab_mul]; exact s3
  · rw [Int.zero_mul, ab_z]; omega
  · have h1 := ab_add (α * (pd t z D b * pc t C e a) + β * (pd t z D a * pc t C e b)) (pd t z D a * pd t z D b * γ)
    have h2 := ab_add (α * (pd t z D b * pc t C e a)) (β * (pd t z D a * pc t C e b))
    simp only [ab_mul] at h1 h2 ⊢
    rw [hα] at h2 ⊢
    grind
theorem cd_BRs (hp : Pot k es t z C D M e) (hk : 0 ≤ k) (ha : a < 8) (hb : b < 8) (hα : ab α = 1) (hβ : ab β ≤ 9) (hγ : ab γ ≤ k) (q : t a = t b) : BR k (10 * pB t M a) (cd t z C D e a b α β 0 γ) := by
  obtain ⟨a1, a2, a3, a4, a5, a6⟩ := pot_rd hp hk ha
  obtain ⟨b1, b2, b3, b4, b5, b6⟩ := pot_rd hp hk hb
  have A1 := pB_pos hp (u := a)
  rw [pB_same q] at b2 b3 b4
  rw [pd_same q] at b2 b4
  have c1 := cbS hk (ab_0 (pd t z D a)) a2 (ab_0 β) hβ a4 b4 hγ
  have s1 : ab β * ab (pn t z b) ≤ 9 * pB t M a := mle hβ b3 (ab_0 _) (by omega)
  have s2 := ab_add (α * pn t z a) (β * pn t z b)
  have s3 := mll s2 hk
  unfold cd
  rw [if_pos q]
  refine BR_gr hk (by omega) (hp.1 a ha).1 (hp.1 a ha).1 (Or.inr rfl) (fun w => by rw [pn_8 w, pn_8 (q ▸ w)]; simp) (fun _ => rfl) ?_ ?_ ?_ ?_
  · simp only [ab_mul] at s2
    rw [hα] at s2
    omega
  · rw [ab_z]; omega
  · rw [Int.zero_mul, ab_z]; omega
  · have h1 := ab_add (α * pc t C e a + β * pc t C e b) (pd t z D a * γ)
    have h2 := ab_add (α * pc t C e a) (β * pc t C e b)
    rw [ab_z]
    simp only [ab_mul] at h1 h2 s2 s3
    rw [hα] at h2 s2 s3
    grind
theorem cd_BRo (hp : Pot k es t z C D M e) (hk : 0 ≤ k) (ha : a < 8) (hα : ab α = 1) (hγ : ab γ ≤ k) : BR k (9 * pB t M a) (cd t z C D e a a α 0 0 γ) := by
  obtain ⟨a1, a2, a3, a4, a5, a6⟩ := pot_rd hp hk ha
  have A1 := pB_pos hp (u := a)
  have c1 := cbO hk (ab_0 (pd t z D a)) a2 a4 hγ
  unfold cd
  rw [if_pos rfl]
  refine BR_gr hk (by omega) (hp.1 a ha).1 (hp.1 a ha).1 (Or.inr rfl) (fun w => by rw [pn_8 w]; simp) (fun _ => rfl) ?_ ?_ ?_ ?_
  · rw [Int.zero_mul, Int.add_zero, ab_mul, hα]; omega
  · rw [ab_z]; omega
  · rw [Int.zero_mul, ab_z]; omega
  · have h1 := ab_add (α * pc t C e a) (pd t z D a * γ)
    rw [ab_z, Int.zero_mul, Int.zero_mul, Int.add_zero, Int.add_zero]
    simp only [ab_mul] at h1 ⊢
    rw [hα] at h1 ⊢
    grind
/-- the asked sum -/
theorem cd_BRqd (hp : Pot k es t z C D M e) (hk : 0 ≤ k) (ha : a < 8) (hb : b < 8) (hα : ab α = 1) (hβ : ab β = 1) (hσ : ab σ ≤ 1) (q : t a ≠ t b) : BR k (pB t M a * pB t M b) (cd t z C D e a b α β σ 0) := by
  obtain ⟨a1, a2, a3, a4, a5, a6⟩ := pot_rd hp hk ha
  obtain ⟨b1, b2, b3, b4, b5, b6⟩ := pot_rd hp hk hb
  have A1 := pB_pos hp (u := a)
  have B1 := pB_pos hp (u := b)
  have hA := m0 (show 0 ≤ pB t M a by omega) (show 0 ≤ pB t M b by omega)
  have c1 := cbQ hk (ab_0 (pd t z D a)) a2 (ab_0 (pd t z D b)) b2 a4 b4
  have s1 := mle b2 a3 (ab_0 _) (by omega)
  have s2 := mle a2 b3 (ab_0 _) (by omega)
  have s4 := mle a2 b2 (ab_0 _) (by omega)
  have s5 : ab σ * (ab (pd t z D a) * ab (pd t z D b)) ≤ 1 * (pB t M a * pB t M b) := mle hσ s4 (m0 (ab_0 _) (ab_0 _)) (by omega)
  unfold cd
  rw [if_neg q]
  refine BR_gr hk (by omega) (hp.1 a ha).1 (hp.1 b hb).1 (Or.inl q) (fun w => by rw [pn_8 w]; simp) (fun w => by rw [pn_8 w]; simp) ?_ ?_ ?_ ?_
  · rw [ab_mul, ab_mul, hα]; grind
  · rw [ab_mul, ab_mul, hβ]; grind
  · rw [ab_mul, ab_mul]; grind
  · have h2 := ab_add (α * (pd t z D b * pc t C e a)) (β * (pd t z D a * pc t C e b))
    rw [Int.mul_zero, Int.add_zero]
    simp only [ab_mul] at h2 ⊢
    rw [hα, hβ] at h2 ⊢
    grind
theorem cd_BRqs (hp : Pot k es t z C D M e) (hk : 0 ≤ k) (ha : a < 8) (hb : b < 8) (hα : ab α = 1) (hβ : ab β ≤ 1) (hσ : ab σ ≤ 1) (q : t a = t b) : BR k (2 * pB t M a) (cd t z C D e a b α β σ 0) := by
  obtain ⟨a1, a2, a3, a4, a5, a6⟩ := pot_rd hp hk ha
  obtain ⟨b1, b2, b3, b4, b5, b6⟩ := pot_rd hp hk hb
  have A1 := pB_pos hp (u := a)
  rw [pB_same q] at b2 b3 b4
  rw [pd_same q] at b2 b4
  have s1 : ab β * ab (pn t z b) ≤ 1 * pB t M a := mle hβ b3 (ab_0 _) (by omega)
  have s2 := ab_add (α * pn t z a) (β * pn t z b)
  have s3 := mll s2 hk
  have s5 : ab σ * ab (pd t z D a) ≤ 1 * pB t M a := mle hσ a2 (ab_0 _) (by omega)
  have d0 := ab_0 (pd t z D a)
  have p0 := ab_0 (pn t z b)
  have c2 := mll b4 (ab_0 β)
  have c3 : 0 ≤ k * ((1 - ab β) * (2 * pB t M a - ab (pd t z D a))) := m0 hk (m0 (by omega) (by omega))
  have c4 := m0 hk d0
  unfold cd
  rw [if_pos q]
  refine BR_gr hk (by omega) (hp.1 a ha).1 (hp.1 a ha).1 (Or.inr rfl) (fun w => by rw [pn_8 w, pn_8 (q ▸ w)]; simp) (fun _ => rfl) ?_ ?_ ?_ ?_
  · simp only [ab_mul] at s2
    rw [hα] at s2
    omega
  · rw [ab_z]; omega
  · rw [ab_mul]; omega
  · have h2 := ab_add (α * pc t C e a) (β * pc t C e b)
    rw [ab_z, Int.mul_zero, Int.add_zero]
    simp only [ab_mul] at h2 s2 s3
    rw [hα] at h2 s2 s3
    grind
end CAND
