/-! SIZES -/
def ab (x : Int) : Int := (x.natAbs : Int)
theorem ab_0 (x : Int) : 0 ≤ ab x := by unfold ab; omega
theorem ab_mul (x y : Int) : ab (x * y) = ab x * ab y := by unfold ab; rw [Int.natAbs_mul, Int.natCast_mul]
theorem ab_add (x y : Int) : ab (x + y) ≤ ab x + ab y := by unfold ab; omega
theorem ab_neg (x : Int) : ab (-x) = ab x := by unfold ab; omega
theorem ab_sub (x y : Int) : ab (x - y) ≤ ab x + ab y := by unfold ab; omega
theorem ab_le {x B : Int} : ab x ≤ B ↔ -B ≤ x ∧ x ≤ B := by unfold ab; omega
theorem ab_pos {x : Int} (h : x ≠ 0) : 1 ≤ ab x := by unfold ab; omega
theorem ab_z : ab 0 = 0 := rfl
theorem mle {a b c d : Int} (h1 : a ≤ b) (h2 : c ≤ d) (h3 : 0 ≤ c) (h4 : 0 ≤ b) : a * c ≤ b * d := Int.mul_le_mul h1 h2 h3 h4
theorem mll {a b c : Int} (h : a ≤ b) (hc : 0 ≤ c) : c * a ≤ c * b := Int.mul_le_mul_of_nonneg_left h hc
theorem m0 {a b : Int} (h : 0 ≤ a) (g : 0 ≤ b) : 0 ≤ a * b := Int.mul_nonneg h g
theorem bnd2 {A B a b β : Int} (ha0 : 0 ≤ a) (ha : a ≤ A) (hb0 : 0 ≤ b) (hb : b ≤ B) (hβ : β ≤ 9) : 2 * A * b + 2 * β * B * a + (7 - β) * a * b ≤ 18 * A * B := by
  have h1 : 0 ≤ (9 - β) * a * (2 * B - b) := m0 (m0 (by omega) ha0) (by omega)
  have h2 : 0 ≤ (A - a) * (18 * B - 2 * b) := m0 (by omega) (by omega)
  grind
theorem cbD {k a b p q c d β g A B : Int} (hk : 0 ≤ k) (ha0 : 0 ≤ a) (ha : a ≤ A) (hb0 : 0 ≤ b) (hb : b ≤ B) (hβ0 : 0 ≤ β) (hβ : β ≤ 9) (hc : 8 * c ≤ k * (2 * A - a - p)) (hd : 8 * d ≤ k * (2 * B - b - q)) (hg : g ≤ k) : 8 * (b * c + β * a * d + a * b * g) ≤ k * (18 * A * B - b * p - β * a * q) := by
  have h1 := mll hc hb0
  have h2 := mll hd (m0 hβ0 ha0)
  have h3 := mll hg (m0 ha0 hb0)
  have h4 := mll (bnd2 ha0 ha hb0 hb hβ) hk
  grind
/-- one class: d x = p t + c -/
theorem cbS {k a p q c d β g A : Int} (hk : 0 ≤ k) (ha0 : 0 ≤ a) (ha : a ≤ A) (hβ0 : 0 ≤ β) (hβ : β ≤ 9) (hc : 8 * c ≤ k * (2 * A - a - p)) (hd : 8 * d ≤ k * (2 * A - a - q)) (hg : g ≤ k) : 8 * (c + β * d + a * g) ≤ k * (20 * A - p - β * q) := by
  have h2 := mll hd hβ0
  have h3 := mll hg ha0
  have h4 : 0 ≤ k * ((9 - β) * (2 * A - a)) := m0 hk (m0 (by omega) (by omega))
  have h5 : 0 ≤ k * a := m0 hk ha0
  grind
/-- the asked sum of two classes -/
theorem cbQ {k a b p q c d A B : Int} (hk : 0 ≤ k) (ha0 : 0 ≤ a) (ha : a ≤ A) (hb0 : 0 ≤ b) (hb : b ≤ B) (hc : 8 * c ≤ k * (2 * A - a - p)) (hd : 8 * d ≤ k * (2 * B - b - q)) : 8 * (b * c + a * d) ≤ k * (2 * (A * B) - b * p - a * q) := by
  have h1 := mll hc hb0
  have h2 := mll hd ha0
  have h4 : 0 ≤ k * ((A - a) * (B - b)) := m0 hk (m0 (by omega) (by omega))
  grind
/-- a scaled bound -/
theorem cbL {k c s A l L : Int} (hk : 0 ≤ k) (hl0 : 0 ≤ l) (hl : l ≤ L) (hA : 0 ≤ A) (hc : 8 * c ≤ k * (2 * A - s)) : 8 * (l * c) ≤ k * (2 * (L * A) - l * s) := by
  have h1 := mll hc hl0
  have h2 : 0 ≤ k * ((L - l) * A) := m0 hk (m0 (by omega) hA)
  grind
theorem cbO {k a p c g A : Int} (hk : 0 ≤ k) (ha0 : 0 ≤ a) (ha : a ≤ A) (hc : 8 * c ≤ k * (2 * A - a - p)) (hg : g ≤ k) : 8 * (c + a * g) ≤ k * (18 * A - p) := by
  have h3 := mll hg ha0
  have h5 : 0 ≤ k * (A - a) := m0 hk (by omega)
  have h6 : 0 ≤ k * A := m0 hk (by omega)
  grind
/-! how many names a class has, how many names lead a row -/
def cn (t : Nat → Nat) (c : Nat) : Nat → Nat
  | 0 => 0
  | m + 1 => cn t c m + (if t m = c then 1 else 0)
def nl (t : Nat → Nat) : Nat → Nat
  | 0 => 0
  | m + 1 => nl t m + (if t m = m then 0 else 1)
def tm (t : Nat → Nat) (l ρ : Nat) : Nat → Nat := fun u => if t u = l then ρ else t u
theorem tm_t {t : Nat → Nat} {l ρ u : Nat} (h : t u = l) : tm t l ρ u = ρ := if_pos h
theorem tm_f {t : Nat → Nat} {l ρ u : Nat} (h : ¬ t u = l) : tm t l ρ u = t u := if_neg h
theorem cn_sum {t : Nat → Nat} {l ρ : Nat} (h : ρ ≠ l) : ∀ m, cn (tm t l ρ) ρ m = cn t ρ m + cn t l m
  | 0 => rfl
  | m + 1 => by
    simp only [cn, cn_sum h m]
    by_cases q : t m = l
    · rw [tm_t q, if_pos rfl, if_neg (by omega), if_pos q]; omega
    · rw [tm_f q, if_neg q]; omega
theorem cn_oth {t : Nat → Nat} {l ρ c : Nat} (h : c ≠ l) (g : c ≠ ρ) : ∀ m, cn (tm t l ρ) c m = cn t c m
  | 0 => rfl
  | m + 1 => by
    simp only [cn, cn_oth h g m]
    by_cases q : t m = l
    · rw [tm_t q, if_neg (Ne.symm g), if_neg (by omega)]
    · rw [tm_f q]
theorem cn_pos {t : Nat → Nat} {c u : Nat} (h : t u = c) : ∀ {m : Nat}, u < m → 1 ≤ cn t c m
  | 0, g => absurd g (by omega)
  | m + 1, g => by
    simp only [cn]
    by_cases q : u = m
    · subst q; rw [if_pos h]; omega
    · have := cn_pos h (m := m) (by omega); omega
theorem cn_two {t : Nat → Nat} {c u v : Nat} (h : t u = c) (h' : t v = c) (huv : u < v) : ∀ {m : Nat}, v < m → 2 ≤ cn t c m
  | 0, g => absurd g (by omega)
  | m + 1, g => by
    simp only [cn]
    by_cases q : v = m
    · subst q; rw [if_pos h']; have := cn_pos h (m := v) huv; omega
    · have := cn_two h h' huv (m := m) (by omega); omega
theorem cn_le2 {t : Nat → Nat} {c d : Nat} (h : c ≠ d) : ∀ m, cn t c m + cn t d m ≤ m
  | 0 => Nat.le_refl _
  | m + 1 => by
    simp only [cn]
    have := cn_le2 (t := t) h m
    by_cases q : t m = c
    · rw [if_pos q, if_neg (by omega)]; omega
    · rw [if_neg q]; split <;> omega
theorem cn_le3 {t : Nat → Nat} {c d e : Nat} (h : c ≠ d) (h1 : c ≠ e) (h2 : d ≠ e) : ∀ m, cn t c m + cn t d m + cn t e m ≤ m
  | 0 => Nat.le_refl _
  | m + 1 => by
    simp only [cn]
    have := cn_le3 (t := t) h h1 h2 m
    by_cases q : t m = c
    · rw [if_pos q, if_neg (by omega), if_neg (by omega)]; omega
    · rw [if_neg q]
      by_cases q2 : t m = d
      · rw [if_pos q2, if_neg (by omega)]; omega
      · rw [if_neg q2]; split <;> omega
theorem cn_nl {t : Nat → Nat} {c : Nat} : ∀ {m : Nat}, (m ≤ c) → cn t c m ≤ nl t m
  | 0, _ => Nat.le_refl _
  | m + 1, h => by
    simp only [cn, nl]
    have := cn_nl (t := t) (c := c) (m := m) (by omega)
    by_cases q : t m = c
    · rw [if_pos q, if_neg (by omega)]; omega
    · rw [if_neg q]; omega
theorem nl_up {t : Nat → Nat} {l ρ : Nat} (hl : t l = l) : ∀ m, (∀ u, u < m → t u = l → u ≠ ρ) → nl (tm t l ρ) m = nl t m + (if l < m then 1 else 0)
  | 0, _ => rfl
  | m + 1, hρ => by
    simp only [nl, nl_up hl m (fun u hu => hρ u (by omega))]
    by_cases q : t m = l
    · rw [tm_t q, if_neg (Ne.symm (hρ m (by omega) q))]
      by_cases e : m = l
      · subst e; rw [if_pos q, if_neg (by omega), if_pos (by omega)]
      · rw [if_neg (show ¬ t m = m by omega)]
        by_cases g : l < m
        · rw [if_pos g, if_pos (show l < m + 1 by omega)]
        · rw [if_neg g, if_neg (show ¬ l < m + 1 by omega)]
    · rw [tm_f q]
      have : m ≠ l := fun e => q (by rw [e]; exact hl)
      by_cases g : l < m
      · rw [if_pos g, if_pos (show l < m + 1 by omega)]; omega
      · rw [if_neg g, if_neg (show ¬ l < m + 1 by omega)]; omega
/-! POTENTIALS: the names of an open class hang together by z and C, those of the closed one (8) are told by D and e -/
def Pot (k : Int) (es : List (Nat × (Nat → Int))) (t : Nat → Nat) (z : Nat → Int) (C : Nat → Nat → Int) (D M : Int) (e : Nat → Int) : Prop :=
  (∀ u, u < 8 → t u ≤ 8 ∧ (t u < 8 → t (t u) = t u)) ∧
  (∀ u, u < 8 → ((∃ q ∈ es, q.1 = u) ↔ t u ≠ u)) ∧
  (nl t 8 = es.length) ∧
  (∀ u, u < 8 → t u < 8 → z u ≠ 0 ∧ ab (z u) ≤ 9 ^ (cn t (t u) 8 - 1)) ∧
  (∀ u s, u < 8 → s < 8 → t u < 8 → t s = t u → 8 * ab (C u s) ≤ k * (2 * 9 ^ (cn t (t u) 8 - 1) - ab (z u) - ab (z s)) ∧ ∀ x, Sol 10 es x → z s * x u - z u * x s + C u s * x 9 = 0) ∧
  D ≠ 0 ∧ ab D ≤ M ∧ M * M ≤ 90 ^ cn t 8 8 ∧
  (∀ u, u < 8 → t u = 8 → 8 * ab (e u) ≤ k * (2 * M - ab D) ∧ ∀ x, Sol 10 es x → D * x u + e u * x 9 = 0)
def pd (t : Nat → Nat) (z : Nat → Int) (D : Int) (u : Nat) : Int := if t u = 8 then D else z (t u)
def pn (t : Nat → Nat) (z : Nat → Int) (u : Nat) : Int := if t u = 8 then 0 else z u
def pc (t : Nat → Nat) (C : Nat → Nat → Int) (e : Nat → Int) (u : Nat) : Int := if t u = 8 then - e u else - C u (t u)
def pB (t : Nat → Nat) (M : Int) (u : Nat) : Int := if t u = 8 then M else 9 ^ (cn t (t u) 8 - 1)
theorem p9_pos (n : Nat) : (1 : Int) ≤ 9 ^ n := by
  induction n with
  | zero => decide
  | succ n ih => rw [Int.pow_succ]; omega
theorem p90_pos (n : Nat) : (1 : Int) ≤ 90 ^ n := by
  induction n with
  | zero => decide
  | succ n ih => rw [Int.pow_succ]; omega
section POT
variable {k : Int} {es : List (Nat × (Nat → Int))} {t : Nat → Nat} {z : Nat → Int} {C : Nat → Nat → Int} {D M : Int} {e : Nat → Int}
theorem pot_root (hp : Pot k es t z C D M e) {u : Nat} (hu : u < 8) (h : t u < 8) : t (t u) = t u := (hp.1 u hu).2 h
theorem pot_rd (hp : Pot k es t z C D M e) (hk : 0 ≤ k) {u : Nat} (hu : u < 8) : pd t z D u ≠ 0 ∧ ab (pd t z D u) ≤ pB t M u ∧ ab (pn t z u) ≤ pB t M u ∧ 8 * ab (pc t C e u) ≤ k * (2 * pB t M u - ab (pd t z D u) - ab (pn t z u)) ∧ (∀ x, Sol 10 es x → pd t z D u * x u = pn t z u * x (t u) + pc t C e u * x 9) ∧ (t u < 8 → pn t z u ≠ 0) := by
  obtain ⟨h1, h2, h3, h4, h5, h6, h7, h8, h9⟩ := hp
  obtain ⟨a1, a2⟩ := h1 u hu
  by_cases q : t u = 8
  · unfold pd pn pc pB
    rw [if_pos q, if_pos q, if_pos q, if_pos q]
    obtain ⟨b1, b2⟩ := h9 u hu q
    have := ab_0 D
    refine ⟨h6, h7, by rw [ab_z]; omega, by rw [ab_neg, ab_z]; grind, fun x hx => ?_, fun w => absurd w (by omega)⟩
    have := b2 x hx
    grind
  · have hlt : t u < 8 := by omega
    unfold pd pn pc pB
    rw [if_neg q, if_neg q, if_neg q, if_neg q]
    obtain ⟨b1, b2⟩ := h4 u hu hlt
    obtain ⟨b3, b4⟩ := h4 (t u) hlt (by rw [a2 hlt]; exact hlt)
    rw [a2 hlt] at b4
    obtain ⟨b5, b6⟩ := h5 u (t u) hu hlt hlt (a2 hlt)
    refine ⟨b3, b4, b2, by rw [ab_neg]; grind, fun x hx => ?_, fun _ => b1⟩
    have := b6 x hx
    grind
theorem pB_pos (hp : Pot k es t z C D M e) {u : Nat} : 1 ≤ pB t M u := by
  unfold pB
  split
  · have := ab_pos hp.2.2.2.2.2.1
    have := hp.2.2.2.2.2.2.1
    omega
  · exact p9_pos _
end POT
/-! rows of at most two names -/
theorem dt_add (r q x : Nat → Int) : ∀ m, dt (fun j => r j + q j) x m = dt r x m + dt q x m
  | 0 => rfl
  | m + 1 => by simp only [dt]; rw [dt_add r q x m]; grind
theorem dt_one {p : Nat} {c : Int} {x : Nat → Int} : ∀ {m : Nat}, p < m → dt (fun j => if j = p then c else 0) x m = c * x p
  | 0, h => absurd h (by omega)
  | m + 1, h => by
    simp only [dt]
    by_cases q : p = m
    · subst q
      rw [if_pos rfl, dt_0 (fun j hj => by rw [if_neg (by omega)]; simp)]
      omega
    · rw [dt_one (by omega), if_neg (by omega)]
      simp
def gr (a b : Nat) (α β σ γ : Int) : Nat → Int := fun j => (if j = a then α else 0) + ((if j = b then β else 0) + ((if j = 8 then σ else 0) + (if j = 9 then γ else 0)))
theorem dt_gr {a b : Nat} {α β σ γ : Int} {x : Nat → Int} (ha : a < 10) (hb : b < 10) : dt (gr a b α β σ γ) x 10 = α * x a + β * x b + σ * x 8 + γ * x 9 := by
  unfold gr
  rw [dt_add, dt_add, dt_add, dt_one ha, dt_one hb, dt_one (by decide), dt_one (by decide)]
  omega
theorem gr_9 {a b : Nat} {α β σ γ : Int} (ha : a ≤ 8) (hb : b ≤ 8) : gr a b α β σ γ 9 = γ := by
  unfold gr
  rw [if_neg (by omega), if_neg (by omega), if_neg (by decide), if_pos rfl]
  omega
theorem gr_off {a b j : Nat} {α β σ γ : Int} (ha : j ≠ a) (hb : j ≠ b) (hj : j < 8) : gr a b α β σ γ j = 0 := by
  unfold gr
  rw [if_neg ha, if_neg hb, if_neg (by omega), if_neg (by omega)]
  omega
def BR (k B : Int) (r : Nat → Int) : Prop := (∀ j, j < 9 → ab (r j) ≤ B) ∧ ∀ j, j < 8 → 8 * ab (r 9) ≤ k * (2 * B - ab (r j))
theorem BR_le {k B : Int} {r c : Nat → Int} (hk : 0 ≤ k) (h : ∀ j, j < 10 → ab (r j) ≤ ab (c j)) (hc : BR k B c) : BR k B r := by
  refine ⟨fun j hj => Int.le_trans (h j (by omega)) (hc.1 j hj), fun j hj => ?_⟩
  have h1 := hc.2 j hj
  have h2 := h 9 (by omega)
  have h3 := mll (h j (by omega)) hk
  grind
theorem BRE {k B1 B2 : Int} {r b : Nat → Int} {t : Nat} (hk : 0 ≤ k) (hr : BR k B1 r) (hb : BR k B2 b) (ht : t < 8) : (∀ j, j < 9 → ab (r j * b t - b j * r t) ≤ 2 * (B1 * B2)) ∧ 8 * ab (r 9 * b t - b 9 * r t) ≤ 2 * (k * (B1 * B2)) := by
  have r0 := ab_0 (r t)
  have b0 := ab_0 (b t)
  have r1 := hr.1 t (by omega)
  have b1 := hb.1 t (by omega)
  constructor
  · intro j hj
    have h1 := ab_sub (r j * b t) (b j * r t)
    rw [ab_mul, ab_mul] at h1
    have h2 := mle (hr.1 j hj) b1 b0 (by omega)
    have h3 := mle (hb.1 j hj) r1 r0 (by omega)
    grind
  · have h1 := ab_sub (r 9 * b t) (b 9 * r t)
    rw [ab_mul, ab_mul] at h1
    have h2 := mll (hr.2 t ht) b0
    have h3 := mll (hb.2 t ht) r0
    have h4 : 0 ≤ k * ((B1 - ab (r t)) * (B2 - ab (b t))) := m0 hk (m0 (by omega) (by omega))
    grind
