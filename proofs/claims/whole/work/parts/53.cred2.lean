/-! reduce of the class, step by step -/
theorem bQ1 {p f a r : Int} (h1 : ab p ≤ 65610000) (h2 : ab f ≤ 1000000) (h3 : ab a ≤ 9) (h4 : ab r ≤ 24975 * 65610000) : ab (p * f - a * r) < 2 ^ 62 := by
  have a1 := ab_sub (p * f) (a * r)
  rw [ab_mul, ab_mul] at a1
  have a2 := mle h1 h2 (ab_0 _) (by decide)
  have a3 := mle h3 h4 (ab_0 _) (by decide)
  omega
theorem bQ2s {p f a r b s : Int} (h1 : ab p ≤ 65610000) (h2 : ab f ≤ 1000000) (h3 : ab a ≤ 9) (h4 : ab r ≤ 24975 * 65610000) (h5 : ab b ≤ 9) (h6 : ab s ≤ 24975 * 65610000) : ab (p * f - a * r - b * s) < 2 ^ 62 := by
  have a0 := ab_sub (p * f - a * r) (b * s)
  have a1 := ab_sub (p * f) (a * r)
  rw [ab_mul] at a0
  rw [ab_mul, ab_mul] at a1
  have a2 := mle h1 h2 (ab_0 _) (by decide)
  have a3 := mle h3 h4 (ab_0 _) (by decide)
  have a4 := mle h5 h6 (ab_0 _) (by decide)
  omega
theorem bQ2d {p q f a r b s A B : Int} (hA : 0 ≤ A) (hB : 0 ≤ B) (hp : ab p ≤ A) (hq : ab q ≤ B) (hAB : A * B ≤ 2 * 9 ^ 7) (h2 : ab f ≤ 1000000) (h3 : ab a ≤ 9) (h4 : ab r ≤ 24975 * A) (h5 : ab b ≤ 9) (h6 : ab s ≤ 24975 * B) : ab (p * q * f - a * q * r - b * p * s) < 2 ^ 62 := by
  have a0 := ab_sub (p * q * f - a * q * r) (b * p * s)
  have a1 := ab_sub (p * q * f) (a * q * r)
  simp only [ab_mul] at a0 a1
  have e1 : ab p * ab q ≤ 2 * 9 ^ 7 := Int.le_trans (mle hp hq (ab_0 _) hA) hAB
  have e2 : ab p * ab q * ab f ≤ 2 * 9 ^ 7 * 1000000 := mle e1 h2 (ab_0 _) (by decide)
  have e3 : ab q * ab r ≤ B * (24975 * A) := mle hq h4 (ab_0 _) hB
  have e4 : ab p * ab s ≤ A * (24975 * B) := mle hp h6 (ab_0 _) hA
  have e5 : ab q * ab r ≤ 24975 * (2 * 9 ^ 7) := by grind
  have e6 : ab p * ab s ≤ 24975 * (2 * 9 ^ 7) := by grind
  have e7 : ab a * (ab q * ab r) ≤ 9 * (24975 * (2 * 9 ^ 7)) := mle h3 e5 (m0 (ab_0 _) (ab_0 _)) (by decide)
  have e8 : ab b * (ab p * ab s) ≤ 9 * (24975 * (2 * 9 ^ 7)) := mle h5 e6 (m0 (ab_0 _) (ab_0 _)) (by decide)
  rw [← Int.mul_assoc] at e7 e8
  have c1 : (2 : Int) * 9 ^ 7 * 1000000 < 2 ^ 60 := by decide
  have c2 : (9 : Int) * (24975 * (2 * 9 ^ 7)) < 2 ^ 60 := by decide
  omega
theorem gr_b {a b i : Nat} {α β σ γ : Int} (ha : a < 8) (hb : b < 8) (hab : a ≠ b ∨ β = 0) (h1 : ab α ≤ 9) (h2 : ab β ≤ 9) (h3 : ab σ ≤ 1) (h4 : ab γ ≤ 1000000) (hi : i < 10) : ab (gr a b α β σ γ i) ≤ 1000000 := by
  by_cases q : i = 9
  · subst q; rw [gr_9 (by omega) (by omega)]; exact h4
  · rcases gr_cases (α := α) (β := β) (σ := σ) (γ := γ) (j := i) hab (fun w => absurd w (by omega)) (fun w => absurd w (by omega)) (by omega) with w | w | w | w <;> rw [w]
    · rw [ab_z]; decide
    · omega
    · omega
    · omega
theorem gr_a {a b : Nat} {α β σ γ : Int} (ha : a < 8) (hab : a ≠ b ∨ β = 0) : gr a b α β σ γ a = α := by
  unfold gr
  rw [if_pos rfl, if_neg (show ¬ a = 8 by omega), if_neg (show ¬ a = 9 by omega)]
  rcases hab with q | q
  · rw [if_neg q]; omega
  · rw [q]; split <;> omega
theorem gr_bb {a b : Nat} {α β σ γ : Int} (hb : b < 8) (hab : b ≠ a) : gr a b α β σ γ b = β := by
  unfold gr
  rw [if_neg hab, if_pos rfl, if_neg (show ¬ b = 8 by omega), if_neg (show ¬ b = 9 by omega)]
  omega
section CRED2
variable {k : Int} {es : List (Nat × (Nat → Int))} {t : Nat → Nat} {z : Nat → Int} {C : Nat → Nat → Int} {D M : Int} {e : Nat → Int} {T : Nat → Nat → Int64} {L : Nat → Int32} {a b : Nat} {α β σ γ : Int}
def QQ (t : Nat → Nat) (z : Nat → Int) (C : Nat → Nat → Int) (D : Int) (e : Nat → Int) (L : Nat → Int32) (a b : Nat) (α β : Int) (F : Nat → Int) (j : Nat) : Nat → Int := fun i =>
  if L a ≠ 0 ∧ a < j then (if L b ≠ 0 ∧ b < j ∧ b ≠ a then (if t a = t b then pd t z D a * F i - α * Rw t z C D e a i - β * Rw t z C D e b i else pd t z D a * pd t z D b * F i - α * pd t z D b * Rw t z C D e a i - β * pd t z D a * Rw t z C D e b i) else pd t z D a * F i - α * Rw t z C D e a i)
  else (if L b ≠ 0 ∧ b < j ∧ b ≠ a then pd t z D b * F i - β * Rw t z C D e b i else F i)
theorem QQ_same {F : Nat → Int} {j : Nat} (h1 : L a ≠ 0 → a ≠ j) (h2 : L b ≠ 0 → b ≠ a → b ≠ j) : QQ t z C D e L a b α β F (j + 1) = QQ t z C D e L a b α β F j := by
  funext i
  unfold QQ
  have e1 : (L a ≠ 0 ∧ a < j + 1) ↔ (L a ≠ 0 ∧ a < j) := ⟨fun w => ⟨w.1, by have := h1 w.1; omega⟩, fun w => ⟨w.1, by omega⟩⟩
  have e2 : (L b ≠ 0 ∧ b < j + 1 ∧ b ≠ a) ↔ (L b ≠ 0 ∧ b < j ∧ b ≠ a) := ⟨fun w => ⟨w.1, by have := h2 w.1 w.2.2; omega, w.2.2⟩, fun w => ⟨w.1, by omega, w.2.2⟩⟩
  simp only [e1, e2]
theorem c_red (hk : 0 ≤ k) (hk2 : k ≤ 99900) (hp : Pot k es t z C D M e) (hE : Ech 10 es) (hl8 : ∀ q ∈ es, q.1 < 8) (hC : CI es T L) (ha : a < 8) (hb : b < 8) (hab : (a ≠ b ∧ β ≠ 0) ∨ (b = a ∧ β = 0)) (hα : α ≠ 0) (hα9 : ab α ≤ 9) (hβ9 : ab β ≤ 9) (hσ : ab σ ≤ 1) (hγ : ab γ ≤ 1000000) (hpr : prim 10 (gr a b α β σ γ)) {r : Nat → Int64} (hr : e10 r = gr a b α β σ γ) : ∀ j, j ≤ 8 →
    e10 (rdC T L r j) = rdZ (fun j => e10 (T j)) L (gr a b α β σ γ) j ∧ prim 10 (rdZ (fun j => e10 (T j)) L (gr a b α β σ γ) j) ∧ ∃ c : Int, c ≠ 0 ∧ ∀ i, i < 10 → c * rdZ (fun j => e10 (T j)) L (gr a b α β σ γ) j i = QQ t z C D e L a b α β (gr a b α β σ γ) j i := by
  have hab2 : a ≠ b ∨ β = 0 := by rcases hab with w | w; exact Or.inl w.1; exact Or.inr w.2
  have hFb : ∀ i, i < 10 → ab (gr a b α β σ γ i) ≤ 1000000 := fun i hi => gr_b ha hb hab2 hα9 hβ9 hσ hγ hi
  have hFa : gr a b α β σ γ a = α := gr_a ha hab2
  have hFbb : b ≠ a → gr a b α β σ γ b = β := fun w => gr_bb hb w
  have hFo : ∀ i, i < 8 → i ≠ a → i ≠ b → gr a b α β σ γ i = 0 := fun i hi h1 h2 => gr_off h1 h2 hi
  have hβ0 : b ≠ a → β ≠ 0 := fun w => by rcases hab with v | v; exact v.2; exact absurd v.1 w
  generalize hF : gr a b α β σ γ = F at *
  obtain ⟨A1, A2, -, -, -, -⟩ := pot_rd hp hk ha
  obtain ⟨B1, B2, -, -, -, -⟩ := pot_rd hp hk hb
  have pa4 := pB_le hp a
  have pb4 := pB_le hp b
  have pa0 := pB_pos hp (u := a)
  have pb0 := pB_pos hp (u := b)
  have q4 : (90 : Int) ^ 4 = 65610000 := by decide
  intro j
  induction j with
  | zero => intro _; exact ⟨hr, hpr, 1, by decide, fun i _ => by unfold QQ; rw [if_neg (fun w => absurd w.2 (Nat.not_lt_zero _)), if_neg (fun w => absurd w.2.1 (Nat.not_lt_zero _))]; show 1 * F i = F i; omega⟩
  | succ j ih =>
    intro hj
    obtain ⟨i1, i2, c, hc, hQ⟩ := ih (by omega)
    unfold rdC rdZ
    by_cases hL : L j = 0
    · rw [if_pos hL, if_pos hL]
      refine ⟨i1, i2, c, hc, fun i hi => ?_⟩
      rw [hQ i hi, QQ_same (fun w v => w (by rw [v]; exact hL)) (fun w _ v => w (by rw [v]; exact hL))]
    · rw [if_neg hL, if_neg hL]
      have hj8 : j < 8 := by omega
      obtain ⟨d, hd, hR⟩ := ci_row hp hE hl8 hk hC hj8 hL
      obtain ⟨t1, t2, t3, t4, t5⟩ := hC.2 j hj8 hL
      generalize hρ : rdZ (fun j => e10 (T j)) L F j = ρ at *
      have htj := lead_t hp hC hj8 hL
      have hRj := Rw_at (t := t) (z := z) (C := C) (D := D) (e := e) hj8 htj
      have fin : ∀ (x y : Int), x ≠ 0 → (∀ i, i < 10 → QQ t z C D e L a b α β F (j + 1) i = x * QQ t z C D e L a b α β F j i - y * Rw t z C D e j i) → QQ t z C D e L a b α β F (j + 1) j = 0 → QQ t z C D e L a b α β F j j ≠ 0 → (∀ i, i < 10 → ab (QQ t z C D e L a b α β F (j + 1) i) < 2 ^ 63) → ab (QQ t z C D e L a b α β F j j) < 2 ^ 63 → e10 (elc (rdC T L r j) (T j) j) = el ρ (e10 (T j)) j ∧ prim 10 (el ρ (e10 (T j)) j) ∧ ∃ c : Int, c ≠ 0 ∧ ∀ i, i < 10 → c * el ρ (e10 (T j)) j i = QQ t z C D e L a b α β F (j + 1) i := by
        intro x y hx h1 h2 h3 h4 h5
        have hRb : ab (Rw t z C D e j j) < 2 ^ 63 := by
          rw [hRj]
          have := (pot_rd hp hk hj8).2.1
          have := pB_le hp j
          omega
        obtain ⟨s1, s2⟩ := c_step (show j < 10 by omega) i1 i2 hc hQ hd hR t2 hx h1 h2 h3 h4 h5 hRb
        exact ⟨s1, el_prim i2, s2⟩
      by_cases ja : j = a
      · subst ja
        have hRa : ∀ i, i < 10 → ab (Rw t z C D e j i) ≤ 24975 * 65610000 := fun i hi => by have := Rw_b hp hk hk2 hj8 htj hi; omega
        have hnpa : ¬ (L j ≠ 0 ∧ j < j) := fun w => absurd w.2 (Nat.lt_irrefl _)
        have hpa1 : L j ≠ 0 ∧ j < j + 1 := ⟨hL, Nat.lt_succ_self _⟩
        by_cases pb : L b ≠ 0 ∧ b < j ∧ b ≠ j
        · have pb1 : L b ≠ 0 ∧ b < j + 1 ∧ b ≠ j := ⟨pb.1, by omega, pb.2.2⟩
          have htb := lead_t hp hC hb pb.1
          have hRbj : Rw t z C D e b j = 0 := Rw_off hj8 (Ne.symm pb.2.2) (lead_nt hp hC hj8 hb hL)
          have hRb : ∀ i, i < 10 → ab (Rw t z C D e b i) ≤ 24975 * 65610000 := fun i hi => by have := Rw_b hp hk hk2 hb htb hi; omega
          have Qj : ∀ i, QQ t z C D e L j b α β F j i = pd t z D b * F i - β * Rw t z C D e b i := fun i => by unfold QQ; rw [if_neg hnpa, if_pos pb]
          by_cases ts : t j = t b
          · have Qj1 : ∀ i, QQ t z C D e L j b α β F (j + 1) i = pd t z D j * F i - α * Rw t z C D e j i - β * Rw t z C D e b i := fun i => by unfold QQ; rw [if_pos hpa1, if_pos pb1, if_pos ts]
            have hpd : pd t z D b = pd t z D j := pd_same ts
            refine fin 1 α (by decide) (fun i _ => by rw [Qj, Qj1, hpd]; grind) (by rw [Qj1, hFa, hRj, hRbj]; grind) (by rw [Qj, hFa, hRbj]; have := Int.mul_ne_zero B1 hα; omega) (fun i hi => ?_) ?_
            · rw [Qj1]; have := bQ2s (f := F i) (show ab (pd t z D j) ≤ 65610000 by omega) (hFb i hi) hα9 (hRa i hi) hβ9 (hRb i hi); omega
            · rw [Qj]; have := bQ1 (show ab (pd t z D b) ≤ 65610000 by omega) (hFb j (by omega)) hβ9 (hRb j (by omega)); omega
          · have Qj1 : ∀ i, QQ t z C D e L j b α β F (j + 1) i = pd t z D j * pd t z D b * F i - α * pd t z D b * Rw t z C D e j i - β * pd t z D j * Rw t z C D e b i := fun i => by unfold QQ; rw [if_pos hpa1, if_pos pb1, if_neg ts]
            refine fin (pd t z D j) (α * pd t z D b) A1 (fun i _ => by rw [Qj, Qj1]; grind) (by rw [Qj1, hFa, hRj, hRbj]; grind) (by rw [Qj, hFa, hRbj]; have := Int.mul_ne_zero B1 hα; omega) (fun i hi => ?_) ?_
            · rw [Qj1]; have := bQ2d (f := F i) (by omega) (by omega) A2 B2 (pBB_le hp hj8 hb ts) (hFb i hi) hα9 (Rw_b hp hk hk2 hj8 htj hi) hβ9 (Rw_b hp hk hk2 hb htb hi); omega
            · rw [Qj]; have := bQ1 (show ab (pd t z D b) ≤ 65610000 by omega) (hFb j (by omega)) hβ9 (hRb j (by omega)); omega
        · have npb1 : ¬ (L b ≠ 0 ∧ b < j + 1 ∧ b ≠ j) := fun w => pb ⟨w.1, by omega, w.2.2⟩
          have Qj : ∀ i, QQ t z C D e L j b α β F j i = F i := fun i => by unfold QQ; rw [if_neg hnpa, if_neg pb]
          have Qj1 : ∀ i, QQ t z C D e L j b α β F (j + 1) i = pd t z D j * F i - α * Rw t z C D e j i := fun i => by unfold QQ; rw [if_pos hpa1, if_neg npb1]
          refine fin (pd t z D j) α A1 (fun i _ => by rw [Qj, Qj1]) (by rw [Qj1, hFa, hRj]; grind) (by rw [Qj, hFa]; exact hα) (fun i hi => ?_) ?_
          · rw [Qj1]; have := bQ1 (show ab (pd t z D j) ≤ 65610000 by omega) (hFb i hi) hα9 (hRa i hi); omega
          · rw [Qj]; have := hFb j (by omega); omega
      · by_cases jb : j = b
        · subst jb
          have hβ1 := hβ0 ja
          have hRb : ∀ i, i < 10 → ab (Rw t z C D e j i) ≤ 24975 * 65610000 := fun i hi => by have := Rw_b hp hk hk2 hj8 htj hi; omega
          have hnpb : ¬ (L j ≠ 0 ∧ j < j ∧ j ≠ a) := fun w => absurd w.2.1 (Nat.lt_irrefl _)
          have hpb1 : L j ≠ 0 ∧ j < j + 1 ∧ j ≠ a := ⟨hL, Nat.lt_succ_self _, ja⟩
          by_cases pa : L a ≠ 0 ∧ a < j
          · have pa1 : L a ≠ 0 ∧ a < j + 1 := ⟨pa.1, by omega⟩
            have hta := lead_t hp hC ha pa.1
            have hRaj : Rw t z C D e a j = 0 := Rw_off hj8 ja (lead_nt hp hC hj8 ha hL)
            have hRa : ∀ i, i < 10 → ab (Rw t z C D e a i) ≤ 24975 * 65610000 := fun i hi => by have := Rw_b hp hk hk2 ha hta hi; omega
            have Qj : ∀ i, QQ t z C D e L a j α β F j i = pd t z D a * F i - α * Rw t z C D e a i := fun i => by unfold QQ; rw [if_pos pa, if_neg hnpb]
            by_cases ts : t a = t j
            · have Qj1 : ∀ i, QQ t z C D e L a j α β F (j + 1) i = pd t z D a * F i - α * Rw t z C D e a i - β * Rw t z C D e j i := fun i => by unfold QQ; rw [if_pos pa1, if_pos hpb1, if_pos ts]
              have hpd : pd t z D j = pd t z D a := pd_same ts
              refine fin 1 β (by decide) (fun i _ => by rw [Qj, Qj1]; grind) (by rw [Qj1, hFbb ja, hRj, hRaj, hpd]; grind) (by rw [Qj, hFbb ja, hRaj]; have := Int.mul_ne_zero A1 hβ1; omega) (fun i hi => ?_) ?_
              · rw [Qj1]; have := bQ2s (f := F i) (show ab (pd t z D a) ≤ 65610000 by omega) (hFb i hi) hα9 (hRa i hi) hβ9 (hRb i hi); omega
              · rw [Qj]; have := bQ1 (show ab (pd t z D a) ≤ 65610000 by omega) (hFb j (by omega)) hα9 (hRa j (by omega)); omega
            · have Qj1 : ∀ i, QQ t z C D e L a j α β F (j + 1) i = pd t z D a * pd t z D j * F i - α * pd t z D j * Rw t z C D e a i - β * pd t z D a * Rw t z C D e j i := fun i => by unfold QQ; rw [if_pos pa1, if_pos hpb1, if_neg ts]
              refine fin (pd t z D j) (β * pd t z D a) B1 (fun i _ => by rw [Qj, Qj1]; grind) (by rw [Qj1, hFbb ja, hRj, hRaj]; grind) (by rw [Qj, hFbb ja, hRaj]; have := Int.mul_ne_zero A1 hβ1; omega) (fun i hi => ?_) ?_
              · rw [Qj1]; have := bQ2d (f := F i) (by omega) (by omega) A2 B2 (pBB_le hp ha hj8 ts) (hFb i hi) hα9 (Rw_b hp hk hk2 ha hta hi) hβ9 (Rw_b hp hk hk2 hj8 htj hi); omega
              · rw [Qj]; have := bQ1 (show ab (pd t z D a) ≤ 65610000 by omega) (hFb j (by omega)) hα9 (hRa j (by omega)); omega
          · have npa1 : ¬ (L a ≠ 0 ∧ a < j + 1) := fun w => pa ⟨w.1, by omega⟩
            have Qj : ∀ i, QQ t z C D e L a j α β F j i = F i := fun i => by unfold QQ; rw [if_neg pa, if_neg hnpb]
            have Qj1 : ∀ i, QQ t z C D e L a j α β F (j + 1) i = pd t z D j * F i - β * Rw t z C D e j i := fun i => by unfold QQ; rw [if_neg npa1, if_pos hpb1]
            refine fin (pd t z D j) β B1 (fun i _ => by rw [Qj, Qj1]) (by rw [Qj1, hFbb ja, hRj]; grind) (by rw [Qj, hFbb ja]; exact hβ1) (fun i hi => ?_) ?_
            · rw [Qj1]; have := bQ1 (show ab (pd t z D j) ≤ 65610000 by omega) (hFb i hi) hβ9 (hRb i hi); omega
            · rw [Qj]; have := hFb j (by omega); omega
        · have hQ0 : QQ t z C D e L a b α β F j j = 0 := by
            have f0 := hFo j hj8 ja jb
            have ra : L a ≠ 0 → Rw t z C D e a j = 0 := fun w => Rw_off hj8 ja (lead_nt hp hC hj8 ha hL)
            have rb : L b ≠ 0 → Rw t z C D e b j = 0 := fun w => Rw_off hj8 jb (lead_nt hp hC hj8 hb hL)
            unfold QQ
            by_cases pa : L a ≠ 0 ∧ a < j
            · rw [if_pos pa, ra pa.1, f0]
              by_cases pb : L b ≠ 0 ∧ b < j ∧ b ≠ a
              · rw [if_pos pb, rb pb.1]
                split <;> simp
              · rw [if_neg pb]; simp
            · rw [if_neg pa, f0]
              by_cases pb : L b ≠ 0 ∧ b < j ∧ b ≠ a
              · rw [if_pos pb, rb pb.1]; simp
              · rw [if_neg pb]
          have hρ0 : ρ j = 0 := by
            have := hQ j (by omega)
            rw [hQ0] at this
            exact (Int.mul_eq_zero.mp this).resolve_left hc
          have hel : el ρ (e10 (T j)) j = ρ := by unfold el; rw [if_pos hρ0]
          refine ⟨by rw [e10_elc0 (by omega) (by rw [i1]; exact hρ0), i1], by rw [hel]; exact i2, c, hc, fun i hi => ?_⟩
          rw [hel, hQ i hi, QQ_same (fun _ v => ja v.symm) (fun _ _ v => jb v.symm)]
end CRED2
