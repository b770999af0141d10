/-! THE CLASS's ROWS against the reference's -/
def Rw (t : Nat → Nat) (z : Nat → Int) (C : Nat → Nat → Int) (D : Int) (e : Nat → Int) (j : Nat) : Nat → Int := gr j (t j) (pd t z D j) (-(pn t z j)) 0 (-(pc t C e j))
def CI (es : List (Nat × (Nat → Int))) (T : Nat → Nat → Int64) (L : Nat → Int32) : Prop := (∀ j, j < 8 → (L j ≠ 0 ↔ ∃ q ∈ es, q.1 = j)) ∧ ∀ j, j < 8 → L j ≠ 0 → prim 10 (e10 (T j)) ∧ 0 < e10 (T j) j ∧ e10 (T j) 8 = 0 ∧ (∀ i, i < 8 → i ≠ j → L i ≠ 0 → e10 (T j) i = 0) ∧ ∀ x, Sol 10 es x → dt (e10 (T j)) x 10 = 0
def rdZ (T : Nat → Nat → Int) (L : Nat → Int32) (f : Nat → Int) : Nat → (Nat → Int)
  | 0 => f
  | j + 1 => if L j = 0 then rdZ T L f j else el (rdZ T L f j) (T j) j
theorem ab_1 {x y ν : Int} (hν : ν ≠ 0) (h : x = ν * y) : ab y ≤ ab x := by
  rw [h, ab_mul]
  have h1 := ab_pos hν
  have h2 := ab_0 y
  have := Int.mul_le_mul_of_nonneg_right h1 h2
  omega
section CRED
variable {k : Int} {es : List (Nat × (Nat → Int))} {t : Nat → Nat} {z : Nat → Int} {C : Nat → Nat → Int} {D M : Int} {e : Nat → Int} {T : Nat → Nat → Int64} {L : Nat → Int32}
theorem Rw_at {j : Nat} (hj : j < 8) (htj : t j ≠ j) : Rw t z C D e j j = pd t z D j := by
  unfold Rw gr
  rw [if_pos rfl, if_neg (Ne.symm htj), if_neg (show ¬ j = 8 by omega), if_neg (show ¬ j = 9 by omega)]
  omega
theorem Rw_off {j i : Nat} (hi : i < 8) (h1 : i ≠ j) (h2 : i ≠ t j) : Rw t z C D e j i = 0 := gr_off h1 h2 hi
theorem Rw_BR (hp : Pot k es t z C D M e) (hk : 0 ≤ k) {j : Nat} (hj : j < 8) (htj : t j ≠ j) : BR k (pB t M j) (Rw t z C D e j) := by
  obtain ⟨a1, a2, a3, a4, a5, a6⟩ := pot_rd hp hk hj
  have A1 := pB_pos hp (u := j)
  refine BR_gr hk (by omega) (by omega) (hp.1 j hj).1 (Or.inl (Ne.symm htj)) (fun w => absurd w (by omega)) (fun w => by rw [pn_8 w]; rfl) a2 (by rw [ab_neg]; exact a3) (by rw [ab_z]; omega) (by rw [ab_neg, ab_neg]; exact a4)
theorem Rw_b (hp : Pot k es t z C D M e) (hk : 0 ≤ k) (hk2 : k ≤ 99900) {j : Nat} (hj : j < 8) (htj : t j ≠ j) {i : Nat} (hi : i < 10) : ab (Rw t z C D e j i) ≤ 24975 * pB t M j := by
  have h := Rw_BR hp hk hj htj
  have A1 := pB_pos hp (u := j)
  by_cases q : i = 9
  · subst q
    have h1 := h.2 0 (by decide)
    have h0 := ab_0 (Rw t z C D e j 0)
    have h2 : k * (2 * pB t M j - ab (Rw t z C D e j 0)) ≤ 99900 * (2 * pB t M j) := by
      by_cases w : 0 ≤ 2 * pB t M j - ab (Rw t z C D e j 0)
      · exact mle hk2 (by omega) w (by omega)
      · have := m0 hk (show 0 ≤ -(2 * pB t M j - ab (Rw t z C D e j 0)) by omega)
        grind
    omega
  · have := h.1 i (by omega)
    omega
theorem lead_t (hp : Pot k es t z C D M e) (hC : CI es T L) {j : Nat} (hj : j < 8) (hL : L j ≠ 0) : t j ≠ j := (hp.2.1 j hj).mp ((hC.1 j hj).mp hL)
theorem lead_nt (hp : Pot k es t z C D M e) (hC : CI es T L) {i j : Nat} (hi : i < 8) (hj : j < 8) (hL : L i ≠ 0) : i ≠ t j := fun w => lead_t hp hC hi hL (by rw [w]; exact pot_root hp hj (by omega))
theorem ci_row (hp : Pot k es t z C D M e) (hE : Ech 10 es) (hl8 : ∀ q ∈ es, q.1 < 8) (hk : 0 ≤ k) (hC : CI es T L) {j : Nat} (hj : j < 8) (hL : L j ≠ 0) : ∃ c : Int, c ≠ 0 ∧ ∀ i, i < 10 → Rw t z C D e j i = c * e10 (T j) i := by
  obtain ⟨p1, p2, p3, p4, p5⟩ := hC.2 j hj hL
  have htj := lead_t hp hC hj hL
  obtain ⟨a1, a2, a3, a4, a5, a6⟩ := pot_rd hp hk hj
  have tj8 := (hp.1 j hj).1
  have hz := ech_zero hE (v := fun i => e10 (T j) i * pd t z D j - Rw t z C D e j i * e10 (T j) j) (fun q hq => by
    have hq8 := hl8 q hq
    by_cases w : q.1 = j
    · rw [w, Rw_at hj htj]; grind
    · have hLq : L q.1 ≠ 0 := (hC.1 q.1 hq8).mpr ⟨q, hq, rfl⟩
      rw [p4 q.1 hq8 w hLq, Rw_off hq8 w (lead_nt hp hC hq8 hj hLq)]; simp) (fun x hx => by
    rw [dt_comb, p5 x hx]
    have : dt (Rw t z C D e j) x 10 = 0 := by
      unfold Rw
      rw [dt_gr (by omega) (by omega)]
      have := a5 x hx
      grind
    rw [this]; simp)
  refine prim_dvd (α := pd t z D j) (β := e10 (T j) j) a1 (by omega) p1 (fun i hi => ?_)
  have := hz i hi
  grind
theorem pBB_le (hp : Pot k es t z C D M e) {a b : Nat} (ha : a < 8) (hb : b < 8) (q : t a ≠ t b) : pB t M a * pB t M b ≤ 2 * 9 ^ 7 := by
  have hM := hp.2.2.2.2.2.2.2.1
  have ta8 := (hp.1 a ha).1
  have tb8 := (hp.1 b hb).1
  have key : ∀ c, c < 8 → t c = c → M * 9 ^ (cn t c 8 - 1) ≤ 2 * 9 ^ 7 := by
    intro c hc htc
    obtain ⟨m1, m2⟩ := n8_le hp hc htc
    have np := cn_pos (t := t) (c := c) htc (m := 8) hc
    refine sq_le (by decide) ?_
    have g1 := MK hM (p81 (cn t c 8 - 1)) (by have := p90_pos (cn t 8 8); omega) (sq0 _)
    rw [← Int.pow_add] at g1
    have g2 := p90_mono (show cn t 8 8 + (cn t c 8 - 1) ≤ 7 by omega)
    have g3 : (90 : Int) ^ 7 ≤ 2 * 9 ^ 7 * (2 * 9 ^ 7) := by decide
    omega
  unfold pB
  by_cases qa : t a = 8
  · rw [if_pos qa, if_neg (by omega)]
    exact key (t b) (by omega) (pot_root hp hb (by omega))
  · rw [if_neg qa]
    by_cases qb : t b = 8
    · rw [if_pos qb, Int.mul_comm]
      exact key (t a) (by omega) (pot_root hp ha (by omega))
    · rw [if_neg qb, ← Int.pow_add]
      have na := cn_pos (t := t) (c := t a) rfl (m := 8) ha
      have nb := cn_pos (t := t) (c := t b) rfl (m := 8) hb
      have nab := cn_le2 (t := t) q 8
      have P2 := p9_mono (show cn t (t a) 8 - 1 + (cn t (t b) 8 - 1) ≤ 7 by omega)
      omega
/-- one elimination of the class, by a row that is known but for a factor -/
theorem c_step {r : Nat → Int64} {ρ Q Q' R : Nat → Int} {b : Nat → Int64} {l : Nat} (hl : l < 10) (hr : e10 r = ρ) (hpρ : prim 10 ρ) {c : Int} (hc : c ≠ 0) (hQ : ∀ i, i < 10 → c * ρ i = Q i) {d : Int} (hd : d ≠ 0) (hR : ∀ i, i < 10 → R i = d * e10 b i) (hbl : 0 < e10 b l) {x y : Int} (hx : x ≠ 0) (hQ' : ∀ i, i < 10 → Q' i = x * Q i - y * R i) (h0 : Q' l = 0) (hQl : Q l ≠ 0) (hb1 : ∀ i, i < 10 → ab (Q' i) < 2 ^ 63) (hb2 : ab (Q l) < 2 ^ 63) (hb3 : ab (R l) < 2 ^ 63) :
    e10 (elc r b l) = el ρ (e10 b) l ∧ ∃ c' : Int, c' ≠ 0 ∧ ∀ i, i < 10 → c' * el ρ (e10 b) l i = Q' i := by
  have hρl : ρ l ≠ 0 := fun q => hQl (by rw [← hQ l hl, q]; simp)
  have heq : (x * c) * ρ l = (y * d) * e10 b l := by
    have h1 := hQ' l hl
    rw [h0, ← hQ l hl, hR l hl] at h1
    grind
  obtain ⟨ν, hν, hcomb⟩ := comb_le (r := ρ) (b := e10 b) (l := l) (by omega) (Int.mul_ne_zero hx hc) heq
  have hQc : ∀ i, i < 10 → Q' i = ν * (ρ i * (e10 b l / (Int.gcd (e10 b l) (ρ l) : Int)) - e10 b i * (ρ l / (Int.gcd (e10 b l) (ρ l) : Int))) := fun i hi => by
    rw [← hcomb i, hQ' i hi, ← hQ i hi, hR i hi]; grind
  have hw : ∀ i, i < 10 → ab (ρ i * (e10 b l / (Int.gcd (e10 b l) (ρ l) : Int)) - e10 b i * (ρ l / (Int.gcd (e10 b l) (ρ l) : Int))) < 2 ^ 63 := fun i hi => by
    have := ab_1 hν (hQc i hi)
    have := hb1 i hi
    omega
  have hm1 : ab (ρ l) < 2 ^ 63 := by have := ab_1 hc (hQ l hl).symm; omega
  have hm2 : ab (e10 b l) < 2 ^ 63 := by have := ab_1 hd (hR l hl); omega
  refine ⟨?_, ?_⟩
  · rw [← hr]
    exact e10_elc hl (by rw [hr]; exact hρl) hbl (by rw [hr]; exact ⟨hm1, hm2⟩) (by rw [hr]; exact hw)
  · have hgp : 0 < Int.gcd (e10 b l) (ρ l) := Int.gcd_pos_of_ne_zero_left _ (by omega)
    obtain ⟨s, hs, hse⟩ := nrm_mul (m := 10) (e := fun i => ρ i * e10 b l - e10 b i * ρ l)
    have hel : el ρ (e10 b) l = nrm 10 (fun i => ρ i * e10 b l - e10 b i * ρ l) := by unfold el; rw [if_neg hρl]
    have d1 : (Int.gcd (e10 b l) (ρ l) : Int) * (e10 b l / (Int.gcd (e10 b l) (ρ l) : Int)) = e10 b l := Int.mul_ediv_cancel' (Int.gcd_dvd_left ..)
    have d2 : (Int.gcd (e10 b l) (ρ l) : Int) * (ρ l / (Int.gcd (e10 b l) (ρ l) : Int)) = ρ l := Int.mul_ediv_cancel' (Int.gcd_dvd_right ..)
    obtain ⟨c', h1, h2⟩ := prim_dvd (v := el ρ (e10 b) l) (w := Q') (m := 10) (α := ν * s) (β := (Int.gcd (e10 b l) (ρ l) : Int)) (Int.mul_ne_zero hν (by omega)) (by omega) (el_prim hpρ) (fun i hi => by
      rw [hel, hQc i hi]
      have h3 := hse i hi
      generalize e10 b l / (Int.gcd (e10 b l) (ρ l) : Int) = u at *
      generalize ρ l / (Int.gcd (e10 b l) (ρ l) : Int) = w at *
      generalize (Int.gcd (e10 b l) (ρ l) : Int) = g at *
      rw [← d1, ← d2] at h3
      grind)
    exact ⟨c', h1, fun i hi => (h2 i hi).symm⟩
end CRED
