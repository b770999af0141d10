/-! HOW LARGE A REDUCED ROW IS -/
def SzA (k : Int) (r : Nat → Int) : Prop := ∃ B : Int, 0 ≤ B ∧ B ≤ 9 ^ 7 ∧ BR k B r
def SzB (k : Int) (r : Nat → Int) (l j : Nat) : Prop := (∀ i, i < 8 → i ≠ l → r i = 0) ∧ ∃ (B : Int) (n : Nat), 0 ≤ B ∧ B * B ≤ 90 ^ n ∧ n ≤ 8 ∧ n ≤ j + 1 ∧ BR k B r
def SzQ (k : Int) (r : Nat → Int) : Prop := ∃ B : Int, 0 ≤ B ∧ B ≤ 2 * 9 ^ 7 ∧ BR k B r
def Fct (k : Int) (a b : Nat) (β γ : Int) : Prop := a < 8 ∧ b < 8 ∧ ((a ≠ b ∧ β ≠ 0 ∧ ab β ≤ 9) ∨ (b = a ∧ β = 0)) ∧ ab γ ≤ k
theorem p9_mono {a b : Nat} (h : a ≤ b) : (9 : Int) ^ a ≤ 9 ^ b := by
  obtain ⟨d, rfl⟩ : ∃ d, b = a + d := ⟨b - a, by omega⟩
  induction d with
  | zero => exact Int.le_refl _
  | succ d ih =>
    have h1 := ih (by omega)
    have h2 := p9_pos (a + d)
    rw [show a + (d + 1) = a + d + 1 by omega, Int.pow_succ]
    omega
theorem p90_mono {a b : Nat} (h : a ≤ b) : (90 : Int) ^ a ≤ 90 ^ b := by
  obtain ⟨d, rfl⟩ : ∃ d, b = a + d := ⟨b - a, by omega⟩
  induction d with
  | zero => exact Int.le_refl _
  | succ d ih =>
    have h1 := ih (by omega)
    have h2 := p90_pos (a + d)
    rw [show a + (d + 1) = a + d + 1 by omega, Int.pow_succ]
    omega
theorem sq_le {B Y : Int} (hY : 0 ≤ Y) (h : B * B ≤ Y * Y) : B ≤ Y := by
  by_cases q : Y < B
  · exfalso
    have h1 : (Y + 1) * (Y + 1) ≤ B * B := mle (by omega) (by omega) (by omega) (by omega)
    grind
  · omega
section SIZES
variable {k : Int} {es : List (Nat × (Nat → Int))} {t : Nat → Nat} {z : Nat → Int} {C : Nat → Nat → Int} {D M : Int} {e : Nat → Int} {a b : Nat} {α β σ γ : Int}
theorem n8_le (hp : Pot k es t z C D M e) {c : Nat} (hc : c < 8) (htc : t c = c) : cn t 8 8 + cn t c 8 ≤ 8 ∧ cn t 8 8 + cn t c 8 ≤ es.length + 1 := by
  have h1 := cn_le2 (t := t) (show 8 ≠ c by omega) 8
  have h2 := cn_nl (t := tm t c 8) (c := 8) (m := 8) (Nat.le_refl _)
  rw [cn_sum (by omega), nl_up htc 8 (fun u hu _ => by omega), if_pos hc, hp.2.2.1] at h2
  exact ⟨h1, h2⟩
theorem open_at {r : Nat → Int} (hp : Pot k es t z C D M e) (ha : a < 8) (hb : b < 8) (hz : ∀ j, j < 10 → (r j = 0 ↔ cd t z C D e a b α β σ γ j = 0)) {l : Nat} (hl : l < 8) (hrl : r l ≠ 0) : (l = t a ∨ l = t b) ∧ t l = l := by
  have h1 : cd t z C D e a b α β σ γ l ≠ 0 := fun q => hrl ((hz l (by omega)).mpr q)
  have h2 : l = t a ∨ l = t b := by
    by_cases q1 : l = t a
    · exact Or.inl q1
    · by_cases q2 : l = t b
      · exact Or.inr q2
      · exfalso
        apply h1
        unfold cd
        split
        · exact gr_off q1 q1 hl
        · exact gr_off q1 q2 hl
  refine ⟨h2, ?_⟩
  rcases h2 with q | q
  · rw [q]; exact pot_root hp ha (by omega)
  · rw [q]; exact pot_root hp hb (by omega)
theorem red_size (hp : Pot k es t z C D M e) (hE : Ech 10 es) (hl8 : ∀ q ∈ es, q.1 < 8) (hk : 0 ≤ k) (hf : Fct k a b β γ) {r : Nat → Int} (hoff : ∀ q ∈ es, r q.1 = 0) (hpr : prim 10 r) {μ ν : Int} (hμ : μ ≠ 0) (hν : ν ≠ 0) (hs : ∀ x, Sol 10 es x → μ * dt r x 10 = ν * dt (gr a b 1 β 0 γ) x 10) {l : Nat} (hl : l < 8) (hrl : r l ≠ 0) : SzA k r ∨ SzB k r l es.length := by
  obtain ⟨ha, hb, hf1, hγ⟩ := hf
  obtain ⟨hle, hz⟩ := red_le hp hE hl8 hk ha hb hoff hpr hμ hν hs
  obtain ⟨hlt, htl⟩ := open_at hp ha hb hz hl hrl
  obtain ⟨n1, n2⟩ := n8_le hp hl htl
  have hM := hp.2.2.2.2.2.2.2.1
  have M0 : 0 ≤ M := by have := ab_0 D; have := hp.2.2.2.2.2.2.1; omega
  have ta8 := (hp.1 a ha).1
  have tb8 := (hp.1 b hb).1
  have honly : ∀ c d : Nat, t a = c ∨ t a = 8 → t b = d ∨ t b = 8 → (∀ i, i < 8 → i ≠ c → i ≠ d → r i = 0) := by
    intro c d hc hd i hi q1 q2
    rw [hz i (by omega)]
    have w1 : i ≠ t a := by rcases hc with w | w <;> omega
    have w2 : i ≠ t b := by rcases hd with w | w <;> omega
    unfold cd
    split
    · exact gr_off w1 w1 hi
    · exact gr_off w1 w2 hi
  by_cases q : t a = t b
  · right
    have hla : l = t a := by omega
    refine ⟨fun i hi hil => honly l l (Or.inl hla.symm) (Or.inl (by omega)) i hi hil hil, ?_⟩
    have hB : pB t M a = 9 ^ (cn t l 8 - 1) := by unfold pB; rw [if_neg (by omega), ← hla]
    have np := cn_pos (t := t) (c := l) htl (m := 8) hl
    have P := p9_pos (cn t l 8 - 1)
    rcases hf1 with ⟨w1, w2, w3⟩ | ⟨w1, w2⟩
    · refine ⟨10 * 9 ^ (cn t l 8 - 1), cn t l 8, by omega, K10 ?_, by omega, by omega, ?_⟩
      · rcases Nat.lt_or_gt_of_ne w1 with v | v
        · exact cn_two (t := t) (c := l) hla.symm (by omega) v hb
        · exact cn_two (t := t) (c := l) (by omega) hla.symm v ha
      · rw [← hB]; exact BR_le hk hle (cd_BRs hp hk ha hb rfl w3 hγ q)
    · refine ⟨9 * 9 ^ (cn t l 8 - 1), cn t l 8, by omega, K9 np, by omega, by omega, ?_⟩
      subst w1
      subst w2
      rw [← hB]; exact BR_le hk hle (cd_BRo hp hk ha rfl hγ)
  · have hβ9 : ab β ≤ 9 := by
      rcases hf1 with ⟨_, _, w⟩ | ⟨w, _⟩
      · exact w
      · exact absurd (by rw [w]) q
    have hBR := BR_le hk hle (cd_BRd hp hk ha hb rfl hβ9 hγ q)
    by_cases qa : t a = 8
    · right
      have hlb : l = t b := by omega
      refine ⟨fun i hi hil => honly l l (Or.inr qa) (Or.inl hlb.symm) i hi hil hil, ?_⟩
      have np := cn_pos (t := t) (c := l) htl (m := 8) hl
      have P := p9_pos (cn t l 8 - 1)
      have hB : 9 * (pB t M a * pB t M b) = M * (9 * 9 ^ (cn t l 8 - 1)) := by unfold pB; rw [if_pos qa, if_neg (by omega), ← hlb]; grind
      rw [hB] at hBR
      refine ⟨_, cn t 8 8 + cn t l 8, m0 M0 (by omega), ?_, n1, n2, hBR⟩
      rw [Int.pow_add]
      exact MK hM (K9 np) (by have := p90_pos (cn t 8 8); omega) (sq0 _)
    · by_cases qb : t b = 8
      · right
        have hla : l = t a := by omega
        refine ⟨fun i hi hil => honly l l (Or.inl hla.symm) (Or.inr qb) i hi hil hil, ?_⟩
        have np := cn_pos (t := t) (c := l) htl (m := 8) hl
        have P := p9_pos (cn t l 8 - 1)
        have hB : 9 * (pB t M a * pB t M b) = M * (9 * 9 ^ (cn t l 8 - 1)) := by unfold pB; rw [if_pos qb, if_neg (by omega), ← hla]; grind
        rw [hB] at hBR
        refine ⟨_, cn t 8 8 + cn t l 8, m0 M0 (by omega), ?_, n1, n2, hBR⟩
        rw [Int.pow_add]
        exact MK hM (K9 np) (by have := p90_pos (cn t 8 8); omega) (sq0 _)
      · left
        have na := cn_pos (t := t) (c := t a) rfl (m := 8) ha
        have nb := cn_pos (t := t) (c := t b) rfl (m := 8) hb
        have nab := cn_le2 (t := t) q 8
        have hB : 9 * (pB t M a * pB t M b) = 9 ^ (cn t (t a) 8 + cn t (t b) 8 - 1) := by
          unfold pB
          rw [if_neg qa, if_neg qb, show cn t (t a) 8 + cn t (t b) 8 - 1 = 1 + ((cn t (t a) 8 - 1) + (cn t (t b) 8 - 1)) by omega, Int.pow_add, Int.pow_add]
          rfl
        rw [hB] at hBR
        exact ⟨_, by have := p9_pos (cn t (t a) 8 + cn t (t b) 8 - 1); omega, p9_mono (by omega), hBR⟩
/-- rows that ask: no own number -/
theorem red_sizeQ (hp : Pot k es t z C D M e) (hE : Ech 10 es) (hl8 : ∀ q ∈ es, q.1 < 8) (hk : 0 ≤ k) (ha : a < 8) (hb : b < 8) (hα : ab α = 1) (hβ : (ab β = 1) ∨ (b = a ∧ β = 0)) (hσ : ab σ ≤ 1) {r : Nat → Int} (hoff : ∀ q ∈ es, r q.1 = 0) (hpr : prim 10 r) {μ ν : Int} (hμ : μ ≠ 0) (hν : ν ≠ 0) (hs : ∀ x, Sol 10 es x → μ * dt r x 10 = ν * dt (gr a b α β σ 0) x 10) {l : Nat} (hl : l < 8) (hrl : r l ≠ 0) : SzQ k r := by
  obtain ⟨hle, hz⟩ := red_le hp hE hl8 hk ha hb hoff hpr hμ hν hs
  obtain ⟨hlt, htl⟩ := open_at hp ha hb hz hl hrl
  obtain ⟨n1, n2⟩ := n8_le hp hl htl
  have hM := hp.2.2.2.2.2.2.2.1
  have M0 : 0 ≤ M := by have := ab_0 D; have := hp.2.2.2.2.2.2.1; omega
  have ta8 := (hp.1 a ha).1
  have tb8 := (hp.1 b hb).1
  have np := cn_pos (t := t) (c := l) htl (m := 8) hl
  have P := p9_pos (cn t l 8 - 1)
  by_cases q : t a = t b
  · have hla : l = t a := by omega
    have hB : pB t M a = 9 ^ (cn t l 8 - 1) := by unfold pB; rw [if_neg (by omega), ← hla]
    have hβ1 : ab β ≤ 1 := by
      rcases hβ with w | ⟨_, w⟩
      · omega
      · rw [w, ab_z]; decide
    have h1 := BR_le hk hle (cd_BRqs hp hk ha hb hα hβ1 hσ q)
    rw [hB] at h1
    have := p9_mono (show cn t l 8 - 1 ≤ 7 by omega)
    exact ⟨_, by omega, by omega, h1⟩
  · have hβ1 : ab β = 1 := by
      rcases hβ with w | ⟨w, _⟩
      · exact w
      · exact absurd (by rw [w]) q
    have h1 := BR_le hk hle (cd_BRqd hp hk ha hb hα hβ1 hσ q)
    have key : ∀ c, c < 8 → t c = c → c ≠ 8 → M * 9 ^ (cn t c 8 - 1) ≤ 2 * 9 ^ 7 := by
      intro c hc htc _
      obtain ⟨m1, m2⟩ := n8_le hp hc htc
      have np := cn_pos (t := t) (c := c) htc (m := 8) hc
      refine sq_le (by decide) ?_
      have g1 := MK hM (p81 (cn t c 8 - 1)) (by have := p90_pos (cn t 8 8); omega) (sq0 _)
      rw [← Int.pow_add] at g1
      have g2 := p90_mono (show cn t 8 8 + (cn t c 8 - 1) ≤ 7 by omega)
      have g3 : (90 : Int) ^ 7 ≤ 2 * 9 ^ 7 * (2 * 9 ^ 7) := by decide
      omega
    by_cases qa : t a = 8
    · have hB : pB t M a * pB t M b = M * 9 ^ (cn t (t b) 8 - 1) := by unfold pB; rw [if_pos qa, if_neg (by omega)]
      rw [hB] at h1
      have P2 := p9_pos (cn t (t b) 8 - 1)
      exact ⟨_, m0 M0 (by omega), key (t b) (by omega) (pot_root hp hb (by omega)) (by omega), h1⟩
    · by_cases qb : t b = 8
      · have hB : pB t M a * pB t M b = M * 9 ^ (cn t (t a) 8 - 1) := by unfold pB; rw [if_pos qb, if_neg (by omega)]; grind
        rw [hB] at h1
        have P2 := p9_pos (cn t (t a) 8 - 1)
        exact ⟨_, m0 M0 (by omega), key (t a) (by omega) (pot_root hp ha (by omega)) (by omega), h1⟩
      · have na := cn_pos (t := t) (c := t a) rfl (m := 8) ha
        have nb := cn_pos (t := t) (c := t b) rfl (m := 8) hb
        have nab := cn_le2 (t := t) q 8
        have hB : pB t M a * pB t M b = 9 ^ (cn t (t a) 8 - 1 + (cn t (t b) 8 - 1)) := by
          unfold pB
          rw [if_neg qa, if_neg qb, Int.pow_add]
        rw [hB] at h1
        have P2 := p9_mono (show cn t (t a) 8 - 1 + (cn t (t b) 8 - 1) ≤ 7 by omega)
        have P3 := p9_pos (cn t (t a) 8 - 1 + (cn t (t b) 8 - 1))
        exact ⟨_, by omega, by omega, h1⟩
theorem lin1 {k A A2 c d a g p q β N S : Int} (hk : 0 ≤ k) (k1 : 8 * (c + β * d + a * g) ≤ k * (20 * N - p - β * q)) (a1 : A ≤ A2 + β * d) (a2 : A2 ≤ g * a + c) (a3 : S ≤ p + β * q) : 8 * A ≤ k * (2 * (10 * N) - S) := by
  have := mll a3 hk
  grind
theorem e2S {k zu za zb β γ Cau Cbu N M D : Int} (hk : 0 ≤ k) (h1 : ab zu ≤ N) (hβ : ab β ≤ 9) (hγ : ab γ ≤ k) (c1 : 8 * ab Cau ≤ k * (2 * N - ab za - ab zu)) (c2 : 8 * ab Cbu ≤ k * (2 * N - ab zb - ab zu)) (hD : ab D ≤ M) (hN : 0 ≤ N) : 8 * ab (D * (γ * zu - Cau - β * Cbu)) ≤ k * (2 * (M * (10 * N)) - ab (D * (1 * za + β * zb))) := by
  have k1 := cbS hk (ab_0 zu) h1 (ab_0 β) hβ (le_c c1) (le_c c2) hγ
  have a1 := ab_sub (γ * zu - Cau) (β * Cbu)
  have a2 := ab_sub (γ * zu) Cau
  have a3 := ab_add (1 * za) (β * zb)
  simp only [ab_mul, show ab 1 = 1 from rfl, Int.one_mul] at a1 a2 a3 ⊢
  have a4 := lin1 hk k1 a1 a2 a3
  have := cbL hk (ab_0 D) hD (by omega) a4
  rw [Int.mul_comm M (10 * N), Int.mul_comm (10 * N) M]
  exact this
theorem e2O {k zu za γ Cau N M D : Int} (hk : 0 ≤ k) (h1 : ab zu ≤ N) (hγ : ab γ ≤ k) (c1 : 8 * ab Cau ≤ k * (2 * N - ab za - ab zu)) (hD : ab D ≤ M) (hN : 0 ≤ N) : 8 * ab (D * (γ * zu - Cau)) ≤ k * (2 * (M * (9 * N)) - ab (D * za)) := by
  have k1 := cbO hk (ab_0 zu) h1 (le_c c1) hγ
  have a2 := ab_sub (γ * zu) Cau
  have d0 := ab_0 D
  simp only [ab_mul] at a2 ⊢
  have a4 : 8 * ab (γ * zu - Cau) ≤ k * (2 * (9 * N) - ab za) := by grind
  have := cbL hk d0 hD (by omega) a4
  grind
theorem e2A {k zu za β γ Cua eb N M D : Int} (hk : 0 ≤ k) (h1 : ab zu ≤ N) (hβ : ab β ≤ 9) (hγ : ab γ ≤ k) (c1 : 8 * ab Cua ≤ k * (2 * N - ab zu - ab za)) (c2 : 8 * ab eb ≤ k * (2 * M - ab D)) (hD : ab D ≤ M) : 8 * ab (-zu * (β * eb - D * γ) + D * Cua) ≤ k * (2 * (M * (9 * N)) - ab (D * za)) := by
  have k1 := cbD (q := 0) (d := ab eb) hk (ab_0 zu) h1 (ab_0 D) hD (ab_0 β) hβ c1 (by rw [Int.sub_zero]; exact c2) hγ
  have a1 := ab_add (-zu * (β * eb - D * γ)) (D * Cua)
  have a2 := mll (ab_sub (β * eb) (D * γ)) (ab_0 zu)
  simp only [ab_mul, ab_neg] at a1 a2 ⊢
  grind
theorem e2B {k zu zb β γ Cub ea N M D : Int} (hk : 0 ≤ k) (h1 : ab zu ≤ N) (hβ : ab β ≤ 9) (hγ : ab γ ≤ k) (c1 : 8 * ab Cub ≤ k * (2 * N - ab zu - ab zb)) (c2 : 8 * ab ea ≤ k * (2 * M - ab D)) (hD : ab D ≤ M) : 8 * ab (-zu * (ea - D * γ) + D * β * Cub) ≤ k * (2 * (M * (9 * N)) - ab (D * (β * zb))) := by
  have k1 := cbD (p := 0) (c := ab ea) hk (ab_0 D) hD (ab_0 zu) h1 (ab_0 β) hβ (by rw [Int.sub_zero]; exact c2) c1 hγ
  have a1 := ab_add (-zu * (ea - D * γ)) (D * β * Cub)
  have a2 := mll (ab_sub ea (D * γ)) (ab_0 zu)
  simp only [ab_mul, ab_neg] at a1 a2 ⊢
  grind
theorem pot_add (hp : Pot k es t z C D M e) (hE : Ech 10 es) (hl8 : ∀ q ∈ es, q.1 < 8) (hk : 0 ≤ k) (hf : Fct k a b β γ) {r : Nat → Int} (hoff : ∀ q ∈ es, r q.1 = 0) (hpr : prim 10 r) {μ ν : Int} (hμ : μ ≠ 0) (hν : ν ≠ 0) (hs : ∀ x, Sol 10 es x → μ * dt r x 10 = ν * dt (gr a b 1 β 0 γ) x 10) {l : Nat} (hl : l < 8) (hrl : r l ≠ 0) : ∃ (t' : Nat → Nat) (z' : Nat → Int) (C' : Nat → Nat → Int) (D' M' : Int) (e' : Nat → Int), Pot k (es ++ [(l, r)]) t' z' C' D' M' e' := by
  obtain ⟨ha, hb, hf1, hγ⟩ := hf
  obtain ⟨hle, hz⟩ := red_le hp hE hl8 hk ha hb hoff hpr hμ hν hs
  obtain ⟨hlt, htl⟩ := open_at hp ha hb hz hl hrl
  have hcd : cd t z C D e a b 1 β 0 γ l ≠ 0 := fun q => hrl ((hz l (by omega)).mpr q)
  have hr : ∀ x, Sol 10 es x → dt r x 10 = 0 → x a + β * x b + γ * x 9 = 0 := by
    intro x hx h0
    have h1 := hs x hx
    rw [h0, Int.mul_zero, dt_gr (by omega) (by omega)] at h1
    have h2 := (Int.mul_eq_zero.mp h1.symm).resolve_left hν
    omega
  obtain ⟨h1, h2, h3, h4, h5, h6, h7, h8, h9⟩ := id hp
  have ta8 := (h1 a ha).1
  have tb8 := (h1 b hb).1
  have np := cn_pos (t := t) (c := l) htl (m := 8) hl
  have P := p9_pos (cn t l 8 - 1)
  have M90 := p90_pos (cn t 8 8)
  by_cases q : t a = t b
  · have hla : l = t a := by omega
    obtain ⟨za0, za⟩ := h4 a ha (by omega)
    have hκ : 1 * z a + β * z b ≠ 0 := by
      intro w
      apply hcd
      unfold cd
      rw [if_pos q, show pn t z a = z a from if_neg (by omega), show pn t z b = z b from if_neg (by omega), w]
      unfold gr
      rw [if_neg (show ¬ l = 8 by omega), if_neg (show ¬ l = 9 by omega), ← hla, if_pos rfl]
      try rfl
    rcases hf1 with ⟨w1, w2, w3⟩ | ⟨w1, w2⟩
    · have n2 : 2 ≤ cn t l 8 := by
        rcases Nat.lt_or_gt_of_ne w1 with v | v
        · exact cn_two (t := t) (c := l) hla.symm (by omega) v hb
        · exact cn_two (t := t) (c := l) (by omega) hla.symm v ha
      refine ⟨_, _, _, _, _, _, pot_close (κ := 1 * z a + β * z b) (K := 10 * 9 ^ (cn t l 8 - 1)) (e2 := fun u => D * (γ * z u - C a u - β * C b u)) hp hk hl htl hκ ?_ ?_ ?_⟩
      · obtain ⟨zb0, zb⟩ := h4 b hb (by omega)
        have a3 := ab_add (1 * z a) (β * z b)
        rw [ab_mul, ab_mul] at a3
        rw [← q, ← hla] at zb
        rw [← hla] at za
        have := mle w3 zb (ab_0 _) (by omega)
        have : ab 1 = 1 := rfl
        grind
      · rw [Int.pow_add]
        exact MK h8 (K10 n2) (by omega) (sq0 _)
      · intro u hu htu
        obtain ⟨zu0, zu⟩ := h4 u hu (by omega)
        obtain ⟨c1, c2⟩ := h5 a u ha hu (by omega) (by omega)
        obtain ⟨c3, c4⟩ := h5 b u hb hu (by omega) (by omega)
        rw [htu] at zu
        rw [← hla] at c1
        rw [← q, ← hla] at c3
        refine ⟨e2S hk zu w3 hγ c1 c3 h7 (by omega), fun x hx hx0 => ?_⟩
        have e1 := c2 x hx
        have e2 := c4 x hx
        have e3 := hr x hx hx0
        clear c2 c4 hr h5 h4 h9 hs hle hz hp h1 h2 hoff
        grind
    · subst w1
      subst w2
      refine ⟨_, _, _, _, _, _, pot_close (κ := z b) (K := 9 * 9 ^ (cn t l 8 - 1)) (e2 := fun u => D * (γ * z u - C b u)) hp hk hl htl za0 ?_ ?_ ?_⟩
      · rw [← hla] at za
        omega
      · rw [Int.pow_add]
        exact MK h8 (K9 np) (by omega) (sq0 _)
      · intro u hu htu
        obtain ⟨zu0, zu⟩ := h4 u hu (by omega)
        obtain ⟨c1, c2⟩ := h5 b u ha hu (by omega) (by omega)
        rw [htu] at zu
        rw [← hla] at c1
        refine ⟨e2O hk zu hγ c1 h7 (by omega), fun x hx hx0 => ?_⟩
        have e1 := c2 x hx
        have e3 := hr x hx hx0
        clear c2 hr h5 h4 h9 hs hle hz hp h1 h2 hoff
        grind
  · have hβ2 : β ≠ 0 ∧ ab β ≤ 9 := by
      rcases hf1 with ⟨_, v, w⟩ | ⟨w, _⟩
      · exact ⟨v, w⟩
      · exact absurd (by rw [w]) q
    obtain ⟨hβ0, hβ9⟩ := hβ2
    by_cases qa : t a = 8
    · have hlb : l = t b := by omega
      obtain ⟨zb0, zb⟩ := h4 b hb (by omega)
      refine ⟨_, _, _, _, _, _, pot_close (κ := β * z b) (K := 9 * 9 ^ (cn t l 8 - 1)) (e2 := fun u => -z u * (e a - D * γ) + D * β * C u b) hp hk hl htl (Int.mul_ne_zero hβ0 zb0) ?_ ?_ ?_⟩
      · rw [← hlb] at zb
        rw [ab_mul]; exact mle hβ9 zb (ab_0 _) (by omega)
      · rw [Int.pow_add]
        exact MK h8 (K9 np) (by omega) (sq0 _)
      · intro u hu htu
        obtain ⟨zu0, zu⟩ := h4 u hu (by omega)
        obtain ⟨c1, c2⟩ := h5 u b hu hb (by omega) (by omega)
        obtain ⟨c3, c4⟩ := h9 a ha qa
        rw [htu] at zu c1
        refine ⟨e2B hk zu hβ9 hγ c1 c3 h7, fun x hx hx0 => ?_⟩
        have e1 := c2 x hx
        have e2 := c4 x hx
        have e3 := hr x hx hx0
        clear c2 c4 hr h5 h4 h9 hs hle hz hp h1 h2 hoff
        grind
    · by_cases qb : t b = 8
      · have hla : l = t a := by omega
        obtain ⟨za0, za⟩ := h4 a ha (by omega)
        refine ⟨_, _, _, _, _, _, pot_close (κ := z a) (K := 9 * 9 ^ (cn t l 8 - 1)) (e2 := fun u => -z u * (β * e b - D * γ) + D * C u a) hp hk hl htl za0 ?_ ?_ ?_⟩
        · rw [← hla] at za
          omega
        · rw [Int.pow_add]
          exact MK h8 (K9 np) (by omega) (sq0 _)
        · intro u hu htu
          obtain ⟨zu0, zu⟩ := h4 u hu (by omega)
          obtain ⟨c1, c2⟩ := h5 u a hu ha (by omega) (by omega)
          obtain ⟨c3, c4⟩ := h9 b hb qb
          rw [htu] at zu c1
          refine ⟨e2A hk zu hβ9 hγ c1 c3 h7, fun x hx hx0 => ?_⟩
          have e1 := c2 x hx
          have e2 := c4 x hx
          have e3 := hr x hx hx0
          clear c2 c4 hr h5 h4 h9 hs hle hz hp h1 h2 hoff
          grind
      · rcases hlt with v | v
        · obtain ⟨z', C', h⟩ := pot_merge hp hk ha hb (by omega) (by omega) q hβ0 hβ9 hγ (l := l) (ρ := t b) (Or.inl ⟨v, rfl⟩) hr
          exact ⟨_, _, _, _, _, _, h⟩
        · obtain ⟨z', C', h⟩ := pot_merge hp hk ha hb (by omega) (by omega) q hβ0 hβ9 hγ (l := l) (ρ := t a) (Or.inr ⟨v, rfl⟩) hr
          exact ⟨_, _, _, _, _, _, h⟩
end SIZES
