/-! THE LONGS ARE THE WHOLE NUMBERS -/
theorem i64_comb (a p b c : Int64) : (a * p - b * c).toInt = (a.toInt * p.toInt - b.toInt * c.toInt).bmod (2 ^ 64) := by
  rw [Int64.toInt_sub, Int64.toInt_mul, Int64.toInt_mul]
  simp
theorem i64_combP (a p c b : Int64) : (a * p + c * b).toInt = (a.toInt * p.toInt + c.toInt * b.toInt).bmod (2 ^ 64) := by
  rw [Int64.toInt_add, Int64.toInt_mul, Int64.toInt_mul]
  simp
theorem bm_id {x : Int} (h : ab x < 2 ^ 63) : x.bmod (2 ^ 64) = x := by
  unfold ab at h
  exact Int.bmod_eq_of_le (by omega) (by omega)
theorem bm_0 {x : Int} (h : ab x < 2 ^ 64) : x.bmod (2 ^ 64) = 0 ↔ x = 0 := by
  constructor
  · intro q
    have h1 : ((2 ^ 64 : Nat) : Int) ∣ x := Int.dvd_of_bmod_eq_zero q
    obtain ⟨y, hy⟩ := h1
    unfold ab at h
    have : y = 0 := by omega
    rw [hy, this]; rfl
  · intro q; rw [q]; decide
theorem i64_mn {x : Int64} {y : Int} (h : x.toInt = y) (hb : ab y < 2 ^ 63) : x.toInt ≠ -2 ^ 63 := by
  unfold ab at hb
  omega
theorem gcf_gv {v : Nat → Int64} {w : Nat} (h : ∀ k, k < w → ab (v k).toInt < 2 ^ 63) : (gcf v w).toInt = (gv (fun k => (v k).toInt) w : Int) := by
  induction w with
  | zero => rfl
  | succ w ih =>
    have h1 := ih (fun k hk => h k (by omega))
    unfold gcf gv
    rw [cg_toInt (by rw [h1]; omega) (i64_mn rfl (h w (by omega))), h1]
    rw [Int.natAbs_natCast]
theorem gcs_na (v : Nat → Int64) (g0 : Int64) : ∀ w, (gcs v g0 w).toInt.natAbs = Nat.gcd g0.toInt.natAbs (gv (fun k => (v k).toInt) w)
  | 0 => by
    show g0.toInt.natAbs = Nat.gcd _ 0
    rw [Nat.gcd_zero_right]
  | w + 1 => by
    unfold gcs gv
    rw [cg_na, gcs_na v g0 w, Nat.gcd_assoc]
theorem gcs_nn {v : Nat → Int64} {g0 : Int64} (h0 : 0 ≤ g0.toInt) : ∀ {w : Nat}, (∀ k, k < w → ab (v k).toInt < 2 ^ 63) → 0 ≤ (gcs v g0 w).toInt
  | 0, _ => h0
  | w + 1, h => by
    have h1 := gcs_nn h0 (w := w) (fun k hk => h k (by omega))
    unfold gcs
    rw [cg_toInt (by omega) (i64_mn rfl (h w (by omega)))]
    omega
theorem i64_div {v g : Int64} {x y : Int} (hv : v.toInt = x) (hg : g.toInt = y) (hx : ab x < 2 ^ 63) (hd : y ∣ x) : (v / g).toInt = x / y := by
  have hne : v ≠ Int64.minValue := fun q => by
    have h1 := Int64.toInt_minValue
    rw [← q, hv] at h1
    unfold ab at hx
    omega
  rw [Int64.toInt_div_of_ne_left v g hne, hv, hg, Int.tdiv_eq_ediv_of_dvd hd]
/-- a row of the reference: eight names, what they make -/
def e9 (r : Nat → Int64) : Nat → Int := fun k => if k < 8 then (r k).toInt else if k = 9 then (r 8).toInt else 0
theorem e9_n {r : Nat → Int64} {k : Nat} (h : k < 8) : e9 r k = (r k).toInt := if_pos h
theorem e9_9 {r : Nat → Int64} : e9 r 9 = (r 8).toInt := rfl
theorem e9_8 {r : Nat → Int64} : e9 r 8 = 0 := rfl
theorem e9_o {r : Nat → Int64} {k : Nat} (h : 9 < k) : e9 r k = 0 := by unfold e9; rw [if_neg (by omega), if_neg (by omega)]
theorem nrm_iff {m : Nat} {e : Nat → Int} {j : Nat} (hj : j < m) : nrm m e j = 0 ↔ e j = 0 := by
  obtain ⟨t, ht, he⟩ := nrm_mul (m := m) (e := e)
  rw [he j hj]
  constructor
  · intro q; rw [q]; simp
  · intro q; exact (Int.mul_eq_zero.mp q).resolve_left (by omega)
theorem gv_congr {e f : Nat → Int} : ∀ {m : Nat}, (∀ k, k < m → (e k).natAbs = (f k).natAbs) → gv e m = gv f m
  | 0, _ => rfl
  | m + 1, h => by unfold gv; rw [gv_congr (fun k hk => h k (by omega)), h m (by omega)]
section BRIDGE
variable {r b : Nat → Int64} {l : Nat}
theorem e9_v (hl : l < 8) {k : Nat} (hk : k < 8) : ((elv r b (r l) (b l)) k).toInt = (e9 r k * e9 b l - e9 b k * e9 r l).bmod (2 ^ 64) := by
  rw [e9_n hk, e9_n hk, e9_n hl, e9_n hl]
  exact i64_comb ..
theorem e9_v8 (hl : l < 8) : ((elv r b (r l) (b l)) 8).toInt = (e9 r 9 * e9 b l - e9 b 9 * e9 r l).bmod (2 ^ 64) := by
  rw [e9_n hl, e9_n hl]
  exact i64_comb ..
theorem e9_elx (hl : l < 8) (hb : ∀ k, k < 10 → ab (e9 r k * e9 b l - e9 b k * e9 r l) < 2 ^ 63) : e9 (elx 9 r b (r l) (b l)) = nrm 10 (fun k => e9 r k * e9 b l - e9 b k * e9 r l) := by
  have hv : ∀ k, k < 8 → ((elv r b (r l) (b l)) k).toInt = e9 r k * e9 b l - e9 b k * e9 r l := fun k hk => by rw [e9_v hl hk, bm_id (hb k (by omega))]
  have hv8 : ((elv r b (r l) (b l)) 8).toInt = e9 r 9 * e9 b l - e9 b 9 * e9 r l := by rw [e9_v8 hl, bm_id (hb 9 (by omega))]
  have hvb : ∀ k, k < 9 → ab ((elv r b (r l) (b l)) k).toInt < 2 ^ 63 := fun k hk => by
    by_cases q : k = 8
    · rw [q, hv8]; exact hb 9 (by omega)
    · rw [hv k (by omega)]; exact hb k (by omega)
  have hg : gv (fun k => ((elv r b (r l) (b l)) k).toInt) 9 = gv (fun k => e9 r k * e9 b l - e9 b k * e9 r l) 10 := by
    show Nat.gcd (gv (fun k => ((elv r b (r l) (b l)) k).toInt) 8) ((elv r b (r l) (b l)) 8).toInt.natAbs = Nat.gcd (Nat.gcd (gv (fun k => e9 r k * e9 b l - e9 b k * e9 r l) 8) (e9 r 8 * e9 b l - e9 b 8 * e9 r l).natAbs) (e9 r 9 * e9 b l - e9 b 9 * e9 r l).natAbs
    rw [gv_congr (e := fun k => ((elv r b (r l) (b l)) k).toInt) (f := fun k => e9 r k * e9 b l - e9 b k * e9 r l) (fun k hk => by rw [hv k hk]), hv8, e9_8, e9_8]
    simp
  have hgi : (gcf (elv r b (r l) (b l)) 9).toInt = (gv (fun k => e9 r k * e9 b l - e9 b k * e9 r l) 10 : Int) := by rw [gcf_gv hvb, hg]
  have h1g : (1 : Int64) < gcf (elv r b (r l) (b l)) 9 ↔ 1 < gv (fun k => e9 r k * e9 b l - e9 b k * e9 r l) 10 := by
    rw [Int64.lt_iff_toInt_lt, hgi, Int64.toInt_one]
    omega
  have key : ∀ k j, k < 9 → j < 10 → ((elv r b (r l) (b l)) k).toInt = e9 r j * e9 b l - e9 b j * e9 r l → (elx 9 r b (r l) (b l) k).toInt = nrm 10 (fun k => e9 r k * e9 b l - e9 b k * e9 r l) j := by
    intro k j hk hj he
    unfold elx nrm
    rw [if_pos hk]
    by_cases q : 1 < gcf (elv r b (r l) (b l)) 9
    · rw [if_pos q, if_pos (h1g.mp q)]
      exact i64_div he hgi (hb j hj) (gv_dvd hj)
    · rw [if_neg q, if_neg (fun w => q (h1g.mpr w))]
      exact he
  funext k
  by_cases h8 : k < 8
  · rw [e9_n h8]; exact key k k (by omega) (by omega) (hv k h8)
  · by_cases h9 : k = 9
    · subst h9; rw [e9_9]; exact key 8 9 (by omega) (by omega) hv8
    · have h0 : e9 (elx 9 r b (r l) (b l)) k = 0 := by unfold e9; rw [if_neg h8, if_neg h9]
      have h1 : e9 r k = 0 := by unfold e9; rw [if_neg h8, if_neg h9]
      have h2 : e9 b k = 0 := by unfold e9; rw [if_neg h8, if_neg h9]
      rw [h0, nrm_0]
      show e9 r k * e9 b l - e9 b k * e9 r l = 0
      rw [h1, h2]; simp
theorem i64_div0 (g : Int64) : (0 : Int64) / g = 0 := by
  rw [i64_0, Int64.toInt_div]
  show ((0 : Int).tdiv _).bmod _ = 0
  rw [Int.zero_tdiv]; decide
theorem e9_fin (hl : l < 8) (h0 : ∀ k, k < 9 → e9 r k * e9 b l - e9 b k * e9 r l = 0) (hc : ab (e9 r 9 * e9 b l - e9 b 9 * e9 r l) < 2 ^ 64) : (∀ k, k < 8 → elx 9 r b (r l) (b l) k = 0) ∧ (elx 9 r b (r l) (b l) 8 = 0 ↔ e9 r 9 * e9 b l - e9 b 9 * e9 r l = 0) := by
  have hv : ∀ k, k < 8 → (elv r b (r l) (b l)) k = 0 := fun k hk => by rw [i64_0, e9_v hl hk, h0 k (by omega)]; decide
  have hv8 : (elv r b (r l) (b l)) 8 = 0 ↔ e9 r 9 * e9 b l - e9 b 9 * e9 r l = 0 := by rw [i64_0, e9_v8 hl, bm_0 hc]
  constructor
  · intro k hk
    unfold elx
    rw [if_pos (by omega), hv k hk]
    split
    · exact i64_div0 _
    · rfl
  · rw [← hv8]
    unfold elx
    rw [if_pos (by decide)]
    by_cases q : 1 < gcf (elv r b (r l) (b l)) 9
    · rw [if_pos q]
      have hg8 : (gcf (elv r b (r l) (b l)) 8) = 0 := by
        have h2 := gcf_gv (v := elv r b (r l) (b l)) (w := 8) (fun k hk => by rw [hv k hk]; decide)
        have h3 : gv (fun k => ((elv r b (r l) (b l)) k).toInt) 8 = gv (fun _ => 0) 8 := gv_congr (fun k hk => by rw [hv k hk]; rfl)
        rw [h3] at h2
        rw [i64_0, h2]
        decide
      have hg9 : (gcf (elv r b (r l) (b l)) 9).toInt.natAbs = ((elv r b (r l) (b l)) 8).toInt.natAbs := by
        show (cg (gcf (elv r b (r l) (b l)) 8) _).toInt.natAbs = _
        rw [cg_na, hg8]
        show Nat.gcd 0 _ = _
        rw [Nat.gcd_zero_left]
      generalize gcf (elv r b (r l) (b l)) 9 = g at *
      generalize (elv r b (r l) (b l)) 8 = v at *
      constructor
      · intro w
        rw [i64_0] at w ⊢
        have q2 : 1 < g.toInt := by rw [Int64.lt_iff_toInt_lt, Int64.toInt_one] at q; exact q
        rw [Int64.toInt_div_of_ne_right v g (fun e => by rw [e] at q2; exact absurd q2 (by decide))] at w
        have h4 : v.toInt = g.toInt ∨ v.toInt = -g.toInt := by omega
        rcases h4 with h4 | h4
        · rw [h4, Int.tdiv_self (by omega)] at w; omega
        · rw [h4, Int.neg_tdiv, Int.tdiv_self (by omega)] at w; omega
      · intro w; rw [w]; exact i64_div0 _
    · rw [if_neg q]
end BRIDGE
/-- the rows of the reference are those of the list -/
def RB (es : List (Nat × (Nat → Int))) (bs : Nat → Nat → Int64) (bg : Nat → Nat) : Prop := ∀ j q, es[j]? = some q → bg j = q.1 ∧ e9 (bs j) = q.2
theorem take_s {α : Type} {es : List α} {j : Nat} {q : α} (h : es[j]? = some q) : es.take (j + 1) = es.take j ++ [q] := by
  rw [List.take_succ, h]; rfl
theorem SzB_le {k : Int} {r : Nat → Int} {l j : Nat} (h : SzB k r l j) : ∃ B : Int, 0 ≤ B ∧ B ≤ 90 ^ 4 ∧ BR k B r := by
  obtain ⟨_, B, n, h0, h1, h2, h3, h4⟩ := h
  have q8 := p90_mono h2
  have q44 : (90 : Int) ^ 4 * 90 ^ 4 = 90 ^ 8 := by decide
  exact ⟨B, h0, sq_le (by decide) (by omega), h4⟩
theorem kc_le {k : Int} {e : Nat} (h : KC k e) : 0 ≤ k ∧ k ≤ 99900 := by
  obtain ⟨h1, h2, h3⟩ := h
  refine ⟨h2, ?_⟩
  rcases h3 with ⟨_, w⟩ | w <;> omega
theorem bre_all {k B1 B2 : Int} {r b : Nat → Int} {t : Nat} (hk : 0 ≤ k) (hr : BR k B1 r) (hb : BR k B2 b) (ht : t < 8) (h1 : 2 * (B1 * B2) < 2 ^ 63) (h2 : 2 * (k * (B1 * B2)) < 8 * 2 ^ 63) : ∀ i, i < 10 → ab (r i * b t - b i * r t) < 2 ^ 63 := by
  obtain ⟨a1, a2⟩ := BRE hk hr hb ht
  intro i hi
  by_cases q : i = 9
  · subst q; omega
  · have := a1 i (by omega); omega
theorem redu_8 {es : List (Nat × (Nat → Int))} {f : Nat → Int} (h : ∀ q ∈ es, q.2 8 = 0) (hf : f 8 = 0) : redu es f 8 = 0 := redu_zero h hf
theorem gr_8 {a b : Nat} {α β σ γ : Int} (ha : a < 8) (hb : b < 8) : gr a b α β σ γ 8 = σ := by
  unfold gr
  rw [if_neg (show ¬ 8 = a by omega), if_neg (show ¬ 8 = b by omega), if_pos rfl, if_neg (by decide)]
  omega
theorem ri_pot {k : Int} {es : List (Nat × (Nat → Int))} (h : RI k es) {f : Nat → Int} (hf : prim 10 f) {j : Nat} (hj : j ≤ es.length) : ∃ (t : Nat → Nat) (z : Nat → Int) (C : Nat → Nat → Int) (D M : Int) (e : Nat → Int), Pot k (es.take j) t z C D M e ∧ Ech 10 (es.take j) ∧ (∀ q ∈ es.take j, q.1 < 8) ∧ (∀ q ∈ es.take j, redu (es.take j) f q.1 = 0) ∧ prim 10 (redu (es.take j) f) ∧ ∃ μ ν : Int, μ ≠ 0 ∧ ν ≠ 0 ∧ ∀ x, Sol 10 (es.take j) x → μ * dt (redu (es.take j) f) x 10 = ν * dt f x 10 := by
  obtain ⟨t, z, C, D, M, e, hp⟩ := h.2.2.1 j hj
  obtain ⟨a1, a2⟩ := ri_take h j
  obtain ⟨b1, b2, b3⟩ := redu_spec a1 hf
  exact ⟨t, z, C, D, M, e, hp, a1, a2, b2, b1, b3⟩
theorem rd_fact {k : Int} {e : Nat} {es : List (Nat × (Nat → Int))} (hK : KC k e) (h : RI k es) (hlen : es.length + e ≤ 9) {a b : Nat} {β γ : Int} (hf : Fct k a b β γ) {bs : Nat → Nat → Int64} {bg : Nat → Nat} {r : Nat → Int64} (hB : RB es bs bg) (hr : e9 r = gr a b 1 β 0 γ) : ∀ j, j ≤ es.length →
    (e9 (rdR bs bg r j) = redu (es.take j) (gr a b 1 β 0 γ)) ∨ ((∀ i, i < 8 → rdR bs bg r j i = 0) ∧ (∀ i, i < 8 → redu (es.take j) (gr a b 1 β 0 γ) i = 0) ∧ (rdR bs bg r j 8 = 0 ↔ redu (es.take j) (gr a b 1 β 0 γ) 9 = 0)) := by
  obtain ⟨hk, hk2⟩ := kc_le hK
  have hab : a ≠ b ∨ β = 0 := by
    rcases hf.2.2.1 with w | w
    · exact Or.inl w.1
    · exact Or.inr w.2
  have hpr := gr_prim (γ := γ) (σ := 0) hf.1 (α := 1) rfl hab
  intro j
  induction j with
  | zero => intro _; exact Or.inl hr
  | succ j ih =>
    intro hj
    obtain ⟨q, hq⟩ : ∃ q, es[j]? = some q := ⟨_, List.getElem?_eq_getElem (by omega)⟩
    obtain ⟨g1, g2⟩ := hB j q hq
    have hmem : q ∈ es := List.mem_of_getElem? hq
    obtain ⟨hl8, hqp, hq8⟩ := h.2.1 q hmem
    rw [take_s hq, redu_snoc]
    unfold rdR
    rw [g1]
    have hbl : bs j q.1 = 0 ∨ True := Or.inr trivial
    rcases ih (by omega) with hA | ⟨hB1, hB2, hB3⟩
    · have hz : rdR bs bg r j q.1 = 0 ↔ redu (es.take j) (gr a b 1 β 0 γ) q.1 = 0 := by rw [← hA, e9_n hl8, i64_0]
      by_cases w : rdR bs bg r j q.1 = 0
      · rw [if_pos w]
        left
        unfold el
        rw [if_pos (hz.mp w)]
        exact hA
      · rw [if_neg w]
        have w2 := mt hz.mpr w
        have hel : el (redu (es.take j) (gr a b 1 β 0 γ)) q.2 q.1 = nrm 10 (fun k => e9 (rdR bs bg r j) k * e9 (bs j) q.1 - e9 (bs j) k * e9 (rdR bs bg r j) q.1) := by
          unfold el
          rw [if_neg w2, ← hA, g2]
        obtain ⟨t, z, C, D, M, ee, hp, p1, p2, p3, p4, μ, ν, p5, p6, p7⟩ := ri_pot h hpr (show j ≤ es.length by omega)
        have hs1 := red_size hp p1 p2 hk hf p3 p4 p5 p6 p7 hl8 w2
        have hs2 := h.2.2.2 j q hq
        have hlj : (es.take j).length = j := by rw [List.length_take]; omega
        rw [hlj] at hs1
        rw [← hA] at hs1
        have hgo : (∀ i, i < 10 → ab (e9 (rdR bs bg r j) i * q.2 q.1 - q.2 i * e9 (rdR bs bg r j) q.1) < 2 ^ 63) → e9 (elx 9 (rdR bs bg r j) (bs j) (rdR bs bg r j q.1) (bs j q.1)) = el (redu (es.take j) (gr a b 1 β 0 γ)) q.2 q.1 := by
          intro hb
          rw [hel]
          exact e9_elx hl8 (by rw [g2]; exact hb)
        rcases hs1 with ⟨B1, a1, a2, a3⟩ | hs1
        · left
          apply hgo
          have hb2 : ∃ B : Int, 0 ≤ B ∧ B ≤ 90 ^ 4 ∧ BR k B q.2 := by
            rcases hs2 with ⟨B, b1, b2, b3⟩ | b
            · exact ⟨B, b1, by have : (9 : Int) ^ 7 ≤ 90 ^ 4 := by decide
                               omega, b3⟩
            · exact SzB_le b
          obtain ⟨B2, b1, b2, b3⟩ := hb2
          obtain ⟨n1, n2⟩ := num1 hk hk2 a1 a2 b1 b2
          exact bre_all hk a3 b3 hl8 n1 n2
        · rcases hs2 with ⟨B2, b1, b2, b3⟩ | hs2
          · left
            apply hgo
            obtain ⟨B1, a1, a2, a3⟩ := SzB_le hs1
            obtain ⟨n1, n2⟩ := num1 hk hk2 b1 b2 a1 a2
            rw [Int.mul_comm B2 B1] at n1 n2
            exact bre_all hk a3 b3 hl8 n1 n2
          · right
            obtain ⟨u1, B1, n1, a1, a2, a3, a4, a5⟩ := hs1
            obtain ⟨u2, B2, n2, b1, b2, b3, b4, b5⟩ := hs2
            have hn : ∃ n, n1 ≤ n ∧ n2 ≤ n ∧ n ≤ 8 ∧ n ≤ j + 1 := by
              by_cases v : n1 ≤ n2
              · exact ⟨n2, v, Nat.le_refl _, b3, b4⟩
              · exact ⟨n1, Nat.le_refl _, by omega, a3, a4⟩
            obtain ⟨n, v1, v2, v3, v4⟩ := hn
            have hnum := num2 hK a1 b1 (Int.le_trans a2 (p90_mono v1)) (Int.le_trans b2 (p90_mono v2)) v3 (by omega)
            have hE := (BRE hk a5 b5 hl8).2
            have e8 : e9 (rdR bs bg r j) 8 = 0 := rfl
            have h0 : ∀ i, i < 9 → e9 (rdR bs bg r j) i * e9 (bs j) q.1 - e9 (bs j) i * e9 (rdR bs bg r j) q.1 = 0 := by
              intro i hi
              rw [g2]
              by_cases v : i = 8
              · rw [v, e8, hq8]; simp
              · by_cases v5 : i = q.1
                · rw [v5, Int.mul_comm]; omega
                · rw [u1 i (by omega) v5, u2 i (by omega) v5]; simp
            obtain ⟨f1, f2⟩ := e9_fin hl8 h0 (by rw [g2]; omega)
            rw [hel]
            refine ⟨f1, fun i hi => nrm_0 (h0 i (by omega)), ?_⟩
            rw [f2, nrm_iff (by decide)]
    · rw [if_pos (hB1 q.1 hl8)]
      right
      unfold el
      rw [if_pos (hB2 q.1 hl8)]
      exact ⟨hB1, hB2, hB3⟩
/-! the asked sum -/
def eQ (s : (Nat → Int64) × Int64 × Int64) : Nat → Int := fun k => if k < 8 then -(s.1 k).toInt else if k = 8 then s.2.2.toInt else if k = 9 then s.2.1.toInt else 0
theorem eQ_n {s : (Nat → Int64) × Int64 × Int64} {k : Nat} (h : k < 8) : eQ s k = -(s.1 k).toInt := if_pos h
theorem eQ_8 {s : (Nat → Int64) × Int64 × Int64} : eQ s 8 = s.2.2.toInt := rfl
theorem eQ_9 {s : (Nat → Int64) × Int64 × Int64} : eQ s 9 = s.2.1.toInt := rfl
theorem gcd_sh (a b c : Nat) : Nat.gcd (Nat.gcd a b) c = Nat.gcd (Nat.gcd c b) a := by rw [Nat.gcd_comm a b, Nat.gcd_comm c b, Nat.gcd_assoc, Nat.gcd_assoc, Nat.gcd_comm a c]
theorem eQ_elS {s : (Nat → Int64) × Int64 × Int64} {b : Nat → Int64} {l : Nat} (hl : l < 8) (hb : ∀ k, k < 10 → ab (eQ s k * e9 b l - e9 b k * eQ s l) < 2 ^ 63) (h8 : eQ s 8 ≠ 0) (hbl : e9 b l ≠ 0) : eQ (elS s b (s.1 l) (b l)) = nrm 10 (fun k => eQ s k * e9 b l - e9 b k * eQ s l) ∧ gS s b (s.1 l) (b l) ≠ 0 := by
  have hv : ∀ k, k < 8 → ((elv s.1 b (s.1 l) (b l)) k).toInt = -(eQ s k * e9 b l - e9 b k * eQ s l) := fun k hk => by
    have h1 : ab ((s.1 k).toInt * (b l).toInt - (b k).toInt * (s.1 l).toInt) < 2 ^ 63 := by
      have := hb k (by omega)
      rw [← ab_neg, eQ_n hk, eQ_n hl, e9_n hl, e9_n hk] at this
      rw [show (s.1 k).toInt * (b l).toInt - (b k).toInt * (s.1 l).toInt = -(-(s.1 k).toInt * (b l).toInt - (b k).toInt * -(s.1 l).toInt) by grind]
      exact this
    have h2 := i64_comb (s.1 k) (b l) (b k) (s.1 l)
    rw [bm_id h1] at h2
    rw [eQ_n hk, eQ_n hl, e9_n hl, e9_n hk]
    show (s.1 k * b l - b k * s.1 l).toInt = _
    rw [h2]; grind
  have ht : (s.2.1 * b l + s.1 l * b 8).toInt = eQ s 9 * e9 b l - e9 b 9 * eQ s l := by
    have h1 := hb 9 (by omega)
    rw [eQ_9, e9_n hl, eQ_n hl, e9_9] at h1 ⊢
    have h2 := i64_combP s.2.1 (b l) (s.1 l) (b 8)
    rw [bm_id (by rw [show s.2.1.toInt * (b l).toInt + (s.1 l).toInt * (b 8).toInt = s.2.1.toInt * (b l).toInt - (b 8).toInt * -(s.1 l).toInt by grind]; exact h1)] at h2
    rw [h2]; grind
  have hbe : (s.2.2 * b l).toInt = eQ s 8 * e9 b l - e9 b 8 * eQ s l := by
    have h1 := hb 8 (by omega)
    rw [eQ_8, e9_n hl, e9_8] at h1 ⊢
    rw [Int64.toInt_mul]
    rw [Int.zero_mul, Int.sub_zero] at h1 ⊢
    exact bm_id h1
  have hvb : ∀ k, k < 8 → ab ((elv s.1 b (s.1 l) (b l)) k).toInt < 2 ^ 63 := fun k hk => by rw [hv k hk, ab_neg]; exact hb k (by omega)
  have hg0 : (cg (s.2.1 * b l + s.1 l * b 8) (s.2.2 * b l)).toInt = (Nat.gcd (eQ s 9 * e9 b l - e9 b 9 * eQ s l).natAbs (eQ s 8 * e9 b l - e9 b 8 * eQ s l).natAbs : Int) := by
    rw [cg_toInt (i64_mn ht (hb 9 (by omega))) (i64_mn hbe (hb 8 (by omega))), ht, hbe]
  have hgi : (gS s b (s.1 l) (b l)).toInt = (gv (fun k => eQ s k * e9 b l - e9 b k * eQ s l) 10 : Int) := by
    have h1 : 0 ≤ (gS s b (s.1 l) (b l)).toInt := gcs_nn (by rw [hg0]; omega) hvb
    have h2 : (gS s b (s.1 l) (b l)).toInt.natAbs = gv (fun k => eQ s k * e9 b l - e9 b k * eQ s l) 10 := by
      unfold gS
      rw [gcs_na, hg0, Int.natAbs_natCast, gv_congr (e := fun k => ((elv s.1 b (s.1 l) (b l)) k).toInt) (f := fun k => eQ s k * e9 b l - e9 b k * eQ s l) (fun k hk => by rw [hv k hk, Int.natAbs_neg])]
      show _ = Nat.gcd (Nat.gcd (gv (fun k => eQ s k * e9 b l - e9 b k * eQ s l) 8) (eQ s 8 * e9 b l - e9 b 8 * eQ s l).natAbs) (eQ s 9 * e9 b l - e9 b 9 * eQ s l).natAbs
      exact gcd_sh _ _ _
    omega
  have hne : gv (fun k => eQ s k * e9 b l - e9 b k * eQ s l) 10 ≠ 0 := fun q => by
    have h1 : ((gv (fun k => eQ s k * e9 b l - e9 b k * eQ s l) 10 : Nat) : Int) ∣ eQ s 8 * e9 b l - e9 b 8 * eQ s l := gv_dvd (by decide)
    rw [q, e9_8, Int.zero_mul, Int.sub_zero] at h1
    exact Int.mul_ne_zero h8 hbl (Int.zero_dvd.mp h1)
  refine ⟨?_, fun q => by rw [i64_0, hgi] at q; omega⟩
  have hn : ∀ j, j < 10 → nrm 10 (fun k => eQ s k * e9 b l - e9 b k * eQ s l) j = (eQ s j * e9 b l - e9 b j * eQ s l) / (gv (fun k => eQ s k * e9 b l - e9 b k * eQ s l) 10 : Int) := by
    intro j hj
    unfold nrm
    split
    · rfl
    · next w =>
      have : gv (fun k => eQ s k * e9 b l - e9 b k * eQ s l) 10 = 1 := by omega
      rw [this]
      simp
  funext k
  by_cases h8' : k < 8
  · rw [eQ_n h8', hn k (by omega)]
    show -(if k < 8 then elv s.1 b (s.1 l) (b l) k / gS s b (s.1 l) (b l) else s.1 k).toInt = _
    rw [if_pos h8', i64_div (hv k h8') hgi (by rw [ab_neg]; exact hb k (by omega)) (Int.dvd_neg.mpr (gv_dvd (by omega)))]
    have := Int.neg_ediv_of_dvd (a := eQ s k * e9 b l - e9 b k * eQ s l) (b := (gv (fun k => eQ s k * e9 b l - e9 b k * eQ s l) 10 : Int)) (gv_dvd (by omega))
    rw [this]; omega
  · by_cases h8e : k = 8
    · subst h8e
      rw [eQ_8, hn 8 (by omega)]
      exact i64_div hbe hgi (hb 8 (by omega)) (gv_dvd (by decide))
    · by_cases h9 : k = 9
      · subst h9
        rw [eQ_9, hn 9 (by omega)]
        exact i64_div ht hgi (hb 9 (by omega)) (gv_dvd (by decide))
      · have z1 : ∀ s', eQ s' k = 0 := fun s' => by unfold eQ; rw [if_neg h8', if_neg h8e, if_neg h9]
        have z2 : e9 b k = 0 := by unfold e9; rw [if_neg h8', if_neg h9]
        rw [z1, nrm_0]
        show eQ s k * e9 b l - e9 b k * eQ s l = 0
        rw [z1, z2]; simp
theorem el_8 {r b : Nat → Int} {l : Nat} (h8 : r 8 ≠ 0) (hb8 : b 8 = 0) (hbl : b l ≠ 0) : el r b l 8 ≠ 0 := by
  unfold el
  split
  · exact h8
  · intro q
    have q2 : r 8 * b l - b 8 * r l = 0 := (nrm_iff (by decide)).mp q
    rw [hb8, Int.zero_mul, Int.sub_zero] at q2
    exact Int.mul_ne_zero h8 hbl q2
theorem ech_lead {m : Nat} : ∀ {es : List (Nat × (Nat → Int))}, Ech m es → ∀ q ∈ es, q.2 q.1 ≠ 0
  | [], _, q, h => absurd h List.not_mem_nil
  | p :: es, h, q, hq => by
    rcases List.mem_cons.mp hq with w | w
    · rw [w]; exact h.2.1
    · exact ech_lead h.2.2.2 q w
theorem rd_q {k : Int} {e : Nat} {es : List (Nat × (Nat → Int))} (hK : KC k e) (h : RI k es) (hlen : es.length + e ≤ 11) {a b : Nat} {β : Int} (ha : a < 8) (hb : b < 8) (hβ : (a ≠ b ∧ β = -1) ∨ (b = a ∧ β = 0)) {bs : Nat → Nat → Int64} {bg : Nat → Nat} {r : Nat → Int64} (hB : RB es bs bg) (hr : eQ (r, 0, 1) = gr a b (-1) β 1 0) : ∀ j, j ≤ es.length →
    eQ (rdS bs bg r j) = redu (es.take j) (gr a b (-1) β 1 0) ∧ redu (es.take j) (gr a b (-1) β 1 0) 8 ≠ 0 ∧ (∀ i, i < j → ¬ (rdS bs bg r i).1 (bg i) = 0 → ¬ gS (rdS bs bg r i) (bs i) ((rdS bs bg r i).1 (bg i)) (bs i (bg i)) = 0) := by
  obtain ⟨hk, hk2⟩ := kc_le hK
  have hab : a ≠ b ∨ β = 0 := by
    rcases hβ with w | w
    · exact Or.inl w.1
    · exact Or.inr w.2
  have hpr := gr_prim (γ := 0) (σ := 1) ha (α := -1) rfl hab
  intro j
  induction j with
  | zero => intro _; exact ⟨hr, by show gr a b (-1) β 1 0 8 ≠ 0; rw [gr_8 ha hb]; decide, fun i hi => absurd hi (by omega)⟩
  | succ j ih =>
    intro hj
    obtain ⟨q, hq⟩ : ∃ q, es[j]? = some q := ⟨_, List.getElem?_eq_getElem (by omega)⟩
    obtain ⟨g1, g2⟩ := hB j q hq
    have hmem : q ∈ es := List.mem_of_getElem? hq
    obtain ⟨hl8, hqp, hq8⟩ := h.2.1 q hmem
    have hql := ech_lead h.1 q hmem
    obtain ⟨hA, hA8, hAg⟩ := ih (by omega)
    rw [take_s hq, redu_snoc]
    refine ⟨?_, el_8 hA8 hq8 hql, ?_⟩
    · unfold rdS
      rw [g1]
      have hz : (rdS bs bg r j).1 q.1 = 0 ↔ redu (es.take j) (gr a b (-1) β 1 0) q.1 = 0 := by
        rw [← hA, eQ_n hl8, i64_0]; omega
      by_cases w : (rdS bs bg r j).1 q.1 = 0
      · rw [if_pos w]
        unfold el
        rw [if_pos (hz.mp w)]
        exact hA
      · rw [if_neg w]
        have w2 := mt hz.mpr w
        have hbound : ∀ i, i < 10 → ab (eQ (rdS bs bg r j) i * q.2 q.1 - q.2 i * eQ (rdS bs bg r j) q.1) < 2 ^ 63 := by
          obtain ⟨t, z, C, D, M, ee, hp, p1, p2, p3, p4, μ, ν, p5, p6, p7⟩ := ri_pot h hpr (show j ≤ es.length by omega)
          have hs1 := red_sizeQ hp p1 p2 hk ha hb (α := -1) rfl (by rcases hβ with v | v; exact Or.inl (by rw [v.2]; rfl); exact Or.inr v) (σ := 1) (by decide) p3 p4 p5 p6 p7 hl8 w2
          rw [← hA] at hs1
          obtain ⟨B1, a1, a2, a3⟩ := hs1
          rcases h.2.2.2 j q hq with ⟨B2, b1, b2, b3⟩ | ⟨u2, B2, n2, b1, b2, b3, b4, b5⟩
          · obtain ⟨n1, n2⟩ := num4 hk hk2 a1 a2 b1 b2
            exact bre_all hk a3 b3 hl8 n1 n2
          · obtain ⟨m1, m2⟩ := num3 hK a1 b1 a2 b2 b3 (by omega)
            exact bre_all hk a3 b5 hl8 m1 m2
        have := (eQ_elS (s := rdS bs bg r j) (b := bs j) hl8 (by rw [g2]; exact hbound) (by rw [hA]; exact hA8) (by rw [g2]; exact hql)).1
        rw [this]
        unfold el
        rw [if_neg w2, ← hA, g2]
    · intro i hi
      by_cases v : i < j
      · exact hAg i v
      · have : i = j := by omega
        subst this
        intro w
        rw [g1] at w ⊢
        have hz : (rdS bs bg r i).1 q.1 = 0 ↔ redu (es.take i) (gr a b (-1) β 1 0) q.1 = 0 := by
          rw [← hA, eQ_n hl8, i64_0]; omega
        have w2 := mt hz.mpr w
        have hbound : ∀ i', i' < 10 → ab (eQ (rdS bs bg r i) i' * q.2 q.1 - q.2 i' * eQ (rdS bs bg r i) q.1) < 2 ^ 63 := by
          obtain ⟨t, z, C, D, M, ee, hp, p1, p2, p3, p4, μ, ν, p5, p6, p7⟩ := ri_pot h hpr (show i ≤ es.length by omega)
          have hs1 := red_sizeQ hp p1 p2 hk ha hb (α := -1) rfl (by rcases hβ with v | v; exact Or.inl (by rw [v.2]; rfl); exact Or.inr v) (σ := 1) (by decide) p3 p4 p5 p6 p7 hl8 w2
          rw [← hA] at hs1
          obtain ⟨B1, a1, a2, a3⟩ := hs1
          rcases h.2.2.2 i q hq with ⟨B2, b1, b2, b3⟩ | ⟨u2, B2, n2, b1, b2, b3, b4, b5⟩
          · obtain ⟨n1, n2⟩ := num4 hk hk2 a1 a2 b1 b2
            exact bre_all hk a3 b3 hl8 n1 n2
          · obtain ⟨m1, m2⟩ := num3 hK a1 b1 a2 b2 b3 (by omega)
            exact bre_all hk a3 b5 hl8 m1 m2
        exact (eQ_elS (s := rdS bs bg r i) (b := bs i) hl8 (by rw [g2]; exact hbound) (by rw [hA]; exact hA8) (by rw [g2]; exact hql)).2
/-- the row of one name alone, however many rows there are -/
theorem rd_one {k : Int} {e : Nat} {es : List (Nat × (Nat → Int))} (hK : KC k e) (h : RI k es) (hlen : es.length + e ≤ 11) {a : Nat} (ha : a < 8) {bs : Nat → Nat → Int64} {bg : Nat → Nat} {r : Nat → Int64} (hB : RB es bs bg) (hr : e9 r = gr a a 1 0 0 0) : ∀ j, j ≤ es.length → e9 (rdR bs bg r j) = redu (es.take j) (gr a a 1 0 0 0) := by
  obtain ⟨hk, hk2⟩ := kc_le hK
  have hpr := gr_prim (a := a) (b := a) (β := 0) (γ := 0) (σ := 0) ha (α := 1) rfl (Or.inr rfl)
  intro j
  induction j with
  | zero => intro _; exact hr
  | succ j ih =>
    intro hj
    obtain ⟨q, hq⟩ : ∃ q, es[j]? = some q := ⟨_, List.getElem?_eq_getElem (by omega)⟩
    obtain ⟨g1, g2⟩ := hB j q hq
    have hmem : q ∈ es := List.mem_of_getElem? hq
    obtain ⟨hl8, hqp, hq8⟩ := h.2.1 q hmem
    have hA := ih (by omega)
    rw [take_s hq, redu_snoc]
    unfold rdR
    rw [g1]
    have hz : rdR bs bg r j q.1 = 0 ↔ redu (es.take j) (gr a a 1 0 0 0) q.1 = 0 := by rw [← hA, e9_n hl8, i64_0]
    by_cases w : rdR bs bg r j q.1 = 0
    · rw [if_pos w]
      unfold el
      rw [if_pos (hz.mp w)]
      exact hA
    · rw [if_neg w]
      have w2 := mt hz.mpr w
      have hbound : ∀ i, i < 10 → ab (e9 (rdR bs bg r j) i * q.2 q.1 - q.2 i * e9 (rdR bs bg r j) q.1) < 2 ^ 63 := by
        obtain ⟨t, z, C, D, M, ee, hp, p1, p2, p3, p4, μ, ν, p5, p6, p7⟩ := ri_pot h hpr (show j ≤ es.length by omega)
        have hs1 := red_sizeQ hp p1 p2 hk ha ha (α := 1) rfl (Or.inr ⟨rfl, rfl⟩) (σ := 0) (by decide) p3 p4 p5 p6 p7 hl8 w2
        rw [← hA] at hs1
        obtain ⟨B1, a1, a2, a3⟩ := hs1
        rcases h.2.2.2 j q hq with ⟨B2, b1, b2, b3⟩ | ⟨u2, B2, n2, b1, b2, b3, b4, b5⟩
        · obtain ⟨n1, n2⟩ := num4 hk hk2 a1 a2 b1 b2
          exact bre_all hk a3 b3 hl8 n1 n2
        · obtain ⟨m1, m2⟩ := num3 hK a1 b1 a2 b2 b3 (by omega)
          exact bre_all hk a3 b5 hl8 m1 m2
      rw [e9_elx hl8 (by rw [g2]; exact hbound)]
      unfold el
      rw [if_neg w2, ← hA, g2]
