/-! makeLaws -/
theorem c_X3_partN (l : Launch) {E : zE} {S : zS} {I : Nat → Nat → Int32} {J : Nat → Nat → Int64} {R : Nat → Nat → Option Nat} {st pa ak : Nat} {rw : Nat → Nat} (hY : SY S R st pa ak rw) {k i w : Nat} (hn : I st 2 = nI k) (hk : k ≤ 10) (hi : i < k) (hw : w < 7) : zI l yX3_part wsX3_part rmX3_part E S [.ref st, .int (nI i), .int (nI w)] (I, J, R) (I (rw i) w) (I, J, R) := by
  have h := c_X3_part (E := E) (J := J) (x := nI i) (w := nI w) l hY hn hk
  have e : (if 0 ≤ nI i ∧ nI i < nI k ∧ 0 ≤ nI w ∧ nI w < 7 then I (rw (nI i).toNatClampNeg) (nI w).toNatClampNeg else -1) = I (rw i) w := by
    rw [if_pos ⟨nI_le (a := 0) (Nat.zero_le _) (by omega), (nI_ltI (by omega) (by omega)).mpr hi, nI_le (a := 0) (Nat.zero_le _) (by omega), (nI_ltI (by omega) (by decide)).mpr hw⟩, nI_clamp (by omega), nI_clamp (by omega)]
  rw [e] at h
  exact h
theorem c_X3_askedN (l : Launch) {E : zE} {S : zS} {I : Nat → Nat → Int32} {J : Nat → Nat → Int64} {R : Nat → Nat → Option Nat} {st pa ak : Nat} {rw : Nat → Nat} (hY : SY S R st pa ak rw) {w : Nat} (hw : w < 5) : zI l yX3_asked wsX3_asked rmX3_asked E S [.ref st, .int (nI w)] (I, J, R) (if I st 5 ≠ 0 then I ak w else -1) (I, J, R) := by
  have h := c_X3_asked (E := E) (I := I) (J := J) (w := nI w) l hY
  have e : (if I st 5 ≠ 0 ∧ 0 ≤ nI w ∧ nI w < 5 then I ak (nI w).toNatClampNeg else -1) = (if I st 5 ≠ 0 then I ak w else -1) := by
    rw [nI_clamp (by omega)]
    by_cases q : I st 5 ≠ 0
    · rw [if_pos q, if_pos ⟨q, nI_le (a := 0) (Nat.zero_le _) (by omega), (nI_ltI (by omega) (by decide)).mpr hw⟩]
    · rw [if_neg q, if_neg (fun v => q v.1)]
  rw [e] at h
  exact h
def rowC (f : Nat → Int64) (p : Nat → Nat → Int32) (m i : Nat) : Nat → Int64 := (fun r => if p i 2 = -1 then r else wg r (fB p i) (swW (p i 0) (p i 4)).toInt64 (gnC p (p i 2) (p i 3) (p i 5) m)) (wg (fun k => if k = 9 then (mdB (p i 0) (p i 4)).toInt64 else if k < 10 then 0 else f k) (fA p i) (1 : Int32).toInt64 (gnC p (p i 1) (p i 3) (p i 5) m))
theorem ws_names {p : Nat → Nat → Int32} {i : Nat} (h : WS p i) : p i 1 = nI (fA p i) ∧ fA p i < 8 ∧ (p i 2 ≠ -1 → p i 2 = nI (fB p i) ∧ fB p i < 8) := by
  obtain ⟨s, na, u, n, h1, h2, h3, h4, h5, h6, h7, h8, h9, h10⟩ := h
  have ea : fA p i = na := by unfold fA; rw [h3]; exact nI_clamp (by omega)
  refine ⟨by rw [ea]; exact h3, by omega, fun hne => ?_⟩
  rcases h10 with ⟨_, w⟩ | ⟨_, nb, w1, w2, w3⟩
  · exact absurd w hne
  · have eb : fB p i = nb := by unfold fB; rw [if_neg hne, w1]; exact nI_clamp (by omega)
    exact ⟨by rw [eb]; exact w1, by omega⟩
theorem e10_rowC {p : Nat → Nat → Int32} {m i : Nat} (h : WT p m) (hi : i < m) (hf : p i 0 < 5) (f : Nat → Int64) : e10 (rowC f p m i) = fct p m i := by
  obtain ⟨n, e4, hn, ha, h1, hc⟩ := fct_sh (h.2 i hi) hf
  have hA1 : p i 1 ≠ -1 := by rw [h1]; exact nI_nm1 (by omega)
  have g1 : (gnC p (p i 1) (p i 3) (p i 5) m).toInt = fD p m i 1 := by rw [gnC_gz h.1 h.2 _ _ _ m (Nat.le_refl _)]; unfold fD; rw [if_neg hA1]
  have g2 : p i 2 ≠ -1 → (gnC p (p i 2) (p i 3) (p i 5) m).toInt = fD p m i 2 := fun w => by rw [gnC_gz h.1 h.2 _ _ _ m (Nat.le_refl _)]; unfold fD; rw [if_neg w]
  have d1 := fD_b h i 1
  have d2 := fD_b h i 2
  have hv := ev_le p m
  have hm := h.1
  have hb8 : fB p i < 8 := by rcases hc with c | c <;> omega
  have hw1 : (1 : Int32).toInt64.toInt = 1 := by decide
  unfold rowC
  dsimp only
  have hmd : (mdB (p i 0) (p i 4)).toInt = (if p i 0 = 3 then 0 else if p i 0 = 2 then -(n : Int) else n) := by
    unfold mdB
    split
    · rfl
    · split
      · rw [i32_neg (by rw [e4]; unfold ab; omega), e4]
      · exact e4
  have hmb : ab ((mdB (p i 0) (p i 4)).toInt) ≤ 999 := by
    rw [hmd]
    unfold ab
    split
    · omega
    · split <;> omega
  -- the first name's row
  have R9 : (wg (fun k => if k = 9 then (mdB (p i 0) (p i 4)).toInt64 else if k < 10 then 0 else f k) (fA p i) (1 : Int32).toInt64 (gnC p (p i 1) (p i 3) (p i 5) m) 9).toInt = (mdB (p i 0) (p i 4)).toInt - fD p m i 1 := by
    unfold wg
    dsimp only
    rw [if_pos rfl, if_pos rfl]
    have e : ((1 : Int32).toInt64 * gnC p (p i 1) (p i 3) (p i 5) m).toInt = fD p m i 1 := by
      rw [i64_mul (by rw [hw1, g1]; unfold ab at *; omega), hw1, g1]; omega
    have hs := ab_sub (mdB (p i 0) (p i 4)).toInt (fD p m i 1)
    rw [i64_sub (by rw [e, wide]; omega), e, wide]
  have Rk : ∀ k, k ≠ 9 → k < 10 → (wg (fun k => if k = 9 then (mdB (p i 0) (p i 4)).toInt64 else if k < 10 then 0 else f k) (fA p i) (1 : Int32).toInt64 (gnC p (p i 1) (p i 3) (p i 5) m) k).toInt = if k = fA p i then 1 else 0 := by
    intro k h9 h10
    unfold wg
    dsimp only
    rw [if_neg h9]
    by_cases q : k = fA p i
    · rw [if_pos q, if_pos q, if_neg (by omega), if_pos (by omega)]; decide
    · rw [if_neg q, if_neg q, if_neg h9, if_pos h10]; decide
  generalize wg (fun k => if k = 9 then (mdB (p i 0) (p i 4)).toInt64 else if k < 10 then 0 else f k) (fA p i) (1 : Int32).toInt64 (gnC p (p i 1) (p i 3) (p i 5) m) = r at *
  funext k
  unfold fct gr
  by_cases hk : k < 10
  · rw [e10_n hk]
    rcases hc with ⟨c1, c2, c3⟩ | ⟨c1, c2, c3, c4, c5⟩
    · rw [if_pos c2]
      have hβ : fβ p i = 0 := if_pos c2
      rw [hβ]
      by_cases q9 : k = 9
      · subst q9
        rw [R9, hmd, c1, if_neg (show ¬ (0 : Int32) = 3 by decide), if_neg (show ¬ (0 : Int32) = 2 by decide), if_neg (show ¬ 9 = fA p i by omega), if_neg (show ¬ 9 = fB p i by omega), if_neg (show ¬ 9 = 8 by decide), if_pos rfl]
        unfold fγ
        rw [c1, if_pos rfl, e4]
        omega
      · rw [Rk k q9 hk, if_neg q9]
        by_cases q : k = fA p i
        · rw [if_pos q]; split <;> split <;> rfl
        · rw [if_neg q]; split <;> split <;> rfl
    · rw [if_neg c5]
      unfold wg
      have hsw : (swW (p i 0) (p i 4)).toInt = fβ p i := by
        unfold swW fβ
        rw [if_neg c5]
        split
        · rw [i32_neg (by rw [e4]; unfold ab; omega)]
        · split <;> decide
      have hswb : ab (swW (p i 0) (p i 4)).toInt ≤ 9 := by
        rw [hsw]
        rcases (fct_ok h hi hf).2.2.1 with w | w
        · exact w.2.2
        · exact absurd w.1 c4
      by_cases q9 : k = 9
      · subst q9
        rw [if_pos rfl]
        have em : ((swW (p i 0) (p i 4)).toInt64 * gnC p (p i 2) (p i 3) (p i 5) m).toInt = fβ p i * fD p m i 2 := by
          have hb : ab (fβ p i * fD p m i 2) ≤ 9 * (999 * (ev p m : Int)) := by rw [ab_mul, ← hsw]; exact mle hswb d2 (ab_0 _) (by omega)
          rw [i64_mul (by rw [wide, hsw, g2 c5]; omega), wide, hsw, g2 c5]
        have hb : ab (fβ p i * fD p m i 2) ≤ 9 * (999 * (ev p m : Int)) := by rw [ab_mul, ← hsw]; exact mle hswb d2 (ab_0 _) (by omega)
        have hsb : ab ((mdB (p i 0) (p i 4)).toInt - fD p m i 1) ≤ 999 + 999 * (ev p m : Int) := by have := ab_sub (mdB (p i 0) (p i 4)).toInt (fD p m i 1); omega
        have htb := ab_sub ((mdB (p i 0) (p i 4)).toInt - fD p m i 1) (fβ p i * fD p m i 2)
        rw [i64_sub (by rw [R9, em]; omega), R9, em, hmd, if_neg (show ¬ 9 = fA p i by omega), if_neg (show ¬ 9 = fB p i by omega), if_neg (show ¬ 9 = 8 by decide), if_pos rfl]
        unfold fγ fβ
        rw [if_neg c5, e4]
        generalize fD p m i 1 = da at *
        generalize fD p m i 2 = db at *
        rcases c1 with c1 | c1 | ⟨c1, _⟩ | c1
        · rw [c1, if_neg (show ¬ (1 : Int32) = 3 by decide), if_neg (show ¬ (1 : Int32) = 2 by decide), if_neg (show ¬ (1 : Int32) = 3 by decide), if_neg (show ¬ (1 : Int32) = 4 by decide), if_neg (show ¬ (1 : Int32) = 0 by decide), if_neg (show ¬ (1 : Int32) = 3 by decide), if_neg (show ¬ (1 : Int32) = 4 by decide), if_pos rfl]; omega
        · rw [c1, if_neg (show ¬ (2 : Int32) = 3 by decide), if_pos (show (2 : Int32) = 2 from rfl), if_neg (show ¬ (2 : Int32) = 3 by decide), if_neg (show ¬ (2 : Int32) = 4 by decide), if_neg (show ¬ (2 : Int32) = 0 by decide), if_neg (show ¬ (2 : Int32) = 3 by decide), if_neg (show ¬ (2 : Int32) = 4 by decide), if_neg (show ¬ (2 : Int32) = 1 by decide)]; omega
        · rw [c1, if_pos (show (3 : Int32) = 3 from rfl), if_pos (show (3 : Int32) = 3 from rfl), if_neg (show ¬ (3 : Int32) = 0 by decide), if_pos (show (3 : Int32) = 3 from rfl)]; grind
        · rw [c1, if_neg (show ¬ (4 : Int32) = 3 by decide), if_neg (show ¬ (4 : Int32) = 2 by decide), if_neg (show ¬ (4 : Int32) = 3 by decide), if_pos (show (4 : Int32) = 4 from rfl), if_neg (show ¬ (4 : Int32) = 0 by decide), if_neg (show ¬ (4 : Int32) = 3 by decide), if_pos (show (4 : Int32) = 4 from rfl)]; omega
      · rw [if_neg q9, if_neg q9]
        by_cases q2 : k = fB p i
        · rw [if_pos q2, if_pos q2, if_neg (show ¬ k = fA p i by omega), if_neg (show ¬ k = 8 by omega)]
          have e0 := Rk (fB p i) (by omega) (by omega)
          rw [if_neg c4] at e0
          rw [i64_add (by rw [e0, wide]; unfold ab at *; omega), e0, wide, hsw]; omega
        · rw [if_neg q2, if_neg q2, Rk k q9 hk]
          by_cases q : k = fA p i
          · rw [if_pos q, if_neg (show ¬ k = 8 by omega)]; rfl
          · rw [if_neg q]; split <;> rfl
  · rw [e10_o hk, if_neg (show ¬ k = fA p i by omega), if_neg (show ¬ k = fB p i by omega), if_neg (show ¬ k = 8 by omega), if_neg (show ¬ k = 9 by omega)]; rfl
/-- the asked row -/
def rwQ (f : Nat → Int64) (p : Nat → Nat → Int32) (m na : Nat) (a2 un sg : Int32) : Nat → Int64 := (fun r => if a2 = -1 then r else wg r a2.toNatClampNeg (-1 : Int32).toInt64 (gnC p a2 un sg m)) (wg (fun k => if k = 8 then 1 else if k < 10 then 0 else f k) na (-1 : Int32).toInt64 (gnC p (nI na) un sg m))
theorem e10_rwQ {p : Nat → Nat → Int32} {m : Nat} (h : WT p m) (f : Nat → Int64) {na : Nat} {ob : Option Nat} {a2 un sg : Int32} (hna : na < 8) (h2 : (a2 = -1 ∧ ob = none) ∨ ∃ nb, nb < 8 ∧ a2 = nI nb ∧ ob = some nb ∧ nb ≠ na) : e10 (rwQ f p m na a2 un sg) = sft (qrow na ob) (gA p m (nI na) a2 un sg) := by
  have g1 : (gnC p (nI na) un sg m).toInt = gz p (nI na) un sg m := gnC_gz h.1 h.2 _ _ _ m (Nat.le_refl _)
  have g2 : (gnC p a2 un sg m).toInt = gz p a2 un sg m := gnC_gz h.1 h.2 _ _ _ m (Nat.le_refl _)
  have b1 := gz_b5 h (nI na) un sg
  have b2 := gz_b5 h a2 un sg
  have hw : (-1 : Int32).toInt64.toInt = -1 := by decide
  have z1 : (1 : Int64).toInt = 1 := by decide
  have z0 : (0 : Int64).toInt = 0 := by decide
  have e1 : ((-1 : Int32).toInt64 * gnC p (nI na) un sg m).toInt = -(gz p (nI na) un sg m) := by rw [i64_mul (by rw [hw, g1]; unfold ab at *; omega), hw, g1]; omega
  have e2 : ((-1 : Int32).toInt64 * gnC p a2 un sg m).toInt = -(gz p a2 un sg m) := by rw [i64_mul (by rw [hw, g2]; unfold ab at *; omega), hw, g2]; omega
  unfold rwQ
  dsimp only
  have R9 : (wg (fun k => if k = 8 then 1 else if k < 10 then 0 else f k) na (-1 : Int32).toInt64 (gnC p (nI na) un sg m) 9).toInt = gz p (nI na) un sg m := by
    unfold wg
    dsimp only
    rw [if_pos rfl, if_neg (by decide), if_pos (by decide), i64_sub (by rw [e1, z0]; unfold ab at *; omega), e1, z0]; omega
  have Rk : ∀ k, k ≠ 9 → k < 10 → (wg (fun k => if k = 8 then 1 else if k < 10 then 0 else f k) na (-1 : Int32).toInt64 (gnC p (nI na) un sg m) k).toInt = if k = na then -1 else if k = 8 then 1 else 0 := by
    intro k h9 h10
    unfold wg
    dsimp only
    rw [if_neg h9]
    by_cases q : k = na
    · rw [if_pos q, if_pos q, if_neg (by omega), if_pos (by omega)]; decide
    · rw [if_neg q, if_neg q]
      by_cases q8 : k = 8
      · rw [if_pos q8, if_pos q8]; exact z1
      · rw [if_neg q8, if_neg q8, if_pos h10]; exact z0
  generalize wg (fun k => if k = 8 then 1 else if k < 10 then 0 else f k) na (-1 : Int32).toInt64 (gnC p (nI na) un sg m) = r at *
  have q8 : qrow na ob 8 = 1 := by
    rcases h2 with ⟨_, w⟩ | ⟨nb, w1, _, w3, _⟩
    · rw [w]; exact gr_8 hna hna
    · rw [w3]; exact gr_8 hna w1
  have q9 : qrow na ob 9 = 0 := by
    rcases h2 with ⟨_, w⟩ | ⟨nb, w1, _, w3, _⟩
    · rw [w]; exact gr_9 (by omega) (by omega)
    · rw [w3]; exact gr_9 (by omega) (by omega)
  funext k
  by_cases hk : k < 10
  · rw [e10_n hk]
    by_cases k9 : k = 9
    · subst k9
      unfold sft
      rw [if_pos rfl, q8, q9]
      unfold gA
      rcases h2 with ⟨w, _⟩ | ⟨nb, w1, w2, w3, w4⟩
      · rw [if_pos w, if_pos w, R9]; omega
      · have hne : a2 ≠ -1 := by rw [w2]; exact nI_nm1 (by omega)
        rw [if_neg hne, if_neg hne]
        unfold wg
        rw [if_pos rfl, i64_sub (by rw [R9, e2]; unfold ab at *; omega), R9, e2]; omega
    · unfold sft
      rw [if_neg k9]
      rcases h2 with ⟨w, v⟩ | ⟨nb, w1, w2, w3, w4⟩
      · rw [if_pos w, Rk k k9 hk, v]
        show _ = gr na na (-1) 0 1 0 k
        unfold gr
        rw [if_neg k9]
        by_cases q : k = na
        · rw [if_pos q, if_pos q, if_pos q, if_neg (by omega)]; rfl
        · rw [if_neg q, if_neg q, if_neg q]; split <;> rfl
      · have hne : a2 ≠ -1 := by rw [w2]; exact nI_nm1 (by omega)
        have hcl : a2.toNatClampNeg = nb := by rw [w2]; exact nI_clamp (by omega)
        rw [if_neg hne, hcl, w3]
        show _ = gr na nb (-1) (-1) 1 0 k
        unfold gr wg
        rw [if_neg k9, if_neg k9]
        by_cases q2 : k = nb
        · have e0 := Rk nb (by omega) (by omega)
          rw [if_neg w4, if_neg (by omega)] at e0
          rw [if_pos q2, if_pos q2, if_neg (show ¬ k = na by omega), if_neg (show ¬ k = 8 by omega), i64_add (by rw [e0, hw]; decide), e0, hw]; rfl
        · rw [if_neg q2, if_neg q2, Rk k k9 hk]
          by_cases q : k = na
          · rw [if_pos q, if_pos q, if_neg (by omega)]; rfl
          · rw [if_neg q, if_neg q]; split <;> rfl
  · rw [e10_o hk]
    unfold sft
    rw [if_neg (by omega)]
    rcases h2 with ⟨w, v⟩ | ⟨nb, w1, w2, w3, w4⟩
    · rw [v]
      show 0 = gr na na (-1) 0 1 0 k
      unfold gr
      rw [if_neg (show ¬ k = na by omega), if_neg (show ¬ k = na by omega), if_neg (show ¬ k = 8 by omega), if_neg (show ¬ k = 9 by omega)]; rfl
    · rw [w3]
      show 0 = gr na nb (-1) (-1) 1 0 k
      unfold gr
      rw [if_neg (show ¬ k = na by omega), if_neg (show ¬ k = nb by omega), if_neg (show ¬ k = 8 by omega), if_neg (show ¬ k = 9 by omega)]; rfl
