/-! A TALE's SENTENCES as whole numbers: p i w is the part w of the sentence i -/
def ev (p : Nat → Nat → Int32) : Nat → Nat
  | 0 => 0
  | i + 1 => ev p i + (if p i 0 < 5 then 0 else 1)
def nf (p : Nat → Nat → Int32) : Nat → Nat
  | 0 => 0
  | i + 1 => nf p i + (if p i 0 < 5 then 1 else 0)
theorem ev_nf (p : Nat → Nat → Int32) : ∀ i, ev p i + nf p i = i
  | 0 => rfl
  | i + 1 => by
    unfold ev nf
    have := ev_nf p i
    split <;> omega
theorem ev_mono {p : Nat → Nat → Int32} {i : Nat} : ∀ {j : Nat}, i ≤ j → ev p i ≤ ev p j
  | 0, h => by rw [show i = 0 by omega]; exact Nat.le_refl _
  | j + 1, h => by
    by_cases q : i = j + 1
    · rw [q]; exact Nat.le_refl _
    · have := ev_mono (p := p) (i := i) (j := j) (by omega)
      show ev p i ≤ ev p j + _
      omega
theorem nf_lt {p : Nat → Nat → Int32} {i : Nat} (hf : p i 0 < 5) : ∀ {j : Nat}, i < j → nf p i + 1 ≤ nf p j
  | 0, h => absurd h (by omega)
  | j + 1, h => by
    show _ ≤ nf p j + _
    by_cases q : i = j
    · subst q; rw [if_pos hf]; omega
    · have := nf_lt hf (j := j) (by omega)
      omega
def WS (p : Nat → Nat → Int32) (i : Nat) : Prop := ∃ s na u n : Nat, p i 0 = nI s ∧ s < 8 ∧ p i 1 = nI na ∧ na < 8 ∧ p i 3 = nI u ∧ u < 4 ∧ p i 4 = nI n ∧ n ≤ 999 ∧ (s = 3 → 2 ≤ n ∧ n ≤ 9) ∧ (((s = 0 ∨ s = 6 ∨ s = 7) ∧ p i 2 = -1) ∨ ((s = 1 ∨ s = 2 ∨ s = 3 ∨ s = 4 ∨ s = 5) ∧ ∃ nb, p i 2 = nI nb ∧ nb < 8 ∧ nb ≠ na))
def WT (p : Nat → Nat → Int32) (m : Nat) : Prop := m ≤ 10 ∧ ∀ i, i < m → WS p i
theorem i32_add {x y : Int32} (h : ab (x.toInt + y.toInt) < 2 ^ 31) : (x + y).toInt = x.toInt + y.toInt := by
  rw [Int32.toInt_add]
  unfold ab at h
  exact Int.bmod_eq_of_le (by omega) (by omega)
theorem i32_neg {x : Int32} (h : ab x.toInt < 2 ^ 31) : (-x).toInt = -x.toInt := by
  rw [Int32.toInt_neg]
  unfold ab at h
  exact Int.bmod_eq_of_le (by omega) (by omega)
theorem i64_add {x y : Int64} (h : ab (x.toInt + y.toInt) < 2 ^ 63) : (x + y).toInt = x.toInt + y.toInt := by
  rw [Int64.toInt_add]; exact bm_id h
theorem i64_sub {x y : Int64} (h : ab (x.toInt - y.toInt) < 2 ^ 63) : (x - y).toInt = x.toInt - y.toInt := by
  rw [Int64.toInt_sub]; exact bm_id h
theorem i64_mul {x y : Int64} (h : ab (x.toInt * y.toInt) < 2 ^ 63) : (x * y).toInt = x.toInt * y.toInt := by
  rw [Int64.toInt_mul]; exact bm_id h
theorem i64_neg {x : Int64} (h : ab x.toInt < 2 ^ 63) : (-x).toInt = -x.toInt := by
  rw [Int64.toInt_neg]; exact bm_id (by rw [ab_neg]; exact h)
theorem wide (x : Int32) : x.toInt64.toInt = x.toInt := by simp
theorem nI_lt5 {s : Nat} (h : s < 8) : nI s < 5 ↔ s < 5 := by
  rw [show (5 : Int32) = nI 5 from rfl, nI_ltI (by omega) (by decide)]
theorem nI_eqI {a b : Nat} (ha : a < 2 ^ 31) (hb : b < 2 ^ 31) : nI a = nI b ↔ a = b := ⟨nI_inj ha hb, fun h => by rw [h]⟩
/-- what an event changes, as a number; a sum of them -/
def gz (p : Nat → Nat → Int32) (nm un sg : Int32) : Nat → Int
  | 0 => 0
  | i + 1 => if p i 3 = un ∧ p i 5 < sg then gz p nm un sg i + (gby (p i) nm).toInt else gz p nm un sg i
theorem gby_b {p : Nat → Nat → Int32} {i : Nat} (h : WS p i) (nm : Int32) : ab (gby (p i) nm).toInt ≤ (if p i 0 < 5 then 0 else 999) := by
  obtain ⟨s, na, u, n, h1, h2, h3, h4, h5, h6, h7, h8, h9, h10⟩ := h
  have e4 : (p i 4).toInt = n := by rw [h7]; exact nI_toInt (by omega)
  have a4 : ab (p i 4).toInt ≤ 999 := by rw [e4]; unfold ab; omega
  have n4 : ab (-(p i 4)).toInt ≤ 999 := by rw [i32_neg (by omega), ab_neg]; exact a4
  have z0 : ab (0 : Int32).toInt ≤ 0 := by decide
  unfold gby
  by_cases q : p i 0 < 5
  · rw [if_pos q, if_neg (fun w => by rw [w] at q; exact absurd q (by decide)), if_neg (fun w => by rw [w] at q; exact absurd q (by decide)), if_neg (fun w => by rw [w] at q; exact absurd q (by decide))]
    exact z0
  · rw [if_neg q]
    split
    · split
      · exact n4
      · split
        · exact a4
        · omega
    · split
      · split
        · exact a4
        · omega
      · split
        · split
          · exact n4
          · omega
        · omega
theorem gz_b {p : Nat → Nat → Int32} {m : Nat} (h : ∀ i, i < m → WS p i) (nm un sg : Int32) : ∀ i, i ≤ m → ab (gz p nm un sg i) ≤ 999 * (ev p i : Int)
  | 0, _ => by show ab 0 ≤ _; rw [ab_z]; omega
  | i + 1, hi => by
    have h1 := gz_b h nm un sg i (by omega)
    have h2 := gby_b (h i (by omega)) nm
    unfold gz ev
    by_cases q : p i 0 < 5
    · rw [if_pos q] at h2 ⊢
      split
      · have := ab_add (gz p nm un sg i) (gby (p i) nm).toInt
        omega
      · omega
    · rw [if_neg q] at h2 ⊢
      have e : ((ev p i + 1 : Nat) : Int) = (ev p i : Int) + 1 := by omega
      rw [e]
      split
      · have := ab_add (gz p nm un sg i) (gby (p i) nm).toInt
        omega
      · omega
theorem ev_le (p : Nat → Nat → Int32) (i : Nat) : ev p i ≤ i := by have := ev_nf p i; omega
theorem mr1_gby {p : Nat → Nat → Int32} {i : Nat} (h : WS p i) (hn : ¬ p i 0 < 5) {nm s : Int32} (hs : ab s.toInt ≤ 999000) : (mr1 (p i) nm s).toInt = s.toInt + (gby (p i) nm).toInt := by
  obtain ⟨t, na, u, n, h1, h2, h3, h4, h5, h6, h7, h8, h9, h10⟩ := h
  have e4 : (p i 4).toInt = n := by rw [h7]; exact nI_toInt (by omega)
  have a4 : ab (p i 4).toInt ≤ 999 := by rw [e4]; unfold ab; omega
  have n4 : (-(p i 4)).toInt = -(p i 4).toInt := i32_neg (by omega)
  have z0 : (0 : Int32).toInt = 0 := by decide
  have t5 : 5 ≤ t := by rw [h1, nI_lt5 h2] at hn; omega
  have A : ∀ y : Int32, ab y.toInt ≤ 999 → (s + y).toInt = s.toInt + y.toInt := fun y hy => i32_add (by have := ab_add s.toInt y.toInt; omega)
  have q5 : p i 0 = 5 ↔ t = 5 := by rw [h1, show (5 : Int32) = nI 5 from rfl, nI_eqI (by omega) (by decide)]
  have q6 : p i 0 = 6 ↔ t = 6 := by rw [h1, show (6 : Int32) = nI 6 from rfl, nI_eqI (by omega) (by decide)]
  have q7 : p i 0 = 7 ↔ t = 7 := by rw [h1, show (7 : Int32) = nI 7 from rfl, nI_eqI (by omega) (by decide)]
  unfold mr1 gby
  dsimp only
  by_cases w5 : t = 5
  · have h12 : p i 1 ≠ p i 2 := by
      rcases h10 with ⟨v, _⟩ | ⟨_, nb, v1, v2, v3⟩
      · omega
      · rw [h3, v1]; exact fun w => v3 (nI_inj (by omega) (by omega) w).symm
    rw [if_pos (q5.mpr w5)]
    by_cases e1 : p i 1 = nm
    · rw [if_pos e1, if_neg (fun w => h12 (by rw [e1, w.2])), if_pos e1, if_neg (fun w => by have := q6.mp w; omega), A _ (by rw [n4, ab_neg]; exact a4)]
    · rw [if_neg e1, if_neg e1]
      by_cases e2 : p i 2 = nm
      · rw [if_pos ⟨q5.mpr w5, e2⟩, if_pos e2, A _ a4]
      · rw [if_neg (fun w => e2 w.2), if_neg e2, z0]; omega
  · rw [if_neg (fun w => w5 (q5.mp w.1)), if_neg (fun w => w5 (q5.mp w))]
    by_cases e1 : p i 1 = nm
    · rw [if_pos e1, if_pos e1, if_pos e1]
      by_cases w6 : t = 6
      · rw [if_pos (q6.mpr w6), if_pos (q6.mpr w6), A _ a4]
      · rw [if_neg (fun w => w6 (q6.mp w)), if_neg (fun w => w6 (q6.mp w)), if_pos (q7.mpr (by omega)), A _ (by rw [n4, ab_neg]; exact a4)]
    · rw [if_neg e1, if_neg e1, if_neg e1]
      split
      · rw [z0]; omega
      · split <;> (rw [z0]; omega)
theorem mrM_gz {p : Nat → Nat → Int32} {m : Nat} (hm : m ≤ 10) (h : ∀ i, i < m → WS p i) (nm un sg : Int32) : ∀ i, i ≤ m → (mrM p nm un sg i).toInt = gz p nm un sg i
  | 0, _ => rfl
  | i + 1, hi => by
    have ih := mrM_gz hm h nm un sg i (by omega)
    have hb := gz_b h nm un sg i (by omega)
    have hle := ev_le p i
    unfold mrM gz
    by_cases q : p i 0 < 5
    · rw [if_pos (Or.inl q), ih]
      have h2 := gby_b (h i (by omega)) nm
      rw [if_pos q] at h2
      have h3 : (gby (p i) nm).toInt = 0 := by unfold ab at h2; omega
      rw [h3]
      split <;> omega
    · by_cases w : p i 3 = un ∧ p i 5 < sg
      · rw [if_neg (fun v => by rcases v with v | v | v; exact q v; exact v w.1; exact v w.2), if_pos w, mr1_gby (h i (by omega)) q (by rw [ih]; omega), ih]
      · rw [if_neg w, if_pos, ih]
        by_cases w1 : p i 3 = un
        · exact Or.inr (Or.inr (fun v => w ⟨w1, v⟩))
        · exact Or.inr (Or.inl w1)
theorem gnC_gz {p : Nat → Nat → Int32} {m : Nat} (hm : m ≤ 10) (h : ∀ i, i < m → WS p i) (nm un sg : Int32) : ∀ i, i ≤ m → (gnC p nm un sg i).toInt = gz p nm un sg i
  | 0, _ => rfl
  | i + 1, hi => by
    have ih := gnC_gz hm h nm un sg i (by omega)
    have hb := gz_b h nm un sg i (by omega)
    have hle := ev_le p i
    have h2 := gby_b (h i (by omega)) nm
    have h3 : ab (gby (p i) nm).toInt ≤ 999 := by split at h2 <;> omega
    unfold gnC gz
    split
    · rw [i64_add, ih, wide]
      rw [ih, wide]
      have := ab_add (gz p nm un sg i) (gby (p i) nm).toInt
      omega
    · exact ih
/-! FACTS -/
def fA (p : Nat → Nat → Int32) (i : Nat) : Nat := (p i 1).toNatClampNeg
def fB (p : Nat → Nat → Int32) (i : Nat) : Nat := if p i 2 = -1 then fA p i else (p i 2).toNatClampNeg
def fD (p : Nat → Nat → Int32) (m i w : Nat) : Int := if p i w = -1 then 0 else gz p (p i w) (p i 3) (p i 5) m
def fβ (p : Nat → Nat → Int32) (i : Nat) : Int := if p i 2 = -1 then 0 else if p i 0 = 3 then -(p i 4).toInt else if p i 0 = 4 then 1 else -1
def fγ (p : Nat → Nat → Int32) (m i : Nat) : Int := if p i 0 = 0 then (p i 4).toInt - fD p m i 1 else if p i 0 = 3 then (p i 4).toInt * fD p m i 2 - fD p m i 1 else if p i 0 = 4 then (p i 4).toInt - fD p m i 1 - fD p m i 2 else (if p i 0 = 1 then (p i 4).toInt else -(p i 4).toInt) + fD p m i 2 - fD p m i 1
def fct (p : Nat → Nat → Int32) (m i : Nat) : Nat → Int := gr (fA p i) (fB p i) 1 (fβ p i) 0 (fγ p m i)
def kk (p : Nat → Nat → Int32) (m : Nat) : Int := if ev p m = 0 then 999 else 9990 * (ev p m : Int)
theorem kk_KC {p : Nat → Nat → Int32} {m : Nat} (h : m ≤ 10) : KC (kk p m) (ev p m) := by
  have := ev_le p m
  unfold KC kk
  split
  · exact ⟨by omega, by omega, Or.inl ⟨by omega, by omega⟩⟩
  · exact ⟨by omega, by omega, Or.inr (by omega)⟩
theorem fD_b {p : Nat → Nat → Int32} {m : Nat} (h : WT p m) (i w : Nat) : ab (fD p m i w) ≤ 999 * (ev p m : Int) := by
  unfold fD
  split
  · rw [ab_z]; omega
  · exact gz_b h.2 _ _ _ m (Nat.le_refl _)
theorem lwD_f {p : Nat → Nat → Int32} {m : Nat} (h : WT p m) (i w : Nat) : (lwD p m i w).toInt = fD p m i w := by
  unfold lwD fD
  split
  · rfl
  · rw [wide]; exact mrM_gz h.1 h.2 _ _ _ m (Nat.le_refl _)
/-- what a sentence that is a fact is -/
theorem fct_sh {p : Nat → Nat → Int32} {i : Nat} (h : WS p i) (hf : p i 0 < 5) : ∃ n : Nat, (p i 4).toInt = n ∧ n ≤ 999 ∧ fA p i < 8 ∧ p i 1 = nI (fA p i) ∧ ((p i 0 = 0 ∧ p i 2 = -1 ∧ fB p i = fA p i) ∨ ((p i 0 = 1 ∨ p i 0 = 2 ∨ (p i 0 = 3 ∧ 2 ≤ n ∧ n ≤ 9) ∨ p i 0 = 4) ∧ p i 2 = nI (fB p i) ∧ fB p i < 8 ∧ fB p i ≠ fA p i ∧ p i 2 ≠ -1)) := by
  obtain ⟨s, na, u, n, h1, h2, h3, h4, h5, h6, h7, h8, h9, h10⟩ := h
  have ea : fA p i = na := by unfold fA; rw [h3]; exact nI_clamp (by omega)
  rw [h1, nI_lt5 h2] at hf
  refine ⟨n, by rw [h7]; exact nI_toInt (by omega), h8, by omega, by rw [ea]; exact h3, ?_⟩
  rcases h10 with ⟨v1, v2⟩ | ⟨v1, nb, v2, v3, v4⟩
  · left
    have : s = 0 := by omega
    subst this
    exact ⟨h1, v2, by unfold fB; rw [if_pos v2]⟩
  · right
    have hne : p i 2 ≠ -1 := by rw [v2]; exact nI_nm1 (by omega)
    have eb : fB p i = nb := by unfold fB; rw [if_neg hne, v2]; exact nI_clamp (by omega)
    refine ⟨?_, by rw [eb]; exact v2, by omega, by omega, hne⟩
    rcases v1 with w | w | w | w | w
    · left; rw [h1, w]; rfl
    · right; left; rw [h1, w]; rfl
    · right; right; left; exact ⟨by rw [h1, w]; rfl, (h9 w).1, (h9 w).2⟩
    · right; right; right; rw [h1, w]; rfl
    · omega
theorem fγ_b {p : Nat → Nat → Int32} {m i : Nat} (h : WT p m) (hi : i < m) (hf : p i 0 < 5) : ab (fγ p m i) ≤ kk p m := by
  obtain ⟨n, e4, hn, ha, h1, hc⟩ := fct_sh (h.2 i hi) hf
  have d1 := fD_b h i 1
  have d2 := fD_b h i 2
  unfold fγ kk
  rw [e4]
  generalize fD p m i 1 = da at *
  generalize fD p m i 2 = db at *
  generalize ev p m = v at *
  rcases hc with ⟨c1, c2, c3⟩ | ⟨c1, c2, c3, c4, c5⟩
  · rw [if_pos c1]
    unfold ab at *
    split <;> omega
  · rcases c1 with c1 | c1 | ⟨c1, c6, c7⟩ | c1
    · rw [c1, if_neg (by decide), if_neg (by decide), if_neg (by decide), if_pos rfl]
      unfold ab at *
      split <;> omega
    · rw [c1, if_neg (by decide), if_neg (by decide), if_neg (by decide), if_neg (by decide)]
      unfold ab at *
      split <;> omega
    · rw [c1, if_neg (by decide), if_pos rfl]
      have h2 : ab ((n : Int) * db) ≤ 9 * (999 * (v : Int)) := by
        rw [ab_mul]
        refine mle ?_ d2 (ab_0 _) (by omega)
        unfold ab; omega
      have h3 := ab_sub ((n : Int) * db) da
      split <;> omega
    · rw [c1, if_neg (by decide), if_neg (by decide), if_pos rfl]
      unfold ab at *
      split <;> omega
theorem fct_ok {p : Nat → Nat → Int32} {m i : Nat} (h : WT p m) (hi : i < m) (hf : p i 0 < 5) : Fct (kk p m) (fA p i) (fB p i) (fβ p i) (fγ p m i) := by
  obtain ⟨n, e4, hn, ha, h1, hc⟩ := fct_sh (h.2 i hi) hf
  refine ⟨ha, ?_, ?_, fγ_b h hi hf⟩
  · rcases hc with ⟨c1, c2, c3⟩ | ⟨c1, c2, c3, c4, c5⟩
    · omega
    · exact c3
  · unfold fβ
    rw [e4]
    rcases hc with ⟨c1, c2, c3⟩ | ⟨c1, c2, c3, c4, c5⟩
    · right; exact ⟨c3, if_pos c2⟩
    · left
      rw [if_neg c5]
      refine ⟨Ne.symm c4, ?_⟩
      rcases c1 with c1 | c1 | ⟨c1, c6, c7⟩ | c1
      · rw [c1, if_neg (by decide), if_neg (by decide)]; decide
      · rw [c1, if_neg (by decide), if_neg (by decide)]; decide
      · rw [c1, if_pos rfl]; unfold ab; omega
      · rw [c1, if_neg (by decide), if_pos rfl]; decide
theorem fct_lwf {p : Nat → Nat → Int32} {i : Nat} (h : WS p i) (hf : p i 0 < 5) : lwf p i (fA p i) (if p i 2 = -1 then none else some (fB p i)) := by
  obtain ⟨n, e4, hn, ha, h1, hc⟩ := fct_sh h hf
  refine ⟨h1, ha, ?_⟩
  rcases hc with ⟨c1, c2, c3⟩ | ⟨c1, c2, c3, c4, c5⟩
  · left; exact ⟨c1, c2, if_pos c2⟩
  · right
    refine ⟨fB p i, ?_, c2, c3, c4, if_neg c5⟩
    rcases c1 with c1 | c1 | ⟨c1, _⟩ | c1
    · exact Or.inl c1
    · exact Or.inr (Or.inl c1)
    · exact Or.inr (Or.inr (Or.inl c1))
    · exact Or.inr (Or.inr (Or.inr c1))
theorem lwβ_f {p : Nat → Nat → Int32} {i : Nat} (h : WS p i) (hf : p i 0 < 5) (h2 : p i 2 ≠ -1) : (lwβ (p i 0) (p i 4).toInt64).toInt = fβ p i := by
  obtain ⟨n, e4, hn, ha, h1, hc⟩ := fct_sh h hf
  unfold lwβ fβ
  rw [if_neg h2]
  split
  · rw [i64_neg (by rw [wide, e4]; unfold ab; omega), wide]
  · split <;> decide
theorem lwγ_f {p : Nat → Nat → Int32} {m i : Nat} (h : WT p m) (hi : i < m) (hf : p i 0 < 5) : (lwγ (p i 0) (p i 4).toInt64 (lwD p m i 1) (lwD p m i 2)).toInt = fγ p m i := by
  obtain ⟨n, e4, hn, ha, h1, hc⟩ := fct_sh (h.2 i hi) hf
  have d1 := fD_b h i 1
  have d2 := fD_b h i 2
  have hv := ev_le p m
  have hm := h.1
  have f1 := lwD_f h i 1
  have f2 := lwD_f h i 2
  have en : (p i 4).toInt64.toInt = n := by rw [wide]; exact e4
  unfold lwγ fγ
  rw [e4, ← f1, ← f2]
  rw [← f1] at d1
  rw [← f2] at d2
  generalize lwD p m i 1 = da at *
  generalize lwD p m i 2 = db at *
  generalize (p i 4).toInt64 = nn at *
  clear f1 f2
  have a1 : ab da.toInt ≤ 9990 := by omega
  have a2 : ab db.toInt ≤ 9990 := by omega
  have nneg : (-nn).toInt = -(n : Int) := by rw [i64_neg (by rw [en]; unfold ab; omega), en]
  split
  · rw [i64_sub, en]
    rw [en]; unfold ab at *; omega
  · split
    · have h3 : ab (nn.toInt * db.toInt) ≤ 999 * 9990 := by
        rw [ab_mul, en]
        refine mle ?_ a2 (ab_0 _) (by omega)
        unfold ab; omega
      rw [i64_sub, i64_mul (by omega), en]
      rw [i64_mul (by omega)]
      have := ab_sub (nn.toInt * db.toInt) da.toInt
      omega
    · split
      · rw [i64_sub, i64_sub, en]
        · rw [en]; unfold ab at *; omega
        · rw [i64_sub (by rw [en]; unfold ab at *; omega), en]; unfold ab at *; omega
      · split
        · rw [i64_sub, i64_add, en]
          · rw [en]; unfold ab at *; omega
          · rw [i64_add (by rw [en]; unfold ab at *; omega), en]; unfold ab at *; omega
        · rw [i64_sub, i64_add, nneg]
          · rw [nneg]; unfold ab at *; omega
          · rw [i64_add (by rw [nneg]; unfold ab at *; omega), nneg]; unfold ab at *; omega
theorem e9_lwR {p : Nat → Nat → Int32} {m i : Nat} (h : WT p m) (hi : i < m) (hf : p i 0 < 5) (f : Nat → Int64) : e9 (lwR f (fA p i) (if p i 2 = -1 then none else some (fB p i)) (lwβ (p i 0) (p i 4).toInt64) (lwγ (p i 0) (p i 4).toInt64 (lwD p m i 1) (lwD p m i 2))) = fct p m i := by
  obtain ⟨n, e4, hn, ha, h1, hc⟩ := fct_sh (h.2 i hi) hf
  have hγ := lwγ_f h hi hf
  have hβ : p i 2 ≠ -1 → _ := lwβ_f (h.2 i hi) hf
  have hβ0 : p i 2 = -1 → fβ p i = 0 := fun w => if_pos w
  have hb8 : fB p i < 8 := by rcases hc with c | c <;> omega
  have hbn : p i 2 ≠ -1 → fB p i ≠ fA p i := fun w => by rcases hc with c | c; exact absurd c.2.1 w; exact c.2.2.2.1
  unfold fct
  generalize lwγ (p i 0) (p i 4).toInt64 (lwD p m i 1) (lwD p m i 2) = g at *
  generalize lwβ (p i 0) (p i 4).toInt64 = b at *
  generalize fγ p m i = γ at *
  generalize fβ p i = β at *
  generalize fA p i = a at *
  generalize fB p i = c at *
  funext k
  unfold e9 gr
  by_cases k8 : k < 8
  · rw [if_pos k8, if_neg (show ¬ k = 8 by omega), if_neg (show ¬ k = 9 by omega)]
    unfold lwR
    rw [if_neg (show ¬ k = 8 by omega)]
    by_cases w : p i 2 = -1
    · rw [if_pos w, if_neg (show ¬ (none : Option Nat) = some k from fun v => nomatch v), hβ0 w]
      by_cases q : k = a
      · rw [if_pos q, if_pos q]; split <;> decide
      · rw [if_neg q, if_neg q, if_pos (by omega)]; split <;> decide
    · rw [if_neg w]
      have hne := hbn w
      by_cases q2 : k = c
      · rw [if_pos (show some c = some k by rw [q2]), if_pos q2, if_neg (by omega), hβ w]; omega
      · rw [if_neg (show ¬ some c = some k from fun v => q2 (by injection v with v; exact v.symm)), if_neg q2]
        by_cases q : k = a
        · rw [if_pos q, if_pos q]; decide
        · rw [if_neg q, if_neg q, if_pos (by omega)]; decide
  · rw [if_neg k8, if_neg (show ¬ k = a by omega), if_neg (show ¬ k = c by omega)]
    by_cases k9 : k = 9
    · rw [if_pos k9, if_neg (show ¬ k = 8 by omega), if_pos k9]
      show (lwR f a _ b g 8).toInt = _
      unfold lwR
      rw [if_pos rfl, hγ]; omega
    · rw [if_neg k9, if_neg k9]
      split <;> rfl
