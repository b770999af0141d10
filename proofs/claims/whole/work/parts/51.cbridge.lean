/-! THE CLASS's LONGS ARE THE WHOLE NUMBERS -/
theorem gv_scale {g : Nat} {e : Nat → Int} : ∀ m, gv (fun k => (g : Int) * e k) m = g * gv e m
  | 0 => by show 0 = g * 0; omega
  | m + 1 => by
    show Nat.gcd (gv (fun k => (g : Int) * e k) m) ((g : Int) * e m).natAbs = g * Nat.gcd (gv e m) (e m).natAbs
    rw [gv_scale m, Int.natAbs_mul, Int.natAbs_natCast, Nat.gcd_mul_left]
theorem gv_zero {e : Nat → Int} {m : Nat} (h : gv e m = 0) {k : Nat} (hk : k < m) : e k = 0 := by
  have := gv_dvd (e := e) (m := m) hk
  rw [h] at this
  exact Int.zero_dvd.mp this
theorem nrm_scale {g : Nat} (hg : 0 < g) {e : Nat → Int} {m k : Nat} (hk : k < m) : nrm m (fun k => (g : Int) * e k) k = nrm m e k := by
  have hgv := gv_scale (g := g) (e := e) m
  by_cases h0 : gv e m = 0
  · rw [nrm_0 (gv_zero h0 hk), nrm_0]
    show (g : Int) * e k = 0
    rw [gv_zero h0 hk]; simp
  · unfold nrm
    rw [hgv]
    have h1 : 1 ≤ gv e m := by omega
    by_cases q : 1 < gv e m
    · have hm : 1 < g * gv e m := by
        have := Nat.mul_le_mul hg q
        omega
      rw [if_pos q, if_pos hm]
      show (g : Int) * e k / ((g * gv e m : Nat) : Int) = _
      rw [Int.natCast_mul]
      exact Int.mul_ediv_mul_of_pos _ _ (by omega)
    · have e1 : gv e m = 1 := by omega
      rw [e1, Nat.mul_one, if_neg (show ¬ (1 : Nat) < 1 by omega)]
      by_cases q2 : 1 < g
      · rw [if_pos q2]
        exact Int.mul_ediv_cancel_left _ (by omega)
      · have : g = 1 := by omega
        rw [this, if_neg (show ¬ (1 : Nat) < 1 by omega)]
        show ((1 : Nat) : Int) * e k = e k
        omega
/-- the combination that the class makes is no larger than any other that takes the same place away -/
theorem comb_le {r b : Nat → Int} {l : Nat} (hb : b l ≠ 0) {x y : Int} (hx : x ≠ 0) (h0 : x * r l = y * b l) : ∃ ν : Int, ν ≠ 0 ∧ ∀ k, x * r k - y * b k = ν * (r k * (b l / (Int.gcd (b l) (r l) : Int)) - b k * (r l / (Int.gcd (b l) (r l) : Int))) := by
  have hg0 : 0 < Int.gcd (b l) (r l) := Int.gcd_pos_of_ne_zero_left _ hb
  obtain ⟨b', hb'⟩ : (Int.gcd (b l) (r l) : Int) ∣ b l := Int.gcd_dvd_left ..
  obtain ⟨r', hr'⟩ : (Int.gcd (b l) (r l) : Int) ∣ r l := Int.gcd_dvd_right ..
  have eb : b l / (Int.gcd (b l) (r l) : Int) = b' := by
    conv => lhs; lhs; rw [hb']
    exact Int.mul_ediv_cancel_left _ (by omega)
  have er : r l / (Int.gcd (b l) (r l) : Int) = r' := by
    conv => lhs; lhs; rw [hr']
    exact Int.mul_ediv_cancel_left _ (by omega)
  rw [eb, er]
  have hcop : Int.gcd b' r' = 1 := by
    have e1 : Int.gcd ((Int.gcd (b l) (r l) : Int) * b') ((Int.gcd (b l) (r l) : Int) * r') = Int.gcd (b l) (r l) * Int.gcd b' r' := by
      rw [Int.gcd_mul_left]; simp
    rw [← hb', ← hr'] at e1
    have : Int.gcd (b l) (r l) * Int.gcd b' r' = Int.gcd (b l) (r l) * 1 := by omega
    exact Nat.eq_of_mul_eq_mul_left hg0 this
  have h1 : x * r' = y * b' := by
    have : (Int.gcd (b l) (r l) : Int) * (x * r') = (Int.gcd (b l) (r l) : Int) * (y * b') := by
      have e2 : x * ((Int.gcd (b l) (r l) : Int) * r') = y * ((Int.gcd (b l) (r l) : Int) * b') := by rw [← hr', ← hb']; exact h0
      grind
    exact Int.eq_of_mul_eq_mul_left (by omega) this
  have hb0 : b' ≠ 0 := fun q => hb (by rw [hb', q]; simp)
  have hdv : b' ∣ x := by
    have h2 : b'.natAbs ∣ x.natAbs * r'.natAbs := by rw [← Int.natAbs_mul]; exact Int.natAbs_dvd_natAbs.mpr ⟨y, by rw [h1]; grind⟩
    exact Int.natAbs_dvd_natAbs.mp (Nat.Coprime.dvd_of_dvd_mul_right hcop h2)
  obtain ⟨ν, hν⟩ := hdv
  have hy : y = ν * r' := by
    have : b' * y = b' * (ν * r') := by rw [hν] at h1; grind
    exact Int.eq_of_mul_eq_mul_left hb0 this
  refine ⟨ν, fun q => hx (by rw [hν, q]; simp), fun k => ?_⟩
  rw [hν, hy]
  grind
def e10 (r : Nat → Int64) : Nat → Int := fun k => if k < 10 then (r k).toInt else 0
theorem e10_n {r : Nat → Int64} {k : Nat} (h : k < 10) : e10 r k = (r k).toInt := if_pos h
theorem e10_o {r : Nat → Int64} {k : Nat} (h : ¬ k < 10) : e10 r k = 0 := if_neg h
theorem i64_ex {x y : Int64} {g z : Int} (hx : x.toInt = z) (hg : y.toInt = g) (hd : g ∣ z) (hz : ab z < 2 ^ 63) : (x / y).toInt = z / g := i64_div hx hg hz hd
theorem e10_elc {r b : Nat → Int64} {l : Nat} (hl : l < 10) (hr : e10 r l ≠ 0) (hbp : 0 < e10 b l) (hmn : ab (e10 r l) < 2 ^ 63 ∧ ab (e10 b l) < 2 ^ 63) (hw : ∀ k, k < 10 → ab (e10 r k * (e10 b l / (Int.gcd (e10 b l) (e10 r l) : Int)) - e10 b k * (e10 r l / (Int.gcd (e10 b l) (e10 r l) : Int))) < 2 ^ 63) : e10 (elc r b l) = el (e10 r) (e10 b) l := by
  rw [e10_n hl] at hr hmn
  rw [e10_n hl] at hmn hbp
  have hc : (cg (b l) (r l)).toInt = (Int.gcd (b l).toInt (r l).toInt : Int) := cg_toInt (i64_mn rfl hmn.2) (i64_mn rfl hmn.1)
  have hg0 : 0 < Int.gcd (b l).toInt (r l).toInt := Int.gcd_pos_of_ne_zero_left _ (by omega)
  have hcp : (0 : Int64) < cg (b l) (r l) := by rw [Int64.lt_iff_toInt_lt, hc]; show (0 : Int) < _; omega
  have hup : (b l / cg (b l) (r l)).toInt = (b l).toInt / (Int.gcd (b l).toInt (r l).toInt : Int) := i64_ex rfl hc (Int.gcd_dvd_left ..) hmn.2
  have hls : (r l / cg (b l) (r l)).toInt = (r l).toInt / (Int.gcd (b l).toInt (r l).toInt : Int) := i64_ex rfl hc (Int.gcd_dvd_right ..) hmn.1
  have hrl : ¬ r l = 0 := fun q => hr (by rw [q]; rfl)
  generalize hgg : Int.gcd (b l).toInt (r l).toInt = g at *
  have hw2 : ∀ k, k < 10 → ab ((r k).toInt * ((b l).toInt / (g : Int)) - (b k).toInt * ((r l).toInt / (g : Int))) < 2 ^ 63 := fun k hk => by
    have := hw k hk
    rw [e10_n hk, e10_n hk, e10_n hl, e10_n hl, hgg] at this
    exact this
  have hv : ∀ k, k < 10 → (elv r b (r l / cg (b l) (r l)) (b l / cg (b l) (r l)) k).toInt = (r k).toInt * ((b l).toInt / (g : Int)) - (b k).toInt * ((r l).toInt / (g : Int)) := fun k hk => by
    show (r k * _ - b k * _).toInt = _
    rw [i64_comb, hup, hls, bm_id (hw2 k hk)]
  have hvb : ∀ k, k < 10 → ab (elv r b (r l / cg (b l) (r l)) (b l / cg (b l) (r l)) k).toInt < 2 ^ 63 := fun k hk => by rw [hv k hk]; exact hw2 k hk
  have hgv := gcf_gv hvb
  have helx : elc r b l = elx 10 r b (r l / cg (b l) (r l)) (b l / cg (b l) (r l)) := by unfold elc; rw [if_neg hrl, if_pos hcp]
  -- the whole numbers' side
  have hel : ∀ k, k < 10 → el (e10 r) (e10 b) l k = nrm 10 (fun k => (elv r b (r l / cg (b l) (r l)) (b l / cg (b l) (r l)) k).toInt) k := by
    intro k hk
    unfold el
    rw [if_neg (by rw [e10_n hl]; exact hr)]
    have hsc : ∀ j, j < 10 → e10 r j * e10 b l - e10 b j * e10 r l = (g : Int) * (elv r b (r l / cg (b l) (r l)) (b l / cg (b l) (r l)) j).toInt := by
      intro j hj
      rw [hv j hj, e10_n hj, e10_n hj, e10_n hl, e10_n hl]
      have d1 : (g : Int) * ((b l).toInt / (g : Int)) = (b l).toInt := Int.mul_ediv_cancel' (by rw [← hgg]; exact Int.gcd_dvd_left ..)
      have d2 : (g : Int) * ((r l).toInt / (g : Int)) = (r l).toInt := Int.mul_ediv_cancel' (by rw [← hgg]; exact Int.gcd_dvd_right ..)
      grind
    rw [← nrm_scale (e := fun k => (elv r b (r l / cg (b l) (r l)) (b l / cg (b l) (r l)) k).toInt) hg0 hk]
    have hgc := gv_congr (m := 10) (e := fun k => e10 r k * e10 b l - e10 b k * e10 r l) (f := fun j => (g : Int) * (elv r b (r l / cg (b l) (r l)) (b l / cg (b l) (r l)) j).toInt) (fun j hj => by rw [hsc j hj])
    unfold nrm
    rw [hgc]
    dsimp only
    rw [hsc k hk]
  funext k
  by_cases hk : k < 10
  · rw [e10_n hk, hel k hk, helx]
    unfold elx nrm
    rw [if_pos hk]
    have h1g : (1 : Int64) < gcf (elv r b (r l / cg (b l) (r l)) (b l / cg (b l) (r l))) 10 ↔ 1 < gv (fun k => (elv r b (r l / cg (b l) (r l)) (b l / cg (b l) (r l)) k).toInt) 10 := by
      rw [Int64.lt_iff_toInt_lt, hgv, Int64.toInt_one]; omega
    by_cases q : (1 : Int64) < gcf (elv r b (r l / cg (b l) (r l)) (b l / cg (b l) (r l))) 10
    · rw [if_pos q, if_pos (h1g.mp q)]
      exact i64_div rfl hgv (hvb k hk) (gv_dvd (e := fun k => (elv r b (r l / cg (b l) (r l)) (b l / cg (b l) (r l)) k).toInt) hk)
    · rw [if_neg q, if_neg (fun w => q (h1g.mpr w))]
  · rw [e10_o hk]
    unfold el
    rw [if_neg (by rw [e10_n hl]; exact hr), nrm_0]
    show e10 r k * e10 b l - e10 b k * e10 r l = 0
    rw [e10_o hk, e10_o hk]; simp
theorem e10_elc0 {r b : Nat → Int64} {l : Nat} (hl : l < 10) (hr : e10 r l = 0) : e10 (elc r b l) = el (e10 r) (e10 b) l := by
  unfold el elc
  rw [if_pos hr, if_pos (by rw [e10_n hl] at hr; exact i64_0.mpr hr)]
theorem prim_dvd {m : Nat} {v w : Nat → Int} {α β : Int} (hα : α ≠ 0) (hβ : β ≠ 0) (hv : prim m v) (h : ∀ k, k < m → α * v k = β * w k) : ∃ t : Int, t ≠ 0 ∧ ∀ k, k < m → w k = t * v k := by
  have hg : (Int.gcd α β : Int) ≠ 0 := by
    have := Int.gcd_pos_of_ne_zero_left β hα
    omega
  obtain ⟨a, ha⟩ : (Int.gcd α β : Int) ∣ α := Int.gcd_dvd_left ..
  obtain ⟨b, hb⟩ : (Int.gcd α β : Int) ∣ β := Int.gcd_dvd_right ..
  have hcop : Int.gcd a b = 1 := by
    have h0 : 0 < Int.gcd α β := Int.gcd_pos_of_ne_zero_left β hα
    have e1 : Int.gcd ((Int.gcd α β : Int) * a) ((Int.gcd α β : Int) * b) = Int.gcd α β * Int.gcd a b := by
      rw [Int.gcd_mul_left]; simp
    rw [← ha, ← hb] at e1
    have : Int.gcd α β * Int.gcd a b = Int.gcd α β * 1 := by omega
    exact Nat.eq_of_mul_eq_mul_left h0 this
  have hab : ∀ k, k < m → a * v k = b * w k := by
    intro j hj
    have h1 := h j hj
    rw [ha, hb] at h1
    have : (Int.gcd α β : Int) * (a * v j) = (Int.gcd α β : Int) * (b * w j) := by grind
    exact Int.eq_of_mul_eq_mul_left hg this
  have hb0 : b ≠ 0 := fun q => hβ (by rw [hb, q]; simp)
  have ha0 : a ≠ 0 := fun q => hα (by rw [ha, q]; simp)
  have hdv : ∀ j, j < m → b ∣ v j := by
    intro j hj
    have h1 : b ∣ a * v j := ⟨w j, hab j hj⟩
    have h2 : b.natAbs ∣ a.natAbs * (v j).natAbs := by rw [← Int.natAbs_mul]; exact Int.natAbs_dvd_natAbs.mpr h1
    have h3 : Nat.Coprime b.natAbs a.natAbs := by unfold Nat.Coprime; rw [Nat.gcd_comm]; exact hcop
    exact Int.natAbs_dvd_natAbs.mp (h3.dvd_of_dvd_mul_left h2)
  have hbd : b.natAbs ∣ gv v m := dvd_gv (fun j hj => Int.natAbs_dvd.mpr (hdv j hj))
  by_cases h0 : gv v m = 0
  · refine ⟨1, by decide, fun k hk => ?_⟩
    have hv0 := gv_zero h0 hk
    have h1 := hab k hk
    rw [hv0, Int.mul_zero] at h1
    rw [hv0, (Int.mul_eq_zero.mp h1.symm).resolve_left hb0]; rfl
  · have hb1 : b.natAbs = 1 := by
      have h3 := Nat.le_of_dvd (by omega) hbd
      have : b.natAbs ≠ 0 := fun q => hb0 (Int.natAbs_eq_zero.mp q)
      have h4 : gv v m ≤ 1 := hv
      omega
    rcases Int.natAbs_eq b with w1 | w1
    · rw [hb1] at w1
      refine ⟨a, ha0, fun k hk => ?_⟩
      have := hab k hk
      rw [w1] at this
      have e : ((1 : Nat) : Int) = 1 := rfl
      rw [e] at this
      omega
    · rw [hb1] at w1
      refine ⟨-a, by omega, fun k hk => ?_⟩
      have := hab k hk
      rw [w1] at this
      have e : -((1 : Nat) : Int) = -1 := rfl
      rw [e] at this
      grind
theorem prim_pm {m : Nat} {v w : Nat → Int} {α β : Int} (hα : α ≠ 0) (hβ : β ≠ 0) (hv : prim m v) (hw : prim m w) (h : ∀ k, k < m → α * v k = β * w k) : (∀ k, k < m → v k = w k) ∨ (∀ k, k < m → v k = - w k) := by
  have h1 := prim_le hα hβ hv h
  have h2 := prim_le hβ hα hw (fun k hk => (h k hk).symm)
  by_cases e : α = β
  · left
    intro k hk
    have := h k hk
    rw [e] at this
    exact Int.eq_of_mul_eq_mul_left hβ this
  · by_cases e2 : α = -β
    · right
      intro k hk
      have := h k hk
      rw [e2] at this
      have : β * -(v k) = β * w k := by grind
      have := Int.eq_of_mul_eq_mul_left hβ this
      omega
    · left
      intro k hk
      have a1 := h1 k hk
      have a2 := h2 k hk
      have a3 : (v k).natAbs = (w k).natAbs := by omega
      rcases Int.natAbs_eq_natAbs_iff.mp a3 with q | q
      · exact q
      · have := h k hk
        rw [q] at this ⊢
        have h4 : (α + β) * w k = 0 := by grind
        rcases Int.mul_eq_zero.mp h4 with z | z
        · exact absurd (by omega) e2
        · rw [z]; rfl
