/-! LINES: rows of whole numbers over m places, their sums with a vector, elimination, what a row is by the solutions of others -/
def dt (r x : Nat → Int) : Nat → Int
  | 0 => 0
  | m + 1 => dt r x m + r m * x m
theorem dt_comb (r b x : Nat → Int) (p c : Int) : ∀ m, dt (fun k => r k * p - b k * c) x m = p * dt r x m - c * dt b x m
  | 0 => by simp [dt]
  | m + 1 => by
    simp only [dt]
    rw [dt_comb r b x p c m]
    grind
theorem dt_sc {r q x : Nat → Int} {t : Int} : ∀ {m : Nat}, (∀ k, k < m → r k = t * q k) → dt r x m = t * dt q x m
  | 0, _ => by simp [dt]
  | m + 1, h => by
    simp only [dt]
    rw [dt_sc (fun k hk => h k (by omega)), h m (by omega)]
    grind
theorem dt_eq {r q x y : Nat → Int} : ∀ {m : Nat}, (∀ k, k < m → r k = q k) → (∀ k, k < m → x k = y k) → dt r x m = dt q y m
  | 0, _, _ => rfl
  | m + 1, h, g => by
    simp only [dt]
    rw [dt_eq (fun k hk => h k (by omega)) (fun k hk => g k (by omega)), h m (by omega), g m (by omega)]
theorem dt_0 {r x : Nat → Int} : ∀ {m : Nat}, (∀ k, k < m → r k * x k = 0) → dt r x m = 0
  | 0, _ => rfl
  | m + 1, h => by
    simp only [dt]
    rw [dt_0 (fun k hk => h k (by omega)), h m (by omega)]
    rfl
/-- one place apart -/
theorem dt_at {r x : Nat → Int} {j : Nat} : ∀ {m : Nat}, j < m → dt r x m = r j * x j + dt r (fun k => if k = j then 0 else x k) m
  | 0, h => absurd h (by omega)
  | m + 1, h => by
    simp only [dt]
    by_cases e : j = m
    · subst e
      rw [if_pos rfl, dt_eq (r := r) (q := r) (x := x) (y := fun k => if k = j then 0 else x k) (fun _ _ => rfl) (fun k hk => by rw [if_neg (by omega)])]
      grind
    · rw [dt_at (j := j) (m := m) (by omega), if_neg (fun q => e q.symm)]
      grind
/-- the common divisor of the first m -/
def gv (e : Nat → Int) : Nat → Nat
  | 0 => 0
  | m + 1 => Nat.gcd (gv e m) (e m).natAbs
theorem gv_dvd {e : Nat → Int} : ∀ {m k : Nat}, k < m → (gv e m : Int) ∣ e k
  | 0, k, h => absurd h (by omega)
  | m + 1, k, h => by
    unfold gv
    by_cases q : k = m
    · subst q
      exact Int.ofNat_dvd_left.mpr (Nat.gcd_dvd_right _ _)
    · exact Int.dvd_trans (Int.ofNat_dvd.mpr (Nat.gcd_dvd_left _ _)) (gv_dvd (by omega))
theorem dvd_gv {e : Nat → Int} {d : Nat} : ∀ {m : Nat}, (∀ k, k < m → (d : Int) ∣ e k) → d ∣ gv e m
  | 0, _ => by unfold gv; exact Nat.dvd_zero d
  | m + 1, h => by
    unfold gv
    exact Nat.dvd_gcd (dvd_gv (fun k hk => h k (by omega))) (Int.ofNat_dvd_left.mp (h m (by omega)))
/-- a row without a common divisor (or all 0) -/
def prim (m : Nat) (v : Nat → Int) : Prop := gv v m ≤ 1
/-- a row over its common divisor -/
def nrm (m : Nat) (e : Nat → Int) : Nat → Int := fun k => if 1 < gv e m then e k / (gv e m : Int) else e k
theorem nrm_mul {m : Nat} {e : Nat → Int} : ∃ t : Int, 0 < t ∧ ∀ k, k < m → e k = t * nrm m e k := by
  by_cases h : 1 < gv e m
  · refine ⟨gv e m, by omega, fun k hk => ?_⟩
    unfold nrm
    rw [if_pos h]
    exact (Int.mul_ediv_cancel' (gv_dvd hk)).symm
  · refine ⟨1, by decide, fun k hk => ?_⟩
    unfold nrm
    rw [if_neg h]
    omega
theorem nrm_prim {m : Nat} {e : Nat → Int} : prim m (nrm m e) := by
  unfold prim
  by_cases h : 1 < gv e m
  · have hd : ∀ k, k < m → ((gv e m * gv (nrm m e) m : Nat) : Int) ∣ e k := by
      intro k hk
      have h1 : e k = (gv e m : Int) * nrm m e k := by
        unfold nrm
        rw [if_pos h]
        exact (Int.mul_ediv_cancel' (gv_dvd hk)).symm
      rw [h1, Int.natCast_mul]
      exact Int.mul_dvd_mul_left _ (gv_dvd hk)
    have h2 := dvd_gv hd
    have h3 := Nat.le_of_dvd (by omega) h2
    by_cases q : gv (nrm m e) m ≤ 1
    · exact q
    · have : gv e m * 2 ≤ gv e m * gv (nrm m e) m := Nat.mul_le_mul_left _ (by omega)
      omega
  · have : gv (nrm m e) m = gv e m := by
      congr 1
      funext k
      unfold nrm
      rw [if_neg h]
    omega
/-- two rows that are one but for factors: the one without a common divisor is the smaller -/
theorem prim_le {m : Nat} {v w : Nat → Int} {α β : Int} (hα : α ≠ 0) (hβ : β ≠ 0) (hv : prim m v) (h : ∀ k, k < m → α * v k = β * w k) : ∀ k, k < m → (v k).natAbs ≤ (w k).natAbs := by
  intro k hk
  -- α' and β' without a common divisor
  have hg : (Int.gcd α β : Int) ≠ 0 := by
    have := Int.gcd_pos_of_ne_zero_left β hα
    omega
  obtain ⟨a, ha⟩ : (Int.gcd α β : Int) ∣ α := Int.gcd_dvd_left ..
  obtain ⟨b, hb⟩ : (Int.gcd α β : Int) ∣ β := Int.gcd_dvd_right ..
  have hcop : Int.gcd a b = 1 := by
    have h0 : 0 < Int.gcd α β := Int.gcd_pos_of_ne_zero_left β hα
    have e1 : Int.gcd ((Int.gcd α β : Int) * a) ((Int.gcd α β : Int) * b) = Int.gcd α β * Int.gcd a b := by
      rw [Int.gcd_mul_left]
      simp
    rw [← ha, ← hb] at e1
    have : Int.gcd α β * Int.gcd a b = Int.gcd α β * 1 := by omega
    exact Nat.eq_of_mul_eq_mul_left h0 this
  have hab : ∀ k, k < m → a * v k = b * w k := by
    intro j hj
    have h1 := h j hj
    rw [ha, hb] at h1
    have : (Int.gcd α β : Int) * (a * v j) = (Int.gcd α β : Int) * (b * w j) := by grind
    exact Int.eq_of_mul_eq_mul_left hg this
  have hb0 : b ≠ 0 := fun q => hβ (by rw [hb, q]; simp)
  have ha0 : a ≠ 0 := fun q => hα (by rw [ha, q]; simp)
  -- b divides every v k
  have hdv : ∀ j, j < m → b ∣ v j := by
    intro j hj
    have h1 : b ∣ a * v j := ⟨w j, hab j hj⟩
    have h2 : b.natAbs ∣ a.natAbs * (v j).natAbs := by rw [← Int.natAbs_mul]; exact Int.natAbs_dvd_natAbs.mpr h1
    have h3 : Nat.Coprime b.natAbs a.natAbs := by unfold Nat.Coprime; rw [Nat.gcd_comm]; exact hcop
    exact Int.natAbs_dvd_natAbs.mp (h3.dvd_of_dvd_mul_left h2)
  have hbd : b.natAbs ∣ gv v m := dvd_gv (fun j hj => Int.natAbs_dvd.mpr (hdv j hj))
  have hk1 := hab k hk
  by_cases h0 : v k = 0
  · rw [h0]; exact Nat.zero_le _
  · have hg0 : gv v m ≠ 0 := by
      intro q
      have h2 : ((gv v m : Nat) : Int) ∣ v k := gv_dvd hk
      rw [q] at h2
      exact h0 (Int.zero_dvd.mp h2)
    have hb1 : b.natAbs = 1 := by
      have h3 := Nat.le_of_dvd (by omega) hbd
      have : b.natAbs ≠ 0 := fun q => hb0 (Int.natAbs_eq_zero.mp q)
      have h4 : gv v m ≤ 1 := hv
      omega
    have h5 : a.natAbs * (v k).natAbs = (w k).natAbs := by
      have := congrArg Int.natAbs hk1
      rw [Int.natAbs_mul, Int.natAbs_mul, hb1, Nat.one_mul] at this
      exact this
    have h6 : 1 ≤ a.natAbs := by
      have : a.natAbs ≠ 0 := fun q => ha0 (Int.natAbs_eq_zero.mp q)
      omega
    calc (v k).natAbs = 1 * (v k).natAbs := (Nat.one_mul _).symm
      _ ≤ a.natAbs * (v k).natAbs := Nat.mul_le_mul_right _ h6
      _ = (w k).natAbs := h5
/-! ECHELONS: rows with a leading place each; a later row has 0 at the leading places of the earlier ones -/
def Ech (m : Nat) : List (Nat × (Nat → Int)) → Prop
  | [] => True
  | q :: es => q.1 < m ∧ q.2 q.1 ≠ 0 ∧ (∀ p ∈ es, p.2 q.1 = 0 ∧ p.1 ≠ q.1) ∧ Ech m es
def Sol (m : Nat) (es : List (Nat × (Nat → Int))) (x : Nat → Int) : Prop := ∀ q ∈ es, dt q.2 x m = 0
/-- any numbers at the places that lead no row are, but for a factor, those of a solution -/
theorem ech_free {m : Nat} : ∀ {es : List (Nat × (Nat → Int))}, Ech m es → ∀ f : Nat → Int, ∃ (s : Int) (x : Nat → Int), s ≠ 0 ∧ Sol m es x ∧ ∀ k, (∀ q ∈ es, q.1 ≠ k) → x k = s * f k
  | [], _, f => ⟨1, f, by decide, fun q h => absurd h List.not_mem_nil, fun k _ => by omega⟩
  | q :: es, h, f => by
    obtain ⟨hm, hne, hz, he⟩ := h
    obtain ⟨s, x, hs, hx, hf⟩ := ech_free he f
    refine ⟨s * q.2 q.1, fun k => if k = q.1 then - dt q.2 (fun k => if k = q.1 then 0 else x k) m else q.2 q.1 * x k, Int.mul_ne_zero hs hne, ?_, ?_⟩
    · intro p hp
      rcases List.mem_cons.mp hp with e | e
      · rw [e, dt_at hm, if_pos rfl]
        have : dt q.2 (fun k => if k = q.1 then 0 else (if k = q.1 then - dt q.2 (fun k => if k = q.1 then 0 else x k) m else q.2 q.1 * x k)) m = q.2 q.1 * dt q.2 (fun k => if k = q.1 then 0 else x k) m := by
          have h1 : ∀ r y : Nat → Int, ∀ t : Int, ∀ m, dt r (fun k => t * y k) m = t * dt r y m := by
            intro r y t m
            induction m with
            | zero => simp [dt]
            | succ m ih => simp only [dt]; rw [ih]; grind
          rw [← h1]
          refine dt_eq (fun _ _ => rfl) (fun k _ => ?_)
          by_cases w : k = q.1
          · rw [if_pos w, if_pos w]; simp
          · rw [if_neg w, if_neg w, if_neg w]
        rw [this]
        grind
      · have h1 := hx p e
        have hz1 := (hz p e).1
        rw [dt_at hm, if_pos rfl, hz1]
        have : dt p.2 (fun k => if k = q.1 then 0 else (if k = q.1 then - dt q.2 (fun k => if k = q.1 then 0 else x k) m else q.2 q.1 * x k)) m = q.2 q.1 * dt p.2 (fun k => if k = q.1 then 0 else x k) m := by
          have h1 : ∀ r y : Nat → Int, ∀ t : Int, ∀ m, dt r (fun k => t * y k) m = t * dt r y m := by
            intro r y t m
            induction m with
            | zero => simp [dt]
            | succ m ih => simp only [dt]; rw [ih]; grind
          rw [← h1]
          refine dt_eq (fun _ _ => rfl) (fun k _ => ?_)
          by_cases w : k = q.1
          · rw [if_pos w, if_pos w]; simp
          · rw [if_neg w, if_neg w, if_neg w]
        rw [this]
        rw [dt_at hm, hz1] at h1
        grind
    · intro k hk
      have h1 : k ≠ q.1 := fun e => hk q List.mem_cons_self e.symm
      show (if k = q.1 then _ else q.2 q.1 * x k) = _
      rw [if_neg h1, hf k (fun p hp => hk p (List.mem_cons_of_mem _ hp))]
      grind
/-- a row off the leading places that is 0 at every solution is 0 -/
theorem ech_zero {m : Nat} {es : List (Nat × (Nat → Int))} (he : Ech m es) {v : Nat → Int} (hv : ∀ q ∈ es, v q.1 = 0) (h : ∀ x, Sol m es x → dt v x m = 0) : ∀ k, k < m → v k = 0 := by
  intro k hk
  by_cases hl : ∃ q ∈ es, q.1 = k
  · obtain ⟨q, hq, e⟩ := hl
    rw [← e]; exact hv q hq
  · obtain ⟨s, x, hs, hx, hf⟩ := ech_free he (fun j => if j = k then 1 else 0)
    have h1 := h x hx
    rw [dt_at hk] at h1
    have h2 : dt v (fun j => if j = k then 0 else x j) m = 0 := by
      refine dt_0 (fun j hj => ?_)
      by_cases w : j = k
      · rw [if_pos w]; simp
      · rw [if_neg w]
        by_cases u : ∃ q ∈ es, q.1 = j
        · obtain ⟨q, hq, e⟩ := u
          rw [← e, hv q hq]; simp
        · rw [hf j (fun q hq e => u ⟨q, hq, e⟩), if_neg w]; simp
    rw [h2, hf k (fun q hq e => hl ⟨q, hq, e⟩), if_pos rfl] at h1
    have h3 : v k * s = 0 := by grind
    rcases Int.mul_eq_zero.mp h3 with q | q
    · exact q
    · exact absurd q hs
/-- two rows off the leading places that are one but for factors at every solution are so at every place -/
theorem ech_same {m : Nat} {es : List (Nat × (Nat → Int))} (he : Ech m es) {v w : Nat → Int} (hv : ∀ q ∈ es, v q.1 = 0) (hw : ∀ q ∈ es, w q.1 = 0) {α β : Int} (h : ∀ x, Sol m es x → α * dt v x m = β * dt w x m) : ∀ k, k < m → α * v k = β * w k := by
  intro k hk
  have h0 := ech_zero he (v := fun k => v k * α - w k * β) (fun q hq => by rw [hv q hq, hw q hq]; simp) (fun x hx => by rw [dt_comb]; have := h x hx; grind) k hk
  grind
