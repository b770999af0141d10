/-! WHAT THE PARSER READS is well made: names, units and numbers in their ranges -/
theorem fndW_in (g : Nat → Int32) (f : Nat) (s : List Int32) (k : Nat) : ∀ d i, fndW g f s k d i = -1 ∨ ∃ j, i ≤ j ∧ j < i + d ∧ fndW g f s k d i = nI j
  | 0, _ => Or.inl rfl
  | d + 1, i => by
    unfold fndW
    by_cases h : mtc g f s (i * k) k 0 = k
    · rw [if_pos h]; exact Or.inr ⟨i, Nat.le_refl _, by omega, rfl⟩
    · rw [if_neg h]
      rcases fndW_in g f s k d (i + 1) with q | ⟨j, h1, h2, h3⟩
      · exact Or.inl q
      · exact Or.inr ⟨j, by omega, by omega, h3⟩
theorem nmF_in (g : Nat → Int32) (q : zQ) : nmF g q = -1 ∨ ∃ j, j < 8 ∧ nmF g q = nI j := by
  unfold nmF fnd
  split
  · rcases fndW_in g q.1 (zsb 17) 3 8 0 with w | ⟨j, _, h2, h3⟩
    · exact Or.inl w
    · exact Or.inr ⟨j, by omega, h3⟩
  · exact Or.inl rfl
theorem unF_in (g : Nat → Int32) (q : zQ) : unF g q = -1 ∨ ∃ j, j < 4 ∧ unF g q = nI j := by
  unfold unF fnd
  split
  · rcases fndW_in g q.1 (zsb 18) 4 4 0 with w | ⟨j, _, h2, h3⟩
    · exact Or.inl w
    · exact Or.inr ⟨j, by omega, h3⟩
  · exact Or.inl rfl
theorem isD_in {c : Int32} (h : isD c = true) : ∃ d, d < 10 ∧ c = nI (48 + d) := by
  unfold isD at h
  rw [Bool.and_eq_true, decide_eq_true_eq, decide_eq_true_eq, i32l.2.1, i32l.2.1] at h
  have e1 : (48 : Int32).toInt = 48 := rfl
  have e2 : (57 : Int32).toInt = 57 := rfl
  refine ⟨(c.toInt - 48).toNat, by omega, ?_⟩
  rw [i32l.2.2, nI_toInt (by omega)]
  omega
theorem dg_step : ∀ v, v < 100 → ∀ d, d < 10 → nI v * 10 + (nI (48 + d) - 48) = nI (10 * v + d) := by decide +kernel
theorem dgW_in (g : Nat → Int32) : ∀ d p v a, d ≤ 3 → (v + 1) * 10 ^ d ≤ 1000 → dgW g d p (nI v) = some a → ∃ w, w ≤ 999 ∧ a = nI w
  | 0, p, v, a, _, hv, h => by
    have : nI v = a := Option.some.inj h
    exact ⟨v, by simp at hv; omega, this.symm⟩
  | d + 1, p, v, a, hd, hv, h => by
    unfold dgW at h
    by_cases q : isD (g p) = true
    · rw [if_pos q] at h
      obtain ⟨c, hc, e⟩ := isD_in q
      have hp : 0 < 10 ^ d := Nat.pos_of_ne_zero (by simp)
      have hv1 : v < 100 := by
        rw [Nat.pow_succ] at hv
        have : (v + 1) * 10 ≤ (v + 1) * (10 ^ d * 10) := Nat.mul_le_mul_left _ (by omega)
        omega
      rw [e, dg_step v hv1 c hc] at h
      refine dgW_in g d (p + 1) (10 * v + c) a (by omega) ?_ h
      rw [Nat.pow_succ] at hv
      have : (10 * v + c + 1) * 10 ^ d ≤ (10 * (v + 1)) * 10 ^ d := Nat.mul_le_mul_right _ (by omega)
      have e2 : (v + 1) * (10 ^ d * 10) = (10 * (v + 1)) * 10 ^ d := by
        rw [Nat.mul_comm (10 ^ d) 10, ← Nat.mul_assoc, Nat.mul_comm (v + 1) 10]
      omega
    · rw [if_neg q] at h; cases h
theorem nmW_in {g : Nat → Int32} {f e : Nat} {a : Int32} (h : nmW g f e = some a) : ∃ w, w ≤ 999 ∧ a = nI w := by
  unfold nmW at h
  by_cases q : f < e ∧ e - f ≤ 3
  · rw [if_pos q] at h
    refine dgW_in g (e - f) f 0 a q.2 ?_ h
    have : e - f = 1 ∨ e - f = 2 ∨ e - f = 3 := by omega
    rcases this with w | w | w <;> rw [w] <;> decide
  · rw [if_neg q] at h; cases h
section WPR
variable {ρ : Type} {g : Nat → Int32} {n : Nat} {q q' : zQ} {r : ρ}
theorem tk_some {s : List Int32} {k : zQ → Option ρ × zQ} (h : tk g n s q k = (some r, q')) : k (nx g n q) = (some r, q') := by
  unfold tk at h
  split at h
  · exact h
  · cases h
theorem tkN_some {u : Int32} {k : Int32 → zQ → Option ρ × zQ} (h : tkN g n u q k = (some r, q')) : ∃ j, j < 8 ∧ nI j ≠ u ∧ k (nI j) (nx g n q) = (some r, q') := by
  unfold tkN at h
  split at h
  · rename_i w
    rcases nmF_in g q with e | ⟨j, h1, h2⟩
    · exact absurd e w.1
    · exact ⟨j, h1, by rw [← h2]; exact w.2, by rw [← h2]; exact h⟩
  · cases h
theorem tkU_some {k : Int32 → zQ → Option ρ × zQ} (h : tkU g n q k = (some r, q')) : ∃ j, j < 4 ∧ k (nI j) (nx g n q) = (some r, q') := by
  unfold tkU at h
  split at h
  · rename_i w
    rcases unF_in g q with e | ⟨j, h1, h2⟩
    · exact absurd e w
    · exact ⟨j, h1, by rw [← h2]; exact h⟩
  · cases h
theorem tkD_some {k : Int32 → zQ → Option ρ × zQ} (h : tkD g n q k = (some r, q')) : ∃ j, j ≤ 999 ∧ k (nI j) (nx g n q) = (some r, q') := by
  unfold tkD at h
  split at h
  · rename_i a w
    obtain ⟨j, h1, h2⟩ := nmW_in w
    exact ⟨j, h1, by rw [← h2]; exact h⟩
  · cases h
end WPR
/-- a sentence of the parser: first name, then sort, second name, unit, number -/
def SWv (na : Nat) (v : zR) : Prop := ∃ s u n : Nat, v.1 = nI s ∧ s < 8 ∧ v.2.2.1 = nI u ∧ u < 4 ∧ v.2.2.2 = nI n ∧ n ≤ 999 ∧ (s = 3 → 2 ≤ n ∧ n ≤ 9) ∧ (((s = 0 ∨ s = 6 ∨ s = 7) ∧ v.2.1 = -1) ∨ ((s = 1 ∨ s = 2 ∨ s = 3 ∨ s = 4 ∨ s = 5) ∧ ∃ nb, v.2.1 = nI nb ∧ nb < 8 ∧ nb ≠ na))
section WPR2
variable {g : Nat → Int32} {n : Nat} {q q' : zQ} {v : zR}
theorem nI_ne' {a b : Nat} (h : nI a ≠ nI b) : a ≠ b := fun w => h (by rw [w])
theorem sw1 {na s u a : Nat} (hs : s = 0 ∨ s = 6 ∨ s = 7) (hu : u < 4) (ha : a ≤ 999) : SWv na (nI s, -1, nI u, nI a) := ⟨s, u, a, rfl, by omega, rfl, hu, rfl, ha, by omega, Or.inl ⟨hs, rfl⟩⟩
theorem sw2 {na s u a nb : Nat} (hs : s = 1 ∨ s = 2 ∨ s = 3 ∨ s = 4 ∨ s = 5) (h3 : s = 3 → 2 ≤ a ∧ a ≤ 9) (hu : u < 4) (ha : a ≤ 999) (hb : nb < 8) (hn : nI nb ≠ nI na) : SWv na (nI s, nI nb, nI u, nI a) := ⟨s, u, a, rfl, by omega, rfl, hu, rfl, ha, h3, Or.inr ⟨hs, nb, rfl, hb, nI_ne' hn⟩⟩
theorem sPl_ok {na s : Nat} (hs : s = 6 ∨ s = 7) (h : sPl g n (nI s) q = (some v, q')) : SWv na v := by
  unfold sPl at h
  obtain ⟨a, ha, h⟩ := tkD_some h
  obtain ⟨u, hu, h⟩ := tkU_some h
  cases h
  exact sw1 (Or.inr hs) hu ha
theorem sCmp_ok {na s a : Nat} (hs : s = 1 ∨ s = 2) (ha : a ≤ 999) (h : sCmp g n (nI s) (nI a) (nI na) q = (some v, q')) : SWv na v := by
  unfold sCmp at h
  obtain ⟨u, hu, h⟩ := tkU_some h
  have h := tk_some h
  obtain ⟨b, hb, hn, h⟩ := tkN_some h
  cases h
  exact sw2 (by omega) (by omega) hu ha hb hn
theorem sTim_ok {na a : Nat} (ha : 2 ≤ a ∧ a ≤ 9) (h : sTim g n (nI a) (nI na) q = (some v, q')) : SWv na v := by
  unfold sTim at h
  have h := tk_some (tk_some h)
  obtain ⟨u, hu, h⟩ := tkU_some h
  have h := tk_some h
  obtain ⟨b, hb, hn, h⟩ := tkN_some h
  cases h
  exact sw2 (s := 3) (by omega) (fun _ => ha) hu (by omega) hb hn
theorem nI_29 {a : Nat} (ha : a ≤ 999) (h : (2 : Int32) ≤ nI a ∧ nI a ≤ 9) : 2 ≤ a ∧ a ≤ 9 := by
  rw [i32l.2.1, i32l.2.1, nI_toInt (by omega)] at h
  have e1 : (2 : Int32).toInt = 2 := rfl
  have e2 : (9 : Int32).toInt = 9 := rfl
  omega
theorem sHas_ok {na : Nat} (h : sHas g n (nI na) q = (some v, q')) : SWv na v := by
  unfold sHas at h
  obtain ⟨a, ha, h⟩ := tkD_some h
  split at h
  · exact sCmp_ok (s := 1) (Or.inl rfl) ha h
  · split at h
    · exact sCmp_ok (s := 2) (Or.inr rfl) ha h
    · split at h
      · rename_i w
        exact sTim_ok (nI_29 ha w.1) h
      · obtain ⟨u, hu, h⟩ := tkU_some h
        cases h
        exact sw1 (s := 0) (Or.inl rfl) hu ha
theorem sVrb_ok {na : Nat} (h : sVrb g n (nI na) q = (some v, q')) : SWv na v := by
  unfold sVrb at h
  split at h
  · exact sHas_ok h
  · split at h
    · obtain ⟨b, hb, hn, h⟩ := tkN_some h
      have h := tk_some h
      obtain ⟨a, ha, h⟩ := tkD_some h
      obtain ⟨u, hu, h⟩ := tkU_some h
      cases h
      exact sw2 (s := 4) (by omega) (by omega) hu ha hb hn
    · split at h
      · obtain ⟨a, ha, h⟩ := tkD_some h
        obtain ⟨u, hu, h⟩ := tkU_some h
        have h := tk_some h
        obtain ⟨b, hb, hn, h⟩ := tkN_some h
        cases h
        exact sw2 (s := 5) (by omega) (by omega) hu ha hb hn
      · split at h
        · exact sPl_ok (s := 6) (Or.inl rfl) h
        · split at h
          · exact sPl_ok (s := 7) (Or.inr rfl) h
          · cases h
theorem sSen_ok {w : Int32 × zR} (h : sSen g n q = (some w, q')) : ∃ na, na < 8 ∧ w.1 = nI na ∧ SWv na w.2 := by
  unfold sSen at h
  obtain ⟨na, hna, _, h⟩ := tkN_some h
  generalize e : sVrb g n (nI na) (nx g n q) = o at h
  obtain ⟨_ | v, q1⟩ := o
  · cases h
  · have h := tk_some h
    cases h
    exact ⟨na, hna, rfl, sVrb_ok e⟩
/-- what is asked: sort, names, unit -/
def QWv (v : zR) : Prop := ∃ na u : Nat, v.2.1 = nI na ∧ na < 8 ∧ v.2.2.2 = nI u ∧ u < 4 ∧ (v.2.2.1 = -1 ∨ ∃ nb, v.2.2.1 = nI nb ∧ nb < 8 ∧ nb ≠ na)
theorem sAsk_ok (h : sAsk g n q = (some v, q')) : QWv v := by
  unfold sAsk at h
  have h := tk_some h
  obtain ⟨u, hu, h⟩ := tkU_some h
  split at h
  · cases h
  · obtain ⟨na, hna, _, h⟩ := tkN_some h
    split at h
    · have h := tk_some h
      obtain ⟨nb, hnb, hne, h⟩ := tkN_some h
      have h := tk_some h
      cases h
      exact ⟨na, u, rfl, hna, rfl, hu, Or.inr ⟨nb, rfl, hnb, nI_ne' hne⟩⟩
    · have h := tk_some h
      cases h
      exact ⟨na, u, rfl, hna, rfl, hu, Or.inl rfl⟩
theorem rec7_ok {p : Nat → Nat → Int32} {k b na : Nat} {s : Int32} {w : Int32 × zR} (hna : na < 8) (h1 : w.1 = nI na) (h : SWv na w.2) : WS (pset p k (rec7 w s b)) k := by
  obtain ⟨so, u, a, e1, e2, e3, e4, e5, e6, e7, e8⟩ := h
  have e : pset p k (rec7 w s b) k = rec7 w s b := if_pos rfl
  refine ⟨so, na, u, a, ?_, e2, ?_, hna, ?_, e4, ?_, e6, e7, ?_⟩
  · rw [e]; exact e1
  · rw [e]; exact h1
  · rw [e]; exact e3
  · rw [e]; exact e5
  · rw [e]; exact e8
theorem WS_row {p p' : Nat → Nat → Int32} {i : Nat} (e : p' i = p i) (h : WS p i) : WS p' i := by
  unfold WS at h ⊢
  rw [e]; exact h
theorem prA_ok {k : Nat} {p p' : Nat → Nat → Int32} {m : Nat} {o : Option zR × zQ} (ho : ∀ v q', o = (some v, q') → QWv v) (h : prA g n k p o = .inr (m, p', v)) : m = k ∧ p' = p ∧ QWv v := by
  obtain ⟨_ | w, q1⟩ := o
  · cases h
  · unfold prA at h
    simp only at h
    split at h
    · cases h
      exact ⟨rfl, rfl, ho _ _ rfl⟩
    · cases h
theorem prs_ok : ∀ d k q (p : Nat → Nat → Int32) m p' v, k + d ≤ 10 → (∀ i, i < k → WS p i) → prs g n d k q p = .inr (m, p', v) → WT p' m ∧ QWv v
  | 0, k, q, p, m, p', v, hk, hp, h => by
    unfold prs at h
    split at h
    · obtain ⟨rfl, rfl, h3⟩ := prA_ok (fun _ _ e => sAsk_ok e) h
      exact ⟨⟨by omega, hp⟩, h3⟩
    · cases h
  | d + 1, k, q, p, m, p', v, hk, hp, h => by
    unfold prs at h
    split at h
    · obtain ⟨rfl, rfl, h3⟩ := prA_ok (fun _ _ e => sAsk_ok e) h
      exact ⟨⟨by omega, hp⟩, h3⟩
    · generalize e : sSen g n q = o at h
      obtain ⟨_ | w, q1⟩ := o
      · cases h
      · obtain ⟨na, hna, h1, h2⟩ := sSen_ok e
        refine prs_ok d (k + 1) q1 _ m p' v (by omega) (fun i hi => ?_) h
        by_cases c : i = k
        · rw [c]; exact rec7_ok hna h1 h2
        · exact WS_row (p := p) (if_neg c) (hp i (by omega))
theorem prs0_ok {m : Nat} {p : Nat → Nat → Int32} (h : prs0 g n = .inr (m, p, v)) : WT p m ∧ QWv v := prs_ok 10 0 _ _ m p v (by omega) (fun i hi => absurd hi (Nat.not_lt_zero _)) h
end WPR2
theorem le4_lt5 {x : Int32} : x ≤ 4 ↔ x < 5 := by
  rw [i32l.2.1, i32l.1]
  have e1 : (4 : Int32).toInt = 4 := rfl
  have e2 : (5 : Int32).toInt = 5 := rfl
  omega
theorem stF_ev (p : Nat → Nat → Int32) : ∀ m, stF p m = nI (ev p m)
  | 0 => rfl
  | m + 1 => by
    unfold stF ev
    rw [stF_ev p m]
    by_cases h : p m 0 ≤ 4
    · rw [if_pos h, if_pos (le4_lt5.mp h)]; rfl
    · rw [if_neg h, if_neg (fun w => h (le4_lt5.mpr w))]
      exact nI_1 _
theorem fbF_fcP (p : Nat → Nat → Int32) : ∀ m, fbF p m = fcP p m
  | 0 => rfl
  | m + 1 => by
    unfold fbF fcP
    rw [fbF_fcP p m]
    by_cases h : p m 0 ≤ 4
    · rw [if_pos h, if_pos (le4_lt5.mp h)]
    · rw [if_neg h, if_neg (fun w => h (le4_lt5.mpr w))]
      exact (gb_ext (fun i _ => by rw [gb_or, gb_0, Bool.or_false])).symm
