/-! BOTH SIDES SAY THE SAME: amounts, what is strange, how many are settled -/
/-- what the class keeps of the amounts at first -/
def BT (J : Nat → Nat → Int64) (g : Nat → Nat) (p : Nat → Nat → Int32) (m : Nat) : Prop := ∀ v k, v < 4 → k < 8 → ((QC p m = -1 ∧ sd (rhoA p m v k) = true → (J (g 53) (8 * v + k)).toInt = val 0 (rhoA p m v k) 0 ∧ (J (g 54) (8 * v + k)).toInt = val 1 (rhoA p m v k) 0) ∧ (¬ (QC p m = -1 ∧ sd (rhoA p m v k) = true) → J (g 54) (8 * v + k) = 0))
section EQ7
variable {J : Nat → Nat → Int64} {g : Nat → Nat} {p : Nat → Nat → Int32} {m : Nat}
theorem tp_eq (hW : WT p m) (hB : BT J g p m) {v k : Nat} (hv : v < 4) (hk : k < 8) (h : QC p m = -1 ∧ sd (rhoA p m v k) = true) (sg : Int32) : (tpC J g p m v k sg).toInt = val 0 (rhoA p m v k) (gz p (nI k) (nI v) sg m) ∧ (J (g 54) (8 * v + k)).toInt = val 1 (rhoA p m v k) (gz p (nI k) (nI v) sg m) ∧ rhoA p m v k 8 ≠ 0 := by
  have hm := hW.1
  obtain ⟨b1, b2⟩ := (hB v k hv hk).1 h
  have hob : ∀ nb, (none : Option Nat) = some nb → nb < 8 ∧ nb ≠ k := fun _ w => by cases w
  have hri := (gth_ri hW (nI v) aT m (Nat.le_refl _)).1
  have hkk := kc_le (kk_KC (p := p) hm)
  have hq := q_bound hkk.1 hkk.2 hri hk hob h.2
  have h8 : rhoA p m v k 8 ≠ 0 := redu_80 hri (qrow_8 hk hob)
  have hG := gz_b5 hW (nI k) (nI v) sg
  have eG := gnC_gz hW.1 hW.2 (nI k) (nI v) sg m (Nat.le_refl _)
  have q8 : ab (rhoA p m v k 8) ≤ 1000000000 := hq.1
  have q9 : ab (rhoA p m v k 9) ≤ 1000000000000000 := hq.2.1
  have v0 : ab (val 0 (rhoA p m v k) 0) ≤ 1000000000000000 := by
    unfold val
    rw [if_pos rfl, Int.mul_zero, Int.add_zero]
    split
    · exact q9
    · rw [ab_neg]; exact q9
  have v1 : ab (val 1 (rhoA p m v k) 0) ≤ 1000000000 := by
    unfold val
    rw [if_neg (show ¬ (1 : Int32) = 0 by decide)]
    split
    · exact q8
    · rw [ab_neg]; exact q8
  have hp : ab (val 1 (rhoA p m v k) 0 * gz p (nI k) (nI v) sg m) ≤ 1000000000 * 10000 := by
    rw [ab_mul]; exact mle v1 hG (ab_0 _) (by decide)
  refine ⟨?_, by rw [b2]; exact val_1 _ _ _, h8⟩
  unfold tpC
  have e1 : (J (g 54) (8 * v + k) * gnC p (nI k) (nI v) sg m).toInt = val 1 (rhoA p m v k) 0 * gz p (nI k) (nI v) sg m := by
    rw [i64_mul (by rw [b2, eG]; omega), b2, eG]
  rw [i64_add (by rw [b1, e1]; unfold ab at *; omega), b1, e1, val_0]
theorem w8 {w : Int32} {n : Nat} (hn : n < 100) : (0 ≤ w ∧ w < nI (n + 1)) ↔ (0 ≤ w ∧ w ≤ nI n) := by
  rw [Int32.le_iff_toInt_le, Int32.le_iff_toInt_le, Int32.lt_iff_toInt_lt, nI_toInt (by omega), nI_toInt (by omega)]
  omega
theorem ns_eq {sg : Int32} {n : Nat} (hn : n < 100) : sg < nI n ↔ sg ≤ nI n - 1 := by
  cases n with
  | zero =>
    show sg < 0 ↔ sg ≤ -1
    rw [Int32.le_iff_toInt_le, Int32.lt_iff_toInt_lt]
    show sg.toInt < 0 ↔ sg.toInt ≤ -1
    omega
  | succ n =>
    rw [nI_succ, show nI n + 1 - 1 = nI n by rw [Int32.add_sub_cancel], ← nI_succ, Int32.le_iff_toInt_le, Int32.lt_iff_toInt_lt, nI_toInt (by omega), nI_toInt (by omega)]
    omega
theorem amt_eq (hW : WT p m) (hB : BT J g p m) {nm un sg w : Int32} {ns : Nat} (hns : ns < 100) {r : Int64} (hr : r.toInt = (if (0 ≤ w ∧ w ≤ 1) ∧ (0 ≤ nm ∧ nm ≤ 7) ∧ (0 ≤ un ∧ un ≤ 3) ∧ (0 ≤ sg ∧ sg ≤ nI ns - 1) ∧ QA p m = -1 ∧ AB p m un (bt (al m)) nm.toNatClampNeg none = true then val w (redu (gth p m un (bt (al m)) m).1 (qrow nm.toNatClampNeg none)) (gz p nm un sg m) else -1000000000000)) : r = (if (0 ≤ nm ∧ nm < 8) ∧ (0 ≤ un ∧ un < 4) ∧ 0 ≤ sg ∧ sg < nI ns then apC (tpC J g p m un.toNatClampNeg nm.toNatClampNeg sg) (J (g 54) (8 * un.toNatClampNeg + nm.toNatClampNeg)) w else UNT) := by
  have hm := hW.1
  have e7 : (0 ≤ nm ∧ nm ≤ 7) ↔ (0 ≤ nm ∧ nm < 8) := (w8 (w := nm) (n := 7) (by decide)).symm
  have e3 : (0 ≤ un ∧ un ≤ 3) ↔ (0 ≤ un ∧ un < 4) := (w8 (w := un) (n := 3) (by decide)).symm
  by_cases c : (0 ≤ nm ∧ nm < 8) ∧ (0 ≤ un ∧ un < 4) ∧ 0 ≤ sg ∧ sg < nI ns
  · rw [if_pos c]
    obtain ⟨⟨c1, c2⟩, ⟨c3, c4⟩, c5, c6⟩ := c
    obtain ⟨k, hk, ek⟩ : ∃ k : Nat, k < 8 ∧ nm = nI k := by
      refine ⟨nm.toInt.toNat, ?_, ?_⟩ <;> rw [Int32.le_iff_toInt_le] at c1 <;> rw [Int32.lt_iff_toInt_lt] at c2
      · have c1 : 0 ≤ nm.toInt := c1
        have c2 : nm.toInt < 8 := c2
        omega
      · have c1 : 0 ≤ nm.toInt := c1
        have c2 : nm.toInt < 8 := c2
        rw [← Int32.toInt_inj, nI_toInt (by omega)]; omega
    obtain ⟨v, hv, ev⟩ : ∃ k : Nat, k < 4 ∧ un = nI k := by
      refine ⟨un.toInt.toNat, ?_, ?_⟩ <;> rw [Int32.le_iff_toInt_le] at c3 <;> rw [Int32.lt_iff_toInt_lt] at c4
      · have c3 : 0 ≤ un.toInt := c3
        have c4 : un.toInt < 4 := c4
        omega
      · have c3 : 0 ≤ un.toInt := c3
        have c4 : un.toInt < 4 := c4
        rw [← Int32.toInt_inj, nI_toInt (by omega)]; omega
    subst ek ev
    rw [nI_clamp (by omega)] at hr ⊢
    rw [nI_clamp (by omega)]
    rw [gth_all hm, QA_QC hm] at hr
    have hAB : QC p m = -1 → AB p m (nI v) (bt (al m)) k none = sd (rhoA p m v k) := fun hq => AB_rhoQ hW hq
    refine ans_eq (C := QC p m = -1 ∧ sd (rhoA p m v k) = true) (ρ := rhoA p m v k) (G := gz p (nI k) (nI v) sg m) (fun hC => tp_eq hW hB hv hk hC sg) (hB v k hv hk).2 ⟨fun hC => ?_, fun hC => ?_⟩
    · rw [if_pos ⟨hC.1, e7.mpr ⟨c1, c2⟩, e3.mpr ⟨c3, c4⟩, ⟨c5, (ns_eq hns).mp c6⟩, hC.2.1, by rw [hAB hC.2.1]; exact hC.2.2⟩] at hr
      exact hr
    · rw [if_neg (fun q => hC ⟨q.1, q.2.2.2.2.1, by rw [← hAB q.2.2.2.2.1]; exact q.2.2.2.2.2⟩)] at hr
      exact hr
  · rw [if_neg c]
    rw [if_neg (fun q => c ⟨e7.mp q.2.1, e3.mp q.2.2.1, q.2.2.2.1.1, (ns_eq hns).mpr q.2.2.2.1.2⟩)] at hr
    rw [← Int64.toInt_inj, hr]; rfl
/-! strange -/
theorem sFn_congr {α : Type} {f f' : Nat → Option α} : ∀ {d i : Nat}, (∀ n, i ≤ n → n < i + d → f n = f' n) → sFn f d i = sFn f' d i
  | 0, _, _ => rfl
  | d + 1, i, h => by
    unfold sFn
    rw [h i (Nat.le_refl _) (by omega), sFn_congr (d := d) (i := i + 1) (fun n a b => h n (by omega) (by omega))]
theorem st_eq (hW : WT p m) (hB : BT J g p m) (hq : QC p m = -1) {v k : Nat} (hv : v < 4) (hk : k < 8) (sg : Int32) : stC J g p m v k sg = stq p m sg (nI v) k := by
  have hm := hW.1
  unfold stC stq
  rw [AB_rhoQ hW hq, gth_all hm]
  by_cases c : sd (rhoA p m v k) = true
  · obtain ⟨a1, a2, a3⟩ := tp_eq hW hB hv hk ⟨hq, c⟩ sg
    have n0 : J (g 54) (8 * v + k) ≠ 0 := fun q => val_1n a3 (by rw [← a2, q]; rfl)
    rw [decide_eq_false n0, show sd (rhoQ p m v k none) = true from c, Bool.true_and]
    show (true && (!decide (J (g 54) (8 * v + k) = 1) || decide (tpC J g p m v k sg < 0))) = !(decide (0 ≤ val 0 (rhoA p m v k) (gz p (nI k) (nI v) sg m)) && decide (val 1 (rhoA p m v k) (gz p (nI k) (nI v) sg m) = 1))
    rw [Bool.true_and, Bool.eq_iff_iff]
    simp only [Bool.or_eq_true, Bool.not_eq_true', decide_eq_false_iff_not, decide_eq_true_eq, Bool.and_eq_false_imp, i64_eq1, i64_lt0, a1, a2]
    constructor
    · intro h w
      rcases h with h | h
      · exact h
      · omega
    · intro h
      by_cases w : 0 ≤ val 0 (rhoA p m v k) (gz p (nI k) (nI v) sg m)
      · exact Or.inl (h w)
      · exact Or.inr (by omega)
  · have e : sd (rhoQ p m v k none) = false := by
      cases hh : sd (rhoQ p m v k none) with
      | false => rfl
      | true => exact absurd hh c
    rw [e, Bool.false_and, decide_eq_true ((hB v k hv hk).2 (fun w => c w.2))]
    rfl
theorem st_no (hB : BT J g p m) (hq : ¬ QC p m = -1) {v k : Nat} (hv : v < 4) (hk : k < 8) (sg : Int32) : stC J g p m v k sg = false := by
  unfold stC
  rw [decide_eq_true ((hB v k hv hk).2 (fun w => hq w.1))]
  rfl
theorem w02 {w : Int32} : (0 ≤ w ∧ w ≤ 2) ↔ (w = 0 ∨ w = 1 ∨ w = 2) := by
  rw [Int32.le_iff_toInt_le, Int32.le_iff_toInt_le, ← Int32.toInt_inj, ← Int32.toInt_inj, ← Int32.toInt_inj]
  show (0 ≤ w.toInt ∧ w.toInt ≤ 2) ↔ (w.toInt = 0 ∨ w.toInt = 1 ∨ w.toInt = 2)
  omega
theorem str_eq (hW : WT p m) (hB : BT J g p m) {t w : Int32} {ns : Nat} (hns : stg t p m = ns) (h0 : t = 0 → ns = 0) : (if t ≠ 0 ∧ (0 ≤ w ∧ w ≤ 2) ∧ QA p m = -1 then stO w (sFn (stT p m) (stg t p m) 0) else -1) = scO w (sFn (scT (fun t u k => stC J g p m u k (nI t))) ns 0) := by
  have hm := hW.1
  rw [QA_QC hm, hns]
  by_cases ht : t = 0
  · rw [if_neg (fun q => q.1 ht), h0 ht]; rfl
  by_cases hq : QC p m = -1
  · have e : sFn (scT (fun t u k => stC J g p m u k (nI t))) ns 0 = sFn (stT p m) ns 0 := by
      refine sFn_congr (fun a _ _ => ?_)
      unfold scT stT
      refine sFn_congr (fun b _ hb => ?_)
      unfold scU stU
      refine sFn_congr (fun c _ hc => ?_)
      unfold scN stN
      show (if stC J g p m b c (nI a) = true then some (a, b, c) else none) = _
      rw [st_eq hW hB hq (by omega) (by omega)]
    rw [e]
    by_cases hw : 0 ≤ w ∧ w ≤ 2
    · rw [if_pos ⟨ht, hw, hq⟩]
      cases sFn (stT p m) ns 0 with
      | none => rfl
      | some o =>
        show (if w = 0 then _ else if w = 1 then _ else _) = chO w o
        unfold chO
        rcases w02.mp hw with q | q | q <;> rw [q] <;> rfl
    · rw [if_neg (fun q => hw q.2.1)]
      cases sFn (stT p m) ns 0 with
      | none => rfl
      | some o =>
        show -1 = chO w o
        unfold chO
        rw [w02] at hw
        rw [if_neg (fun q => hw (Or.inl q)), if_neg (fun q => hw (Or.inr (Or.inl q))), if_neg (fun q => hw (Or.inr (Or.inr q)))]
  · rw [if_neg (fun q => hq q.2.2), sFn_none (fun a _ _ => ?_)]
    · rfl
    · unfold scT
      refine sFn_none (fun b _ hb => ?_)
      unfold scU
      refine sFn_none (fun c _ hc => ?_)
      unfold scN
      show (if stC J g p m b c (nI a) = true then some (a, b, c) else none) = _
      rw [st_no hB hq (by omega) (by omega), if_neg (by decide)]
/-! how many -/
theorem cN_add {f : Nat → Bool} {a : Nat} : ∀ b, cN f (a + b) = cN f a + cN (fun i => f (a + i)) b
  | 0 => rfl
  | b + 1 => by
    show cN f (a + b) + _ = cN f a + (cN _ b + _)
    rw [cN_add b, Nat.add_assoc]
    rfl
theorem cN_congr {f f' : Nat → Bool} : ∀ {n : Nat}, (∀ i, i < n → f i = f' i) → cN f n = cN f' n
  | 0, _ => rfl
  | n + 1, h => by
    unfold cN
    rw [cN_congr (fun i hi => h i (by omega)), h n (by omega)]
theorem cU_cN {f : Nat → Nat → Bool} {f' : Nat → Bool} : ∀ {u : Nat}, (∀ v k, v < u → k < 8 → f v k = f' (8 * v + k)) → cU f u = cN f' (8 * u)
  | 0, _ => rfl
  | u + 1, h => by
    unfold cU
    rw [show 8 * (u + 1) = 8 * u + 8 from rfl, cN_add, cU_cN (fun v k hv => h v k (by omega)), cN_congr (fun k hk => h u k (by omega) hk)]
theorem cn_eq (hW : WT p m) (hB : BT J g p m) {t : Int32} (h0 : t = 0 → m = 0) : (if t ≠ 0 ∧ QA p m = -1 then nI (cU (fun u k => AB p m (nI u) (bt (al m)) k none) 4) else 0) = nI (cN (fun k => !decide (J (g 54) k = 0)) 32) := by
  have hm := hW.1
  rw [QA_QC hm]
  have hz : (∀ v k, v < 4 → k < 8 → J (g 54) (8 * v + k) = 0) → nI (cN (fun k => !decide (J (g 54) k = 0)) 32) = 0 := by
    intro h
    have e : cU (fun _ _ => false) 4 = cN (fun k => !decide (J (g 54) k = 0)) (8 * 4) := cU_cN (fun v k hv hk => by rw [decide_eq_true (h v k hv hk)]; rfl)
    rw [show (32 : Nat) = 8 * 4 from rfl, ← e]
    rfl
  by_cases hq : QC p m = -1
  · by_cases ht : t = 0
    · rw [if_neg (fun q => q.1 ht), hz (fun v k hv hk => (hB v k hv hk).2 (fun q => ?_))]
      have hm0 := h0 ht
      subst hm0
      have : sd (rhoA p 0 v k) = false := qrow_nz (ob := none) hk (fun _ w => by cases w)
      rw [this] at q
      exact Bool.noConfusion q.2
    · rw [if_pos ⟨ht, hq⟩]
      congr 1
      refine cU_cN (u := 4) (fun v k hv hk => ?_)
      rw [AB_rhoQ hW hq]
      cases c : sd (rhoQ p m v k none) with
      | true =>
        have a := tp_eq hW hB hv hk ⟨hq, c⟩ 0
        rw [decide_eq_false (fun q => val_1n a.2.2 (by rw [← a.2.1, q]; rfl))]; rfl
      | false =>
        rw [decide_eq_true ((hB v k hv hk).2 (fun w => by
          have : sd (rhoQ p m v k none) = true := w.2
          rw [c] at this; exact Bool.noConfusion this))]; rfl
  · rw [if_neg (fun q => hq q.2), hz (fun v k hv hk => (hB v k hv hk).2 (fun q => hq q.1))]
end EQ7
