/-! BOTH SIDES SAY THE SAME: idle, enough -/
theorem gb_nI (s i : Nat) : gb (nI s) i = (decide (i < 32) && s.testBit i) := by
  unfold gb nI
  rw [show (Int32.ofNat s).toBitVec = BitVec.ofNat 32 s from rfl, BitVec.getLsbD_ofNat]
theorem gb_32 {x : Int32} {i : Nat} (h : 32 ≤ i) : gb x i = false := by
  unfold gb
  exact BitVec.getLsbD_of_ge _ _ h
theorem gb_not {x : Int32} {i : Nat} (h : i < 32) : gb (x ^^^ -1) i = !gb x i := by
  unfold gb
  rw [Int32.toBitVec_xor, BitVec.getLsbD_xor, show (-1 : Int32).toBitVec = BitVec.allOnes 32 from rfl, BitVec.getLsbD_allOnes, decide_eq_true h, Bool.xor_true]
theorem gb_ext {x y : Int32} (h : ∀ i, i < 32 → gb x i = gb y i) : x = y := i32_bv.mpr (BitVec.eq_of_getLsbD_eq h)
theorem gb_sub {x y : Int32} : x &&& (y ^^^ -1) = 0 ↔ ∀ i, gb x i = true → gb y i = true := by
  constructor
  · intro h i hi
    by_cases w : i < 32
    · have := gb_and x (y ^^^ -1) i
      rw [h, gb_0, hi, Bool.true_and, gb_not w] at this
      cases q : gb y i with
      | true => rfl
      | false => rw [q] at this; exact Bool.noConfusion this
    · rw [gb_32 (by omega)] at hi; exact Bool.noConfusion hi
  · intro h
    refine gb_ext (fun i hi => ?_)
    rw [gb_and, gb_not hi, gb_0]
    cases q : gb x i with
    | false => rfl
    | true => rw [h i q]; rfl
theorem gb_sup {x y : Int32} : x &&& y = y ↔ ∀ i, gb y i = true → gb x i = true := by
  constructor
  · intro h i hi
    have := gb_and x y i
    rw [h, hi, Bool.and_true] at this
    exact this.symm
  · intro h
    refine gb_ext (fun i hi => ?_)
    rw [gb_and]
    cases q : gb y i with
    | false => rw [Bool.and_false]
    | true => rw [h i q]; rfl
theorem gb_al : ∀ m, m < 11 → ∀ i, i < 32 → gb (al m) i = decide (i < m) := by decide +kernel
theorem bt_gbL {x : Int32} (h : ∀ i, 10 ≤ i → gb x i = false) : ∀ i, i < 10 → bt x i = gb x i := by
  obtain ⟨n, h1, h2⟩ := gb_lt h
  rw [h2]
  exact bt_gb10 n h1
/-- the facts by bits -/
def fcP (p : Nat → Nat → Int32) : Nat → Int32
  | 0 => 0
  | i + 1 => fcP p i ||| (if p i 0 < 5 then (1 : Int32) <<< (nI i &&& 31) else 0)
theorem fcM_fcP (I : Nat → Nat → Int32) (td : Nat) : ∀ m, fcM I td m = fcP (fun i w => tdP I td i w) m
  | 0 => rfl
  | m + 1 => by
    unfold fcM fcP
    rw [fcM_fcP I td m]
theorem gb_fcP {p : Nat → Nat → Int32} {i : Nat} : ∀ {m : Nat}, m ≤ 10 → gb (fcP p m) i = decide (i < m ∧ p i 0 < 5)
  | 0, _ => by
    show gb 0 i = _
    rw [gb_0, decide_eq_false (fun w => absurd w.1 (Nat.not_lt_zero _))]
  | m + 1, hm => by
    unfold fcP
    rw [gb_or, gb_fcP (by omega)]
    by_cases q : p m 0 < 5
    · rw [if_pos q, gb_1 (by omega)]
      by_cases w : i = m
      · subst w
        rw [decide_eq_true (show i = i from rfl), Bool.or_true, decide_eq_true ⟨Nat.lt_succ_self _, q⟩]
      · rw [decide_eq_false w, Bool.or_false]
        exact decide_eq_decide.mpr ⟨fun v => ⟨by omega, v.2⟩, fun v => ⟨by omega, v.2⟩⟩
    · rw [if_neg q, gb_0, Bool.or_false]
      refine decide_eq_decide.mpr ⟨fun v => ⟨by omega, v.2⟩, fun v => ⟨?_, v.2⟩⟩
      have : i ≠ m := fun w => q (by rw [← w]; exact v.2)
      omega
theorem idM_congr {p : Nat → Nat → Int32} {q q' : Int32 → Bool} {a a' : Int32} : ∀ {m : Nat}, (∀ i, i < m → p i 0 < 5 → q (a &&& ((1 : Int32) <<< (nI i &&& 31) ^^^ -1)) = q' (a' &&& ((1 : Int32) <<< (nI i &&& 31) ^^^ -1))) → idM p q a m = idM p q' a' m
  | 0, _ => rfl
  | m + 1, h => by
    rw [idM_s, idM_s, idM_congr (fun i hi => h i (by omega))]
    by_cases w : p m 0 < 5
    · rw [h m (by omega) w]
    · rw [decide_eq_false w, Bool.false_and, Bool.false_and]
theorem gb_idM {p : Nat → Nat → Int32} {q : Int32 → Bool} {a : Int32} {i : Nat} : ∀ {m : Nat}, m ≤ 10 → gb (idM p q a m) i = (decide (i < m) && (decide (p i 0 < 5) && q (a &&& ((1 : Int32) <<< (nI i &&& 31) ^^^ -1))))
  | 0, _ => by
    show gb 0 i = _
    rw [gb_0, decide_eq_false (Nat.not_lt_zero _), Bool.false_and]
  | m + 1, hm => by
    rw [idM_s]
    by_cases w : (decide (p m 0 < 5) && q (a &&& ((1 : Int32) <<< (nI m &&& 31) ^^^ -1))) = true
    · rw [if_pos w, gb_or, gb_idM (by omega), gb_1 (by omega)]
      by_cases v : i = m
      · subst v
        rw [w, decide_eq_true (show i = i from rfl), Bool.or_true, decide_eq_true (Nat.lt_succ_self _)]; rfl
      · rw [decide_eq_false v, Bool.or_false, show decide (i < m + 1) = decide (i < m) from decide_eq_decide.mpr (by omega)]
    · rw [if_neg w, gb_idM (by omega)]
      by_cases v : i = m
      · subst v
        rw [decide_eq_false (Nat.lt_irrefl _), Bool.false_and]
        cases hh : (decide (p i 0 < 5) && q (a &&& ((1 : Int32) <<< (nI i &&& 31) ^^^ -1))) with
        | true => exact absurd hh w
        | false => rw [Bool.and_false]
      · rw [show decide (i < m + 1) = decide (i < m) from decide_eq_decide.mpr (by omega)]
/-! counting -/
theorem cN_le {f g : Nat → Bool} : ∀ {n : Nat}, (∀ i, i < n → f i = true → g i = true) → cN f n ≤ cN g n
  | 0, _ => Nat.le_refl _
  | n + 1, h => by
    have ih := cN_le (fun i hi => h i (Nat.lt_succ_of_lt hi))
    unfold cN
    by_cases w : f n = true
    · rw [if_pos w, if_pos (h n (Nat.lt_succ_self _) w)]; omega
    · rw [if_neg w]; split <;> omega
theorem cN_lt {f g : Nat → Bool} {j : Nat} : ∀ {n : Nat}, (∀ i, i < n → f i = true → g i = true) → j < n → f j = false → g j = true → cN f n < cN g n
  | 0, _, hj, _, _ => absurd hj (by omega)
  | n + 1, h, hj, h1, h2 => by
    unfold cN
    by_cases w : j = n
    · subst w
      have := cN_le (fun i hi => h i (Nat.lt_succ_of_lt hi))
      rw [h1, h2, if_pos rfl, if_neg (by decide)]; omega
    · have ih := cN_lt (n := n) (fun i hi => h i (Nat.lt_succ_of_lt hi)) (by omega) h1 h2
      by_cases v : f n = true
      · rw [if_pos v, if_pos (h n (Nat.lt_succ_self _) v)]; omega
      · rw [if_neg v]; split <;> omega
theorem cN_0 {f : Nat → Bool} : ∀ {n : Nat}, cN f n = 0 → ∀ i, i < n → f i = false
  | 0, _, i, hi => absurd hi (by omega)
  | n + 1, h, i, hi => by
    unfold cN at h
    by_cases v : i = n
    · rw [v]
      cases hh : f n with
      | false => rfl
      | true => rw [hh, if_pos rfl] at h; omega
    · exact cN_0 (n := n) (by omega) i (by omega)
def pcN (s : Nat) : Nat := cN (fun i => gb (nI s) i) 10
theorem pcN_bc : ∀ s, s < 1024 → bcJ (nI s) = nI (pcN s) := by decide +kernel
theorem pcN_m : ∀ m, m < 11 → cN (fun i => decide (i < m)) 10 = m := by decide +kernel
theorem cN_n (f : Nat → Bool) : ∀ n, cN f n ≤ n
  | 0 => Nat.le_refl _
  | n + 1 => by
    have := cN_n f n
    unfold cN
    split <;> omega
theorem pcN_10 (s : Nat) : pcN s ≤ 10 := cN_n _ 10
theorem sub_le {s t : Nat} (h : ∀ i, gb (nI s) i = true → gb (nI t) i = true) (hs : s < 1024) : s ≤ t := by
  have : s &&& t = s := Nat.eq_of_testBit_eq (fun i => by
    rw [Nat.testBit_and]
    cases q : s.testBit i with
    | false => rfl
    | true =>
      have hi : i < 32 := by
        refine Nat.not_le.mp (fun w => ?_)
        have : s.testBit i = false := Nat.testBit_lt_two_pow (Nat.lt_of_lt_of_le hs (Nat.le_trans (show 1024 ≤ 2 ^ 32 by decide) (Nat.pow_le_pow_right (by decide) w)))
        rw [this] at q; exact Bool.noConfusion q
      have e := h i (by rw [gb_nI, decide_eq_true hi, q]; rfl)
      rw [gb_nI, decide_eq_true hi, Bool.true_and] at e
      rw [e]; rfl)
  rw [← this]
  exact Nat.and_le_right
/-! the smallest set -/
def GSn (fc : Int32) (q : Int32 → Bool) (s : Nat) : Prop := s < 1024 ∧ (∀ i, gb (nI s) i = true → gb fc i = true) ∧ q (nI s) = true
def LSn (v s : Nat) : Prop := pcN v < pcN s ∨ (pcN v = pcN s ∧ v ≤ s)
theorem enL_min {fc : Int32} {q : Int32 → Bool} {M : Nat} (hM : M ≤ 1024) : ∀ n, n ≤ M → ∀ v, GSn fc q v → (∀ s, n ≤ s → s < M → GSn fc q s → LSn v s) → ∃ v', enL fc q n (nI v) = nI v' ∧ GSn fc q v' ∧ ∀ s, s < M → GSn fc q s → LSn v' s
  | 0, _, v, hv, h => ⟨v, rfl, hv, fun s hs => h s (Nat.zero_le _) hs⟩
  | n + 1, hn, v, hv, h => by
    rw [enL_s]
    by_cases w : nI n &&& (fc ^^^ -1) = 0 ∧ bcJ (nI n) ≤ bcJ (nI v) ∧ q (nI n) = true
    · rw [if_pos w]
      have hle : pcN n ≤ pcN v := by
        have := w.2.1
        rw [pcN_bc n (by omega), pcN_bc v hv.1] at this
        have a := pcN_10 n
        have b := pcN_10 v
        exact nle (by omega) (by omega) this
      have hg : GSn fc q n := ⟨by omega, gb_sub.mp w.1, w.2.2⟩
      refine enL_min hM n (by omega) n hg (fun s h1 h2 h3 => ?_)
      by_cases e : s = n
      · rw [e]; exact Or.inr ⟨rfl, Nat.le_refl _⟩
      · have := h s (by omega) h2 h3
        unfold LSn at this ⊢
        omega
    · rw [if_neg w]
      refine enL_min hM n (by omega) v hv (fun s h1 h2 h3 => ?_)
      by_cases e : s = n
      · rw [e] at h3 ⊢
        refine Or.inl (Nat.not_le.mp (fun hle => w ⟨gb_sub.mpr h3.2.1, ?_, h3.2.2⟩))
        have a := pcN_10 n
        have b := pcN_10 v
        rw [pcN_bc n (by omega), pcN_bc v hv.1]
        exact nI_le hle (by omega)
      · exact h s (by omega) h2 h3
theorem sFn_some {α : Type} {f : Nat → Option α} {w : α} : ∀ {d i j : Nat}, i ≤ j → j < i + d → f j = some w → (∀ n, i ≤ n → n < j → f n = none) → sFn f d i = some w
  | 0, i, j, h1, h2, _, _ => absurd h2 (by omega)
  | d + 1, i, j, h1, h2, h3, h4 => by
    unfold sFn
    by_cases e : i = j
    · rw [e, h3]
    · rw [h4 i (Nat.le_refl _) (by omega)]
      exact sFn_some (by omega) (by omega) h3 (fun n a b => h4 n (by omega) b)
theorem sFn_none {α : Type} {f : Nat → Option α} : ∀ {d i : Nat}, (∀ n, i ≤ n → n < i + d → f n = none) → sFn f d i = none
  | 0, i, _ => rfl
  | d + 1, i, h => by
    unfold sFn
    rw [h i (Nat.le_refl _) (by omega)]
    exact sFn_none (fun n a b => h n (by omega) (by omega))
