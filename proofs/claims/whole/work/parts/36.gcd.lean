/-! THE COMMON DIVISOR, as both work it out -/
def eu : Nat → Int64 → Int64 → Int64
  | 0, x, _ => x
  | n + 1, x, y => if y = 0 then x else eu n y (x - x / y * y)
def lab (x : Int64) : Int64 := if 0 ≤ x then x else -x
def cg (a b : Int64) : Int64 := eu ((lab b).toInt.natAbs) (lab a) (lab b)
theorem lab_alt (x : Int64) : (if 0 < x then x else -x) = lab x := by
  unfold lab
  by_cases h : 0 < x
  · rw [if_pos h, if_pos (Int64.le_of_lt h)]
  · rw [if_neg h]
    by_cases g : 0 ≤ x
    · rw [if_pos g]
      have : x = 0 := Int64.le_antisymm (Int64.not_lt.mp h) g
      rw [this]; rfl
    · rw [if_neg g]
theorem rem_mod (x y : Int64) : x - x / y * y = x % y := Int64.toInt_inj.mp (by
  rw [Int64.toInt_sub, Int64.toInt_mul, Int64.toInt_div, Int64.toInt_mod]
  have e : (x.toInt - (((x.toInt.tdiv y.toInt).bmod (2 ^ 64)) * y.toInt).bmod (2 ^ 64)).bmod (2 ^ 64) = (x.toInt.tmod y.toInt).bmod (2 ^ 64) := by
    rw [Int.tmod_def, Int.mul_comm y.toInt]
    simp
  rw [e, ← Int64.toInt_mod]
  exact Int64.toInt_bmod _)
theorem rem_na (x y : Int64) : (x - x / y * y).toInt.natAbs = x.toInt.natAbs % y.toInt.natAbs := by
  rw [rem_mod, Int64.toInt_mod, Int.natAbs_tmod]
theorem i64_0 {y : Int64} : y = 0 ↔ y.toInt = 0 := by
  rw [← Int64.toInt_inj]
  rfl
theorem i64_na {y : Int64} : y = 0 ↔ y.toInt.natAbs = 0 := by rw [i64_0]; omega
def st0 : Nat → Int64 → Int64 → Prop
  | 0, _, y => y = 0
  | n + 1, x, y => y = 0 ∨ st0 n y (x - x / y * y)
theorem eu_0 {n : Nat} {x : Int64} : eu n x 0 = x := by cases n <;> simp [eu]
theorem eu_st : ∀ {n m : Nat} {x y : Int64}, st0 n x y → n ≤ m → eu m x y = eu n x y
  | 0, m, x, y, h, _ => by rw [show y = 0 from h, eu_0, eu_0]
  | n + 1, 0, x, y, _, h => absurd h (by omega)
  | n + 1, m + 1, x, y, h, hm => by
    unfold eu
    by_cases q : y = 0
    · rw [if_pos q, if_pos q]
    · rw [if_neg q, if_neg q]
      exact eu_st (h.resolve_left q) (by omega)
theorem st_na : ∀ {n : Nat} {x y : Int64}, y.toInt.natAbs ≤ n → st0 n x y
  | 0, x, y, h => i64_na.mpr (by omega)
  | n + 1, x, y, h => by
    by_cases q : y = 0
    · exact Or.inl q
    · right
      refine st_na ?_
      rw [rem_na]
      have := Nat.mod_lt x.toInt.natAbs (show 0 < y.toInt.natAbs by have := mt i64_na.mpr q; omega)
      omega
theorem half_mod {Y Z n : Nat} (h : Y < 2 ^ (n + 1)) (h0 : 0 < Z) (hz : Z < Y) : Y % Z < 2 ^ n := by
  rw [Nat.pow_succ] at h
  by_cases q : 2 * Z ≤ Y
  · have := Nat.mod_lt Y h0
    omega
  · rw [Nat.mod_eq_sub_mod (by omega), Nat.mod_eq_of_lt (by omega)]
    omega
theorem st_log : ∀ {n : Nat} {x y : Int64}, y.toInt.natAbs < 2 ^ n → st0 (2 * n) x y
  | 0, x, y, h => i64_na.mpr (by simpa using h)
  | n + 1, x, y, h => by
    by_cases q : y = 0
    · exact Or.inl q
    · right
      by_cases q2 : x - x / y * y = 0
      · exact Or.inl q2
      · right
        refine st_log ?_
        rw [rem_na]
        have hy : 0 < y.toInt.natAbs := by have := mt i64_na.mpr q; omega
        have h1 := Nat.mod_lt x.toInt.natAbs hy
        rw [← rem_na] at h1
        exact half_mod h (by have := mt i64_na.mpr q2; omega) h1
theorem eu_cg (a b : Int64) : eu 200 (lab a) (lab b) = cg a b := by
  have h2 := st_na (x := lab a) (Nat.le_refl (lab b).toInt.natAbs)
  by_cases q : (lab b).toInt.natAbs < 2 ^ 64
  · have h1 := st_log (x := lab a) q
    unfold cg
    rw [eu_st h1 (by decide)]
    by_cases w : 2 * 64 ≤ (lab b).toInt.natAbs
    · exact (eu_st h1 w).symm
    · exact eu_st h2 (by omega)
  · exfalso
    have h3 := Int64.toInt_lt (lab b)
    have h4 := Int64.le_toInt (lab b)
    omega
theorem eu_gcd : ∀ {n : Nat} {x y : Int64}, st0 n x y → (eu n x y).toInt.natAbs = Nat.gcd x.toInt.natAbs y.toInt.natAbs
  | 0, x, y, h => by
    rw [show y = 0 from h]
    show x.toInt.natAbs = Nat.gcd x.toInt.natAbs 0
    rw [Nat.gcd_zero_right]
  | n + 1, x, y, h => by
    unfold eu
    by_cases q : y = 0
    · rw [if_pos q, q]
      show x.toInt.natAbs = Nat.gcd x.toInt.natAbs 0
      rw [Nat.gcd_zero_right]
    · rw [if_neg q, eu_gcd (h.resolve_left q), rem_na, Nat.gcd_comm x.toInt.natAbs, Nat.gcd_rec y.toInt.natAbs x.toInt.natAbs, Nat.gcd_comm]
theorem eu_nn : ∀ {n : Nat} {x y : Int64}, 0 ≤ x.toInt → 0 ≤ y.toInt → 0 ≤ (eu n x y).toInt
  | 0, x, y, hx, _ => hx
  | n + 1, x, y, hx, hy => by
    unfold eu
    split
    · exact hx
    · refine eu_nn hy ?_
      rw [rem_mod, Int64.toInt_mod]
      exact Int.tmod_nonneg _ hx
theorem lab_na (x : Int64) : (lab x).toInt.natAbs = x.toInt.natAbs := by
  unfold lab
  split
  · rfl
  · rw [Int64.toInt_neg]
    have h3 := Int64.toInt_lt x
    have h4 := Int64.le_toInt x
    by_cases q : x.toInt = -2 ^ 63
    · rw [q]; decide
    · rw [Int.bmod_eq_of_le (by omega) (by omega)]
      omega
theorem lab_nn {x : Int64} (h : x.toInt ≠ -2 ^ 63) : 0 ≤ (lab x).toInt := by
  unfold lab
  split
  · next q => exact Int64.le_iff_toInt_le.mp q
  · next q =>
    have q2 : x.toInt < 0 := by
      have := mt (Int64.le_iff_toInt_le (x := 0) (y := x)).mpr q
      have : ¬ (0 : Int) ≤ x.toInt := this
      omega
    rw [Int64.toInt_neg]
    have h3 := Int64.toInt_lt x
    have h4 := Int64.le_toInt x
    rw [Int.bmod_eq_of_le (by omega) (by omega)]
    omega
theorem cg_na (a b : Int64) : (cg a b).toInt.natAbs = Nat.gcd a.toInt.natAbs b.toInt.natAbs := by
  unfold cg
  rw [eu_gcd (st_na (Nat.le_refl _)), lab_na, lab_na]
theorem cg_toInt {a b : Int64} (ha : a.toInt ≠ -2 ^ 63) (hb : b.toInt ≠ -2 ^ 63) : (cg a b).toInt = (Nat.gcd a.toInt.natAbs b.toInt.natAbs : Int) := by
  have h1 : 0 ≤ (cg a b).toInt := eu_nn (lab_nn ha) (lab_nn hb)
  have h2 := cg_na a b
  omega

set_option maxHeartbeats 4000000 in
set_option maxRecDepth 100000 in
theorem c_X7_common (l : Launch) {E : zE} {S : zS} {I : Nat → Nat → Int32} {J : Nat → Nat → Int64} {R : Nat → Nat → Option Nat} {a b : Int64} : zL l yX7_common wsX7_common rmX7_common E S [.long a, .long b] (I, J, R) (cg a b) (I, J, R) := by
  refine z_metL (cc := cX7_common) (maxL := 10) (by decide) rfl (Nat.le_of_ble_eq_true rfl) (fun X h ret => ?_)
  show zV X E S 0 0 (I, J, R) 0 _ []
  have LL : ∀ (n : Nat) (x y : Int64), y.toInt.natAbs ≤ n → eu n x y = cg a b → zV X E S 0 0 (I, J, R) 12 [(4, .long x), (6, .long y)] [] := by
    intro n
    induction n with
    | zero =>
      intro x y hy he
      have hy0 : y = 0 := i64_na.mpr (by omega)
      subst hy0
      have hx : x = cg a b := he
      subst hx
      refine z_lload h dX7_common_12 rfl ?_
      refine z_lconst (v := 0) h dX7_common_14 (by decide) ?_
      refine z_lcmp h dX7_common_15 ?_
      refine z_if_eq h 37 dX7_common_16 (by decide) (fun c16 => ?_) (fun c16 => ?_)
      · have c16 := (lg_cmp_eq _ _).mp c16
        refine z_lload h dX7_common_37 rfl ?_
        exact ret dX7_common_39
      · have c16 := mt (lg_cmp_eq _ _).mpr c16
        exact absurd rfl c16
    | succ n ih =>
      intro x y hy he
      refine z_lload h dX7_common_12 rfl ?_
      refine z_lconst (v := 0) h dX7_common_14 (by decide) ?_
      refine z_lcmp h dX7_common_15 ?_
      refine z_if_eq h 37 dX7_common_16 (by decide) (fun c16 => ?_) (fun c16 => ?_)
      · have c16 := (lg_cmp_eq _ _).mp c16
        subst c16
        rw [show x = cg a b from he]
        refine z_lload h dX7_common_37 rfl ?_
        exact ret dX7_common_39
      · have c16 := mt (lg_cmp_eq _ _).mpr c16
        refine z_lload h dX7_common_19 rfl ?_
        refine z_lload h dX7_common_21 rfl ?_
        refine z_lrem h dX7_common_23 (c16) ?_
        refine z_lstore h dX7_common_24 (by decide) ?_
        refine z_lload h dX7_common_26 rfl ?_
        refine z_lstore h dX7_common_28 (by decide) ?_
        refine z_lload h dX7_common_30 rfl ?_
        refine z_lstore h dX7_common_32 (by decide) ?_
        refine z_goto h 12 dX7_common_34 (by decide) ?_
        exact z_lk (ih y (x - x / y * y) (by rw [rem_na]; have := Nat.mod_lt x.toInt.natAbs (show 0 < y.toInt.natAbs by have := mt i64_na.mpr c16; omega); omega) (by unfold eu at he; rw [if_neg c16] at he; exact he)) ⟨rfl, rfl, trivial⟩
  refine z_lload_n h dX7_common_0 rfl rfl ?_
  refine z_mabs h kab_l kab_s kab_i kab_c (by decide) (by decide) ⟨Nat.zero_le _, Nat.zero_le _⟩ dX7_common_1 ?_
  rw [lab_alt]
  refine z_lstore h dX7_common_4 (by decide) ?_
  refine z_lload_n h dX7_common_6 rfl rfl ?_
  refine z_mabs h kab_l kab_s kab_i kab_c (by decide) (by decide) ⟨Nat.zero_le _, Nat.zero_le _⟩ dX7_common_7 ?_
  rw [lab_alt]
  refine z_lstore h dX7_common_10 (by decide) ?_
  exact z_lk (LL _ (lab a) (lab b) (Nat.le_refl _) rfl) ⟨rfl, rfl, trivial⟩

set_option maxHeartbeats 4000000 in
set_option maxRecDepth 100000 in
theorem c_X1_gcd (l : Launch) {E : zE} {S : zS} {I : Nat → Nat → Int32} {J : Nat → Nat → Int64} {R : Nat → Nat → Option Nat} {a b : Int64} : zL l yX1_gcd wsX1_gcd rmX1_gcd E S [.long a, .long b] (I, J, R) (cg a b) (I, J, R) := by
  refine z_metL (cc := cX1_gcd) (maxL := 11) (by decide) rfl (Nat.le_of_ble_eq_true rfl) (fun X h ret => ?_)
  show zV X E S 0 0 (I, J, R) 0 _ []
  rw [← eu_cg a b] at ret
  have LL : ∀ (n i : Nat) (x y : Int64), i + n = 200 → eu n x y = eu 200 (lab a) (lab b) → zV X E S 0 0 (I, J, R) 31 [(4, .long x), (6, .long y), (8, .int (nI i))] [] := by
    intro n
    induction n with
    | zero =>
      intro i x y hi he
      have hi2 : i = 200 := by omega
      subst hi2
      have hx : x = eu 200 (lab a) (lab b) := he
      rw [← hx] at ret
      refine z_iload h dX1_gcd_31 rfl ?_
      refine z_sipush (v := 200) h dX1_gcd_33 (by decide) ?_
      rw [show (200 : Int32) = nI 200 from rfl]
      refine z_icmp_ge h 67 dX1_gcd_36 (by decide) (fun c36 => ?_) (fun c36 => ?_)
      · refine z_lload h dX1_gcd_67 rfl ?_
        exact ret dX1_gcd_69
      · exact absurd (nI_le (by decide) (by decide)) c36
    | succ n ih =>
      intro i x y hi he
      refine z_iload h dX1_gcd_31 rfl ?_
      refine z_sipush (v := 200) h dX1_gcd_33 (by decide) ?_
      rw [show (200 : Int32) = nI 200 from rfl]
      refine z_icmp_ge h 67 dX1_gcd_36 (by decide) (fun c36 => ?_) (fun c36 => ?_)
      · exact absurd (nle (by decide) (by omega) c36) (by omega)
      · refine z_lload h dX1_gcd_39 rfl ?_
        refine z_lconst (v := 0) h dX1_gcd_41 (by decide) ?_
        refine z_lcmp h dX1_gcd_42 ?_
        refine z_if_eq h 67 dX1_gcd_43 (by decide) (fun c43 => ?_) (fun c43 => ?_)
        · have c43 := (lg_cmp_eq _ _).mp c43
          subst c43
          rw [eu_0] at he
          rw [← he] at ret
          refine z_lload h dX1_gcd_67 rfl ?_
          exact ret dX1_gcd_69
        · have c43 := mt (lg_cmp_eq _ _).mpr c43
          refine z_lload h dX1_gcd_46 rfl ?_
          refine z_lload h dX1_gcd_48 rfl ?_
          refine z_lrem h dX1_gcd_50 (c43) ?_
          refine z_lstore h dX1_gcd_51 (by decide) ?_
          refine z_lload h dX1_gcd_53 rfl ?_
          refine z_lstore h dX1_gcd_55 (by decide) ?_
          refine z_lload h dX1_gcd_57 rfl ?_
          refine z_lstore h dX1_gcd_59 (by decide) ?_
          refine z_iinc h dX1_gcd_61 rfl (nI_1 i) (by decide) ?_
          refine z_goto h 31 dX1_gcd_64 (by decide) ?_
          exact z_lk (ih (i + 1) y (x - x / y * y) (by omega) (by unfold eu at he; rw [if_neg c43] at he; exact he)) ⟨rfl, rfl, rfl, trivial⟩
  have M14 : ∀ x, x = lab a → zV X E S 0 0 (I, J, R) 14 [(2, .long b), (4, .long x)] [] := by
    intro x hx
    subst hx
    refine z_lload_n h dX1_gcd_14 rfl rfl ?_
    refine z_lconst (v := 0) h dX1_gcd_15 (by decide) ?_
    refine z_lcmp h dX1_gcd_16 ?_
    refine z_if_ge h 25 dX1_gcd_17 (by decide) (fun c17 => ?_) (fun c17 => ?_)
    · have c17 := (lg_cmp_ge _ _).mp c17
      have e17 : b = lab b := (if_pos c17).symm
      refine z_lload_n h dX1_gcd_25 rfl rfl ?_
      refine z_lstore h dX1_gcd_26 (by decide) ?_
      refine z_iconst (v := 0) h dX1_gcd_28 (by decide) ?_
      refine z_istore h dX1_gcd_29 (by decide) ?_
      rw [e17]
      exact z_lk (LL 200 0 (lab a) (lab b) rfl rfl) ⟨rfl, rfl, rfl, trivial⟩
    · have c17 := mt (lg_cmp_ge _ _).mpr c17
      have e17 : -b = lab b := (if_neg c17).symm
      refine z_lload_n h dX1_gcd_20 rfl rfl ?_
      refine z_lneg h dX1_gcd_21 ?_
      refine z_goto h 26 dX1_gcd_22 (by decide) ?_
      refine z_lstore h dX1_gcd_26 (by decide) ?_
      refine z_iconst (v := 0) h dX1_gcd_28 (by decide) ?_
      refine z_istore h dX1_gcd_29 (by decide) ?_
      rw [e17]
      exact z_lk (LL 200 0 (lab a) (lab b) rfl rfl) ⟨rfl, rfl, rfl, trivial⟩
  refine z_lload_n h dX1_gcd_0 rfl rfl ?_
  refine z_lconst (v := 0) h dX1_gcd_1 (by decide) ?_
  refine z_lcmp h dX1_gcd_2 ?_
  refine z_if_ge h 11 dX1_gcd_3 (by decide) (fun c3 => ?_) (fun c3 => ?_)
  · have c3 := (lg_cmp_ge _ _).mp c3
    refine z_lload_n h dX1_gcd_11 rfl rfl ?_
    refine z_lstore h dX1_gcd_12 (by decide) ?_
    exact z_lk (M14 _ (by first | exact (if_pos c3).symm | exact (if_neg c3).symm)) ⟨rfl, rfl, trivial⟩
  · have c3 := mt (lg_cmp_ge _ _).mpr c3
    refine z_lload_n h dX1_gcd_6 rfl rfl ?_
    refine z_lneg h dX1_gcd_7 ?_
    refine z_goto h 12 dX1_gcd_8 (by decide) ?_
    refine z_lstore h dX1_gcd_12 (by decide) ?_
    exact z_lk (M14 _ (by first | exact (if_pos c3).symm | exact (if_neg c3).symm)) ⟨rfl, rfl, trivial⟩
