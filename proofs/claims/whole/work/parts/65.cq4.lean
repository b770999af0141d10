/-! fewestFacts, areAlongside, lackingName of the class -/
theorem bit_1023 : ∀ i, i < 10 → gb 1023 i = true := by decide +kernel
theorem gb_lt {x : Int32} (h : ∀ i, 10 ≤ i → gb x i = false) : ∃ n : Nat, n < 1024 ∧ x = nI n := by
  have e : x &&& 1023 = x := by
    rw [i32_bv]
    refine BitVec.eq_of_getLsbD_eq (fun i hi => ?_)
    have h1 := gb_and x 1023 i
    unfold gb at h1 h
    rw [h1]
    by_cases q : i < 10
    · have := bit_1023 i q
      unfold gb at this
      rw [this, Bool.and_true]
    · rw [h i (by omega), Bool.false_and]
  obtain ⟨j, h1, h2⟩ := pk_andE x (m := 1023) 10 (by decide)
  rw [e] at h2
  exact ⟨j, by simpa using h1, h2⟩
theorem foP_nI {p : Nat → Nat → Int32} {un : Int32} {m : Nat} (hm : m ≤ 10) : foP p un m = nI (foP p un m).toNatClampNeg ∧ (foP p un m).toNatClampNeg < 1024 := by
  obtain ⟨n, h1, h2⟩ := gb_lt (x := foP p un m) (fun i hi => by rw [gb_foP hm, decide_eq_false (fun w => by omega)])
  rw [h2, nI_clamp (by omega)]
  exact ⟨rfl, h1⟩
def fwV (p : Nat → Nat → Int32) (m : Nat) (un : Int32) (na : Nat) (ob : Option Nat) (fc : Int32) : Int32 := skO (sFn (skS (SBc p m un na ob) (fc &&& (idM p (SBc p m un na ob) fc m ^^^ -1)) (foP p un m) (foP p un m).toNatClampNeg) m 1)
def all8 (q : Nat → Bool) : Nat → Bool
  | 0 => true
  | i + 1 => all8 q i && q i
theorem all8_iff {q : Nat → Bool} : ∀ {n : Nat}, all8 q n = true ↔ ∀ i, i < n → q i = true
  | 0 => ⟨fun _ i hi => absurd hi (by omega), fun _ => rfl⟩
  | n + 1 => by
    unfold all8
    rw [Bool.and_eq_true, all8_iff]
    constructor
    · rintro ⟨h1, h2⟩ i hi
      by_cases w : i = n
      · rw [w]; exact h2
      · exact h1 i (by omega)
    · intro h
      exact ⟨fun i hi => h i (by omega), h n (by omega)⟩
def ALb (r q : Nat → Int64) : Bool := !decide (fsN r 8 0 = 8) && !decide (q (fsN r 8 0) = 0) && all8 (fun i => decide (r i * q (fsN r 8 0) = q i * r (fsN r 8 0))) 8
def alZ (ρ ε : Nat → Int) : Bool := !decide (fiN ρ 8 0 = 8) && !decide (ε (fiN ρ 8 0) = 0) && all8 (fun i => decide (ρ i * ε (fiN ρ 8 0) = ε i * ρ (fiN ρ 8 0))) 8
theorem al_eq {r q : Nat → Int64} {ρ ε : Nat → Int} {s1 s2 : Int} (h1 : s1 = 1 ∨ s1 = -1) (h2 : s2 = 1 ∨ s2 = -1) (hr : ∀ i, i < 8 → (r i).toInt = s1 * ρ i) (hq : ∀ i, i < 8 → (q i).toInt = s2 * ε i) (hb : ∀ f, f < 8 → ρ f ≠ 0 → ε f ≠ 0 → ∀ i, i < 8 → ab (ρ i) ≤ 1000000000 ∧ ab (ε i) ≤ 1000000000) : ALb r q = alZ ρ ε := by
  have hz : ∀ i, i < 8 → (r i = 0 ↔ ρ i = 0) := fun i hi => by rw [i64_0, hr i hi]; rcases h1 with w | w <;> rw [w] <;> omega
  have hz2 : ∀ i, i < 8 → (q i = 0 ↔ ε i = 0) := fun i hi => by rw [i64_0, hq i hi]; rcases h2 with w | w <;> rw [w] <;> omega
  have hfs := fs_fi hz 8 0 rfl
  unfold ALb alZ
  rw [hfs]
  have hle := fi_le ρ 8 0
  by_cases w : fiN ρ 8 0 = 8
  · rw [decide_eq_true w]; rfl
  · have hne := fi_ne ρ 8 0 (by omega)
    generalize fiN ρ 8 0 = f at *
    rw [decide_eq_false w]
    by_cases v : ε f = 0
    · rw [decide_eq_true v, decide_eq_true ((hz2 f (by omega)).mpr v)]; rfl
    · rw [decide_eq_false v, decide_eq_false (fun u => v ((hz2 f (by omega)).mp u))]
      congr 1
      rw [Bool.eq_iff_iff, all8_iff, all8_iff]
      have key : ∀ i, i < 8 → (r i * q f = q i * r f ↔ ρ i * ε f = ε i * ρ f) := by
        intro i hi
        have b := hb f (by omega) hne v
        have m1 : (r i * q f).toInt = s1 * s2 * (ρ i * ε f) := by
          have e : (r i).toInt * (q f).toInt = s1 * s2 * (ρ i * ε f) := by rw [hr i hi, hq f (by omega)]; grind
          rw [i64_mul (by rw [ab_mul, hr i hi, hq f (by omega), ab_mul, ab_mul]; have a1 : ab s1 = 1 := by { rcases h1 with w | w <;> rw [w] <;> rfl }; have a2 : ab s2 = 1 := by { rcases h2 with w | w <;> rw [w] <;> rfl }; rw [a1, a2, Int.one_mul, Int.one_mul]; have := mle (b i hi).1 (b f (by omega)).2 (ab_0 _) (by decide); omega), e]
        have m2 : (q i * r f).toInt = s1 * s2 * (ε i * ρ f) := by
          have e : (q i).toInt * (r f).toInt = s1 * s2 * (ε i * ρ f) := by rw [hr f (by omega), hq i hi]; grind
          rw [i64_mul (by rw [ab_mul, hr f (by omega), hq i hi, ab_mul, ab_mul]; have a1 : ab s1 = 1 := by { rcases h1 with w | w <;> rw [w] <;> rfl }; have a2 : ab s2 = 1 := by { rcases h2 with w | w <;> rw [w] <;> rfl }; rw [a2, a1, Int.one_mul, Int.one_mul]; have := mle (b i hi).2 (b f (by omega)).1 (ab_0 _) (by decide); omega), e]
        rw [← Int64.toInt_inj, m1, m2]
        have hs : s1 * s2 = 1 ∨ s1 * s2 = -1 := by rcases h1 with a | a <;> rcases h2 with b | b <;> rw [a, b] <;> decide
        rcases hs with hs | hs <;> rw [hs] <;> omega
      constructor
      · intro h i hi; exact decide_eq_true ((key i hi).mp (of_decide_eq_true (h i hi)))
      · intro h i hi; exact decide_eq_true ((key i hi).mpr (of_decide_eq_true (h i hi)))

set_option maxHeartbeats 4000000 in
set_option maxRecDepth 100000 in
theorem c_X4_fewestFacts (l : Launch) {E : zE} {S : zS} {I : Nat → Nat → Int32} {J : Nat → Nat → Int64} {R : Nat → Nat → Option Nat} {st pa ak : Nat} {rw : Nat → Nat} (hY : SY S R st pa ak rw) {su lo fl : Nat} {lw rs le g : Nat → Nat} (hU : SU S R su st lo fl lw rs le g) {p : Nat → Nat → Int32} {m : Nat} {un : Int32} {na : Nat} {ob : Option Nat} {G : Int} {fc : Int32} (hA : (∀ i, rw i ≠ su) ∧ ∀ i, rw i ≠ le 4) (hX : ¬ J su 11 = 0 → CX I J st ak rw g p m un na ob G fc) (hc : ¬ J su 11 = 0 → (I su 12 = -1 ∨ I su 12 = idM p (SBc p m un na ob) fc m)) (hc2 : ¬ J su 11 = 0 → (I su 13 = -1 ∨ I su 13 = fwV p m un na ob fc)) : zIP l yX4_fewestFacts wsX4_fewestFacts rmX4_fewestFacts E S [.ref su] (I, J, R) (fun r ν => ∃ I' J', ν = (I', J', R) ∧ r = (if J su 11 = 0 then I su 13 else fwV p m un na ob fc) ∧ (∀ q, q ≠ le 4 → q ≠ su → I' q = I q) ∧ (∀ w, w ≠ 12 → w ≠ 13 → I' su w = I su w) ∧ (I' su 12 = I su 12 ∨ (¬ J su 11 = 0 ∧ I' su 12 = idM p (SBc p m un na ob) fc m)) ∧ (I' su 13 = I su 13 ∨ (¬ J su 11 = 0 ∧ I' su 13 = fwV p m un na ob fc)) ∧ (∀ q, q ≠ g 51 → (∀ j, j < 8 → q ≠ g (32 + j)) → J' q = J q)) := by
  refine z_metIP (cc := cX4_fewestFacts) (maxL := 1) (ty := .int) (by decide) rfl (Nat.le_of_ble_eq_true rfl) (fun X h ret => ?_)
  show zV X E S 0 0 (I, J, R) 0 _ []
  obtain ⟨u1, u2, u3, u4, u5, u6, u7, u8, u9, u10, u11, u12, u13, u14, u15, u16, u17, u18, u19, u20⟩ := id hU
  have y1 := hY.1
  have hrwsu := hA.1
  have hrwle := hA.2
  have hstsu : st ≠ su := fun w => by have h1 := y1.2; rw [w, u1.2] at h1; exact absurd h1 (by decide)
  have haksu : ak ≠ su := fun w => by have h1 := hY.2.2.2.2.1.2.1; rw [w, u1.2] at h1; exact absurd h1 (by decide)
  have hstle : st ≠ le 4 := fun w => by have h1 := (u13 4 (by decide)).2.2.2.2.1.2.1; rw [← w, y1.2] at h1; exact absurd h1 (by decide)
  have hakle : ak ≠ le 4 := fun w => by have h1 := (u13 4 (by decide)).2.2.2.2.1.2.1; rw [← w, hY.2.2.2.2.1.2.1] at h1; exact absurd h1 (by decide)
  have hlesu : su ≠ le 4 := fun w => by have h1 := (u13 4 (by decide)).2.2.2.2.1.2.1; rw [← w, u1.2] at h1; exact absurd h1 (by decide)
  
  refine z_aload_n h dX4_fewestFacts_0 rfl rfl ?_
  refine z_callVI h (c_X4_hasAnswer l u1) (by assumption) rfl gm_RX4_146 rfl ⟨rfl, rfl⟩ 0 (by decide +kernel) ⟨by decide, by decide⟩ rfl rfl (Nat.le_of_ble_eq_true rfl) ⟨Nat.zero_le _, Nat.zero_le _⟩ dX4_fewestFacts_1 ?_
  refine z_if_eq h 49 dX4_fewestFacts_4 (by decide) (fun c4 => ?_) (fun c4 => ?_)
  · have c4 : J su 11 = 0 := by
      by_cases w : J su 11 = 0
      · exact w
      · rw [decide_eq_false w] at c4; exact absurd c4 (by decide)
    refine z_aload_n h dX4_fewestFacts_49 rfl rfl ?_
    refine z_getI h u1 rfl kw4 13 (by decide) rfl kf_RX4_57 dX4_fewestFacts_50 ?_
    exact ret ⟨I, J, rfl, by rw [if_pos c4], fun _ _ _ => rfl, fun _ _ _ => rfl, Or.inl rfl, Or.inl rfl, fun _ _ _ => rfl⟩ dX4_fewestFacts_53 rfl
  · have c4 : ¬ J su 11 = 0 := fun w => by rw [decide_eq_true w] at c4; exact absurd rfl c4
    refine z_aload_n h dX4_fewestFacts_7 rfl rfl ?_
    refine z_getI h (by assumption) rfl kw4 13 (by decide) rfl kf_RX4_57 dX4_fewestFacts_8 ?_
    refine z_iconst (v := -1) h dX4_fewestFacts_11 (by decide) ?_
    refine z_icmp_ne h 49 dX4_fewestFacts_12 (by decide) (fun c12 => ?_) (fun c12 => ?_)
    · refine z_aload_n h dX4_fewestFacts_49 rfl rfl ?_
      refine z_getI h u1 rfl kw4 13 (by decide) rfl kf_RX4_57 dX4_fewestFacts_50 ?_
      exact ret ⟨I, J, rfl, by rw [if_neg c4]; exact (hc2 c4).resolve_left c12, fun _ _ _ => rfl, fun _ _ _ => rfl, Or.inl rfl, Or.inl rfl, fun _ _ _ => rfl⟩ dX4_fewestFacts_53 rfl
    · have hX0 := hX c4
      obtain ⟨x1, x2, x3, x4, x5, x6, x7, x8, x9, x10, x11, x12⟩ := id hX0
      refine z_aload_n h dX4_fewestFacts_15 rfl rfl ?_
      refine z_aload_n h dX4_fewestFacts_16 rfl rfl ?_
      refine z_aload_n h dX4_fewestFacts_17 rfl rfl ?_
      refine z_getR h (by assumption) rfl kw4 8 (by decide) rfl (by assumption) kf_RX4_60 dX4_fewestFacts_18 ?_
      refine z_callVI h (c_X3_facts l y1) (by assumption) rfl gm_RX4_134 rfl ⟨rfl, rfl⟩ 0 (by decide +kernel) ⟨by decide, by decide⟩ rfl rfl (Nat.le_of_ble_eq_true rfl) ⟨Nat.zero_le _, Nat.zero_le _⟩ dX4_fewestFacts_21 ?_
      rw [x2]
      refine z_aload_n h dX4_fewestFacts_24 rfl rfl ?_
      refine z_callVIP h (c_X4_idleFacts l hY hU hA hX hc) (by assumption) rfl gm_RX4_173 rfl ⟨rfl, rfl⟩ 0 (by decide +kernel) ⟨by decide, by decide⟩ rfl rfl (Nat.le_of_ble_eq_true rfl) ⟨Nat.zero_le _, Nat.zero_le _⟩ dX4_fewestFacts_25 (fun r ν hν => ?_)
      obtain ⟨I1, J1, rfl, hr, f1, f2, f3, f4⟩ := hν
      rw [if_neg c4] at hr
      subst hr
      have hX1 : CX I1 J1 st ak rw g p m un na ob G fc := hX0.fr (f1 st hstle hstsu) (f1 ak hakle haksu) (fun j => f1 _ (hrwle j) (hrwsu j)) (fun j h1 h2 => f4 _ (hU.g_ne (by omega) (by omega) (by omega)) (fun j' hj' => hU.g_ne (by omega) (by omega) (by omega)))
      obtain ⟨z1, z2, z3, z4, z5, z6, z7, z8, z9, z10, z11, z12⟩ := id hX1
      obtain ⟨o1, o2⟩ := foP_nI (p := p) (un := un) x5.1
      refine z_iconst (v := -1) h dX4_fewestFacts_28 (by decide) ?_
      refine z_ixor h dX4_fewestFacts_29 ?_
      refine z_iand h dX4_fewestFacts_30 ?_
      refine z_aload_n h dX4_fewestFacts_31 rfl rfl ?_
      refine z_aload_n h dX4_fewestFacts_32 rfl rfl ?_
      refine z_getR h (by assumption) rfl kw4 8 (by decide) rfl (by assumption) kf_RX4_60 dX4_fewestFacts_33 ?_
      refine z_iconst (v := 3) h dX4_fewestFacts_36 (by decide) ?_
      refine z_callVI h (c_X3_askedN l hY (w := 3) (by decide)) (by assumption) rfl gm_RX4_105 rfl ⟨rfl, rfl⟩ 1 (by decide +kernel) ⟨by decide, by decide⟩ rfl rfl (Nat.le_of_ble_eq_true rfl) ⟨Nat.zero_le _, Nat.zero_le _⟩ dX4_fewestFacts_37 ?_
      rw [if_pos z6, z7]
      refine z_callVI h (c_X4_factsOf l hY hU z1 x5.1 (by rw [z2]; exact z3) z4) (by assumption) rfl gm_RX4_176 rfl ⟨rfl, rfl⟩ 1 (by decide +kernel) ⟨by decide, by decide⟩ rfl rfl (Nat.le_of_ble_eq_true rfl) ⟨Nat.zero_le _, Nat.zero_le _⟩ dX4_fewestFacts_40 ?_
      rw [o1]
      refine z_callVIP h (c_X4_seekFewest l hY hU hA hX1 (by omega)) (by assumption) rfl gm_RX4_179 rfl ⟨rfl, rfl⟩ 2 (by decide +kernel) ⟨by decide, by decide⟩ rfl rfl (Nat.le_of_ble_eq_true rfl) ⟨Nat.zero_le _, Nat.zero_le _⟩ dX4_fewestFacts_43 (fun r ν hν => ?_)
      obtain ⟨I2, J2, rfl, hr, g1, g2⟩ := hν
      rw [← o1] at hr
      have hr2 : r = fwV p m un na ob fc := hr
      subst hr2
      refine z_putI h (by assumption) rfl kw4 13 (by decide) rfl rfl (rfl) (rfl) kf_RX4_57 dX4_fewestFacts_46 ?_
      refine z_aload_n h dX4_fewestFacts_49 rfl rfl ?_
      refine z_getI h (by assumption) rfl kw4 13 (by decide) rfl kf_RX4_57 dX4_fewestFacts_50 ?_
      rw [zu_s]
      refine ret ⟨_, J2, rfl, by rw [if_neg c4], fun q h1 h2 => by rw [zu_o h2, g1 q h1]; exact f1 q h1 h2, fun w h1 h2 => by rw [zu_k h2, g1 su hlesu]; exact f2 w h1, ?_, Or.inr ⟨c4, zu_s⟩, fun q h1 h2 => (g2 q h1 h2).trans (f4 q h1 h2)⟩ dX4_fewestFacts_53 rfl
      rw [zu_k (by decide), g1 su hlesu]
      exact f3

set_option maxHeartbeats 4000000 in
set_option maxRecDepth 100000 in
theorem c_X4_areAlongside (l : Launch) {E : zE} {S : zS} {I : Nat → Nat → Int32} {J : Nat → Nat → Int64} {R : Nat → Nat → Option Nat} {a b : Nat} (ha : zA S a 10 10) (hb : zA S b 10 10) : zI l yX4_areAlongside wsX4_areAlongside rmX4_areAlongside E S [.ref a, .ref b] (I, J, R) (b2i (ALb (J a) (J b))) (I, J, R) := by
  refine z_metI (cc := cX4_areAlongside) (maxL := 4) (ty := .boolean) (by decide) rfl (Nat.le_of_ble_eq_true rfl) (fun X h ret => ?_)
  show zV X E S 0 0 (I, J, R) 0 _ []
  have hfst : fst8 (J a) = if fsN (J a) 8 0 = 8 then -1 else nI (fsN (J a) 8 0) := rfl
  have hle := fsN_le (J a) 8 0
  unfold ALb at ret
  generalize hf : fsN (J a) 8 0 = f at *
  have LL : ¬ f = 8 → ¬ J b f = 0 → ∀ (d i : Nat), i + d = 8 → all8 (fun i => decide (J a i * J b f = J b i * J a f)) i = true → zV X E S 0 0 (I, J, R) 22 [(0, .ref a), (1, .ref b), (2, .int (nI f)), (3, .int (nI i))] [] := by
    intro h8 h0 d
    induction d with
    | zero =>
      intro i hi hall
      have e : i = 8 := by omega
      subst e
      refine z_iload_n h dX4_areAlongside_22 rfl rfl ?_
      refine z_bipush (v := 8) h dX4_areAlongside_23 (by decide) ?_
      rw [show (8 : Int32) = nI 8 from rfl]
      refine z_icmp_ge h 54 dX4_areAlongside_25 (by decide) (fun c25 => ?_) (fun c25 => ?_)
      · refine z_iconst (v := 1) h dX4_areAlongside_54 (by decide) ?_
        rw [decide_eq_false h8, decide_eq_false h0, hall] at ret
        exact ret dX4_areAlongside_55 rfl
      · exact absurd (nI_le (by decide) (by decide)) c25
    | succ d ih =>
      intro i hi hall
      refine z_iload_n h dX4_areAlongside_22 rfl rfl ?_
      refine z_bipush (v := 8) h dX4_areAlongside_23 (by decide) ?_
      rw [show (8 : Int32) = nI 8 from rfl]
      refine z_icmp_ge h 54 dX4_areAlongside_25 (by decide) (fun c25 => ?_) (fun c25 => ?_)
      · exact absurd (nle (by decide) (by omega) c25) (by omega)
      · refine z_aload_n h dX4_areAlongside_28 rfl rfl ?_
        refine z_iload_n h dX4_areAlongside_29 rfl rfl ?_
        refine z_lald h (by assumption) (zix_nI (by omega) (by decide)) dX4_areAlongside_30 ?_
        refine z_aload_n h dX4_areAlongside_31 rfl rfl ?_
        refine z_iload_n h dX4_areAlongside_32 rfl rfl ?_
        refine z_lald h (by assumption) (zix_nI (by omega) (by decide)) dX4_areAlongside_33 ?_
        refine z_lmul h dX4_areAlongside_34 ?_
        refine z_aload_n h dX4_areAlongside_35 rfl rfl ?_
        refine z_iload_n h dX4_areAlongside_36 rfl rfl ?_
        refine z_lald h (by assumption) (zix_nI (by omega) (by decide)) dX4_areAlongside_37 ?_
        refine z_aload_n h dX4_areAlongside_38 rfl rfl ?_
        refine z_iload_n h dX4_areAlongside_39 rfl rfl ?_
        refine z_lald h (by assumption) (zix_nI (by omega) (by decide)) dX4_areAlongside_40 ?_
        refine z_lmul h dX4_areAlongside_41 ?_
        refine z_lcmp h dX4_areAlongside_42 ?_
        refine z_if_eq h 48 dX4_areAlongside_43 (by decide) (fun c43 => ?_) (fun c43 => ?_)
        · have c43 := (lg_cmp_eq _ _).mp c43
          refine z_iinc h dX4_areAlongside_48 rfl (nI_1 i) (by decide) ?_
          refine z_goto h 22 dX4_areAlongside_51 (by decide) ?_
          exact z_lk (ih (i + 1) (by omega) (by unfold all8; rw [hall, Bool.true_and]; exact decide_eq_true c43)) ⟨rfl, rfl, rfl, rfl, trivial⟩
        · have c43 := mt (lg_cmp_eq _ _).mpr c43
          refine z_iconst (v := 0) h dX4_areAlongside_46 (by decide) ?_
          have hn : all8 (fun i => decide (J a i * J b f = J b i * J a f)) 8 = false := by
            cases hh : all8 (fun i => decide (J a i * J b f = J b i * J a f)) 8 with
            | false => rfl
            | true => exact absurd (of_decide_eq_true (all8_iff.mp hh i (by omega))) c43
          rw [hn, Bool.and_false] at ret
          exact ret dX4_areAlongside_47 rfl
  refine z_aload_n h dX4_areAlongside_0 rfl rfl ?_
  refine z_callSI h (c_X1_firstName l ha) (va_cwS 1 h.2.2.2.2.1 gm_RX4_142 rfl rfl rfl (by decide +kernel) ⟨by decide, by decide⟩) rfl rfl (Nat.le_of_ble_eq_true rfl) ⟨Nat.zero_le _, Nat.zero_le _⟩ dX4_areAlongside_1 ?_
  rw [hfst]
  refine z_istore_n h dX4_areAlongside_4 rfl (by decide) ?_
  refine z_iload_n h dX4_areAlongside_5 rfl rfl ?_
  refine z_iconst (v := -1) h dX4_areAlongside_6 (by decide) ?_
  refine z_icmp_eq h 18 dX4_areAlongside_7 (by decide) (fun c7 => ?_) (fun c7 => ?_)
  · have h8 : f = 8 := by
      by_cases w : f = 8
      · exact w
      · rw [if_neg w] at c7; exact absurd c7 (nI_nm1 (by omega))
    rw [decide_eq_true h8, show (!true && !decide (J b f = 0) && all8 (fun i => decide (J a i * J b f = J b i * J a f)) 8) = false from rfl] at ret
    refine z_iconst (v := 0) h dX4_areAlongside_18 (by decide) ?_
    exact ret dX4_areAlongside_19 rfl
  · have h8 : ¬ f = 8 := fun w => c7 (by rw [if_pos w])
    rw [if_neg h8]
    refine z_aload_n h dX4_areAlongside_10 rfl rfl ?_
    refine z_iload_n h dX4_areAlongside_11 rfl rfl ?_
    refine z_lald h (by assumption) (zix_nI (by omega) (by decide)) dX4_areAlongside_12 ?_
    refine z_lconst (v := 0) h dX4_areAlongside_13 (by decide) ?_
    refine z_lcmp h dX4_areAlongside_14 ?_
    refine z_if_ne h 20 dX4_areAlongside_15 (by decide) (fun c15 => ?_) (fun c15 => ?_)
    · have c15 := mt (lg_cmp_eq _ _).mpr c15
      refine z_iconst (v := 0) h dX4_areAlongside_20 (by decide) ?_
      refine z_istore_n h dX4_areAlongside_21 rfl (by decide) ?_
      exact z_lk (LL h8 c15 8 0 rfl rfl) ⟨rfl, rfl, rfl, rfl, trivial⟩
    · have c15 := (lg_cmp_eq _ _).mp c15
      rw [decide_eq_true c15, decide_eq_false h8, show (!false && !true && all8 (fun i => decide (J a i * J b f = J b i * J a f)) 8) = false from rfl] at ret
      refine z_iconst (v := 0) h dX4_areAlongside_18 (by decide) ?_
      exact ret dX4_areAlongside_19 rfl
