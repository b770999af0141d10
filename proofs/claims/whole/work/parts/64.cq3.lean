/-! idleFacts, seekFewest, fewestFacts of the class -/
/-- what a question by facts needs of the memory -/
def CX (I : Nat → Nat → Int32) (J : Nat → Nat → Int64) (st ak : Nat) (rw g : Nat → Nat) (p : Nat → Nat → Int32) (m : Nat) (un : Int32) (na : Nat) (ob : Option Nat) (G : Int) (fc : Int32) : Prop := I st 2 = nI m ∧ I st 4 = fc ∧ (∀ i, i < m → (!decide (fc &&& (1 : Int32) <<< (nI i &&& 31) = 0)) = decide (p i 0 < 5)) ∧ (∀ i w, I (rw i) w = p i w) ∧ WT p m ∧ I st 5 ≠ 0 ∧ I ak 3 = un ∧ na < 8 ∧ (∀ nb, ob = some nb → nb < 8 ∧ nb ≠ na) ∧ ab G ≤ 1000000 ∧ (∀ i, i < m → p i 0 < 5 → e10 (J (g (40 + i))) = fct p m i) ∧ e10 (J (g 50)) = sft (qrow na ob) G
theorem CX.fr {I I' : Nat → Nat → Int32} {J J' : Nat → Nat → Int64} {st ak : Nat} {rw g : Nat → Nat} {p : Nat → Nat → Int32} {m : Nat} {un : Int32} {na : Nat} {ob : Option Nat} {G : Int} {fc : Int32} (h : CX I J st ak rw g p m un na ob G fc) (h1 : I' st = I st) (h2 : I' ak = I ak) (h3 : ∀ i, I' (rw i) = I (rw i)) (h4 : ∀ j, 40 ≤ j → j < 51 → J' (g j) = J (g j)) : CX I' J' st ak rw g p m un na ob G fc := by
  obtain ⟨a1, a2, a3, a4, a5, a6, a7, a8, a9, a10, a11, a12⟩ := h
  have hm := a5.1
  exact ⟨by rw [h1]; exact a1, by rw [h1]; exact a2, a3, fun i w => by rw [h3]; exact a4 i w, a5, by rw [h1]; exact a6, by rw [h2]; exact a7, a8, a9, a10, fun i hi hf => by rw [h4 _ (by omega) (by omega)]; exact a11 i hi hf, by rw [h4 50 (by omega) (by omega)]; exact a12⟩
def skC (q : Int32 → Bool) (nd us : Int32) (k s : Nat) : Option Nat := if bcJ (nI s) = nI k ∧ nI s &&& nd = nd ∧ nI s &&& (us ^^^ -1) = 0 ∧ q (nI s) = true then some s else none
def skS (q : Int32 → Bool) (nd us : Int32) (uz k : Nat) : Option Nat := sFn (skC q nd us k) uz 1
def skO : Option Nat → Int32
  | none => -1
  | some s => nI s
theorem idM_s {p : Nat → Nat → Int32} {q : Int32 → Bool} {a : Int32} {i : Nat} : idM p q a (i + 1) = if (decide (p i 0 < 5) && q (a &&& ((1 : Int32) <<< (nI i &&& 31) ^^^ -1))) = true then idM p q a i ||| (1 : Int32) <<< (nI i &&& 31) else idM p q a i := rfl

set_option maxHeartbeats 4000000 in
set_option maxRecDepth 100000 in
theorem c_X4_idleFacts (l : Launch) {E : zE} {S : zS} {I : Nat → Nat → Int32} {J : Nat → Nat → Int64} {R : Nat → Nat → Option Nat} {st pa ak : Nat} {rw : Nat → Nat} (hY : SY S R st pa ak rw) {su lo fl : Nat} {lw rs le g : Nat → Nat} (hU : SU S R su st lo fl lw rs le g) {p : Nat → Nat → Int32} {m : Nat} {un : Int32} {na : Nat} {ob : Option Nat} {G : Int} {fc : Int32} (hA : (∀ i, rw i ≠ su) ∧ ∀ i, rw i ≠ le 4) (hX : ¬ J su 11 = 0 → CX I J st ak rw g p m un na ob G fc) (hc : ¬ J su 11 = 0 → (I su 12 = -1 ∨ I su 12 = idM p (SBc p m un na ob) fc m)) : zIP l yX4_idleFacts wsX4_idleFacts rmX4_idleFacts E S [.ref su] (I, J, R) (fun r ν => ∃ I' J', ν = (I', J', R) ∧ r = (if J su 11 = 0 then 0 else idM p (SBc p m un na ob) fc m) ∧ (∀ q, q ≠ le 4 → q ≠ su → I' q = I q) ∧ (∀ w, w ≠ 12 → I' su w = I su w) ∧ (I' su 12 = I su 12 ∨ (¬ J su 11 = 0 ∧ I' su 12 = idM p (SBc p m un na ob) fc m)) ∧ (∀ q, q ≠ g 51 → (∀ j, j < 8 → q ≠ g (32 + j)) → J' q = J q)) := by
  refine z_metIP (cc := cX4_idleFacts) (maxL := 2) (ty := .int) (by decide) rfl (Nat.le_of_ble_eq_true rfl) (fun X h ret => ?_)
  show zV X E S 0 0 (I, J, R) 0 _ []
  obtain ⟨u1, u2, u3, u4, u5, u6, u7, u8, u9, u10, u11, u12, u13, u14, u15, u16, u17, u18, u19, u20⟩ := id hU
  have y1 := hY.1
  have hrwsu := hA.1
  have hrwle := hA.2
  have hstsu : st ≠ su := fun w => by have h1 := y1.2; rw [w, u1.2] at h1; exact absurd h1 (by decide)
  have haksu : ak ≠ su := fun w => by have h1 := hY.2.2.2.2.1.2.1; rw [w, u1.2] at h1; exact absurd h1 (by decide)
  have hstle : st ≠ le 4 := fun w => by have h1 := (u13 4 (by decide)).2.2.2.2.1.2.1; rw [← w, y1.2] at h1; exact absurd h1 (by decide)
  have hakle : ak ≠ le 4 := fun w => by have h1 := (u13 4 (by decide)).2.2.2.2.1.2.1; rw [← w, hY.2.2.2.2.1.2.1] at h1; exact absurd h1 (by decide)
  have hlesu : su ≠ le 4 := fun w => by have h1 := (u13 4 (by decide)).2.2.2.2.1.2.1; rw [← w, u1.2] at h1; exact absurd h1 (by decide)
  have hsv : ¬ J su 11 = 0 → ∀ (d i : Nat) (I2 : Nat → Nat → Int32) (J2 : Nat → Nat → Int64), i + d = m → (∀ q, q ≠ le 4 → q ≠ su → I2 q = I q) → (∀ w, w ≠ 12 → I2 su w = I su w) → (∀ q, q ≠ g 51 → (∀ j, j < 8 → q ≠ g (32 + j)) → J2 q = J q) → I2 su 12 = idM p (SBc p m un na ob) fc i → zV X E S 0 0 (I2, J2, R) 24 [(0, .ref su), (1, .int (nI i))] [] := by
    intro h11 d
    have hX0 := hX h11
    induction d with
    | zero =>
      intro i I2 J2 hi f1 f2 f3 hid
      have e : i = m := by omega
      subst e
      have hX2 : CX I2 J2 st ak rw g p i un na ob G fc := hX0.fr (f1 st hstle hstsu) (f1 ak hakle haksu) (fun j => f1 _ (hrwle j) (hrwsu j)) (fun j h1 h2 => f3 _ (hU.g_ne (by omega) (by omega) (by omega)) (fun j' hj' => hU.g_ne (by omega) (by omega) (by omega)))
      obtain ⟨x1, x2, x3, x4, x5, x6, x7, x8, x9, x10, x11, x12⟩ := id hX2
      refine z_iload_n h dX4_idleFacts_24 rfl rfl ?_
      refine z_aload_n h dX4_idleFacts_25 rfl rfl ?_
      refine z_getR h (by assumption) rfl kw4 8 (by decide) rfl (by assumption) kf_RX4_60 dX4_idleFacts_26 ?_
      refine z_callVI h (c_X3_size l y1) (by assumption) rfl gm_RX4_85 rfl ⟨rfl, rfl⟩ 0 (by decide +kernel) ⟨by decide, by decide⟩ rfl rfl (Nat.le_of_ble_eq_true rfl) ⟨Nat.zero_le _, Nat.zero_le _⟩ dX4_idleFacts_29 ?_
      rw [x1]
      refine z_icmp_ge h 81 dX4_idleFacts_32 (by decide) (fun c32 => ?_) (fun c32 => ?_)
      · refine z_aload_n h dX4_idleFacts_81 rfl rfl ?_
        refine z_getI h (by assumption) rfl kw4 12 (by decide) rfl kf_RX4_54 dX4_idleFacts_82 ?_
        refine ret ⟨I2, J2, rfl, ?_, f1, f2, Or.inr ⟨h11, hid⟩, f3⟩ dX4_idleFacts_85 rfl
        rw [if_neg h11]
        exact hid
      · exact absurd (nI_le (Nat.le_refl _) (by have := x5.1; omega)) c32
    | succ d ih =>
      intro i I2 J2 hi f1 f2 f3 hid
      have hX2 : CX I2 J2 st ak rw g p m un na ob G fc := hX0.fr (f1 st hstle hstsu) (f1 ak hakle haksu) (fun j => f1 _ (hrwle j) (hrwsu j)) (fun j h1 h2 => f3 _ (hU.g_ne (by omega) (by omega) (by omega)) (fun j' hj' => hU.g_ne (by omega) (by omega) (by omega)))
      obtain ⟨x1, x2, x3, x4, x5, x6, x7, x8, x9, x10, x11, x12⟩ := id hX2
      have hm10 := x5.1
      have him : i < m := by omega
      refine z_iload_n h dX4_idleFacts_24 rfl rfl ?_
      refine z_aload_n h dX4_idleFacts_25 rfl rfl ?_
      refine z_getR h (by assumption) rfl kw4 8 (by decide) rfl (by assumption) kf_RX4_60 dX4_idleFacts_26 ?_
      refine z_callVI h (c_X3_size l y1) (by assumption) rfl gm_RX4_85 rfl ⟨rfl, rfl⟩ 0 (by decide +kernel) ⟨by decide, by decide⟩ rfl rfl (Nat.le_of_ble_eq_true rfl) ⟨Nat.zero_le _, Nat.zero_le _⟩ dX4_idleFacts_29 ?_
      rw [x1]
      refine z_icmp_ge h 81 dX4_idleFacts_32 (by decide) (fun c32 => ?_) (fun c32 => ?_)
      · exact absurd (nle (by omega) (by omega) c32) (by omega)
      · refine z_aload_n h dX4_idleFacts_35 rfl rfl ?_
        refine z_iload_n h dX4_idleFacts_36 rfl rfl ?_
        refine z_callVI h (c_X4_isFact l u1 u10 y1) (by assumption) rfl gm_RX4_120 rfl ⟨rfl, rfl⟩ 1 (by decide +kernel) ⟨by decide, by decide⟩ rfl rfl (Nat.le_of_ble_eq_true rfl) ⟨Nat.zero_le _, Nat.zero_le _⟩ dX4_idleFacts_37 ?_
        rw [x2, x3 i him]
        refine z_if_eq h 75 dX4_idleFacts_40 (by decide) (fun c40 => ?_) (fun c40 => ?_)
        · have c40 := b2i_0.mp c40
          refine z_iinc h dX4_idleFacts_75 rfl (nI_1 i) (by decide) ?_
          refine z_goto h 24 dX4_idleFacts_78 (by decide) ?_
          exact z_lk (ih (i + 1) I2 J2 (by omega) (f1) (f2) (f3) (by rw [idM_s, c40, Bool.false_and, if_neg (by decide)]; exact hid)) ⟨rfl, rfl, trivial⟩
        · have c40 := b2i_n0.mp c40
          refine z_aload_n h dX4_idleFacts_43 rfl rfl ?_
          refine z_aload_n h dX4_idleFacts_44 rfl rfl ?_
          refine z_getR h (by assumption) rfl kw4 8 (by decide) rfl (by assumption) kf_RX4_60 dX4_idleFacts_45 ?_
          refine z_callVI h (c_X3_facts l y1) (by assumption) rfl gm_RX4_134 rfl ⟨rfl, rfl⟩ 0 (by decide +kernel) ⟨by decide, by decide⟩ rfl rfl (Nat.le_of_ble_eq_true rfl) ⟨Nat.zero_le _, Nat.zero_le _⟩ dX4_idleFacts_48 ?_
          rw [x2]
          refine z_iconst (v := 1) h dX4_idleFacts_51 (by decide) ?_
          refine z_iload_n h dX4_idleFacts_52 rfl rfl ?_
          refine z_ishl h dX4_idleFacts_53 ?_
          refine z_iconst (v := -1) h dX4_idleFacts_54 (by decide) ?_
          refine z_ixor h dX4_idleFacts_55 ?_
          refine z_iand h dX4_idleFacts_56 ?_
          refine z_callVIP h (c_X4_isSettledBy l hY hU x1 x5.1 (by rw [x2]; exact x3) x4 x5 x6 x7 x8 x9 x10 x11 x12) (by assumption) rfl gm_RX4_170 rfl ⟨rfl, rfl⟩ 1 (by decide +kernel) ⟨by decide, by decide⟩ rfl rfl (Nat.le_of_ble_eq_true rfl) ⟨Nat.zero_le _, Nat.zero_le _⟩ dX4_idleFacts_57 (fun r ν hν => ?_)
          obtain ⟨I3, J3, rfl, hr, g1, g2⟩ := hν
          subst hr
          have k1 : ∀ q, q ≠ le 4 → q ≠ su → I3 q = I q := fun q h1 h2 => (g1 q h1).trans (f1 q h1 h2)
          have k2 : I3 su = I2 su := g1 su hlesu
          have k3 : ∀ q, q ≠ g 51 → (∀ j, j < 8 → q ≠ g (32 + j)) → J3 q = J q := fun q h1 h2 => (g2 q h1 h2).trans (f3 q h1 h2)
          refine z_if_eq h 75 dX4_idleFacts_60 (by decide) (fun c60 => ?_) (fun c60 => ?_)
          · have c60 := b2i_0.mp c60
            refine z_iinc h dX4_idleFacts_75 rfl (nI_1 i) (by decide) ?_
            refine z_goto h 24 dX4_idleFacts_78 (by decide) ?_
            exact z_lk (ih (i + 1) I3 J3 (by omega) (k1) (fun w hw => by rw [k2]; exact f2 w hw) (k3) (by rw [idM_s, c40, c60, Bool.true_and, if_neg (by decide)]; rw [k2]; exact hid)) ⟨rfl, rfl, trivial⟩
          · refine z_aload_n h dX4_idleFacts_63 rfl rfl ?_
            refine z_dup h dX4_idleFacts_64 rfl ?_
            refine z_getI h (by assumption) rfl kw4 12 (by decide) rfl kf_RX4_54 dX4_idleFacts_65 ?_
            rw [k2, hid]
            refine z_iconst (v := 1) h dX4_idleFacts_68 (by decide) ?_
            refine z_iload_n h dX4_idleFacts_69 rfl rfl ?_
            refine z_ishl h dX4_idleFacts_70 ?_
            refine z_ior h dX4_idleFacts_71 ?_
            refine z_putI h (by assumption) rfl kw4 12 (by decide) rfl rfl (rfl) (rfl) kf_RX4_54 dX4_idleFacts_72 ?_
            have c60 := b2i_n0.mp c60
            refine z_iinc h dX4_idleFacts_75 rfl (nI_1 i) (by decide) ?_
            refine z_goto h 24 dX4_idleFacts_78 (by decide) ?_
            exact z_lk (ih (i + 1) _ J3 (by omega) (fun q h1 h2 => (zu_o h2).trans (k1 q h1 h2)) (fun w hw => by rw [zu_k hw, k2]; exact f2 w hw) (k3) (by rw [idM_s, c40, c60, Bool.true_and, if_pos rfl]; exact zu_s)) ⟨rfl, rfl, trivial⟩
  refine z_aload_n h dX4_idleFacts_0 rfl rfl ?_
  refine z_callVI h (c_X4_hasAnswer l u1) (by assumption) rfl gm_RX4_146 rfl ⟨rfl, rfl⟩ 0 (by decide +kernel) ⟨by decide, by decide⟩ rfl rfl (Nat.le_of_ble_eq_true rfl) ⟨Nat.zero_le _, Nat.zero_le _⟩ dX4_idleFacts_1 ?_
  refine z_if_ne h 9 dX4_idleFacts_4 (by decide) (fun c4 => ?_) (fun c4 => ?_)
  · have c4 : ¬ J su 11 = 0 := fun w => by rw [decide_eq_true w] at c4; exact absurd rfl c4
    refine z_aload_n h dX4_idleFacts_9 rfl rfl ?_
    refine z_getI h (by assumption) rfl kw4 12 (by decide) rfl kf_RX4_54 dX4_idleFacts_10 ?_
    refine z_iconst (v := -1) h dX4_idleFacts_13 (by decide) ?_
    refine z_icmp_ne h 81 dX4_idleFacts_14 (by decide) (fun c14 => ?_) (fun c14 => ?_)
    · refine z_aload_n h dX4_idleFacts_81 rfl rfl ?_
      refine z_getI h u1 rfl kw4 12 (by decide) rfl kf_RX4_54 dX4_idleFacts_82 ?_
      refine ret ⟨I, J, rfl, ?_, fun _ _ _ => rfl, fun _ _ => rfl, Or.inl rfl, fun _ _ _ => rfl⟩ dX4_idleFacts_85 rfl
      rw [if_neg c4]
      exact (hc c4).resolve_left c14
    · refine z_aload_n h dX4_idleFacts_17 rfl rfl ?_
      refine z_iconst (v := 0) h dX4_idleFacts_18 (by decide) ?_
      refine z_putI h (by assumption) rfl kw4 12 (by decide) rfl rfl (rfl) (rfl) kf_RX4_54 dX4_idleFacts_19 ?_
      refine z_iconst (v := 0) h dX4_idleFacts_22 (by decide) ?_
      refine z_istore_n h dX4_idleFacts_23 rfl (by decide) ?_
      exact z_lk (hsv c4 m 0 _ J (by omega) (fun q _ h2 => zu_o h2) (fun w hw => zu_k hw) (fun _ _ _ => rfl) zu_s) ⟨rfl, rfl, trivial⟩
  · have c4 : J su 11 = 0 := by
      by_cases w : J su 11 = 0
      · exact w
      · rw [decide_eq_false w] at c4; exact absurd c4 (by decide)
    refine z_iconst (v := 0) h dX4_idleFacts_7 (by decide) ?_
    exact ret ⟨I, J, rfl, by rw [if_pos c4], fun _ _ _ => rfl, fun _ _ => rfl, Or.inl rfl, fun _ _ _ => rfl⟩ dX4_idleFacts_8 rfl

set_option maxHeartbeats 4000000 in
set_option maxRecDepth 100000 in
theorem c_X4_seekFewest (l : Launch) {E : zE} {S : zS} {I : Nat → Nat → Int32} {J : Nat → Nat → Int64} {R : Nat → Nat → Option Nat} {st pa ak : Nat} {rw : Nat → Nat} (hY : SY S R st pa ak rw) {su lo fl : Nat} {lw rs le g : Nat → Nat} (hU : SU S R su st lo fl lw rs le g) {p : Nat → Nat → Int32} {m : Nat} {un : Int32} {na : Nat} {ob : Option Nat} {G : Int} {fc : Int32} (hA : (∀ i, rw i ≠ su) ∧ ∀ i, rw i ≠ le 4) (hX : CX I J st ak rw g p m un na ob G fc) {nd : Int32} {uz : Nat} (huz : uz < 100000) : zIP l yX4_seekFewest wsX4_seekFewest rmX4_seekFewest E S [.ref su, .int nd, .int (nI uz)] (I, J, R) (fun r ν => ∃ I' J', ν = (I', J', R) ∧ r = skO (sFn (skS (SBc p m un na ob) nd (nI uz) uz) m 1) ∧ (∀ q, q ≠ le 4 → I' q = I q) ∧ (∀ q, q ≠ g 51 → (∀ j, j < 8 → q ≠ g (32 + j)) → J' q = J q)) := by
  refine z_metIP (cc := cX4_seekFewest) (maxL := 5) (ty := .int) (by decide) rfl (Nat.le_of_ble_eq_true rfl) (fun X h ret => ?_)
  show zV X E S 0 0 (I, J, R) 0 _ []
  obtain ⟨u1, u2, u3, u4, u5, u6, u7, u8, u9, u10, u11, u12, u13, u14, u15, u16, u17, u18, u19, u20⟩ := id hU
  have y1 := hY.1
  have hrwsu := hA.1
  have hrwle := hA.2
  have hstsu : st ≠ su := fun w => by have h1 := y1.2; rw [w, u1.2] at h1; exact absurd h1 (by decide)
  have haksu : ak ≠ su := fun w => by have h1 := hY.2.2.2.2.1.2.1; rw [w, u1.2] at h1; exact absurd h1 (by decide)
  have hstle : st ≠ le 4 := fun w => by have h1 := (u13 4 (by decide)).2.2.2.2.1.2.1; rw [← w, y1.2] at h1; exact absurd h1 (by decide)
  have hakle : ak ≠ le 4 := fun w => by have h1 := (u13 4 (by decide)).2.2.2.2.1.2.1; rw [← w, hY.2.2.2.2.1.2.1] at h1; exact absurd h1 (by decide)
  have hlesu : su ≠ le 4 := fun w => by have h1 := (u13 4 (by decide)).2.2.2.2.1.2.1; rw [← w, u1.2] at h1; exact absurd h1 (by decide)
  generalize hQQ : SBc p m un na ob = Q at *
  have hQs : ∀ s, SBc p m un na ob s = Q s := fun s => by rw [← hQQ]
  have HX : ∀ (I2 : Nat → Nat → Int32) (J2 : Nat → Nat → Int64), (∀ q, q ≠ le 4 → I2 q = I q) → (∀ q, q ≠ g 51 → (∀ j, j < 8 → q ≠ g (32 + j)) → J2 q = J q) → CX I2 J2 st ak rw g p m un na ob G fc := fun I2 J2 f1 f3 => hX.fr (f1 st hstle) (f1 ak hakle) (fun j => f1 _ (hrwle j)) (fun j h1 h2 => f3 _ (hU.g_ne (by omega) (by omega) (by omega)) (fun j' hj' => hU.g_ne (by omega) (by omega) (by omega)))
  have hm10 := hX.2.2.2.2.1.1
  have LK : ∀ (dk k : Nat) (I2 : Nat → Nat → Int32) (J2 : Nat → Nat → Int64), k + dk = m + 1 → 1 ≤ k → (∀ q, q ≠ le 4 → I2 q = I q) → (∀ q, q ≠ g 51 → (∀ j, j < 8 → q ≠ g (32 + j)) → J2 q = J q) → sFn (skS Q nd (nI uz) uz) dk k = sFn (skS Q nd (nI uz) uz) m 1 → zV X E S 0 0 (I2, J2, R) 2 [(0, .ref su), (1, .int nd), (2, .int (nI uz)), (3, .int (nI k))] [] := by
    intro dk
    induction dk with
    | zero =>
      intro k I2 J2 hk hk1 f1 f3 hK
      have hn2 := (HX I2 J2 f1 f3).1
      refine z_iload_n h dX4_seekFewest_2 rfl rfl ?_
      refine z_aload_n h dX4_seekFewest_3 rfl rfl ?_
      refine z_getR h (by assumption) rfl kw4 8 (by decide) rfl (by assumption) kf_RX4_60 dX4_seekFewest_4 ?_
      refine z_callVI h (c_X3_size l y1) (by assumption) rfl gm_RX4_85 rfl ⟨rfl, rfl⟩ 0 (by decide +kernel) ⟨by decide, by decide⟩ rfl rfl (Nat.le_of_ble_eq_true rfl) ⟨Nat.zero_le _, Nat.zero_le _⟩ dX4_seekFewest_7 ?_
      rw [hn2]
      refine z_icmp_gt h 72 dX4_seekFewest_10 (by decide) (fun c10 => ?_) (fun c10 => ?_)
      · refine z_iconst (v := -1) h dX4_seekFewest_72 (by decide) ?_
        exact ret ⟨I2, J2, rfl, by rw [← hK]; rfl, f1, f3⟩ dX4_seekFewest_73 rfl
      · exact absurd ((nI_ltI (by omega) (by omega)).mpr (by omega)) c10
    | succ dk ihK =>
      intro k I2 J2 hk hk1 f1 f3 hK
      have hn2 := (HX I2 J2 f1 f3).1
      have LS : ∀ (ds s : Nat) (I3 : Nat → Nat → Int32) (J3 : Nat → Nat → Int64), s + ds = uz + 1 → (∀ q, q ≠ le 4 → I3 q = I q) → (∀ q, q ≠ g 51 → (∀ j, j < 8 → q ≠ g (32 + j)) → J3 q = J q) → sFn (skC Q nd (nI uz) k) ds s = skS Q nd (nI uz) uz k → zV X E S 0 0 (I3, J3, R) 16 [(0, .ref su), (1, .int nd), (2, .int (nI uz)), (3, .int (nI k)), (4, .int (nI s))] [] := by
        intro ds
        induction ds with
        | zero =>
          intro s I3 J3 hs g1 g3 hS
          refine z_iload h dX4_seekFewest_16 rfl ?_
          refine z_iload_n h dX4_seekFewest_18 rfl rfl ?_
          refine z_icmp_gt h 66 dX4_seekFewest_19 (by decide) (fun c19 => ?_) (fun c19 => ?_)
          · refine z_iinc h dX4_seekFewest_66 rfl (nI_1 k) (by decide) ?_
            refine z_goto h 2 dX4_seekFewest_69 (by decide) ?_
            exact z_lk (ihK (k + 1) I3 J3 (by omega) (by omega) g1 g3 (by rw [← hK, sFn_s (show skS Q nd (nI uz) uz k = none from hS.symm)])) ⟨rfl, rfl, rfl, rfl, trivial⟩
          · exact absurd ((nI_ltI (by omega) (by omega)).mpr (by omega)) c19
        | succ ds ihS =>
          intro s I3 J3 hs g1 g3 hS
          obtain ⟨x1, x2, x3, x4, x5, x6, x7, x8, x9, x10, x11, x12⟩ := id (HX I3 J3 g1 g3)
          refine z_iload h dX4_seekFewest_16 rfl ?_
          refine z_iload_n h dX4_seekFewest_18 rfl rfl ?_
          refine z_icmp_gt h 66 dX4_seekFewest_19 (by decide) (fun c19 => ?_) (fun c19 => ?_)
          · exact absurd ((nI_ltI (by omega) (by omega)).mp c19) (by omega)
          · refine z_iload h dX4_seekFewest_22 rfl ?_
            refine z_callSI h (c_J6_bitCount l) (va_cwS 1 h.2.2.2.2.1 gm_RX4_182 rfl rfl rfl (by decide +kernel) ⟨by decide, by decide⟩) rfl rfl (Nat.le_of_ble_eq_true rfl) ⟨Nat.zero_le _, Nat.zero_le _⟩ dX4_seekFewest_24 ?_
            refine z_iload_n h dX4_seekFewest_27 rfl rfl ?_
            refine z_icmp_ne h 60 dX4_seekFewest_28 (by decide) (fun c28 => ?_) (fun c28 => ?_)
            · refine z_iinc h dX4_seekFewest_60 rfl (nI_1 s) (by decide) ?_
              refine z_goto h 16 dX4_seekFewest_63 (by decide) ?_
              exact z_lk (ihS (s + 1) I3 J3 (by omega) g1 g3 (by rw [← hS, sFn_s (show skC Q nd (nI uz) k s = none from if_neg (fun v => c28 v.1))])) ⟨rfl, rfl, rfl, rfl, rfl, trivial⟩
            · refine z_iload h dX4_seekFewest_31 rfl ?_
              refine z_iload_n h dX4_seekFewest_33 rfl rfl ?_
              refine z_iand h dX4_seekFewest_34 ?_
              refine z_iload_n h dX4_seekFewest_35 rfl rfl ?_
              refine z_icmp_ne h 60 dX4_seekFewest_36 (by decide) (fun c36 => ?_) (fun c36 => ?_)
              · refine z_iinc h dX4_seekFewest_60 rfl (nI_1 s) (by decide) ?_
                refine z_goto h 16 dX4_seekFewest_63 (by decide) ?_
                exact z_lk (ihS (s + 1) I3 J3 (by omega) g1 g3 (by rw [← hS, sFn_s (show skC Q nd (nI uz) k s = none from if_neg (fun v => c36 v.2.1))])) ⟨rfl, rfl, rfl, rfl, rfl, trivial⟩
              · refine z_iload h dX4_seekFewest_39 rfl ?_
                refine z_iload_n h dX4_seekFewest_41 rfl rfl ?_
                refine z_iconst (v := -1) h dX4_seekFewest_42 (by decide) ?_
                refine z_ixor h dX4_seekFewest_43 ?_
                refine z_iand h dX4_seekFewest_44 ?_
                refine z_if_ne h 60 dX4_seekFewest_45 (by decide) (fun c45 => ?_) (fun c45 => ?_)
                · refine z_iinc h dX4_seekFewest_60 rfl (nI_1 s) (by decide) ?_
                  refine z_goto h 16 dX4_seekFewest_63 (by decide) ?_
                  exact z_lk (ihS (s + 1) I3 J3 (by omega) g1 g3 (by rw [← hS, sFn_s (show skC Q nd (nI uz) k s = none from if_neg (fun v => c45 v.2.2.1))])) ⟨rfl, rfl, rfl, rfl, rfl, trivial⟩
                · refine z_aload_n h dX4_seekFewest_48 rfl rfl ?_
                  refine z_iload h dX4_seekFewest_49 rfl ?_
                  refine z_callVIP h (c_X4_isSettledBy l hY hU x1 x5.1 (by rw [x2]; exact x3) x4 x5 x6 x7 x8 x9 x10 x11 x12) (by assumption) rfl gm_RX4_170 rfl ⟨rfl, rfl⟩ 1 (by decide +kernel) ⟨by decide, by decide⟩ rfl rfl (Nat.le_of_ble_eq_true rfl) ⟨Nat.zero_le _, Nat.zero_le _⟩ dX4_seekFewest_51 (fun r ν hν => ?_)
                  rw [hQs] at hν
                  obtain ⟨I4, J4, rfl, hr, e1, e3⟩ := hν
                  subst hr
                  have k1 : ∀ q, q ≠ le 4 → I4 q = I q := fun q h1 => (e1 q h1).trans (g1 q h1)
                  have k3 : ∀ q, q ≠ g 51 → (∀ j, j < 8 → q ≠ g (32 + j)) → J4 q = J q := fun q h1 h2 => (e3 q h1 h2).trans (g3 q h1 h2)
                  refine z_if_eq h 60 dX4_seekFewest_54 (by decide) (fun c54 => ?_) (fun c54 => ?_)
                  · have c54 := b2i_0.mp c54
                    refine z_iinc h dX4_seekFewest_60 rfl (nI_1 s) (by decide) ?_
                    refine z_goto h 16 dX4_seekFewest_63 (by decide) ?_
                    exact z_lk (ihS (s + 1) I4 J4 (by omega) k1 k3 (by rw [← hS, sFn_s (show skC Q nd (nI uz) k s = none from if_neg (fun v => by rw [c54] at v; exact absurd v.2.2.2 (by decide)))])) ⟨rfl, rfl, rfl, rfl, rfl, trivial⟩
                  · refine z_iload h dX4_seekFewest_57 rfl ?_
                    have c54 := b2i_n0.mp c54
                    refine ret ⟨I4, J4, rfl, ?_, k1, k3⟩ dX4_seekFewest_59 rfl
                    rw [← hK, sFn_f (f := skS Q nd (nI uz) uz) (v := s) (by rw [← hS]; exact sFn_f (if_pos ⟨c28, c36, c45, c54⟩))]
                    rfl
      refine z_iload_n h dX4_seekFewest_2 rfl rfl ?_
      refine z_aload_n h dX4_seekFewest_3 rfl rfl ?_
      refine z_getR h (by assumption) rfl kw4 8 (by decide) rfl (by assumption) kf_RX4_60 dX4_seekFewest_4 ?_
      refine z_callVI h (c_X3_size l y1) (by assumption) rfl gm_RX4_85 rfl ⟨rfl, rfl⟩ 0 (by decide +kernel) ⟨by decide, by decide⟩ rfl rfl (Nat.le_of_ble_eq_true rfl) ⟨Nat.zero_le _, Nat.zero_le _⟩ dX4_seekFewest_7 ?_
      rw [hn2]
      refine z_icmp_gt h 72 dX4_seekFewest_10 (by decide) (fun c10 => ?_) (fun c10 => ?_)
      · exact absurd ((nI_ltI (by omega) (by omega)).mp c10) (by omega)
      · refine z_iconst (v := 1) h dX4_seekFewest_13 (by decide) ?_
        refine z_istore h dX4_seekFewest_14 (by decide) ?_
        exact z_lk (LS uz 1 I2 J2 (by omega) f1 f3 rfl) ⟨rfl, rfl, rfl, rfl, rfl, trivial⟩
  refine z_iconst (v := 1) h dX4_seekFewest_0 (by decide) ?_
  refine z_istore_n h dX4_seekFewest_1 rfl (by decide) ?_
  exact z_lk (LK m 1 I J (by omega) (by omega) (fun _ _ => rfl) (fun _ _ _ => rfl) rfl) ⟨rfl, rfl, rfl, rfl, trivial⟩
