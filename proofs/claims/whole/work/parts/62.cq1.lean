/-! WHAT IS ASKED OF THE CLASS's SUMS -/
def UNT : Int64 := -1000000000000
def apC (t b : Int64) (w : Int32) : Int64 := if b = 0 then UNT else if w = 0 then t else if w = 1 then b else UNT
def tpC (J : Nat → Nat → Int64) (g : Nat → Nat) (p : Nat → Nat → Int32) (m u n : Nat) (sg : Int32) : Int64 := J (g 53) (8 * u + n) + J (g 54) (8 * u + n) * gnC p (nI n) (nI u) sg m
def stC (J : Nat → Nat → Int64) (g : Nat → Nat) (p : Nat → Nat → Int32) (m u n : Nat) (sg : Int32) : Bool := !decide (J (g 54) (8 * u + n) = 0) && (!decide (J (g 54) (8 * u + n) = 1) || decide (tpC J g p m u n sg < 0))
def chO (w : Int32) (v : Nat × Nat × Nat) : Int32 := if w = 0 then nI v.2.2 else if w = 1 then nI v.2.1 else if w = 2 then nI v.1 else -1
def scN (q : Nat → Nat → Nat → Bool) (t u k : Nat) : Option (Nat × Nat × Nat) := if q t u k = true then some (t, u, k) else none
def scU (q : Nat → Nat → Nat → Bool) (t u : Nat) : Option (Nat × Nat × Nat) := sFn (scN q t u) 8 0
def scT (q : Nat → Nat → Nat → Bool) (t : Nat) : Option (Nat × Nat × Nat) := sFn (scU q t) 4 0
def scO (w : Int32) : Option (Nat × Nat × Nat) → Int32
  | none => -1
  | some v => chO w v

set_option maxHeartbeats 4000000 in
set_option maxRecDepth 100000 in
theorem c_X4_quarrelAt (l : Launch) {E : zE} {S : zS} {I : Nat → Nat → Int32} {J : Nat → Nat → Int64} {R : Nat → Nat → Option Nat} {su : Nat} (u1 : zO S su 4) : zI l yX4_quarrelAt wsX4_quarrelAt rmX4_quarrelAt E S [.ref su] (I, J, R) (I su 9) (I, J, R) := by
  refine z_metI (cc := cX4_quarrelAt) (maxL := 1) (ty := .int) (by decide) rfl (Nat.le_of_ble_eq_true rfl) (fun X h ret => ?_)
  show zV X E S 0 0 (I, J, R) 0 _ []
  refine z_aload_n h dX4_quarrelAt_0 rfl rfl ?_
  refine z_getI h (by assumption) rfl kw4 9 (by decide) rfl kf_RX4_43 dX4_quarrelAt_1 ?_
  exact ret dX4_quarrelAt_4 rfl

set_option maxHeartbeats 4000000 in
set_option maxRecDepth 100000 in
theorem c_X4_hasAnswer (l : Launch) {E : zE} {S : zS} {I : Nat → Nat → Int32} {J : Nat → Nat → Int64} {R : Nat → Nat → Option Nat} {su : Nat} (u1 : zO S su 4) : zI l yX4_hasAnswer wsX4_hasAnswer rmX4_hasAnswer E S [.ref su] (I, J, R) (b2i (!decide (J su 11 = 0))) (I, J, R) := by
  refine z_metI (cc := cX4_hasAnswer) (maxL := 1) (ty := .boolean) (by decide) rfl (Nat.le_of_ble_eq_true rfl) (fun X h ret => ?_)
  show zV X E S 0 0 (I, J, R) 0 _ []
  refine z_aload_n h dX4_hasAnswer_0 rfl rfl ?_
  refine z_getJ h (by assumption) rfl kw4 11 (by decide) rfl kf_RX4_51 dX4_hasAnswer_1 ?_
  refine z_lconst (v := 0) h dX4_hasAnswer_4 (by decide) ?_
  refine z_lcmp h dX4_hasAnswer_5 ?_
  refine z_if_eq h 13 dX4_hasAnswer_6 (by decide) (fun c6 => ?_) (fun c6 => ?_)
  · have c6 := (lg_cmp_eq _ _).mp c6
    rw [show b2i (!decide (J su 11 = 0)) = 0 from by rw [decide_eq_true c6]; rfl] at ret
    refine z_iconst (v := 0) h dX4_hasAnswer_13 (by decide) ?_
    exact ret dX4_hasAnswer_14 rfl
  · have c6 := mt (lg_cmp_eq _ _).mpr c6
    rw [show b2i (!decide (J su 11 = 0)) = 1 from by rw [decide_eq_false c6]; rfl] at ret
    refine z_iconst (v := 1) h dX4_hasAnswer_9 (by decide) ?_
    refine z_goto h 14 dX4_hasAnswer_10 (by decide) ?_
    exact ret dX4_hasAnswer_14 rfl

set_option maxHeartbeats 4000000 in
set_option maxRecDepth 100000 in
theorem c_X4_answerPart (l : Launch) {E : zE} {S : zS} {I : Nat → Nat → Int32} {J : Nat → Nat → Int64} {R : Nat → Nat → Option Nat} {su : Nat} (u1 : zO S su 4) {w : Int32} : zL l yX4_answerPart wsX4_answerPart rmX4_answerPart E S [.ref su, .int w] (I, J, R) (apC (J su 10) (J su 11) w) (I, J, R) := by
  refine z_metL (cc := cX4_answerPart) (maxL := 2) (by decide) rfl (Nat.le_of_ble_eq_true rfl) (fun X h ret => ?_)
  show zV X E S 0 0 (I, J, R) 0 _ []
  refine z_aload_n h dX4_answerPart_0 rfl rfl ?_
  refine z_callVI h (c_X4_hasAnswer l u1) (by assumption) rfl gm_RX4_146 rfl ⟨rfl, rfl⟩ 0 (by decide +kernel) ⟨by decide, by decide⟩ rfl rfl (Nat.le_of_ble_eq_true rfl) ⟨Nat.zero_le _, Nat.zero_le _⟩ dX4_answerPart_1 ?_
  refine z_if_ne h 11 dX4_answerPart_4 (by decide) (fun c4 => ?_) (fun c4 => ?_)
  · have c4 : ¬ J su 11 = 0 := fun w => by rw [decide_eq_true w] at c4; exact absurd rfl c4
    refine z_iload_n h dX4_answerPart_11 rfl rfl ?_
    refine z_if_ne h 20 dX4_answerPart_12 (by decide) (fun c12 => ?_) (fun c12 => ?_)
    · refine z_iload_n h dX4_answerPart_20 rfl rfl ?_
      refine z_iconst (v := 1) h dX4_answerPart_21 (by decide) ?_
      refine z_icmp_ne h 32 dX4_answerPart_22 (by decide) (fun c22 => ?_) (fun c22 => ?_)
      · rw [show apC (J su 10) (J su 11) w = UNT from by unfold apC; rw [if_neg c4, if_neg c12, if_neg c22]] at ret
        refine z_ldc2 (v := UNT) h (by decide +kernel) dX4_answerPart_32 ?_
        exact ret dX4_answerPart_35
      · rw [show apC (J su 10) (J su 11) w = J su 11 from by unfold apC; rw [if_neg c4, if_neg c12, if_pos c22]] at ret
        refine z_aload_n h dX4_answerPart_25 rfl rfl ?_
        refine z_getJ h (by assumption) rfl kw4 11 (by decide) rfl kf_RX4_51 dX4_answerPart_26 ?_
        refine z_goto h 35 dX4_answerPart_29 (by decide) ?_
        exact ret dX4_answerPart_35
    · rw [show apC (J su 10) (J su 11) w = J su 10 from by unfold apC; rw [if_neg c4, if_pos c12]] at ret
      refine z_aload_n h dX4_answerPart_15 rfl rfl ?_
      refine z_getJ h (by assumption) rfl kw4 10 (by decide) rfl kf_RX4_47 dX4_answerPart_16 ?_
      exact ret dX4_answerPart_19
  · have c4 : J su 11 = 0 := by
      by_cases w : J su 11 = 0
      · exact w
      · rw [decide_eq_false w] at c4; exact absurd c4 (by decide)
    rw [show apC (J su 10) (J su 11) w = UNT from if_pos c4] at ret
    refine z_ldc2 (v := UNT) h (by decide +kernel) dX4_answerPart_7 ?_
    exact ret dX4_answerPart_10

set_option maxHeartbeats 4000000 in
set_option maxRecDepth 100000 in
theorem c_X4_topAt (l : Launch) {E : zE} {S : zS} {I : Nat → Nat → Int32} {J : Nat → Nat → Int64} {R : Nat → Nat → Option Nat} {st pa ak : Nat} {rw : Nat → Nat} (hY : SY S R st pa ak rw) {su lo fl : Nat} {lw rs le g : Nat → Nat} (hU : SU S R su st lo fl lw rs le g) {m : Nat} (hn : I st 2 = nI m) (hm10 : m ≤ 10) {u n : Nat} {sg : Int32} (hu : u < 4) (hn8 : n < 8) : zL l yX4_topAt wsX4_topAt rmX4_topAt E S [.ref su, .int (nI n), .int (nI u), .int sg] (I, J, R) (tpC J g (fun i => I (rw i)) m u n sg) (I, J, R) := by
  refine z_metL (cc := cX4_topAt) (maxL := 5) (by decide) rfl (Nat.le_of_ble_eq_true rfl) (fun X h ret => ?_)
  show zV X E S 0 0 (I, J, R) 0 _ []
  obtain ⟨u1, u2, u3, u4, u5, u6, u7, u8, u9, u10, u11, u12, u13, u14, u15, u16, u17, u18, u19, u20⟩ := id hU
  have y1 := hY.1
  refine z_iload_n h dX4_topAt_0 rfl rfl ?_
  refine z_bipush (v := 8) h dX4_topAt_1 (by decide) ?_
  rw [show (8 : Int32) = nI 8 from rfl]
  refine z_imul h dX4_topAt_3 ?_
  rw [pk_mul, Nat.mul_comm u 8]
  refine z_iload_n h dX4_topAt_4 rfl rfl ?_
  refine z_iadd h dX4_topAt_5 ?_
  rw [nI_add]
  refine z_istore h dX4_topAt_6 (by decide) ?_
  refine z_aload_n h dX4_topAt_8 rfl rfl ?_
  refine z_getR h (by assumption) rfl kw4 6 (by decide) rfl (by assumption) kf_RX4_37 dX4_topAt_9 ?_
  refine z_iload h dX4_topAt_12 rfl ?_
  refine z_lald h (by assumption) (zix_nI (by omega) (by decide)) dX4_topAt_14 ?_
  refine z_aload_n h dX4_topAt_15 rfl rfl ?_
  refine z_getR h (by assumption) rfl kw4 7 (by decide) rfl (by assumption) kf_RX4_40 dX4_topAt_16 ?_
  refine z_iload h dX4_topAt_19 rfl ?_
  refine z_lald h (by assumption) (zix_nI (by omega) (by decide)) dX4_topAt_21 ?_
  refine z_aload_n h dX4_topAt_22 rfl rfl ?_
  refine z_getR h (by assumption) rfl kw4 8 (by decide) rfl (by assumption) kf_RX4_60 dX4_topAt_23 ?_
  refine z_iload_n h dX4_topAt_26 rfl rfl ?_
  refine z_iload_n h dX4_topAt_27 rfl rfl ?_
  refine z_iload_n h dX4_topAt_28 rfl rfl ?_
  refine z_callVL h (c_X3_gain l hY hn hm10) (by assumption) rfl gm_RX4_113 rfl ⟨rfl, rfl⟩ 3 (by decide +kernel) ⟨by decide, by decide⟩ rfl rfl (Nat.le_of_ble_eq_true rfl) ⟨Nat.zero_le _, Nat.zero_le _⟩ dX4_topAt_29 ?_
  refine z_lmul h dX4_topAt_32 ?_
  refine z_ladd h dX4_topAt_33 ?_
  exact ret dX4_topAt_34

set_option maxHeartbeats 4000000 in
set_option maxRecDepth 100000 in
theorem c_X4_isStrange (l : Launch) {E : zE} {S : zS} {I : Nat → Nat → Int32} {J : Nat → Nat → Int64} {R : Nat → Nat → Option Nat} {st pa ak : Nat} {rw : Nat → Nat} (hY : SY S R st pa ak rw) {su lo fl : Nat} {lw rs le g : Nat → Nat} (hU : SU S R su st lo fl lw rs le g) {m : Nat} (hn : I st 2 = nI m) (hm10 : m ≤ 10) {u n : Nat} {sg : Int32} (hu : u < 4) (hn8 : n < 8) : zI l yX4_isStrange wsX4_isStrange rmX4_isStrange E S [.ref su, .int (nI n), .int (nI u), .int sg] (I, J, R) (b2i (stC J g (fun i => I (rw i)) m u n sg)) (I, J, R) := by
  refine z_metI (cc := cX4_isStrange) (maxL := 6) (ty := .boolean) (by decide) rfl (Nat.le_of_ble_eq_true rfl) (fun X h ret => ?_)
  show zV X E S 0 0 (I, J, R) 0 _ []
  obtain ⟨u1, u2, u3, u4, u5, u6, u7, u8, u9, u10, u11, u12, u13, u14, u15, u16, u17, u18, u19, u20⟩ := id hU
  refine z_aload_n h dX4_isStrange_0 rfl rfl ?_
  refine z_getR h (by assumption) rfl kw4 7 (by decide) rfl (by assumption) kf_RX4_40 dX4_isStrange_1 ?_
  refine z_iload_n h dX4_isStrange_4 rfl rfl ?_
  refine z_bipush (v := 8) h dX4_isStrange_5 (by decide) ?_
  rw [show (8 : Int32) = nI 8 from rfl]
  refine z_imul h dX4_isStrange_7 ?_
  rw [pk_mul, Nat.mul_comm u 8]
  refine z_iload_n h dX4_isStrange_8 rfl rfl ?_
  refine z_iadd h dX4_isStrange_9 ?_
  rw [nI_add]
  refine z_lald h (by assumption) (zix_nI (by omega) (by decide)) dX4_isStrange_10 ?_
  refine z_lstore h dX4_isStrange_11 (by decide) ?_
  refine z_lload h dX4_isStrange_13 rfl ?_
  refine z_lconst (v := 0) h dX4_isStrange_15 (by decide) ?_
  refine z_lcmp h dX4_isStrange_16 ?_
  refine z_if_eq h 43 dX4_isStrange_17 (by decide) (fun c17 => ?_) (fun c17 => ?_)
  · have c17 := (lg_cmp_eq _ _).mp c17
    have hres : stC J g (fun i => I (rw i)) m u n sg = false := by unfold stC; rw [decide_eq_true c17]; rfl
    rw [hres] at ret
    refine z_iconst (v := 0) h dX4_isStrange_43 (by decide) ?_
    exact ret dX4_isStrange_44 rfl
  · have c17 := mt (lg_cmp_eq _ _).mpr c17
    refine z_lload h dX4_isStrange_20 rfl ?_
    refine z_lconst (v := 1) h dX4_isStrange_22 (by decide) ?_
    refine z_lcmp h dX4_isStrange_23 ?_
    refine z_if_ne h 39 dX4_isStrange_24 (by decide) (fun c24 => ?_) (fun c24 => ?_)
    · have c24 := mt (lg_cmp_eq _ _).mpr c24
      have hres : stC J g (fun i => I (rw i)) m u n sg = true := by unfold stC; rw [decide_eq_false c17, decide_eq_false c24]; rfl
      rw [hres] at ret
      refine z_iconst (v := 1) h dX4_isStrange_39 (by decide) ?_
      refine z_goto h 44 dX4_isStrange_40 (by decide) ?_
      exact ret dX4_isStrange_44 rfl
    · have c24 := (lg_cmp_eq _ _).mp c24
      refine z_aload_n h dX4_isStrange_27 rfl rfl ?_
      refine z_iload_n h dX4_isStrange_28 rfl rfl ?_
      refine z_iload_n h dX4_isStrange_29 rfl rfl ?_
      refine z_iload_n h dX4_isStrange_30 rfl rfl ?_
      refine z_callVL h (c_X4_topAt l hY hU hn hm10 hu hn8) (by assumption) rfl gm_RX4_155 rfl ⟨rfl, rfl⟩ 3 (by decide +kernel) ⟨by decide, by decide⟩ rfl rfl (Nat.le_of_ble_eq_true rfl) ⟨Nat.zero_le _, Nat.zero_le _⟩ dX4_isStrange_31 ?_
      refine z_lconst (v := 0) h dX4_isStrange_34 (by decide) ?_
      refine z_lcmp h dX4_isStrange_35 ?_
      refine z_if_ge h 43 dX4_isStrange_36 (by decide) (fun c36 => ?_) (fun c36 => ?_)
      · have c36 := (lg_cmp_ge _ _).mp c36
        have hres : stC J g (fun i => I (rw i)) m u n sg = false := by unfold stC; rw [decide_eq_false c17, decide_eq_true c24, decide_eq_false (Int64.not_lt.mpr c36)]; rfl
        rw [hres] at ret
        refine z_iconst (v := 0) h dX4_isStrange_43 (by decide) ?_
        exact ret dX4_isStrange_44 rfl
      · have c36 := mt (lg_cmp_ge _ _).mpr c36
        have hres : stC J g (fun i => I (rw i)) m u n sg = true := by unfold stC; rw [decide_eq_false c17, decide_eq_true c24, decide_eq_true (Int64.not_le.mp c36)]; rfl
        rw [hres] at ret
        refine z_iconst (v := 1) h dX4_isStrange_39 (by decide) ?_
        refine z_goto h 44 dX4_isStrange_40 (by decide) ?_
        exact ret dX4_isStrange_44 rfl

set_option maxHeartbeats 4000000 in
set_option maxRecDepth 100000 in
theorem c_X4_amountPart (l : Launch) {E : zE} {S : zS} {I : Nat → Nat → Int32} {J : Nat → Nat → Int64} {R : Nat → Nat → Option Nat} {st pa ak : Nat} {rw : Nat → Nat} (hY : SY S R st pa ak rw) {su lo fl : Nat} {lw rs le g : Nat → Nat} (hU : SU S R su st lo fl lw rs le g) {m : Nat} (hn : I st 2 = nI m) (hm10 : m ≤ 10) {nm un sg w : Int32} : zL l yX4_amountPart wsX4_amountPart rmX4_amountPart E S [.ref su, .int nm, .int un, .int sg, .int w] (I, J, R) (if (0 ≤ nm ∧ nm < 8) ∧ (0 ≤ un ∧ un < 4) ∧ 0 ≤ sg ∧ sg < (if I st 5 = 0 then 0 else I st 3 + 1) then apC (tpC J g (fun i => I (rw i)) m un.toNatClampNeg nm.toNatClampNeg sg) (J (g 54) (8 * un.toNatClampNeg + nm.toNatClampNeg)) w else UNT) (I, J, R) := by
  refine z_metL (cc := cX4_amountPart) (maxL := 7) (by decide) rfl (Nat.le_of_ble_eq_true rfl) (fun X h ret => ?_)
  show zV X E S 0 0 (I, J, R) 0 _ []
  obtain ⟨u1, u2, u3, u4, u5, u6, u7, u8, u9, u10, u11, u12, u13, u14, u15, u16, u17, u18, u19, u20⟩ := id hU
  have y1 := hY.1
  generalize hsv : (if I st 5 = 0 then 0 else I st 3 + 1) = sv at *
  refine z_iload_n h dX4_amountPart_0 rfl rfl ?_
  refine z_if_lt h 34 dX4_amountPart_1 (by decide) (fun c1 => ?_) (fun c1 => ?_)
  · rw [if_neg (fun v => absurd v.1.1 (Int32.not_le.mpr c1))] at ret
    refine z_ldc2 (v := UNT) h (by decide +kernel) dX4_amountPart_34 ?_
    exact ret dX4_amountPart_37
  · refine z_iload_n h dX4_amountPart_4 rfl rfl ?_
    refine z_bipush (v := 8) h dX4_amountPart_5 (by decide) ?_
    refine z_icmp_ge h 34 dX4_amountPart_7 (by decide) (fun c7 => ?_) (fun c7 => ?_)
    · rw [if_neg (fun v => absurd v.1.2 (Int32.not_lt.mpr c7))] at ret
      refine z_ldc2 (v := UNT) h (by decide +kernel) dX4_amountPart_34 ?_
      exact ret dX4_amountPart_37
    · refine z_iload_n h dX4_amountPart_10 rfl rfl ?_
      refine z_if_lt h 34 dX4_amountPart_11 (by decide) (fun c11 => ?_) (fun c11 => ?_)
      · rw [if_neg (fun v => absurd v.2.1.1 (Int32.not_le.mpr c11))] at ret
        refine z_ldc2 (v := UNT) h (by decide +kernel) dX4_amountPart_34 ?_
        exact ret dX4_amountPart_37
      · refine z_iload_n h dX4_amountPart_14 rfl rfl ?_
        refine z_iconst (v := 4) h dX4_amountPart_15 (by decide) ?_
        refine z_icmp_ge h 34 dX4_amountPart_16 (by decide) (fun c16 => ?_) (fun c16 => ?_)
        · rw [if_neg (fun v => absurd v.2.1.2 (Int32.not_lt.mpr c16))] at ret
          refine z_ldc2 (v := UNT) h (by decide +kernel) dX4_amountPart_34 ?_
          exact ret dX4_amountPart_37
        · refine z_iload_n h dX4_amountPart_19 rfl rfl ?_
          refine z_if_lt h 34 dX4_amountPart_20 (by decide) (fun c20 => ?_) (fun c20 => ?_)
          · rw [if_neg (fun v => absurd v.2.2.1 (Int32.not_le.mpr c20))] at ret
            refine z_ldc2 (v := UNT) h (by decide +kernel) dX4_amountPart_34 ?_
            exact ret dX4_amountPart_37
          · refine z_iload_n h dX4_amountPart_23 rfl rfl ?_
            refine z_aload_n h dX4_amountPart_24 rfl rfl ?_
            refine z_getR h (by assumption) rfl kw4 8 (by decide) rfl (by assumption) kf_RX4_60 dX4_amountPart_25 ?_
            refine z_callVI h (c_X3_stages l y1) (by assumption) rfl gm_RX4_152 rfl ⟨rfl, rfl⟩ 0 (by decide +kernel) ⟨by decide, by decide⟩ rfl rfl (Nat.le_of_ble_eq_true rfl) ⟨Nat.zero_le _, Nat.zero_le _⟩ dX4_amountPart_28 ?_
            rw [hsv]
            refine z_icmp_lt h 38 dX4_amountPart_31 (by decide) (fun c31 => ?_) (fun c31 => ?_)
            · have hcond : (0 ≤ nm ∧ nm < 8) ∧ (0 ≤ un ∧ un < 4) ∧ 0 ≤ sg ∧ sg < sv := ⟨⟨Int32.not_lt.mp c1, Int32.not_le.mp c7⟩, ⟨Int32.not_lt.mp c11, Int32.not_le.mp c16⟩, Int32.not_lt.mp c20, c31⟩
              rw [if_pos hcond] at ret
              obtain ⟨k1, k2⟩ := i32_ix (n := 7) (x := nm) (by decide) ⟨hcond.1.1, by
                rcases pk_ix nm (n := 8) (by decide) with q | q | ⟨j, q1, q2⟩
                · exact absurd hcond.1.1 (Int32.not_le.mpr q)
                · exact absurd hcond.1.2 (Int32.not_lt.mpr q)
                · rw [q2]; exact nI_le (by omega) (by decide)⟩
              obtain ⟨k3, k4⟩ := i32_ix (n := 3) (x := un) (by decide) ⟨hcond.2.1.1, by
                rcases pk_ix un (n := 4) (by decide) with q | q | ⟨j, q1, q2⟩
                · exact absurd hcond.2.1.1 (Int32.not_le.mpr q)
                · exact absurd hcond.2.1.2 (Int32.not_lt.mpr q)
                · rw [q2]; exact nI_le (by omega) (by decide)⟩
              generalize hna : nm.toNatClampNeg = n at *
              generalize hua : un.toNatClampNeg = u at *
              subst k1
              subst k3
              refine z_aload_n h dX4_amountPart_38 rfl rfl ?_
              refine z_getR h (by assumption) rfl kw4 7 (by decide) rfl (by assumption) kf_RX4_40 dX4_amountPart_39 ?_
              refine z_iload_n h dX4_amountPart_42 rfl rfl ?_
              refine z_bipush (v := 8) h dX4_amountPart_43 (by decide) ?_
              rw [show (8 : Int32) = nI 8 from rfl]
              refine z_imul h dX4_amountPart_45 ?_
              rw [pk_mul, Nat.mul_comm u 8]
              refine z_iload_n h dX4_amountPart_46 rfl rfl ?_
              refine z_iadd h dX4_amountPart_47 ?_
              rw [nI_add]
              refine z_lald h (by assumption) (zix_nI (by omega) (by decide)) dX4_amountPart_48 ?_
              refine z_lstore h dX4_amountPart_49 (by decide) ?_
              refine z_lload h dX4_amountPart_51 rfl ?_
              refine z_lconst (v := 0) h dX4_amountPart_53 (by decide) ?_
              refine z_lcmp h dX4_amountPart_54 ?_
              refine z_if_ne h 62 dX4_amountPart_55 (by decide) (fun c55 => ?_) (fun c55 => ?_)
              · have c55 := mt (lg_cmp_eq _ _).mpr c55
                refine z_iload h dX4_amountPart_62 rfl ?_
                refine z_if_ne h 75 dX4_amountPart_64 (by decide) (fun c64 => ?_) (fun c64 => ?_)
                · refine z_iload h dX4_amountPart_75 rfl ?_
                  refine z_iconst (v := 1) h dX4_amountPart_77 (by decide) ?_
                  refine z_icmp_ne h 86 dX4_amountPart_78 (by decide) (fun c78 => ?_) (fun c78 => ?_)
                  · rw [show apC (tpC J g (fun i => I (rw i)) m u n sg) (J (g 54) (8 * u + n)) w = UNT from by unfold apC; rw [if_neg c55, if_neg c64, if_neg c78]] at ret
                    refine z_ldc2 (v := UNT) h (by decide +kernel) dX4_amountPart_86 ?_
                    exact ret dX4_amountPart_89
                  · rw [show apC (tpC J g (fun i => I (rw i)) m u n sg) (J (g 54) (8 * u + n)) w = J (g 54) (8 * u + n) from by unfold apC; rw [if_neg c55, if_neg c64, if_pos c78]] at ret
                    refine z_lload h dX4_amountPart_81 rfl ?_
                    refine z_goto h 89 dX4_amountPart_83 (by decide) ?_
                    exact ret dX4_amountPart_89
                · rw [show apC (tpC J g (fun i => I (rw i)) m u n sg) (J (g 54) (8 * u + n)) w = tpC J g (fun i => I (rw i)) m u n sg from by unfold apC; rw [if_neg c55, if_pos c64]] at ret
                  refine z_aload_n h dX4_amountPart_67 rfl rfl ?_
                  refine z_iload_n h dX4_amountPart_68 rfl rfl ?_
                  refine z_iload_n h dX4_amountPart_69 rfl rfl ?_
                  refine z_iload_n h dX4_amountPart_70 rfl rfl ?_
                  refine z_callVL h (c_X4_topAt l hY hU hn hm10 (by omega) (by omega)) (by assumption) rfl gm_RX4_155 rfl ⟨rfl, rfl⟩ 3 (by decide +kernel) ⟨by decide, by decide⟩ rfl rfl (Nat.le_of_ble_eq_true rfl) ⟨Nat.zero_le _, Nat.zero_le _⟩ dX4_amountPart_71 ?_
                  exact ret dX4_amountPart_74
              · have c55 := (lg_cmp_eq _ _).mp c55
                rw [show apC (tpC J g (fun i => I (rw i)) m u n sg) (J (g 54) (8 * u + n)) w = UNT from if_pos c55] at ret
                refine z_ldc2 (v := UNT) h (by decide +kernel) dX4_amountPart_58 ?_
                exact ret dX4_amountPart_61
            · rw [if_neg (fun v => c31 v.2.2.2)] at ret
              refine z_ldc2 (v := UNT) h (by decide +kernel) dX4_amountPart_34 ?_
              exact ret dX4_amountPart_37

set_option maxHeartbeats 4000000 in
set_option maxRecDepth 100000 in
theorem c_X4_settledAtFirst (l : Launch) {E : zE} {S : zS} {I : Nat → Nat → Int32} {J : Nat → Nat → Int64} {R : Nat → Nat → Option Nat} {st su lo fl : Nat} {lw rs le g : Nat → Nat} (hU : SU S R su st lo fl lw rs le g) : zI l yX4_settledAtFirst wsX4_settledAtFirst rmX4_settledAtFirst E S [.ref su] (I, J, R) (nI (cN (fun k => !decide (J (g 54) k = 0)) 32)) (I, J, R) := by
  refine z_metI (cc := cX4_settledAtFirst) (maxL := 3) (ty := .int) (by decide) rfl (Nat.le_of_ble_eq_true rfl) (fun X h ret => ?_)
  show zV X E S 0 0 (I, J, R) 0 _ []
  obtain ⟨u1, u2, u3, u4, u5, u6, u7, u8, u9, u10, u11, u12, u13, u14, u15, u16, u17, u18, u19, u20⟩ := id hU
  have LL : ∀ (d i : Nat), i + d = 32 → zV X E S 0 0 (I, J, R) 4 [(0, .ref su), (1, .int (nI (cN (fun k => !decide (J (g 54) k = 0)) i))), (2, .int (nI i))] [] := by
    intro d
    induction d with
    | zero =>
      intro i hi
      have e : i = 32 := by omega
      subst e
      refine z_iload_n h dX4_settledAtFirst_4 rfl rfl ?_
      refine z_bipush (v := 32) h dX4_settledAtFirst_5 (by decide) ?_
      rw [show (32 : Int32) = nI 32 from rfl]
      refine z_icmp_ge h 30 dX4_settledAtFirst_7 (by decide) (fun c7 => ?_) (fun c7 => ?_)
      · refine z_iload_n h dX4_settledAtFirst_30 rfl rfl ?_
        exact ret dX4_settledAtFirst_31 rfl
      · exact absurd (nI_le (by decide) (by decide)) c7
    | succ d ih =>
      intro i hi
      have ih2 := ih (i + 1) (by omega)
      unfold cN at ih2
      refine z_iload_n h dX4_settledAtFirst_4 rfl rfl ?_
      refine z_bipush (v := 32) h dX4_settledAtFirst_5 (by decide) ?_
      rw [show (32 : Int32) = nI 32 from rfl]
      refine z_icmp_ge h 30 dX4_settledAtFirst_7 (by decide) (fun c7 => ?_) (fun c7 => ?_)
      · exact absurd (nle (by decide) (by omega) c7) (by omega)
      · refine z_aload_n h dX4_settledAtFirst_10 rfl rfl ?_
        refine z_getR h (by assumption) rfl kw4 7 (by decide) rfl (by assumption) kf_RX4_40 dX4_settledAtFirst_11 ?_
        refine z_iload_n h dX4_settledAtFirst_14 rfl rfl ?_
        refine z_lald h (by assumption) (zix_nI (by omega) (by decide)) dX4_settledAtFirst_15 ?_
        refine z_lconst (v := 0) h dX4_settledAtFirst_16 (by decide) ?_
        refine z_lcmp h dX4_settledAtFirst_17 ?_
        refine z_if_eq h 24 dX4_settledAtFirst_18 (by decide) (fun c18 => ?_) (fun c18 => ?_)
        · have c18 := (lg_cmp_eq _ _).mp c18
          rw [decide_eq_true c18, if_neg (by decide), Nat.add_zero] at ih2
          refine z_iinc h dX4_settledAtFirst_24 rfl (nI_1 i) (by decide) ?_
          refine z_goto h 4 dX4_settledAtFirst_27 (by decide) ?_
          exact z_lk ih2 ⟨rfl, rfl, rfl, trivial⟩
        · have c18 := mt (lg_cmp_eq _ _).mpr c18
          rw [decide_eq_false c18, if_pos (by decide)] at ih2
          refine z_iinc h dX4_settledAtFirst_21 rfl (nI_1 _) (by decide) ?_
          refine z_iinc h dX4_settledAtFirst_24 rfl (nI_1 i) (by decide) ?_
          refine z_goto h 4 dX4_settledAtFirst_27 (by decide) ?_
          exact z_lk ih2 ⟨rfl, rfl, rfl, trivial⟩
  refine z_iconst (v := 0) h dX4_settledAtFirst_0 (by decide) ?_
  refine z_istore_n h dX4_settledAtFirst_1 rfl (by decide) ?_
  refine z_iconst (v := 0) h dX4_settledAtFirst_2 (by decide) ?_
  refine z_istore_n h dX4_settledAtFirst_3 rfl (by decide) ?_
  exact z_lk (LL 32 0 rfl) ⟨rfl, rfl, rfl, trivial⟩

set_option maxHeartbeats 4000000 in
set_option maxRecDepth 100000 in
theorem c_X4_choose (l : Launch) {E : zE} {S : zS} {μ : zM} {w : Int32} {t u k : Nat} : zI l yX4_choose wsX4_choose rmX4_choose E S [.int w, .int (nI k), .int (nI u), .int (nI t)] μ (chO w (t, u, k)) μ := by
  refine z_metI (cc := cX4_choose) (maxL := 4) (ty := .int) (by decide) rfl (Nat.le_of_ble_eq_true rfl) (fun X h ret => ?_)
  show zV X E S 0 0 μ 0 _ []
  refine z_iload_n h dX4_choose_0 rfl rfl ?_
  by_cases w0 : w = 0
  · subst w0
    refine z_tswI h 28 dX4_choose_1 (by decide) (by decide) (off := 27) (by decide) (by decide) ?_
    refine z_iload_n h dX4_choose_28 rfl rfl ?_
    exact ret dX4_choose_29 rfl
  by_cases w1 : w = 1
  · subst w1
    refine z_tswI h 30 dX4_choose_1 (by decide) (by decide) (off := 29) (by decide) (by decide) ?_
    refine z_iload_n h dX4_choose_30 rfl rfl ?_
    exact ret dX4_choose_31 rfl
  by_cases w2 : w = 2
  · subst w2
    refine z_tswI h 32 dX4_choose_1 (by decide) (by decide) (off := 31) (by decide) (by decide) ?_
    refine z_iload_n h dX4_choose_32 rfl rfl ?_
    exact ret dX4_choose_33 rfl
  refine z_tswO h 34 dX4_choose_1 (by
    have e : ∀ n : Int32, w ≠ n → w.toInt ≠ n.toInt := fun n q v => q (Int32.toInt_inj.mp v)
    have q0 := e 0 w0
    have q1 := e 1 w1
    have q2 := e 2 w2
    rw [show (0 : Int32).toInt = 0 from rfl] at q0
    rw [show (1 : Int32).toInt = 1 from rfl] at q1
    rw [show (2 : Int32).toInt = 2 from rfl] at q2
    omega) (by decide) ?_
  refine z_iconst (v := -1) h dX4_choose_34 (by decide) ?_
  rw [show chO w (t, u, k) = -1 from by unfold chO; rw [if_neg w0, if_neg w1, if_neg w2]] at ret
  exact ret dX4_choose_35 rfl

set_option maxHeartbeats 4000000 in
set_option maxRecDepth 100000 in
theorem c_X4_strangePart (l : Launch) {E : zE} {S : zS} {I : Nat → Nat → Int32} {J : Nat → Nat → Int64} {R : Nat → Nat → Option Nat} {st pa ak : Nat} {rw : Nat → Nat} (hY : SY S R st pa ak rw) {su lo fl : Nat} {lw rs le g : Nat → Nat} (hU : SU S R su st lo fl lw rs le g) {m : Nat} (hn : I st 2 = nI m) (hm10 : m ≤ 10) {w : Int32} {ns : Nat} (hs : (if I st 5 = 0 then 0 else I st 3 + 1) = nI ns) (hns : ns < 100) : zI l yX4_strangePart wsX4_strangePart rmX4_strangePart E S [.ref su, .int w] (I, J, R) (scO w (sFn (scT (fun t u k => stC J g (fun i => I (rw i)) m u k (nI t))) ns 0)) (I, J, R) := by
  refine z_metI (cc := cX4_strangePart) (maxL := 5) (ty := .int) (by decide) rfl (Nat.le_of_ble_eq_true rfl) (fun X h ret => ?_)
  show zV X E S 0 0 (I, J, R) 0 _ []
  obtain ⟨u1, u2, u3, u4, u5, u6, u7, u8, u9, u10, u11, u12, u13, u14, u15, u16, u17, u18, u19, u20⟩ := id hU
  have y1 := hY.1
  generalize hQ : (fun t u k => stC J g (fun i => I (rw i)) m u k (nI t)) = Q at *
  have hQ2 : ∀ t u k, stC J g (fun i => I (rw i)) m u k (nI t) = Q t u k := fun t u k => by rw [← hQ]
  have LT : ∀ (dt t : Nat), t + dt = ns → sFn (scT Q) dt t = sFn (scT Q) ns 0 → zV X E S 0 0 (I, J, R) 2 [(0, .ref su), (1, .int w), (2, .int (nI t))] [] := by
    intro dt
    induction dt with
    | zero =>
      intro t ht hT
      have e : t = ns := by omega
      refine z_iload_n h dX4_strangePart_2 rfl rfl ?_
      refine z_aload_n h dX4_strangePart_3 rfl rfl ?_
      refine z_getR h (by assumption) rfl kw4 8 (by decide) rfl (by assumption) kf_RX4_60 dX4_strangePart_4 ?_
      refine z_callVI h (c_X3_stages l y1) (by assumption) rfl gm_RX4_152 rfl ⟨rfl, rfl⟩ 0 (by decide +kernel) ⟨by decide, by decide⟩ rfl rfl (Nat.le_of_ble_eq_true rfl) ⟨Nat.zero_le _, Nat.zero_le _⟩ dX4_strangePart_7 ?_
      rw [hs]
      refine z_icmp_ge h 68 dX4_strangePart_10 (by decide) (fun c10 => ?_) (fun c10 => ?_)
      · refine z_iconst (v := -1) h dX4_strangePart_68 (by decide) ?_
        rw [← hT] at ret
        exact ret dX4_strangePart_69 rfl
      · exact absurd (nI_le (by omega) (by omega)) c10
    | succ dt ihT =>
      intro t ht hT
      have LU : ∀ (du u : Nat), u + du = 4 → sFn (scU Q t) du u = scT Q t → zV X E S 0 0 (I, J, R) 15 [(0, .ref su), (1, .int w), (2, .int (nI t)), (3, .int (nI u))] [] := by
        intro du
        induction du with
        | zero =>
          intro u hu hUU
          have e : u = 4 := by omega
          subst e
          refine z_iload_n h dX4_strangePart_15 rfl rfl ?_
          refine z_iconst (v := 4) h dX4_strangePart_16 (by decide) ?_
          rw [show (4 : Int32) = nI 4 from rfl]
          refine z_icmp_ge h 62 dX4_strangePart_17 (by decide) (fun c17 => ?_) (fun c17 => ?_)
          · refine z_iinc h dX4_strangePart_62 rfl (nI_1 t) (by decide) ?_
            refine z_goto h 2 dX4_strangePart_65 (by decide) ?_
            exact z_lk (ihT (t + 1) (by omega) (by rw [← hT, sFn_s (show scT Q t = none from hUU.symm)])) ⟨rfl, rfl, rfl, trivial⟩
          · exact absurd (nI_le (by decide) (by decide)) c17
        | succ du ihU =>
          intro u hu hUU
          have LN : ∀ (dk k : Nat), k + dk = 8 → sFn (scN Q t u) dk k = scU Q t u → zV X E S 0 0 (I, J, R) 23 [(0, .ref su), (1, .int w), (2, .int (nI t)), (3, .int (nI u)), (4, .int (nI k))] [] := by
            intro dk
            induction dk with
            | zero =>
              intro k hk hN
              have e : k = 8 := by omega
              subst e
              refine z_iload h dX4_strangePart_23 rfl ?_
              refine z_bipush (v := 8) h dX4_strangePart_25 (by decide) ?_
              rw [show (8 : Int32) = nI 8 from rfl]
              refine z_icmp_ge h 56 dX4_strangePart_27 (by decide) (fun c27 => ?_) (fun c27 => ?_)
              · refine z_iinc h dX4_strangePart_56 rfl (nI_1 u) (by decide) ?_
                refine z_goto h 15 dX4_strangePart_59 (by decide) ?_
                exact z_lk (ihU (u + 1) (by omega) (by rw [← hUU, sFn_s (show scU Q t u = none from hN.symm)])) ⟨rfl, rfl, rfl, rfl, trivial⟩
              · exact absurd (nI_le (by decide) (by decide)) c27
            | succ dk ihN =>
              intro k hk hN
              refine z_iload h dX4_strangePart_23 rfl ?_
              refine z_bipush (v := 8) h dX4_strangePart_25 (by decide) ?_
              rw [show (8 : Int32) = nI 8 from rfl]
              refine z_icmp_ge h 56 dX4_strangePart_27 (by decide) (fun c27 => ?_) (fun c27 => ?_)
              · exact absurd (nle (by decide) (by omega) c27) (by omega)
              · refine z_aload_n h dX4_strangePart_30 rfl rfl ?_
                refine z_iload h dX4_strangePart_31 rfl ?_
                refine z_iload_n h dX4_strangePart_33 rfl rfl ?_
                refine z_iload_n h dX4_strangePart_34 rfl rfl ?_
                refine z_callVI h (c_X4_isStrange l hY hU hn hm10 (u := u) (n := k) (sg := nI t) (by omega) (by omega)) (by assumption) rfl gm_RX4_158 rfl ⟨rfl, rfl⟩ 3 (by decide +kernel) ⟨by decide, by decide⟩ rfl rfl (Nat.le_of_ble_eq_true rfl) ⟨Nat.zero_le _, Nat.zero_le _⟩ dX4_strangePart_35 ?_
                rw [hQ2]
                refine z_if_eq h 50 dX4_strangePart_38 (by decide) (fun c38 => ?_) (fun c38 => ?_)
                · have c38 := b2i_0.mp c38
                  refine z_iinc h dX4_strangePart_50 rfl (nI_1 k) (by decide) ?_
                  refine z_goto h 23 dX4_strangePart_53 (by decide) ?_
                  exact z_lk (ihN (k + 1) (by omega) (by rw [← hN, sFn_s (show scN Q t u k = none from if_neg (by rw [c38]; decide))])) ⟨rfl, rfl, rfl, rfl, rfl, trivial⟩
                · have c38 := b2i_n0.mp c38
                  refine z_iload_n h dX4_strangePart_41 rfl rfl ?_
                  refine z_iload h dX4_strangePart_42 rfl ?_
                  refine z_iload_n h dX4_strangePart_44 rfl rfl ?_
                  refine z_iload_n h dX4_strangePart_45 rfl rfl ?_
                  refine z_callSI h (c_X4_choose l) (va_cwS 4 h.2.2.2.2.1 gm_RX4_162 rfl rfl rfl (by decide +kernel) ⟨by decide, by decide⟩) rfl rfl (Nat.le_of_ble_eq_true rfl) ⟨Nat.zero_le _, Nat.zero_le _⟩ dX4_strangePart_46 ?_
                  have hres : sFn (scT Q) (dt + 1) t = some (t, u, k) := by
                    refine sFn_f ?_
                    rw [← hUU]
                    refine sFn_f ?_
                    rw [← hN]
                    exact sFn_f (if_pos c38)
                  rw [← hT, hres] at ret
                  exact ret dX4_strangePart_49 rfl
          refine z_iload_n h dX4_strangePart_15 rfl rfl ?_
          refine z_iconst (v := 4) h dX4_strangePart_16 (by decide) ?_
          rw [show (4 : Int32) = nI 4 from rfl]
          refine z_icmp_ge h 62 dX4_strangePart_17 (by decide) (fun c17 => ?_) (fun c17 => ?_)
          · exact absurd (nle (by decide) (by omega) c17) (by omega)
          · refine z_iconst (v := 0) h dX4_strangePart_20 (by decide) ?_
            refine z_istore h dX4_strangePart_21 (by decide) ?_
            exact z_lk (LN 8 0 rfl rfl) ⟨rfl, rfl, rfl, rfl, rfl, trivial⟩
      refine z_iload_n h dX4_strangePart_2 rfl rfl ?_
      refine z_aload_n h dX4_strangePart_3 rfl rfl ?_
      refine z_getR h (by assumption) rfl kw4 8 (by decide) rfl (by assumption) kf_RX4_60 dX4_strangePart_4 ?_
      refine z_callVI h (c_X3_stages l y1) (by assumption) rfl gm_RX4_152 rfl ⟨rfl, rfl⟩ 0 (by decide +kernel) ⟨by decide, by decide⟩ rfl rfl (Nat.le_of_ble_eq_true rfl) ⟨Nat.zero_le _, Nat.zero_le _⟩ dX4_strangePart_7 ?_
      rw [hs]
      refine z_icmp_ge h 68 dX4_strangePart_10 (by decide) (fun c10 => ?_) (fun c10 => ?_)
      · exact absurd (nle (by omega) (by omega) c10) (by omega)
      · refine z_iconst (v := 0) h dX4_strangePart_13 (by decide) ?_
        refine z_istore_n h dX4_strangePart_14 rfl (by decide) ?_
        exact z_lk (LU 4 0 rfl rfl) ⟨rfl, rfl, rfl, rfl, trivial⟩
  refine z_iconst (v := 0) h dX4_strangePart_0 (by decide) ?_
  refine z_istore_n h dX4_strangePart_1 rfl (by decide) ?_
  exact z_lk (LT ns 0 (by omega) rfl) ⟨rfl, rfl, rfl, trivial⟩
