/-! THE CLASS's LAWS -/
theorem z_zast {X : zC} {E : zE} {S : zS} {kc ks : Nat} {I : Nat → Nat → Int32} {J : Nat → Nat → Int64} {R : Nat → Nat → Option Nat} {pc : Nat} {lv : List (Nat × Value)} {st : List Value} {l : Launch} {cc : ByteArray} {own : String} {Ts : List Cond} {rm : Room} {nL a : Nat} (h : zOK X E l cc own Ts rm nL) {n j : Nat} {i x : Int32} (ha : zA S a 11 n) (hi : zix i j n) (hd : decode cc pc = .ok (.bastore, 1)) (kk : zV X E S kc ks (zu I a j (vp_nar .boolean x), J, R) (pc + 1) lv st) : zV X E S kc ks (I, J, R) pc lv (.int x :: .int i :: .ref a :: st) := fun H locs ls hP hD hS hl => by
  obtain ⟨q, hq, hq'⟩ := zW_at (E := E) (μ := (I, J, R)) ha.1 (zc_i ha.2.1 ha.2.2 (by decide) (by decide) (by decide))
  refine va_zast h.1 h.2.1 h.2.2.2.2.2.1 hP hD hS q 3 hq' rfl hi.1 hd (fun H1 locs1 hP1 hD1 hS1 => ?_)
  have e := zW_set (ν := (zu I a j (vp_nar .boolean x), J, R)) hD ha.1 hq (zc_i ha.2.1 ha.2.2 (by decide) (by decide) (by decide)) (fun b hb => zc_congr (zu_o hb) rfl rfl)
  rw [show (zu I a j (vp_nar .boolean x), J, R).1 a = upd (I a) j (vp_nar .boolean x) from zu_upd] at e
  rw [hi.2] at hP1 hD1
  rw [e] at hP1 hD1
  exact kk H1 locs1 ls hP1 hD1 hS1 hl
def LA (S : zS) (R : Nat → Nat → Option Nat) (la rs le : Nat) (ro : Nat → Nat) : Prop := zO S la 1 ∧ R la 0 = some rs ∧ R la 1 = some le ∧ zA S rs 14 8 ∧ zA S le 11 8 ∧ (∀ j, j < 8 → R rs j = some (ro j) ∧ zA S (ro j) 10 10) ∧ ∀ i j, i < 8 → j < 8 → ro i = ro j → i = j
def elc (r b : Nat → Int64) (l : Nat) : Nat → Int64 := if r l = 0 then r else if 0 < cg (b l) (r l) then elx 10 r b (r l / cg (b l) (r l)) (b l / cg (b l) (r l)) else r
def rdC (T : Nat → Nat → Int64) (L : Nat → Int32) (r : Nat → Int64) : Nat → (Nat → Int64)
  | 0 => r
  | j + 1 => if L j = 0 then rdC T L r j else elc (rdC T L r j) (T j) j
def fst8 (r : Nat → Int64) : Int32 := if fsN r 8 0 = 8 then -1 else nI (fsN r 8 0)
def ng (r : Nat → Int64) : Nat → Int64 := fun k => if k < 10 then -(r k) else r k
theorem i64_gt0 {g : Int64} (h : 0 < g) : ¬ g = 0 := fun q => by rw [q] at h; exact absurd h (by decide)

set_option maxHeartbeats 4000000 in
set_option maxRecDepth 100000 in
theorem c_X1_eliminate (l : Launch) {E : zE} {S : zS} {I : Nat → Nat → Int32} {J : Nat → Nat → Int64} {R : Nat → Nat → Option Nat} {a b q : Nat} (ha : zA S a 10 10) (hb : zA S b 10 10) (hab : a ≠ b) (hq : q < 10) : zN l yX1_eliminate wsX1_eliminate rmX1_eliminate E S [.ref a, .ref b, .int (nI q)] (I, J, R) (I, zr J a (elc (J a) (J b) q), R) := by
  refine z_metN (cc := cX1_eliminate) (maxL := 12) (by decide) rfl (Nat.le_of_ble_eq_true rfl) (fun X h ret => ?_)
  show zV X E S 0 0 (I, J, R) 0 _ []
  refine z_aload_n h dX1_eliminate_0 rfl rfl ?_
  refine z_iload_n h dX1_eliminate_1 rfl rfl ?_
  refine z_lald h (by assumption) (zix_nI hq (by decide)) dX1_eliminate_2 ?_
  refine z_lconst (v := 0) h dX1_eliminate_3 (by decide) ?_
  refine z_lcmp h dX1_eliminate_4 ?_
  refine z_if_ne h 9 dX1_eliminate_5 (by decide) (fun c5 => ?_) (fun c5 => ?_)
  · have c5 := mt (lg_cmp_eq _ _).mpr c5
    refine z_aload_n h dX1_eliminate_9 rfl rfl ?_
    refine z_iload_n h dX1_eliminate_10 rfl rfl ?_
    refine z_lald h (by assumption) (zix_nI hq (by decide)) dX1_eliminate_11 ?_
    refine z_aload_n h dX1_eliminate_12 rfl rfl ?_
    refine z_iload_n h dX1_eliminate_13 rfl rfl ?_
    refine z_lald h (by assumption) (zix_nI hq (by decide)) dX1_eliminate_14 ?_
    refine z_callSL h (c_X1_gcd l) (va_cwS 2 h.2.2.2.2.1 gm_RX1_41 rfl rfl rfl (by decide +kernel) ⟨by decide, by decide⟩) rfl rfl (Nat.le_of_ble_eq_true rfl) ⟨Nat.zero_le _, Nat.zero_le _⟩ dX1_eliminate_15 ?_
    refine z_lstore_n h dX1_eliminate_18 rfl (by decide) ?_
    refine z_lload_n h dX1_eliminate_19 rfl rfl ?_
    refine z_lconst (v := 0) h dX1_eliminate_20 (by decide) ?_
    refine z_lcmp h dX1_eliminate_21 ?_
    refine z_if_gt h 26 dX1_eliminate_22 (by decide) (fun c22 => ?_) (fun c22 => ?_)
    · have c22 := (lg_cmp_gt _ _).mp c22
      refine z_aload_n h dX1_eliminate_26 rfl rfl ?_
      refine z_iload_n h dX1_eliminate_27 rfl rfl ?_
      refine z_lald h (by assumption) (zix_nI hq (by decide)) dX1_eliminate_28 ?_
      refine z_lload_n h dX1_eliminate_29 rfl rfl ?_
      refine z_ldiv h dX1_eliminate_30 (i64_gt0 c22) ?_
      refine z_lstore h dX1_eliminate_31 (by decide) ?_
      refine z_aload_n h dX1_eliminate_33 rfl rfl ?_
      refine z_iload_n h dX1_eliminate_34 rfl rfl ?_
      refine z_lald h (by assumption) (zix_nI hq (by decide)) dX1_eliminate_35 ?_
      refine z_lload_n h dX1_eliminate_36 rfl rfl ?_
      refine z_ldiv h dX1_eliminate_37 (i64_gt0 c22) ?_
      refine z_lstore h dX1_eliminate_38 (by decide) ?_
      generalize hv : elv (J a) (J b) (J a q / cg (J b q) (J a q)) (J b q / cg (J b q) (J a q)) = v at *
      generalize hup : J b q / cg (J b q) (J a q) = up at *
      generalize hls : J a q / cg (J b q) (J a q) = less at *
      have hvi : ∀ k, J a k * up - J b k * less = v k := fun k => by rw [← hv]; rfl
      have helc : elc (J a) (J b) q = fun k => if k < 10 then (if 1 < gcf v 10 then v k / gcf v 10 else v k) else J a k := by
        unfold elc
        rw [if_neg c5, if_pos c22, hup, hls]
        unfold elx
        rw [hv]
      have LC : 1 < gcf v 10 → ∀ (d i : Nat), i + d = 10 → zV X E S 0 0 (I, zr J a (fun k => if k < i then v k / gcf v 10 else (fun k => if k < 10 then v k else J a k) k), R) 99 [(0, .ref a), (9, .long (gcf v 10)), (11, .int (nI i))] [] := by
        intro hg d
        induction d with
        | zero =>
          intro i hi
          have hi10 : i = 10 := by omega
          subst hi10
          refine z_iload h dX1_eliminate_99 rfl ?_
          refine z_bipush (v := 10) h dX1_eliminate_101 (by decide) ?_
          rw [show (10 : Int32) = nI 10 from rfl]
          refine z_icmp_ge h 123 dX1_eliminate_103 (by decide) (fun c103 => ?_) (fun c103 => ?_)
          · have e : zr J a (fun k => if k < 10 then v k / gcf v 10 else (fun k => if k < 10 then v k else J a k) k) = zr J a (elc (J a) (J b) q) := by
              rw [helc]
              congr 1
              funext k
              rw [if_pos hg]
              by_cases hk : k < 10
              · rw [if_pos hk, if_pos hk]
              · rw [if_neg hk, if_neg hk]
                show (if k < 10 then v k else J a k) = J a k
                rw [if_neg hk]
            rw [e]
            exact ret dX1_eliminate_123
          · exact absurd (nI_le (by decide) (by decide)) c103
        | succ d ihC =>
          intro i hi
          refine z_iload h dX1_eliminate_99 rfl ?_
          refine z_bipush (v := 10) h dX1_eliminate_101 (by decide) ?_
          rw [show (10 : Int32) = nI 10 from rfl]
          refine z_icmp_ge h 123 dX1_eliminate_103 (by decide) (fun c103 => ?_) (fun c103 => ?_)
          · exact absurd (nle (by decide) (by omega) c103) (by omega)
          · refine z_aload_n h dX1_eliminate_106 rfl rfl ?_
            refine z_iload h dX1_eliminate_107 rfl ?_
            refine z_aload_n h dX1_eliminate_109 rfl rfl ?_
            refine z_iload h dX1_eliminate_110 rfl ?_
            refine z_lald h (by assumption) (zix_nI (by omega) (by decide)) dX1_eliminate_112 ?_
            rw [zr_sk, if_neg (Nat.lt_irrefl i), show (fun k => if k < 10 then v k else J a k) i = v i from if_pos (by omega)]
            refine z_lload h dX1_eliminate_113 rfl ?_
            refine z_ldiv h dX1_eliminate_115 (i64_pos hg) ?_
            refine z_last h (by assumption) (zix_nI (by omega) (by decide)) dX1_eliminate_116 ?_
            rw [row_up (v := fun k => v k / gcf v 10) (q := fun k => if k < 10 then v k else J a k)]
            refine z_iinc h dX1_eliminate_117 rfl (nI_1 i) (by decide) ?_
            refine z_goto h 99 dX1_eliminate_120 (by decide) ?_
            exact z_lk (ihC (i + 1) (by omega)) ⟨rfl, rfl, rfl, trivial⟩
      have LB : ∀ (d i : Nat), i + d = 10 → zV X E S 0 0 (I, zr J a (fun k => if k < i then v k else J a k), R) 46 [(0, .ref a), (1, .ref b), (5, .long up), (7, .long less), (9, .long (gcf v i)), (11, .int (nI i))] [] := by
        intro d
        induction d with
        | zero =>
          intro i hi
          have hi10 : i = 10 := by omega
          subst hi10
          refine z_iload h dX1_eliminate_46 rfl ?_
          refine z_bipush (v := 10) h dX1_eliminate_48 (by decide) ?_
          rw [show (10 : Int32) = nI 10 from rfl]
          refine z_icmp_ge h 89 dX1_eliminate_50 (by decide) (fun c50 => ?_) (fun c50 => ?_)
          · refine z_lload h dX1_eliminate_89 rfl ?_
            refine z_lconst (v := 1) h dX1_eliminate_91 (by decide) ?_
            refine z_lcmp h dX1_eliminate_92 ?_
            refine z_if_le h 123 dX1_eliminate_93 (by decide) (fun c93 => ?_) (fun c93 => ?_)
            · have c93 := (lg_cmp_le _ _).mp c93
              have e : zr J a (fun k => if k < 10 then v k else J a k) = zr J a (elc (J a) (J b) q) := by
                rw [helc]
                congr 1
                funext k
                rw [if_neg (Int64.not_lt.mpr c93)]
              rw [e]
              exact ret dX1_eliminate_123
            · have c93 := mt (lg_cmp_le _ _).mpr c93
              have hg : 1 < gcf v 10 := Int64.not_le.mp c93
              refine z_iconst (v := 0) h dX1_eliminate_96 (by decide) ?_
              refine z_istore h dX1_eliminate_97 (by decide) ?_
              have e := LC hg 10 0 rfl
              rw [show (fun k => if k < 0 then v k / gcf v 10 else (fun k => if k < 10 then v k else J a k) k) = (fun k => if k < 10 then v k else J a k) from row_0] at e
              exact z_lk e ⟨rfl, rfl, rfl, trivial⟩
          · exact absurd (nI_le (by decide) (by decide)) c50
        | succ d ihB =>
          intro i hi
          have ihB2 := ihB (i + 1) (by omega)
          unfold gcf at ihB2
          refine z_iload h dX1_eliminate_46 rfl ?_
          refine z_bipush (v := 10) h dX1_eliminate_48 (by decide) ?_
          rw [show (10 : Int32) = nI 10 from rfl]
          refine z_icmp_ge h 89 dX1_eliminate_50 (by decide) (fun c50 => ?_) (fun c50 => ?_)
          · exact absurd (nle (by decide) (by omega) c50) (by omega)
          · refine z_aload_n h dX1_eliminate_53 rfl rfl ?_
            refine z_iload h dX1_eliminate_54 rfl ?_
            refine z_aload_n h dX1_eliminate_56 rfl rfl ?_
            refine z_iload h dX1_eliminate_57 rfl ?_
            refine z_lald h (by assumption) (zix_nI (by omega) (by decide)) dX1_eliminate_59 ?_
            rw [zr_sk, if_neg (Nat.lt_irrefl i)]
            refine z_lload h dX1_eliminate_60 rfl ?_
            refine z_lmul h dX1_eliminate_62 ?_
            refine z_aload_n h dX1_eliminate_63 rfl rfl ?_
            refine z_iload h dX1_eliminate_64 rfl ?_
            refine z_lald h (by assumption) (zix_nI (by omega) (by decide)) dX1_eliminate_66 ?_
            rw [zr_ak (Ne.symm hab)]
            refine z_lload h dX1_eliminate_67 rfl ?_
            refine z_lmul h dX1_eliminate_69 ?_
            refine z_lsub h dX1_eliminate_70 ?_
            rw [hvi i]
            refine z_last h (by assumption) (zix_nI (by omega) (by decide)) dX1_eliminate_71 ?_
            rw [row_up]
            refine z_lload h dX1_eliminate_72 rfl ?_
            refine z_aload_n h dX1_eliminate_74 rfl rfl ?_
            refine z_iload h dX1_eliminate_75 rfl ?_
            refine z_lald h (by assumption) (zix_nI (by omega) (by decide)) dX1_eliminate_77 ?_
            rw [zr_sk, if_pos (Nat.lt_succ_self i)]
            refine z_callSL h (c_X1_gcd l) (va_cwS 2 h.2.2.2.2.1 gm_RX1_41 rfl rfl rfl (by decide +kernel) ⟨by decide, by decide⟩) rfl rfl (Nat.le_of_ble_eq_true rfl) ⟨Nat.zero_le _, Nat.zero_le _⟩ dX1_eliminate_78 ?_
            refine z_lstore h dX1_eliminate_81 (by decide) ?_
            refine z_iinc h dX1_eliminate_83 rfl (nI_1 i) (by decide) ?_
            refine z_goto h 46 dX1_eliminate_86 (by decide) ?_
            exact z_lk ihB2 ⟨rfl, rfl, rfl, rfl, rfl, rfl, trivial⟩
      refine z_lconst (v := 0) h dX1_eliminate_40 (by decide) ?_
      refine z_lstore h dX1_eliminate_41 (by decide) ?_
      refine z_iconst (v := 0) h dX1_eliminate_43 (by decide) ?_
      refine z_istore h dX1_eliminate_44 (by decide) ?_
      have e := LB 10 0 rfl
      rw [row_0, zr_id] at e
      exact z_lk e ⟨rfl, rfl, rfl, rfl, rfl, rfl, trivial⟩
    · have c22 := mt (lg_cmp_gt _ _).mpr c22
      rw [show zr J a (elc (J a) (J b) q) = J from by rw [show elc (J a) (J b) q = J a from by unfold elc; rw [if_neg c5, if_neg c22]]; exact zr_id] at ret
      exact ret dX1_eliminate_25
  · have c5 := (lg_cmp_eq _ _).mp c5
    rw [show zr J a (elc (J a) (J b) q) = J from by rw [show elc (J a) (J b) q = J a from by unfold elc; rw [if_pos c5]]; exact zr_id] at ret
    exact ret dX1_eliminate_8

set_option maxHeartbeats 4000000 in
set_option maxRecDepth 100000 in
theorem c_X1_firstName (l : Launch) {E : zE} {S : zS} {I : Nat → Nat → Int32} {J : Nat → Nat → Int64} {R : Nat → Nat → Option Nat} {a : Nat} (ha : zA S a 10 10) : zI l yX1_firstName wsX1_firstName rmX1_firstName E S [.ref a] (I, J, R) (fst8 (J a)) (I, J, R) := by
  refine z_metI (cc := cX1_firstName) (maxL := 2) (ty := .int) (by decide) rfl (Nat.le_of_ble_eq_true rfl) (fun X h ret => ?_)
  show zV X E S 0 0 (I, J, R) 0 _ []
  have hfst : fst8 (J a) = if fsN (J a) 8 0 = 8 then -1 else nI (fsN (J a) 8 0) := rfl
  generalize hf0 : fsN (J a) 8 0 = f0 at *
  have LL : ∀ (d i : Nat), i + d = 8 → fsN (J a) d i = f0 → zV X E S 0 0 (I, J, R) 2 [(0, .ref a), (1, .int (nI i))] [] := by
    intro d
    induction d with
    | zero =>
      intro i hi he
      have e : i = 8 := by omega
      subst e
      refine z_iload_n h dX1_firstName_2 rfl rfl ?_
      refine z_bipush (v := 8) h dX1_firstName_3 (by decide) ?_
      rw [show (8 : Int32) = nI 8 from rfl]
      refine z_icmp_ge h 24 dX1_firstName_5 (by decide) (fun c5 => ?_) (fun c5 => ?_)
      · refine z_iconst (v := -1) h dX1_firstName_24 (by decide) ?_
        rw [hfst, if_pos (show f0 = 8 from he.symm)] at ret
        exact ret dX1_firstName_25 rfl
      · exact absurd (nI_le (by decide) (by decide)) c5
    | succ d ih =>
      intro i hi he
      unfold fsN at he
      refine z_iload_n h dX1_firstName_2 rfl rfl ?_
      refine z_bipush (v := 8) h dX1_firstName_3 (by decide) ?_
      rw [show (8 : Int32) = nI 8 from rfl]
      refine z_icmp_ge h 24 dX1_firstName_5 (by decide) (fun c5 => ?_) (fun c5 => ?_)
      · exact absurd (nle (by decide) (by omega) c5) (by omega)
      · refine z_aload_n h dX1_firstName_8 rfl rfl ?_
        refine z_iload_n h dX1_firstName_9 rfl rfl ?_
        refine z_lald h (by assumption) (zix_nI (by omega) (by decide)) dX1_firstName_10 ?_
        refine z_lconst (v := 0) h dX1_firstName_11 (by decide) ?_
        refine z_lcmp h dX1_firstName_12 ?_
        refine z_if_eq h 18 dX1_firstName_13 (by decide) (fun c13 => ?_) (fun c13 => ?_)
        · have c13 := (lg_cmp_eq _ _).mp c13
          rw [if_pos c13] at he
          refine z_iinc h dX1_firstName_18 rfl (nI_1 i) (by decide) ?_
          refine z_goto h 2 dX1_firstName_21 (by decide) ?_
          exact z_lk (ih (i + 1) (by omega) he) ⟨rfl, rfl, trivial⟩
        · have c13 := mt (lg_cmp_eq _ _).mpr c13
          rw [if_neg c13] at he
          refine z_iload_n h dX1_firstName_16 rfl rfl ?_
          rw [hfst, if_neg (by omega), ← he] at ret
          exact ret dX1_firstName_17 rfl
  refine z_iconst (v := 0) h dX1_firstName_0 (by decide) ?_
  refine z_istore_n h dX1_firstName_1 rfl (by decide) ?_
  exact z_lk (LL 8 0 rfl hf0) ⟨rfl, rfl, trivial⟩

set_option maxHeartbeats 4000000 in
set_option maxRecDepth 100000 in
theorem c_X1_negate (l : Launch) {E : zE} {S : zS} {I : Nat → Nat → Int32} {J : Nat → Nat → Int64} {R : Nat → Nat → Option Nat} {a : Nat} (ha : zA S a 10 10) : zN l yX1_negate wsX1_negate rmX1_negate E S [.ref a] (I, J, R) (I, zr J a (ng (J a)), R) := by
  refine z_metN (cc := cX1_negate) (maxL := 2) (by decide) rfl (Nat.le_of_ble_eq_true rfl) (fun X h ret => ?_)
  show zV X E S 0 0 (I, J, R) 0 _ []
  have LL : ∀ (d i : Nat), i + d = 10 → zV X E S 0 0 (I, zr J a (fun k => if k < i then (fun k => -(J a k)) k else J a k), R) 2 [(0, .ref a), (1, .int (nI i))] [] := by
    intro d
    induction d with
    | zero =>
      intro i hi
      have e : i = 10 := by omega
      subst e
      refine z_iload_n h dX1_negate_2 rfl rfl ?_
      refine z_bipush (v := 10) h dX1_negate_3 (by decide) ?_
      rw [show (10 : Int32) = nI 10 from rfl]
      refine z_icmp_ge h 21 dX1_negate_5 (by decide) (fun c5 => ?_) (fun c5 => ?_)
      · exact ret dX1_negate_21
      · exact absurd (nI_le (by decide) (by decide)) c5
    | succ d ih =>
      intro i hi
      refine z_iload_n h dX1_negate_2 rfl rfl ?_
      refine z_bipush (v := 10) h dX1_negate_3 (by decide) ?_
      rw [show (10 : Int32) = nI 10 from rfl]
      refine z_icmp_ge h 21 dX1_negate_5 (by decide) (fun c5 => ?_) (fun c5 => ?_)
      · exact absurd (nle (by decide) (by omega) c5) (by omega)
      · refine z_aload_n h dX1_negate_8 rfl rfl ?_
        refine z_iload_n h dX1_negate_9 rfl rfl ?_
        refine z_aload_n h dX1_negate_10 rfl rfl ?_
        refine z_iload_n h dX1_negate_11 rfl rfl ?_
        refine z_lald h (by assumption) (zix_nI (by omega) (by decide)) dX1_negate_12 ?_
        rw [zr_sk, if_neg (Nat.lt_irrefl i)]
        refine z_lneg h dX1_negate_13 ?_
        refine z_last h (by assumption) (zix_nI (by omega) (by decide)) dX1_negate_14 ?_
        rw [row_up (v := fun k => -(J a k))]
        refine z_iinc h dX1_negate_15 rfl (nI_1 i) (by decide) ?_
        refine z_goto h 2 dX1_negate_18 (by decide) ?_
        exact z_lk (ih (i + 1) (by omega)) ⟨rfl, rfl, trivial⟩
  refine z_iconst (v := 0) h dX1_negate_0 (by decide) ?_
  refine z_istore_n h dX1_negate_1 rfl (by decide) ?_
  have e := LL 10 0 rfl
  rw [show (fun k => if k < 0 then (fun k => -(J a k)) k else J a k) = J a from row_0, zr_id] at e
  exact z_lk e ⟨rfl, rfl, trivial⟩

set_option maxHeartbeats 4000000 in
set_option maxRecDepth 100000 in
theorem c_X1_clear (l : Launch) {E : zE} {S : zS} {I : Nat → Nat → Int32} {J : Nat → Nat → Int64} {R : Nat → Nat → Option Nat} {la rs le : Nat} {ro : Nat → Nat} (hL : LA S R la rs le ro) : zN l yX1_clear wsX1_clear rmX1_clear E S [.ref la] (I, J, R) (zr I le (fun k => if k < 8 then 0 else I le k), J, R) := by
  refine z_metN (cc := cX1_clear) (maxL := 2) (by decide) rfl (Nat.le_of_ble_eq_true rfl) (fun X h ret => ?_)
  show zV X E S 0 0 (I, J, R) 0 _ []
  obtain ⟨l1, l2, l3, l4, l5, l6, l7⟩ := id hL
  have LL : ∀ (d i : Nat), i + d = 8 → zV X E S 0 0 (zr I le (fun k => if k < i then (fun _ => 0) k else I le k), J, R) 2 [(0, .ref la), (1, .int (nI i))] [] := by
    intro d
    induction d with
    | zero =>
      intro i hi
      have e : i = 8 := by omega
      subst e
      refine z_iload_n h dX1_clear_2 rfl rfl ?_
      refine z_bipush (v := 8) h dX1_clear_3 (by decide) ?_
      rw [show (8 : Int32) = nI 8 from rfl]
      refine z_icmp_ge h 21 dX1_clear_5 (by decide) (fun c5 => ?_) (fun c5 => ?_)
      · exact ret dX1_clear_21
      · exact absurd (nI_le (by decide) (by decide)) c5
    | succ d ih =>
      intro i hi
      refine z_iload_n h dX1_clear_2 rfl rfl ?_
      refine z_bipush (v := 8) h dX1_clear_3 (by decide) ?_
      rw [show (8 : Int32) = nI 8 from rfl]
      refine z_icmp_ge h 21 dX1_clear_5 (by decide) (fun c5 => ?_) (fun c5 => ?_)
      · exact absurd (nle (by decide) (by omega) c5) (by omega)
      · refine z_aload_n h dX1_clear_8 rfl rfl ?_
        refine z_getR h (by assumption) rfl kw1 1 (by decide) rfl (by assumption) kf_RX1_16 dX1_clear_9 ?_
        refine z_iload_n h dX1_clear_12 rfl rfl ?_
        refine z_iconst (v := 0) h dX1_clear_13 (by decide) ?_
        refine z_zast h (by assumption) (zix_nI (by omega) (by decide)) dX1_clear_14 ?_
        rw [show vp_nar .boolean (0 : Int32) = 0 from rfl, row_up (v := fun _ => (0 : Int32))]
        refine z_iinc h dX1_clear_15 rfl (nI_1 i) (by decide) ?_
        refine z_goto h 2 dX1_clear_18 (by decide) ?_
        exact z_lk (ih (i + 1) (by omega)) ⟨rfl, rfl, trivial⟩
  refine z_iconst (v := 0) h dX1_clear_0 (by decide) ?_
  refine z_istore_n h dX1_clear_1 rfl (by decide) ?_
  have e := LL 8 0 rfl
  rw [show (fun k => if k < 0 then (fun _ => (0 : Int32)) k else I le k) = I le from row_0, zr_id] at e
  exact z_lk e ⟨rfl, rfl, trivial⟩

set_option maxHeartbeats 4000000 in
set_option maxRecDepth 100000 in
theorem c_X1_reduce (l : Launch) {E : zE} {S : zS} {I : Nat → Nat → Int32} {J : Nat → Nat → Int64} {R : Nat → Nat → Option Nat} {la rs le : Nat} {ro : Nat → Nat} (hL : LA S R la rs le ro) {a : Nat} (ha : zA S a 10 10) (hao : ∀ j, j < 8 → a ≠ ro j) : zN l yX1_reduce wsX1_reduce rmX1_reduce E S [.ref la, .ref a] (I, J, R) (I, zr J a (rdC (fun j k => J (ro j) k) (I le) (J a) 8), R) := by
  refine z_metN (cc := cX1_reduce) (maxL := 3) (by decide) rfl (Nat.le_of_ble_eq_true rfl) (fun X h ret => ?_)
  show zV X E S 0 0 (I, J, R) 0 _ []
  obtain ⟨l1, l2, l3, l4, l5, l6, l7⟩ := id hL
  generalize hT : (fun j k => J (ro j) k) = T at *
  have hT2 : ∀ j, J (ro j) = T j := fun j => by rw [← hT]
  have LL : ∀ (d i : Nat), i + d = 8 → zV X E S 0 0 (I, zr J a (rdC T (I le) (J a) i), R) 2 [(0, .ref la), (1, .ref a), (2, .int (nI i))] [] := by
    intro d
    induction d with
    | zero =>
      intro i hi
      have e : i = 8 := by omega
      subst e
      refine z_iload_n h dX1_reduce_2 rfl rfl ?_
      refine z_bipush (v := 8) h dX1_reduce_3 (by decide) ?_
      rw [show (8 : Int32) = nI 8 from rfl]
      refine z_icmp_ge h 34 dX1_reduce_5 (by decide) (fun c5 => ?_) (fun c5 => ?_)
      · exact ret dX1_reduce_34
      · exact absurd (nI_le (by decide) (by decide)) c5
    | succ d ih =>
      intro i hi
      have ih2 := ih (i + 1) (by omega)
      unfold rdC at ih2
      obtain ⟨r1, r2⟩ := l6 i (by omega)
      have hne := hao i (by omega)
      refine z_iload_n h dX1_reduce_2 rfl rfl ?_
      refine z_bipush (v := 8) h dX1_reduce_3 (by decide) ?_
      rw [show (8 : Int32) = nI 8 from rfl]
      refine z_icmp_ge h 34 dX1_reduce_5 (by decide) (fun c5 => ?_) (fun c5 => ?_)
      · exact absurd (nle (by decide) (by omega) c5) (by omega)
      · refine z_aload_n h dX1_reduce_8 rfl rfl ?_
        refine z_getR h (by assumption) rfl kw1 1 (by decide) rfl (by assumption) kf_RX1_16 dX1_reduce_9 ?_
        refine z_iload_n h dX1_reduce_12 rfl rfl ?_
        refine z_zald h (by assumption) (zix_nI (by omega) (by decide)) dX1_reduce_13 ?_
        refine z_if_eq h 28 dX1_reduce_14 (by decide) (fun c14 => ?_) (fun c14 => ?_)
        · rw [if_pos c14] at ih2
          refine z_iinc h dX1_reduce_28 rfl (nI_1 i) (by decide) ?_
          refine z_goto h 2 dX1_reduce_31 (by decide) ?_
          exact z_lk ih2 ⟨rfl, rfl, rfl, trivial⟩
        · rw [if_neg c14] at ih2
          refine z_aload_n h dX1_reduce_17 rfl rfl ?_
          refine z_aload_n h dX1_reduce_18 rfl rfl ?_
          refine z_getR h (by assumption) rfl kw1 0 (by decide) rfl (by assumption) kf_RX1_11 dX1_reduce_19 ?_
          refine z_iload_n h dX1_reduce_22 rfl rfl ?_
          refine z_aaldJ h (by assumption) (zix_nI (by omega) (by decide)) (r1) dX1_reduce_23 ?_
          refine z_iload_n h dX1_reduce_24 rfl rfl ?_
          refine z_callSN h (c_X1_eliminate l ha r2 hne (q := i) (by omega)) (va_cwS 3 h.2.2.2.2.1 gm_RX1_31 rfl rfl rfl (by decide +kernel) ⟨by decide, by decide⟩) rfl rfl (Nat.le_of_ble_eq_true rfl) ⟨Nat.zero_le _, Nat.zero_le _⟩ dX1_reduce_25 ?_
          rw [zr_zr, zr_s, zr_a (Ne.symm hne), hT2]
          refine z_iinc h dX1_reduce_28 rfl (nI_1 i) (by decide) ?_
          refine z_goto h 2 dX1_reduce_31 (by decide) ?_
          exact z_lk ih2 ⟨rfl, rfl, rfl, trivial⟩
  refine z_iconst (v := 0) h dX1_reduce_0 (by decide) ?_
  refine z_istore_n h dX1_reduce_1 rfl (by decide) ?_
  have e := LL 8 0 rfl
  unfold rdC at e
  rw [zr_id] at e
  exact z_lk e ⟨rfl, rfl, rfl, trivial⟩

set_option maxHeartbeats 4000000 in
set_option maxRecDepth 100000 in
theorem c_X1_add (l : Launch) {E : zE} {S : zS} {I : Nat → Nat → Int32} {J : Nat → Nat → Int64} {R : Nat → Nat → Option Nat} {la rs le : Nat} {ro : Nat → Nat} (hL : LA S R la rs le ro) {a : Nat} (ha : zA S a 10 10) (hao : ∀ j, j < 8 → a ≠ ro j) : zIP l yX1_add wsX1_add rmX1_add E S [.ref la, .ref a] (I, J, R) (fun r ν => (fsN (rdC (fun j k => J (ro j) k) (I le) (J a) 8) 8 0 = 8 ∧ r = b2i (decide (rdC (fun j k => J (ro j) k) (I le) (J a) 8 9 = 0)) ∧ ν = (I, zr J a (rdC (fun j k => J (ro j) k) (I le) (J a) 8), R)) ∨ (fsN (rdC (fun j k => J (ro j) k) (I le) (J a) 8) 8 0 < 8 ∧ r = 1 ∧ ∃ J', ν = (zu I le (fsN (rdC (fun j k => J (ro j) k) (I le) (J a) 8) 8 0) 1, J', R) ∧ J' a = (if 0 ≤ rdC (fun j k => J (ro j) k) (I le) (J a) 8 (fsN (rdC (fun j k => J (ro j) k) (I le) (J a) 8) 8 0) then rdC (fun j k => J (ro j) k) (I le) (J a) 8 else ng (rdC (fun j k => J (ro j) k) (I le) (J a) 8)) ∧ (∀ j, j < 8 → j ≠ fsN (rdC (fun j k => J (ro j) k) (I le) (J a) 8) 8 0 → J' (ro j) = if I le j ≠ 0 then elc (J (ro j)) (if 0 ≤ rdC (fun j k => J (ro j) k) (I le) (J a) 8 (fsN (rdC (fun j k => J (ro j) k) (I le) (J a) 8) 8 0) then rdC (fun j k => J (ro j) k) (I le) (J a) 8 else ng (rdC (fun j k => J (ro j) k) (I le) (J a) 8)) (fsN (rdC (fun j k => J (ro j) k) (I le) (J a) 8) 8 0) else J (ro j)) ∧ (∀ k, k < 10 → J' (ro (fsN (rdC (fun j k => J (ro j) k) (I le) (J a) 8) 8 0)) k = (if 0 ≤ rdC (fun j k => J (ro j) k) (I le) (J a) 8 (fsN (rdC (fun j k => J (ro j) k) (I le) (J a) 8) 8 0) then rdC (fun j k => J (ro j) k) (I le) (J a) 8 else ng (rdC (fun j k => J (ro j) k) (I le) (J a) 8)) k) ∧ ∀ q, q ≠ a → (∀ j, j < 8 → q ≠ ro j) → J' q = J q)) := by
  refine z_metIP (cc := cX1_add) (maxL := 4) (ty := .boolean) (by decide) rfl (Nat.le_of_ble_eq_true rfl) (fun X h ret => ?_)
  show zV X E S 0 0 (I, J, R) 0 _ []
  obtain ⟨l1, l2, l3, l4, l5, l6, l7⟩ := id hL
  generalize hT : (fun j k => J (ro j) k) = T at *
  have hT2 : ∀ j, J (ro j) = T j := fun j => by rw [← hT]
  generalize hr1 : rdC T (I le) (J a) 8 = r1 at *
  have hfst : fst8 r1 = if fsN r1 8 0 = 8 then -1 else nI (fsN r1 8 0) := rfl
  have hfl := fsN_le r1 8 0
  generalize hf0 : fsN r1 8 0 = f0 at *
  have L44 : f0 < 8 → ∀ (d i : Nat) (J1 : Nat → Nat → Int64), i + d = 8 → J1 a = (if 0 ≤ r1 f0 then r1 else ng r1) → (∀ j, j < 8 → J1 (ro j) = if j < i ∧ I le j ≠ 0 then elc (T j) (if 0 ≤ r1 f0 then r1 else ng r1) f0 else T j) → (∀ q, q ≠ a → (∀ j, j < 8 → q ≠ ro j) → J1 q = J q) → zV X E S 0 0 (I, J1, R) 44 [(0, .ref la), (1, .ref a), (2, .int (nI f0)), (3, .int (nI i))] [] := by
    intro hf8 d
    generalize hr2 : (if 0 ≤ r1 f0 then r1 else ng r1) = r2 at *
    induction d with
    | zero =>
      intro i J1 hi h1 h2 h3
      have e : i = 8 := by omega
      subst e
      obtain ⟨q1, q2⟩ := l6 f0 hf8
      have hne := hao f0 hf8
      refine z_iload_n h dX1_add_44 rfl rfl ?_
      refine z_bipush (v := 8) h dX1_add_45 (by decide) ?_
      rw [show (8 : Int32) = nI 8 from rfl]
      refine z_icmp_ge h 76 dX1_add_47 (by decide) (fun c47 => ?_) (fun c47 => ?_)
      · refine z_aload_n h dX1_add_76 rfl rfl ?_
        refine z_iconst (v := 0) h dX1_add_77 (by decide) ?_
        refine z_aload_n h dX1_add_78 rfl rfl ?_
        refine z_getR h (by assumption) rfl kw1 0 (by decide) rfl (by assumption) kf_RX1_11 dX1_add_79 ?_
        refine z_iload_n h dX1_add_82 rfl rfl ?_
        refine z_aaldJ h (by assumption) (zix_nI hf8 (by decide)) (q1) dX1_add_83 ?_
        refine z_iconst (v := 0) h dX1_add_84 (by decide) ?_
        refine z_bipush (v := 10) h dX1_add_85 (by decide) ?_
        refine z_copyl h kar_1 kar_s kar_i kar_n ha q2 (N := 10) rfl (by decide) (by decide) (by decide) (by decide) (by decide) dX1_add_87 ?_
        refine z_aload_n h dX1_add_90 rfl rfl ?_
        refine z_getR h (by assumption) rfl kw1 1 (by decide) rfl (by assumption) kf_RX1_16 dX1_add_91 ?_
        refine z_iload_n h dX1_add_94 rfl rfl ?_
        refine z_iconst (v := 1) h dX1_add_95 (by decide) ?_
        refine z_zast h (by assumption) (zix_nI hf8 (by decide)) dX1_add_96 ?_
        rw [show vp_nar .boolean (1 : Int32) = 1 from rfl]
        refine z_iconst (v := 1) h dX1_add_97 (by decide) ?_
        refine ret (Or.inr ⟨hf8, rfl, _, rfl, ?_, ?_, ?_, ?_⟩) dX1_add_98 rfl
        · rw [zr_a hne, h1]
        · intro j hj hjf
          rw [zr_a (fun w => hjf (l7 j f0 hj hf8 w)), h2 j hj]
          by_cases w : I le j ≠ 0
          · rw [if_pos ⟨hj, w⟩, if_pos w, hT2]
          · rw [if_neg (fun v => w v.2), if_neg w, hT2]
        · intro k hk
          rw [zr_sk, if_pos hk, h1]
        · intro q hq hq2
          rw [zr_a (hq2 f0 hf8)]
          exact h3 q hq hq2
      · exact absurd (nI_le (by decide) (by decide)) c47
    | succ d ih =>
      intro i J1 hi h1 h2 h3
      obtain ⟨q1, q2⟩ := l6 i (by omega)
      have hne := hao i (by omega)
      have hi2 := h2 i (by omega)
      rw [if_neg (fun v => absurd v.1 (Nat.lt_irrefl i))] at hi2
      refine z_iload_n h dX1_add_44 rfl rfl ?_
      refine z_bipush (v := 8) h dX1_add_45 (by decide) ?_
      rw [show (8 : Int32) = nI 8 from rfl]
      refine z_icmp_ge h 76 dX1_add_47 (by decide) (fun c47 => ?_) (fun c47 => ?_)
      · exact absurd (nle (by decide) (by omega) c47) (by omega)
      · refine z_aload_n h dX1_add_50 rfl rfl ?_
        refine z_getR h (by assumption) rfl kw1 1 (by decide) rfl (by assumption) kf_RX1_16 dX1_add_51 ?_
        refine z_iload_n h dX1_add_54 rfl rfl ?_
        refine z_zald h (by assumption) (zix_nI (by omega) (by decide)) dX1_add_55 ?_
        refine z_if_eq h 70 dX1_add_56 (by decide) (fun c56 => ?_) (fun c56 => ?_)
        · refine z_iinc h dX1_add_70 rfl (nI_1 i) (by decide) ?_
          refine z_goto h 44 dX1_add_73 (by decide) ?_
          refine z_lk (ih (i + 1) J1 (by omega) h1 (fun j hj => ?_) h3) ⟨rfl, rfl, rfl, rfl, trivial⟩
          rw [h2 j hj]
          by_cases w : j = i
          · subst w
            rw [if_neg (fun v => absurd v.1 (Nat.lt_irrefl j)), if_neg (fun v => v.2 c56)]
          · by_cases v : j < i ∧ I le j ≠ 0
            · rw [if_pos v, if_pos ⟨by omega, v.2⟩]
            · rw [if_neg v, if_neg (fun u => v ⟨by omega, u.2⟩)]
        · refine z_aload_n h dX1_add_59 rfl rfl ?_
          refine z_getR h (by assumption) rfl kw1 0 (by decide) rfl (by assumption) kf_RX1_11 dX1_add_60 ?_
          refine z_iload_n h dX1_add_63 rfl rfl ?_
          refine z_aaldJ h (by assumption) (zix_nI (by omega) (by decide)) (q1) dX1_add_64 ?_
          refine z_aload_n h dX1_add_65 rfl rfl ?_
          refine z_iload_n h dX1_add_66 rfl rfl ?_
          refine z_callSN h (c_X1_eliminate l q2 ha (Ne.symm hne) (q := f0) (by omega)) (va_cwS 3 h.2.2.2.2.1 gm_RX1_31 rfl rfl rfl (by decide +kernel) ⟨by decide, by decide⟩) rfl rfl (Nat.le_of_ble_eq_true rfl) ⟨Nat.zero_le _, Nat.zero_le _⟩ dX1_add_67 ?_
          rw [h1, hi2]
          refine z_iinc h dX1_add_70 rfl (nI_1 i) (by decide) ?_
          refine z_goto h 44 dX1_add_73 (by decide) ?_
          refine z_lk (ih (i + 1) _ (by omega) ((zr_a hne).trans h1) (fun j hj => ?_) (fun q hq hq2 => (zr_a (hq2 i (by omega))).trans (h3 q hq hq2))) ⟨rfl, rfl, rfl, rfl, trivial⟩
          by_cases w : j = i
          · subst w
            rw [zr_s, if_pos ⟨by omega, c56⟩]
          · rw [zr_a (fun v => w (l7 j i hj (by omega) v)), h2 j hj]
            by_cases v : j < i ∧ I le j ≠ 0
            · rw [if_pos v, if_pos ⟨by omega, v.2⟩]
            · rw [if_neg v, if_neg (fun u => v ⟨by omega, u.2⟩)]
  have INIT : ∀ J1 : Nat → Nat → Int64, ∀ r2, J1 = zr J a r2 → (∀ j, j < 8 → J1 (ro j) = if j < 0 ∧ I le j ≠ 0 then elc (T j) (if 0 ≤ r1 f0 then r1 else ng r1) f0 else T j) ∧ (∀ q, q ≠ a → (∀ j, j < 8 → q ≠ ro j) → J1 q = J q) := by
    intro J1 r2 hJ
    refine ⟨fun j hj => ?_, fun q hq _ => by rw [hJ]; exact zr_a hq⟩
    rw [hJ, zr_a (Ne.symm (hao j hj)), hT2, if_neg (fun v => absurd v.1 (Nat.not_lt_zero _))]
  refine z_aload_n h dX1_add_0 rfl rfl ?_
  refine z_aload_n h dX1_add_1 rfl rfl ?_
  refine z_callVN h (c_X1_reduce l hL ha hao) (by assumption) rfl gm_RX1_20 rfl ⟨rfl, rfl⟩ 1 (by decide +kernel) ⟨by decide, by decide⟩ rfl rfl (Nat.le_of_ble_eq_true rfl) ⟨Nat.zero_le _, Nat.zero_le _⟩ dX1_add_2 ?_
  rw [hT, hr1]
  refine z_aload_n h dX1_add_5 rfl rfl ?_
  refine z_callSI h (c_X1_firstName l ha) (va_cwS 1 h.2.2.2.2.1 gm_RX1_24 rfl rfl rfl (by decide +kernel) ⟨by decide, by decide⟩) rfl rfl (Nat.le_of_ble_eq_true rfl) ⟨Nat.zero_le _, Nat.zero_le _⟩ dX1_add_6 ?_
  rw [zr_s, hfst]
  refine z_istore_n h dX1_add_9 rfl (by decide) ?_
  refine z_iload_n h dX1_add_10 rfl rfl ?_
  refine z_iconst (v := -1) h dX1_add_11 (by decide) ?_
  refine z_icmp_ne h 30 dX1_add_12 (by decide) (fun c12 => ?_) (fun c12 => ?_)
  · have hf8 : f0 < 8 := by
      by_cases w : f0 = 8
      · rw [if_pos w] at c12; exact absurd rfl c12
      · omega
    rw [if_neg (show ¬ f0 = 8 by omega)]
    refine z_aload_n h dX1_add_30 rfl rfl ?_
    refine z_iload_n h dX1_add_31 rfl rfl ?_
    refine z_lald h (by assumption) (zix_nI (by omega) (by decide)) dX1_add_32 ?_
    rw [zr_sk]
    refine z_lconst (v := 0) h dX1_add_33 (by decide) ?_
    refine z_lcmp h dX1_add_34 ?_
    refine z_if_ge h 42 dX1_add_35 (by decide) (fun c35 => ?_) (fun c35 => ?_)
    · have c35 := (lg_cmp_ge _ _).mp c35
      refine z_iconst (v := 0) h dX1_add_42 (by decide) ?_
      refine z_istore_n h dX1_add_43 rfl (by decide) ?_
      first
        | (obtain ⟨i1, i2⟩ := INIT (zr J a r1) r1 rfl
           exact z_lk (L44 hf8 8 0 (zr J a r1) rfl (by rw [zr_s, if_pos c35]) i1 i2) ⟨rfl, rfl, rfl, rfl, trivial⟩)
        | (obtain ⟨i1, i2⟩ := INIT (zr J a (ng r1)) (ng r1) rfl
           exact z_lk (L44 hf8 8 0 (zr J a (ng r1)) rfl (by rw [zr_s, if_neg c35]) i1 i2) ⟨rfl, rfl, rfl, rfl, trivial⟩)
    · have c35 := mt (lg_cmp_ge _ _).mpr c35
      refine z_aload_n h dX1_add_38 rfl rfl ?_
      refine z_callSN h (c_X1_negate l ha) (va_cwS 1 h.2.2.2.2.1 gm_RX1_28 rfl rfl rfl (by decide +kernel) ⟨by decide, by decide⟩) rfl rfl (Nat.le_of_ble_eq_true rfl) ⟨Nat.zero_le _, Nat.zero_le _⟩ dX1_add_39 ?_
      rw [zr_zr, zr_s]
      refine z_iconst (v := 0) h dX1_add_42 (by decide) ?_
      refine z_istore_n h dX1_add_43 rfl (by decide) ?_
      first
        | (obtain ⟨i1, i2⟩ := INIT (zr J a r1) r1 rfl
           exact z_lk (L44 hf8 8 0 (zr J a r1) rfl (by rw [zr_s, if_pos c35]) i1 i2) ⟨rfl, rfl, rfl, rfl, trivial⟩)
        | (obtain ⟨i1, i2⟩ := INIT (zr J a (ng r1)) (ng r1) rfl
           exact z_lk (L44 hf8 8 0 (zr J a (ng r1)) rfl (by rw [zr_s, if_neg c35]) i1 i2) ⟨rfl, rfl, rfl, rfl, trivial⟩)
  · have hf8 : f0 = 8 := by
      by_cases w : f0 = 8
      · exact w
      · rw [if_neg w] at c12; exact absurd c12 (nI_nm1 (by omega))
    refine z_aload_n h dX1_add_15 rfl rfl ?_
    refine z_bipush (v := 9) h dX1_add_16 (by decide) ?_
    rw [show (9 : Int32) = nI 9 from rfl]
    refine z_lald h (by assumption) (zix_nI (by decide) (by decide)) dX1_add_18 ?_
    rw [zr_sk]
    refine z_lconst (v := 0) h dX1_add_19 (by decide) ?_
    refine z_lcmp h dX1_add_20 ?_
    refine z_if_ne h 28 dX1_add_21 (by decide) (fun c21 => ?_) (fun c21 => ?_)
    · have c21 := mt (lg_cmp_eq _ _).mpr c21
      refine z_iconst (v := 0) h dX1_add_28 (by decide) ?_
      first | exact ret (Or.inl ⟨hf8, (b2i_t (decide_eq_true c21)).symm, rfl⟩) dX1_add_29 rfl | exact ret (Or.inl ⟨hf8, (b2i_f (decide_eq_false c21)).symm, rfl⟩) dX1_add_29 rfl
    · have c21 := (lg_cmp_eq _ _).mp c21
      refine z_iconst (v := 1) h dX1_add_24 (by decide) ?_
      refine z_goto h 29 dX1_add_25 (by decide) ?_
      first | exact ret (Or.inl ⟨hf8, (b2i_t (decide_eq_true c21)).symm, rfl⟩) dX1_add_29 rfl | exact ret (Or.inl ⟨hf8, (b2i_f (decide_eq_false c21)).symm, rfl⟩) dX1_add_29 rfl
