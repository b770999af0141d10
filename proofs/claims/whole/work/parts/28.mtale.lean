/-! THE REFERENCE's tale: the object x, its sentences td, m of them -/
def TD (S : zS) (R : Nat → Nat → Option Nat) (I : Nat → Nat → Int32) (x td m : Nat) : Prop := zO S x 7 ∧ R x 3 = some td ∧ zA S td 9 70 ∧ I x 7 = nI m ∧ m ≤ 10
/-- the part w of the sentence i -/
def tdP (I : Nat → Nat → Int32) (td i w : Nat) : Int32 := I td (7 * i + w)
def fcM (I : Nat → Nat → Int32) (td : Nat) : Nat → Int32
  | 0 => 0
  | i + 1 => fcM I td i ||| (if tdP I td i 0 < 5 then (1 : Int32) <<< (nI i &&& 31) else 0)
def sgM (I : Nat → Nat → Int32) (td : Nat) (b : Int32) : Nat → Int32
  | 0 => b
  | i + 1 => sgM I td b i + (if tdP I td i 0 < 5 then 0 else 1)

set_option maxHeartbeats 4000000 in
set_option maxRecDepth 100000 in
theorem c_X7_of (l : Launch) {E : zE} {S : zS} {I : Nat → Nat → Int32} {J : Nat → Nat → Int64} {R : Nat → Nat → Option Nat} {x td i w : Nat} (d1 : zO S x 7) (d2 : R x 3 = some td) (d3 : zA S td 9 70) (hi : 7 * i + w < 70) : zI l yX7_of wsX7_of rmX7_of E S [.ref x, .int (nI i), .int (nI w)] (I, J, R) (tdP I td i w) (I, J, R) := by
  refine z_metI (cc := cX7_of) (maxL := 3) (ty := .int) (by decide) rfl (Nat.le_of_ble_eq_true rfl) (fun X h ret => ?_)
  show zV X E S 0 0 (I, J, R) 0 _ []
  refine z_aload_n h dX7_of_0 rfl rfl ?_
  refine z_getR h (by assumption) rfl kw7 3 (by decide) rfl (by assumption) kf_RX7_13 dX7_of_1 ?_
  refine z_bipush (v := 7) h dX7_of_4 (by decide) ?_
  refine z_iload_n h dX7_of_6 rfl rfl ?_
  rw [show (7 : Int32) = nI 7 from rfl]
  refine z_imul h dX7_of_7 ?_
  rw [pk_mul]
  refine z_iload_n h dX7_of_8 rfl rfl ?_
  refine z_iadd h dX7_of_9 ?_
  rw [nI_add]
  refine z_iald h (by assumption) (zix_nI (by omega) (by decide)) dX7_of_10 ?_
  exact ret dX7_of_11 rfl

set_option maxHeartbeats 4000000 in
set_option maxRecDepth 100000 in
theorem c_X7_isFact (l : Launch) {E : zE} {S : zS} {I : Nat → Nat → Int32} {J : Nat → Nat → Int64} {R : Nat → Nat → Option Nat} {x td i : Nat} (d1 : zO S x 7) (d2 : R x 3 = some td) (d3 : zA S td 9 70) (hi : i < 10) : zI l yX7_isFact wsX7_isFact rmX7_isFact E S [.ref x, .int (nI i)] (I, J, R) (b2i (decide (tdP I td i 0 < 5))) (I, J, R) := by
  refine z_metI (cc := cX7_isFact) (maxL := 2) (ty := .boolean) (by decide) rfl (Nat.le_of_ble_eq_true rfl) (fun X h ret => ?_)
  show zV X E S 0 0 (I, J, R) 0 _ []
  refine z_aload_n h dX7_isFact_0 rfl rfl ?_
  refine z_iload_n h dX7_isFact_1 rfl rfl ?_
  refine z_iconst (v := 0) h dX7_isFact_2 (by decide) ?_
  refine z_callVI h (c_X7_of l d1 d2 d3 (w := 0) (by omega)) (by assumption) rfl gm_RX7_214 rfl ⟨rfl, rfl⟩ 2 (by decide +kernel) ⟨by decide, by decide⟩ rfl rfl (Nat.le_of_ble_eq_true rfl) ⟨Nat.zero_le _, Nat.zero_le _⟩ dX7_isFact_3 ?_
  refine z_iconst (v := 5) h dX7_isFact_6 (by decide) ?_
  refine z_icmp_ge h 14 dX7_isFact_7 (by decide) (fun c7 => ?_) (fun c7 => ?_)
  · rw [b2i_f (decide_eq_false (Int32.not_lt.mpr c7))] at ret
    refine z_iconst (v := 0) h dX7_isFact_14 (by decide) ?_
    exact ret dX7_isFact_15 rfl
  · rw [b2i_t (decide_eq_true (Int32.not_le.mp c7))] at ret
    refine z_iconst (v := 1) h dX7_isFact_10 (by decide) ?_
    refine z_goto h 15 dX7_isFact_11 (by decide) ?_
    exact ret dX7_isFact_15 rfl

set_option maxHeartbeats 4000000 in
set_option maxRecDepth 100000 in
theorem c_X7_all (l : Launch) {E : zE} {S : zS} {I : Nat → Nat → Int32} {J : Nat → Nat → Int64} {R : Nat → Nat → Option Nat} {x td m : Nat} (hD : TD S R I x td m) : zI l yX7_all wsX7_all rmX7_all E S [.ref x] (I, J, R) ((1 : Int32) <<< (nI m &&& 31) - 1) (I, J, R) := by
  refine z_metI (cc := cX7_all) (maxL := 1) (ty := .int) (by decide) rfl (Nat.le_of_ble_eq_true rfl) (fun X h ret => ?_)
  show zV X E S 0 0 (I, J, R) 0 _ []
  obtain ⟨d1, d2, d3, d4, d5⟩ := id hD
  refine z_iconst (v := 1) h dX7_all_0 (by decide) ?_
  refine z_aload_n h dX7_all_1 rfl rfl ?_
  refine z_getI h (by assumption) rfl kw7 7 (by decide) rfl kf_RX7_205 dX7_all_2 ?_
  rw [d4]
  refine z_ishl h dX7_all_5 ?_
  refine z_iconst (v := 1) h dX7_all_6 (by decide) ?_
  refine z_isub h dX7_all_7 ?_
  exact ret dX7_all_8 rfl

set_option maxHeartbeats 4000000 in
set_option maxRecDepth 100000 in
theorem c_X7_facts (l : Launch) {E : zE} {S : zS} {I : Nat → Nat → Int32} {J : Nat → Nat → Int64} {R : Nat → Nat → Option Nat} {x td m : Nat} (hD : TD S R I x td m) : zI l yX7_facts wsX7_facts rmX7_facts E S [.ref x] (I, J, R) (fcM I td m) (I, J, R) := by
  refine z_metI (cc := cX7_facts) (maxL := 3) (ty := .int) (by decide) rfl (Nat.le_of_ble_eq_true rfl) (fun X h ret => ?_)
  show zV X E S 0 0 (I, J, R) 0 _ []
  obtain ⟨d1, d2, d3, d4, d5⟩ := id hD
  have L4 : ∀ (d i : Nat), i + d = m → zV X E S 0 0 (I, J, R) 4 [(0, .ref x), (1, .int (fcM I td i)), (2, .int (nI i))] [] := by
    intro d
    induction d with
    | zero =>
      intro i hi
      have e : i = m := by omega
      subst e
      refine z_iload_n h dX7_facts_4 rfl rfl ?_
      refine z_aload_n h dX7_facts_5 rfl rfl ?_
      refine z_getI h (by assumption) rfl kw7 7 (by decide) rfl kf_RX7_205 dX7_facts_6 ?_
      rw [d4]
      refine z_icmp_ge h 36 dX7_facts_9 (by decide) (fun c9 => ?_) (fun c9 => ?_)
      · refine z_iload_n h dX7_facts_36 rfl rfl ?_
        exact ret dX7_facts_37 rfl
      · exact absurd (nI_le (by omega) (by omega)) c9
    | succ d ih =>
      intro i hi
      have ih2 := ih (i + 1) (by omega)
      unfold fcM at ih2
      refine z_iload_n h dX7_facts_4 rfl rfl ?_
      refine z_aload_n h dX7_facts_5 rfl rfl ?_
      refine z_getI h (by assumption) rfl kw7 7 (by decide) rfl kf_RX7_205 dX7_facts_6 ?_
      rw [d4]
      refine z_icmp_ge h 36 dX7_facts_9 (by decide) (fun c9 => ?_) (fun c9 => ?_)
      · exact absurd (nle (by omega) (by omega) c9) (by omega)
      · refine z_iload_n h dX7_facts_12 rfl rfl ?_
        refine z_aload_n h dX7_facts_13 rfl rfl ?_
        refine z_iload_n h dX7_facts_14 rfl rfl ?_
        refine z_callVI h (c_X7_isFact l d1 d2 d3 (by omega)) (by assumption) rfl gm_RX7_235 rfl ⟨rfl, rfl⟩ 1 (by decide +kernel) ⟨by decide, by decide⟩ rfl rfl (Nat.le_of_ble_eq_true rfl) ⟨Nat.zero_le _, Nat.zero_le _⟩ dX7_facts_15 ?_
        refine z_if_eq h 27 dX7_facts_18 (by decide) (fun c18 => ?_) (fun c18 => ?_)
        · rw [if_neg (of_decide_eq_false (b2i_0.mp c18))] at ih2
          refine z_iconst (v := 0) h dX7_facts_27 (by decide) ?_
          refine z_ior h dX7_facts_28 ?_
          refine z_istore_n h dX7_facts_29 rfl (by decide) ?_
          refine z_iinc h dX7_facts_30 rfl (nI_1 i) (by decide) ?_
          refine z_goto h 4 dX7_facts_33 (by decide) ?_
          exact z_lk ih2 ⟨rfl, rfl, rfl, trivial⟩
        · rw [if_pos (of_decide_eq_true (b2i_n0.mp c18))] at ih2
          refine z_iconst (v := 1) h dX7_facts_21 (by decide) ?_
          refine z_iload_n h dX7_facts_22 rfl rfl ?_
          refine z_ishl h dX7_facts_23 ?_
          refine z_goto h 28 dX7_facts_24 (by decide) ?_
          refine z_ior h dX7_facts_28 ?_
          refine z_istore_n h dX7_facts_29 rfl (by decide) ?_
          refine z_iinc h dX7_facts_30 rfl (nI_1 i) (by decide) ?_
          refine z_goto h 4 dX7_facts_33 (by decide) ?_
          exact z_lk ih2 ⟨rfl, rfl, rfl, trivial⟩
  refine z_iconst (v := 0) h dX7_facts_0 (by decide) ?_
  refine z_istore_n h dX7_facts_1 rfl (by decide) ?_
  refine z_iconst (v := 0) h dX7_facts_2 (by decide) ?_
  refine z_istore_n h dX7_facts_3 rfl (by decide) ?_
  exact z_lk (L4 m 0 (by omega)) ⟨rfl, rfl, rfl, trivial⟩

set_option maxHeartbeats 4000000 in
set_option maxRecDepth 100000 in
theorem c_X7_stages (l : Launch) {E : zE} {S : zS} {I : Nat → Nat → Int32} {J : Nat → Nat → Int64} {R : Nat → Nat → Option Nat} {x td m : Nat} (hD : TD S R I x td m) : zI l yX7_stages wsX7_stages rmX7_stages E S [.ref x] (I, J, R) (sgM I td (if I x 9 = 0 then 0 else 1) m) (I, J, R) := by
  refine z_metI (cc := cX7_stages) (maxL := 3) (ty := .int) (by decide) rfl (Nat.le_of_ble_eq_true rfl) (fun X h ret => ?_)
  show zV X E S 0 0 (I, J, R) 0 _ []
  obtain ⟨d1, d2, d3, d4, d5⟩ := id hD
  have L15 : ∀ (b : Int32) (d i : Nat), i + d = m → (if I x 9 = 0 then 0 else 1) = b → zV X E S 0 0 (I, J, R) 15 [(0, .ref x), (1, .int (sgM I td b i)), (2, .int (nI i))] [] := by
    intro b d
    induction d with
    | zero =>
      intro i hi hb
      have e : i = m := by omega
      subst e
      subst hb
      refine z_iload_n h dX7_stages_15 rfl rfl ?_
      refine z_aload_n h dX7_stages_16 rfl rfl ?_
      refine z_getI h (by assumption) rfl kw7 7 (by decide) rfl kf_RX7_205 dX7_stages_17 ?_
      rw [d4]
      refine z_icmp_ge h 45 dX7_stages_20 (by decide) (fun c20 => ?_) (fun c20 => ?_)
      · refine z_iload_n h dX7_stages_45 rfl rfl ?_
        exact ret dX7_stages_46 rfl
      · exact absurd (nI_le (by omega) (by omega)) c20
    | succ d ih =>
      intro i hi hb
      have ih2 := ih (i + 1) (by omega) hb
      unfold sgM at ih2
      refine z_iload_n h dX7_stages_15 rfl rfl ?_
      refine z_aload_n h dX7_stages_16 rfl rfl ?_
      refine z_getI h (by assumption) rfl kw7 7 (by decide) rfl kf_RX7_205 dX7_stages_17 ?_
      rw [d4]
      refine z_icmp_ge h 45 dX7_stages_20 (by decide) (fun c20 => ?_) (fun c20 => ?_)
      · exact absurd (nle (by omega) (by omega) c20) (by omega)
      · refine z_iload_n h dX7_stages_23 rfl rfl ?_
        refine z_aload_n h dX7_stages_24 rfl rfl ?_
        refine z_iload_n h dX7_stages_25 rfl rfl ?_
        refine z_callVI h (c_X7_isFact l d1 d2 d3 (by omega)) (by assumption) rfl gm_RX7_235 rfl ⟨rfl, rfl⟩ 1 (by decide +kernel) ⟨by decide, by decide⟩ rfl rfl (Nat.le_of_ble_eq_true rfl) ⟨Nat.zero_le _, Nat.zero_le _⟩ dX7_stages_26 ?_
        refine z_if_eq h 36 dX7_stages_29 (by decide) (fun c29 => ?_) (fun c29 => ?_)
        · rw [if_neg (of_decide_eq_false (b2i_0.mp c29))] at ih2
          refine z_iconst (v := 1) h dX7_stages_36 (by decide) ?_
          refine z_iadd h dX7_stages_37 ?_
          refine z_istore_n h dX7_stages_38 rfl (by decide) ?_
          refine z_iinc h dX7_stages_39 rfl (nI_1 i) (by decide) ?_
          refine z_goto h 15 dX7_stages_42 (by decide) ?_
          exact z_lk ih2 ⟨rfl, rfl, rfl, trivial⟩
        · rw [if_pos (of_decide_eq_true (b2i_n0.mp c29))] at ih2
          refine z_iconst (v := 0) h dX7_stages_32 (by decide) ?_
          refine z_goto h 37 dX7_stages_33 (by decide) ?_
          refine z_iadd h dX7_stages_37 ?_
          refine z_istore_n h dX7_stages_38 rfl (by decide) ?_
          refine z_iinc h dX7_stages_39 rfl (nI_1 i) (by decide) ?_
          refine z_goto h 15 dX7_stages_42 (by decide) ?_
          exact z_lk ih2 ⟨rfl, rfl, rfl, trivial⟩
  refine z_aload_n h dX7_stages_0 rfl rfl ?_
  refine z_getI h (by assumption) rfl kw7 9 (by decide) rfl kf_RX7_207 dX7_stages_1 ?_
  refine z_if_eq h 11 dX7_stages_4 (by decide) (fun c4 => ?_) (fun c4 => ?_)
  · refine z_iconst (v := 0) h dX7_stages_11 (by decide) ?_
    refine z_istore_n h dX7_stages_12 rfl (by decide) ?_
    refine z_iconst (v := 0) h dX7_stages_13 (by decide) ?_
    refine z_istore_n h dX7_stages_14 rfl (by decide) ?_
    first | exact z_lk (L15 0 m 0 (by omega) (if_pos c4)) ⟨rfl, rfl, rfl, trivial⟩ | exact z_lk (L15 1 m 0 (by omega) (if_neg c4)) ⟨rfl, rfl, rfl, trivial⟩
  · refine z_iconst (v := 1) h dX7_stages_7 (by decide) ?_
    refine z_goto h 12 dX7_stages_8 (by decide) ?_
    refine z_istore_n h dX7_stages_12 rfl (by decide) ?_
    refine z_iconst (v := 0) h dX7_stages_13 (by decide) ?_
    refine z_istore_n h dX7_stages_14 rfl (by decide) ?_
    first | exact z_lk (L15 0 m 0 (by omega) (if_pos c4)) ⟨rfl, rfl, rfl, trivial⟩ | exact z_lk (L15 1 m 0 (by omega) (if_neg c4)) ⟨rfl, rfl, rfl, trivial⟩
