/-! put, undo of the class -/
/-- what 'keep' leaves -/
def KP (I I' : Nat → Nat → Int32) (ch sa na k : Nat) (s w : Int32) : Prop := fr [sa, na, ch] I I' ∧ ((k < 50 ∧ I' ch 2 = nI (k + 1) ∧ (∀ j, j < k → I' sa j = I sa j ∧ I' na j = I na j) ∧ I' sa k = s ∧ I' na k = w) ∨ (k = 50 ∧ I' ch 2 = nI 50 ∧ (∀ j, j < 49 → I' sa j = I sa (j + 1) ∧ I' na j = I na (j + 1)) ∧ I' sa 49 = s ∧ I' na 49 = w))
/-- a number that may be put -/
def ALw (I : Nat → Nat → Int32) (rw : Nat → Nat) (k : Nat) (x v : Int32) : Bool := if (if 0 ≤ x ∧ x < nI k ∧ (0 : Int32) ≤ 0 ∧ (0 : Int32) < 7 then I (rw x.toNatClampNeg) (0 : Int32).toNatClampNeg else -1) = 3 then decide (2 ≤ v ∧ v ≤ 9) else decide ((0 ≤ x ∧ x < nI k) ∧ 0 ≤ v ∧ v ≤ 999)
theorem ALw_x {I : Nat → Nat → Int32} {rw : Nat → Nat} {k : Nat} {x v : Int32} (h : ALw I rw k x v = true) : 0 ≤ x ∧ x < nI k := by
  unfold ALw at h
  by_cases q : 0 ≤ x ∧ x < nI k
  · exact q
  · rw [if_neg (show ¬ (0 ≤ x ∧ x < nI k ∧ (0 : Int32) ≤ 0 ∧ (0 : Int32) < 7) from fun w => q ⟨w.1, w.2.1⟩), if_neg (by decide), decide_eq_true_eq] at h
    exact h.1

set_option maxHeartbeats 4000000 in
set_option maxRecDepth 100000 in
theorem c_X6_put (l : Launch) {E : zE} {S : zS} {I : Nat → Nat → Int32} {J : Nat → Nat → Int64} {R : Nat → Nat → Option Nat} {st pa ak : Nat} {rw : Nat → Nat} (hY : SY S R st pa ak rw) {x ch su sa na k m : Nat} (x1 : zO S x 6) (x2 : R x 2 = some ch) (x3 : R x 3 = some su) (x4 : R x 4 = some st) (u1 : zO S su 4) (hC : CH S R I ch sa na k) (hn : I st 2 = nI m) (hm10 : m ≤ 10) {s v : Int32} {post : zM → Prop} (hM : ALw I rw m s v = true → ∀ I1, KP I I1 ch sa na k s (I (rw s.toNatClampNeg) 4) → zNP l yX4_solve wsX4_solve rmX4_solve E S [.ref su] (zu I1 (rw s.toNatClampNeg) 4 v, J, R) post) : zIP l yX6_put wsX6_put rmX6_put E S [.ref x, .int s, .int v] (I, J, R) (fun r ν => (ALw I rw m s v = false ∧ r = 0 ∧ ν = (I, J, R)) ∨ (ALw I rw m s v = true ∧ r = 1 ∧ post ν)) := by
  refine z_metIP (cc := cX6_put) (maxL := 3) (ty := .boolean) (by decide) rfl (Nat.le_of_ble_eq_true rfl) (fun X h ret => ?_)
  show zV X E S 0 0 (I, J, R) 0 _ []
  obtain ⟨k1, k2, k3, k4, k5, k6, k7, k8⟩ := id hC
  have y1 := hY.1
  have n1 : st ≠ sa := fun q => absurd (k4.2.1.symm.trans (q ▸ y1.2)) (by decide)
  have n2 : st ≠ na := fun q => absurd (k5.2.1.symm.trans (q ▸ y1.2)) (by decide)
  have n3 : st ≠ ch := fun q => absurd (k1.2.symm.trans (q ▸ y1.2)) (by decide)
  refine z_aload_n h dX6_put_0 rfl rfl ?_
  refine z_getR h (by assumption) rfl kw6 4 (by decide) rfl (by assumption) kf_RX6_35 dX6_put_1 ?_
  refine z_iload_n h dX6_put_4 rfl rfl ?_
  refine z_iload_n h dX6_put_5 rfl rfl ?_
  refine z_callVI h (show zI l yX3_allows wsX3_allows rmX3_allows E S [.ref st, .int s, .int v] (I, J, R) (b2i (ALw I rw m s v)) (I, J, R) from c_X3_allows l hY hn hm10) (by assumption) rfl gm_RX6_114 rfl ⟨rfl, rfl⟩ 2 (by decide +kernel) ⟨by decide, by decide⟩ rfl rfl (Nat.le_of_ble_eq_true rfl) ⟨Nat.zero_le _, Nat.zero_le _⟩ dX6_put_6 ?_
  refine z_if_ne h 14 dX6_put_9 (by decide) (fun c9 => ?_) (fun c9 => ?_)
  · have c9 := b2i_n0.mp c9
    refine z_aload_n h dX6_put_14 rfl rfl ?_
    refine z_getR h (by assumption) rfl kw6 2 (by decide) rfl (by assumption) kf_RX6_28 dX6_put_15 ?_
    refine z_iload_n h dX6_put_18 rfl rfl ?_
    refine z_aload_n h dX6_put_19 rfl rfl ?_
    refine z_getR h (by assumption) rfl kw6 4 (by decide) rfl (by assumption) kf_RX6_35 dX6_put_20 ?_
    refine z_iload_n h dX6_put_23 rfl rfl ?_
    refine z_iconst (v := 4) h dX6_put_24 (by decide) ?_
    refine z_callVI h (c_X3_part l hY hn hm10) (by assumption) rfl gm_RX6_84 rfl ⟨rfl, rfl⟩ 2 (by decide +kernel) ⟨by decide, by decide⟩ rfl rfl (Nat.le_of_ble_eq_true rfl) ⟨Nat.zero_le _, Nat.zero_le _⟩ dX6_put_25 ?_
    rw [if_pos ⟨(ALw_x c9).1, (ALw_x c9).2, by decide, by decide⟩, show (4 : Int32).toNatClampNeg = 4 from rfl]
    refine z_callVNP h (c_X0_keep l hC) (by assumption) rfl gm_RX6_118 rfl ⟨rfl, rfl⟩ 2 (by decide +kernel) ⟨by decide, by decide⟩ rfl rfl (Nat.le_of_ble_eq_true rfl) ⟨Nat.zero_le _, Nat.zero_le _⟩ dX6_put_28 (fun ν hν => ?_)
    obtain ⟨I1, rfl, hK⟩ := hν
    have hn1 : I1 st 2 = nI m := by rw [hK.1 st (by simp [n1, n2, n3])]; exact hn
    refine z_aload_n h dX6_put_31 rfl rfl ?_
    refine z_getR h (by assumption) rfl kw6 4 (by decide) rfl (by assumption) kf_RX6_35 dX6_put_32 ?_
    refine z_iload_n h dX6_put_35 rfl rfl ?_
    refine z_iload_n h dX6_put_36 rfl rfl ?_
    refine z_callVN h (c_X3_setNumber l hY hn1 hm10) (by assumption) rfl gm_RX6_122 rfl ⟨rfl, rfl⟩ 2 (by decide +kernel) ⟨by decide, by decide⟩ rfl rfl (Nat.le_of_ble_eq_true rfl) ⟨Nat.zero_le _, Nat.zero_le _⟩ dX6_put_37 ?_
    rw [if_pos (ALw_x c9)]
    refine z_aload_n h dX6_put_40 rfl rfl ?_
    refine z_getR h (by assumption) rfl kw6 3 (by decide) rfl (by assumption) kf_RX6_47 dX6_put_41 ?_
    refine z_callVNP h (hM c9 I1 hK) (by assumption) rfl gm_RX6_125 rfl ⟨rfl, rfl⟩ 0 (by decide +kernel) ⟨by decide, by decide⟩ rfl rfl (Nat.le_of_ble_eq_true rfl) ⟨Nat.zero_le _, Nat.zero_le _⟩ dX6_put_44 (fun ν hν => ?_)
    refine z_iconst (v := 1) h dX6_put_47 (by decide) ?_
    exact ret (Or.inr ⟨c9, rfl, hν⟩) dX6_put_48 rfl
  · have c9 := b2i_0.mp c9
    refine z_iconst (v := 0) h dX6_put_12 (by decide) ?_
    exact ret (Or.inl ⟨c9, rfl, rfl⟩) dX6_put_13 rfl

set_option maxHeartbeats 4000000 in
set_option maxRecDepth 100000 in
theorem c_X6_undo (l : Launch) {E : zE} {S : zS} {I : Nat → Nat → Int32} {J : Nat → Nat → Int64} {R : Nat → Nat → Option Nat} {st pa ak : Nat} {rw : Nat → Nat} (hY : SY S R st pa ak rw) {x ch su sa na k m : Nat} (x1 : zO S x 6) (x2 : R x 2 = some ch) (x3 : R x 3 = some su) (x4 : R x 4 = some st) (u1 : zO S su 4) (hC : CH S R I ch sa na k) (hn : I st 2 = nI m) (hm10 : m ≤ 10) {post : zM → Prop} (hM : 0 < k → zNP l yX4_solve wsX4_solve rmX4_solve E S [.ref su] (zu (if 0 ≤ I sa (k - 1) ∧ I sa (k - 1) < nI m then zu I (rw (I sa (k - 1)).toNatClampNeg) 4 (I na (k - 1)) else I) ch 2 (nI (k - 1)), J, R) post) : zIP l yX6_undo wsX6_undo rmX6_undo E S [.ref x] (I, J, R) (fun r ν => (k = 0 ∧ r = -1 ∧ ν = (I, J, R)) ∨ (0 < k ∧ r = I sa (k - 1) ∧ post ν)) := by
  refine z_metIP (cc := cX6_undo) (maxL := 2) (ty := .int) (by decide) rfl (Nat.le_of_ble_eq_true rfl) (fun X h ret => ?_)
  show zV X E S 0 0 (I, J, R) 0 _ []
  obtain ⟨k1, k2, k3, k4, k5, k6, k7, k8⟩ := id hC
  have y1 := hY.1
  have n1 : st ≠ sa := fun q => absurd (k4.2.1.symm.trans (q ▸ y1.2)) (by decide)
  have n2 : st ≠ na := fun q => absurd (k5.2.1.symm.trans (q ▸ y1.2)) (by decide)
  have n3 : st ≠ ch := fun q => absurd (k1.2.symm.trans (q ▸ y1.2)) (by decide)
  have n4 : ∀ i, i < 10 → ch ≠ rw i := fun i hi q => absurd ((hY.2.2.2.2.2.1 i hi).2.2.1.symm.trans (q ▸ k1.2)) (by decide)
  refine z_aload_n h dX6_undo_0 rfl rfl ?_
  refine z_getR h (by assumption) rfl kw6 2 (by decide) rfl (by assumption) kf_RX6_28 dX6_undo_1 ?_
  refine z_callVI h (c_X0_size l k1) (by assumption) rfl gm_RX6_128 rfl ⟨rfl, rfl⟩ 0 (by decide +kernel) ⟨by decide, by decide⟩ rfl rfl (Nat.le_of_ble_eq_true rfl) ⟨Nat.zero_le _, Nat.zero_le _⟩ dX6_undo_4 ?_
  rw [k7]
  refine z_if_ne h 12 dX6_undo_7 (by decide) (fun c7 => ?_) (fun c7 => ?_)
  · have hk0 : 0 < k := Nat.pos_of_ne_zero (fun w => c7 (by rw [w]; rfl))
    refine z_aload_n h dX6_undo_12 rfl rfl ?_
    refine z_getR h (by assumption) rfl kw6 2 (by decide) rfl (by assumption) kf_RX6_28 dX6_undo_13 ?_
    refine z_callVI h (c_X0_lastSentence l hC hk0) (by assumption) rfl gm_RX6_129 rfl ⟨rfl, rfl⟩ 0 (by decide +kernel) ⟨by decide, by decide⟩ rfl rfl (Nat.le_of_ble_eq_true rfl) ⟨Nat.zero_le _, Nat.zero_le _⟩ dX6_undo_16 ?_
    refine z_istore_n h dX6_undo_19 rfl (by decide) ?_
    refine z_aload_n h dX6_undo_20 rfl rfl ?_
    refine z_getR h (by assumption) rfl kw6 4 (by decide) rfl (by assumption) kf_RX6_35 dX6_undo_21 ?_
    refine z_iload_n h dX6_undo_24 rfl rfl ?_
    refine z_aload_n h dX6_undo_25 rfl rfl ?_
    refine z_getR h (by assumption) rfl kw6 2 (by decide) rfl (by assumption) kf_RX6_28 dX6_undo_26 ?_
    refine z_callVI h (c_X0_lastNumber l hC hk0) (by assumption) rfl gm_RX6_132 rfl ⟨rfl, rfl⟩ 0 (by decide +kernel) ⟨by decide, by decide⟩ rfl rfl (Nat.le_of_ble_eq_true rfl) ⟨Nat.zero_le _, Nat.zero_le _⟩ dX6_undo_29 ?_
    refine z_callVN h (c_X3_setNumber l hY hn hm10) (by assumption) rfl gm_RX6_122 rfl ⟨rfl, rfl⟩ 2 (by decide +kernel) ⟨by decide, by decide⟩ rfl rfl (Nat.le_of_ble_eq_true rfl) ⟨Nat.zero_le _, Nat.zero_le _⟩ dX6_undo_32 ?_
    have hC1 : CH S R (if 0 ≤ I sa (k - 1) ∧ I sa (k - 1) < nI m then zu I (rw (I sa (k - 1)).toNatClampNeg) 4 (I na (k - 1)) else I) ch sa na k := by
      refine ⟨k1, k2, k3, k4, k5, k6, ?_, k8⟩
      split
      · next w =>
        have hlt : (I sa (k - 1)).toNatClampNeg < 10 := by
          have := w.2
          rw [Int32.lt_iff_toInt_lt, nI_toInt (by omega)] at this
          have e : (I sa (k - 1)).toNatClampNeg = (I sa (k - 1)).toInt.toNat := rfl
          omega
        rw [zu_a (n4 _ hlt)]; exact k7
      · exact k7
    refine z_aload_n h dX6_undo_35 rfl rfl ?_
    refine z_getR h (by assumption) rfl kw6 2 (by decide) rfl (by assumption) kf_RX6_28 dX6_undo_36 ?_
    refine z_callVN h (c_X0_dropLast l hC1 hk0) (by assumption) rfl gm_RX6_135 rfl ⟨rfl, rfl⟩ 0 (by decide +kernel) ⟨by decide, by decide⟩ rfl rfl (Nat.le_of_ble_eq_true rfl) ⟨Nat.zero_le _, Nat.zero_le _⟩ dX6_undo_39 ?_
    refine z_aload_n h dX6_undo_42 rfl rfl ?_
    refine z_getR h (by assumption) rfl kw6 3 (by decide) rfl (by assumption) kf_RX6_47 dX6_undo_43 ?_
    refine z_callVNP h (hM hk0) (by assumption) rfl gm_RX6_125 rfl ⟨rfl, rfl⟩ 0 (by decide +kernel) ⟨by decide, by decide⟩ rfl rfl (Nat.le_of_ble_eq_true rfl) ⟨Nat.zero_le _, Nat.zero_le _⟩ dX6_undo_46 (fun ν hν => ?_)
    refine z_iload_n h dX6_undo_49 rfl rfl ?_
    exact ret (Or.inr ⟨hk0, rfl, hν⟩) dX6_undo_50 rfl
  · have hk0 : k = 0 := nI_inj (by omega) (by decide) c7
    refine z_iconst (v := -1) h dX6_undo_10 (by decide) ?_
    exact ret (Or.inl ⟨hk0, rfl, rfl⟩) dX6_undo_11 rfl
