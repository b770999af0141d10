set_option maxHeartbeats 4000000 in
set_option maxRecDepth 100000 in
theorem c_X5_find (l : Launch) {E : zE} {S : zS} {I : Nat → Nat → Int32} {J : Nat → Nat → Int64} {R : Nat → Nat → Option Nat} {t b n f e i en k : Nat} (hT : TP S R I t b n f e) (hi : i < zlN) (hk : k < 400) (hen4 : en < 400) (hen : en * k ≤ (zsb i).length) : zI l yX5_find wsX5_find rmX5_find E S [.ref t, .ref (E.2.2.1 i), .int (nI en), .int (nI k)] (I, J, R) (fnd (I b) f e (zsb i) en k) (I, J, R) := by
  refine z_metI (cc := cX5_find) (maxL := 6) (ty := .int) (by decide) rfl (Nat.le_of_ble_eq_true rfl) (fun X h ret => ?_)
  show zV X E S 0 0 (I, J, R) 0 _ []
  obtain ⟨h1, h2, h3, h4, h5, h6, h7, h8, h9⟩ := id hT
  have hL := (zsb_ok i hi).1
  have hk4 : k < 2 ^ 31 := by omega
  have hen4 : en < 2 ^ 31 := by omega
  have L48 : ∀ (a : Nat), a < en → e - f = k → ∀ (d j : Nat), j + d = k → zV X E S 0 0 (I, J, R) 86 [(0, .ref t), (1, .ref (E.2.2.1 i)), (2, .int (nI en)), (3, .int (nI k)), (4, .int (nI a)), (5, .int (nI (mtc (I b) f (zsb i) (a * k) d j)))] [] → zV X E S 0 0 (I, J, R) 48 [(0, .ref t), (1, .ref (E.2.2.1 i)), (2, .int (nI en)), (3, .int (nI k)), (4, .int (nI a)), (5, .int (nI j))] [] := by
    intro a ha hef d
    have hak : a * k + k ≤ en * k := by
      have := Nat.mul_le_mul_right k (show a + 1 ≤ en by omega)
      rw [Nat.succ_mul] at this
      exact this
    induction d with
    | zero =>
      intro j hj kk
      refine z_iload h dX5_find_48 rfl ?_
      refine z_iload_n h dX5_find_50 rfl rfl ?_
      refine z_icmp_ge h 86 dX5_find_51 (by decide) (fun c51 => ?_) (fun c51 => ?_)
      · exact kk
      · exact absurd (nI_le (by omega) (by omega)) c51
    | succ d ih =>
      intro j hj kk
      refine z_iload h dX5_find_48 rfl ?_
      refine z_iload_n h dX5_find_50 rfl rfl ?_
      refine z_icmp_ge h 86 dX5_find_51 (by decide) (fun c51 => ?_) (fun c51 => ?_)
      · exact absurd (nle (by omega) (by omega) c51) (by omega)
      · refine z_aload_n h dX5_find_54 rfl rfl ?_
        refine z_getR h (by assumption) rfl kw5 0 (by decide) rfl (by assumption) kf_RX5_9 dX5_find_55 ?_
        refine z_aload_n h dX5_find_58 rfl rfl ?_
        refine z_getI h (by assumption) rfl kw5 2 (by decide) rfl kf_RX5_19 dX5_find_59 ?_
        rw [h5]
        refine z_iload h dX5_find_62 rfl ?_
        refine z_iadd h dX5_find_64 ?_
        rw [nI_add]
        refine z_iald h (by assumption) (zix_nI (j := f + j) (by omega) (by decide)) dX5_find_65 ?_
        refine z_aload_n h dX5_find_66 rfl rfl ?_
        refine z_iload h dX5_find_67 rfl ?_
        refine z_iload_n h dX5_find_69 rfl rfl ?_
        refine z_imul h dX5_find_70 ?_
        refine z_iload h dX5_find_71 rfl ?_
        refine z_iadd h dX5_find_73 ?_
        rw [pk_mul, nI_add]
        refine z_callTI h hi (c_J0_charAt l hi (j := a * k + j) (by omega)) gm_RX5_51 rfl ⟨rfl, rfl⟩ 1 (by decide +kernel) ⟨by decide, by decide⟩ rfl rfl (Nat.le_of_ble_eq_true rfl) ⟨Nat.zero_le _, Nat.zero_le _⟩ dX5_find_74 ?_
        refine z_icmp_ne h 86 dX5_find_77 (by decide) (fun c77 => ?_) (fun c77 => ?_)
        · rw [mtc, if_neg c77] at kk
          exact kk
        · rw [mtc, if_pos c77] at kk
          refine z_iinc h dX5_find_80 rfl (nI_1 j) (by decide) ?_
          refine z_goto h 48 dX5_find_83 (by decide) ?_
          exact z_lk (ih (j + 1) (by omega) kk) ⟨rfl, rfl, rfl, rfl, rfl, rfl, trivial⟩
  have L39 : e - f = k → ∀ (d a : Nat), a + d = en → (∀ {pc : Nat} {lv : List (Nat × Value)}, decode cX5_find pc = .ok (.ireturn, 1) → zV X E S 0 0 (I, J, R) pc lv [.int (fndW (I b) f (zsb i) k d a)]) → zV X E S 0 0 (I, J, R) 39 [(0, .ref t), (1, .ref (E.2.2.1 i)), (2, .int (nI en)), (3, .int (nI k)), (4, .int (nI a))] [] := by
    intro hef d
    induction d with
    | zero =>
      intro a ha kk
      refine z_iload h dX5_find_39 rfl ?_
      refine z_iload_n h dX5_find_41 rfl rfl ?_
      refine z_icmp_ge h 101 dX5_find_42 (by decide) (fun c42 => ?_) (fun c42 => ?_)
      · refine z_iconst (v := -1) h dX5_find_101 (by decide) ?_
        exact kk dX5_find_102
      · exact absurd (nI_le (by omega) (by omega)) c42
    | succ d ih =>
      intro a ha kk
      refine z_iload h dX5_find_39 rfl ?_
      refine z_iload_n h dX5_find_41 rfl rfl ?_
      refine z_icmp_ge h 101 dX5_find_42 (by decide) (fun c42 => ?_) (fun c42 => ?_)
      · exact absurd (nle (by omega) (by omega) c42) (by omega)
      · refine z_iconst (v := 0) h dX5_find_45 (by decide) ?_
        refine z_istore h dX5_find_46 (by decide) ?_
        have hm := mtc_le (I b) f (zsb i) (a * k) k 0
        refine z_lk (L48 a (by omega) hef k 0 (by omega) ?_) ⟨rfl, rfl, rfl, rfl, rfl, rfl, trivial⟩
        refine z_iload h dX5_find_86 rfl ?_
        refine z_iload_n h dX5_find_88 rfl rfl ?_
        refine z_icmp_ne h 95 dX5_find_89 (by decide) (fun c89 => ?_) (fun c89 => ?_)
        · rw [fndW, if_neg (fun q => c89 (by rw [q]))] at kk
          refine z_iinc h dX5_find_95 rfl (nI_1 a) (by decide) ?_
          refine z_goto h 39 dX5_find_98 (by decide) ?_
          exact z_lk (ih (a + 1) (by omega) kk) ⟨rfl, rfl, rfl, rfl, rfl, trivial⟩
        · rw [fndW, if_pos ((nI_eq (by omega) hk4).mp c89)] at kk
          refine z_iload h dX5_find_92 rfl ?_
          exact kk dX5_find_94
  refine z_aload_n h dX5_find_0 rfl rfl ?_
  refine z_getI h (by assumption) rfl kw5 3 (by decide) rfl kf_RX5_22 dX5_find_1 ?_
  refine z_aload_n h dX5_find_4 rfl rfl ?_
  refine z_getI h (by assumption) rfl kw5 2 (by decide) rfl kf_RX5_19 dX5_find_5 ?_
  rw [h6, h5]
  refine z_isub h dX5_find_8 ?_
  rw [pk_sub h8]
  refine z_iload_n h dX5_find_9 rfl rfl ?_
  refine z_icmp_ne h 34 dX5_find_10 (by decide) (fun c10 => ?_) (fun c10 => ?_)
  · rw [show fnd (I b) f e (zsb i) en k = -1 from if_neg (fun q => c10 (by rw [q]))] at ret
    refine z_iconst (v := -1) h dX5_find_34 (by decide) ?_
    exact ret dX5_find_35 rfl
  · refine z_aload_n h dX5_find_13 rfl rfl ?_
    refine z_getI h (by assumption) rfl kw5 3 (by decide) rfl kf_RX5_22 dX5_find_14 ?_
    refine z_aload_n h dX5_find_17 rfl rfl ?_
    refine z_getI h (by assumption) rfl kw5 1 (by decide) rfl kf_RX5_15 dX5_find_18 ?_
    rw [h6, h4]
    refine z_icmp_gt h 34 dX5_find_21 (by decide) (fun c21 => ?_) (fun c21 => ?_)
    · exact absurd (nlt (by omega) (by omega) c21) (by omega)
    · refine z_iload_n h dX5_find_24 rfl rfl ?_
      refine z_iload_n h dX5_find_25 rfl rfl ?_
      refine z_imul h dX5_find_26 ?_
      refine z_aload_n h dX5_find_27 rfl rfl ?_
      have hef := (nI_eq (by omega) hk4).mp c10
      refine z_callTI h hi (c_J0_length l hi) gm_RX5_38 rfl ⟨rfl, rfl⟩ 0 (by decide +kernel) ⟨by decide, by decide⟩ rfl rfl (Nat.le_of_ble_eq_true rfl) ⟨Nat.zero_le _, Nat.zero_le _⟩ dX5_find_28 ?_
      rw [pk_mul]
      refine z_icmp_le h 36 dX5_find_31 (by decide) (fun c31 => ?_) (fun c31 => absurd (nI_le hen (by omega)) c31)
      refine z_iconst (v := 0) h dX5_find_36 (by decide) ?_
      refine z_istore h dX5_find_37 (by decide) ?_
      rw [show fnd (I b) f e (zsb i) en k = fndW (I b) f (zsb i) k en 0 from if_pos hef] at ret
      exact z_lk (L39 hef en 0 (by omega) (fun hd => ret hd rfl)) ⟨rfl, rfl, rfl, rfl, rfl, trivial⟩

theorem fnd_1 {g : Nat → Int32} {f e : Nat} {s : List Int32} : fnd g f e s 1 s.length = if mW g f e s = true then 0 else -1 := by
  unfold fnd mW
  by_cases h : e - f = s.length
  · rw [if_pos h]
    unfold fndW
    rw [Nat.zero_mul]
    by_cases q : mtc g f s 0 s.length 0 = s.length
    · rw [if_pos q]; simp [h, q]; rfl
    · rw [if_neg q]; simp [q, fndW]
  · rw [if_neg h]; simp [h]
theorem fndW_or (g : Nat → Int32) (f : Nat) (s : List Int32) (k : Nat) : ∀ d i, fndW g f s k d i = -1 ∨ ∃ j, i ≤ j ∧ j < i + d ∧ fndW g f s k d i = nI j
  | 0, i => Or.inl rfl
  | d + 1, i => by
    unfold fndW
    split
    · exact Or.inr ⟨i, by omega, by omega, rfl⟩
    · rcases fndW_or g f s k d (i + 1) with h | ⟨j, h1, h2, h3⟩
      · exact Or.inl h
      · exact Or.inr ⟨j, by omega, by omega, h3⟩
theorem fnd_or (g : Nat → Int32) (f e : Nat) (s : List Int32) (en k : Nat) : fnd g f e s en k = -1 ∨ ∃ j, j < en ∧ fnd g f e s en k = nI j := by
  unfold fnd
  split
  · rcases fndW_or g f s k en 0 with h | ⟨j, h1, h2, h3⟩
    · exact Or.inl h
    · exact Or.inr ⟨j, by omega, h3⟩
  · exact Or.inl rfl
/-- the places of the next word -/
def nxF (g : Nat → Int32) (n e : Nat) : Nat := skp g n e
def nxE (g : Nat → Int32) (n e : Nat) : Nat := wnd g n (skp g n e)

set_option maxHeartbeats 4000000 in
set_option maxRecDepth 100000 in
theorem c_X5_take (l : Launch) {E : zE} {S : zS} {I : Nat → Nat → Int32} {J : Nat → Nat → Int64} {R : Nat → Nat → Option Nat} {t b n f e i : Nat} (hT : TP S R I t b n f e) (hi : i < zlN) : zIP l yX5_take wsX5_take rmX5_take E S [.ref t, .ref (E.2.2.1 i)] (I, J, R) (fun r ν => r = b2i (mW (I b) f e (zsb i)) ∧ tpN S J R I t b n (if mW (I b) f e (zsb i) = true then nxF (I b) n e else f) (if mW (I b) f e (zsb i) = true then nxE (I b) n e else e) ν) := by
  refine z_metIP (cc := cX5_take) (maxL := 2) (ty := .boolean) (by decide) rfl (Nat.le_of_ble_eq_true rfl) (fun X h ret => ?_)
  show zV X E S 0 0 (I, J, R) 0 _ []
  obtain ⟨h1, h2, h3, h4, h5, h6, h7, h8, h9⟩ := id hT
  refine z_aload_n h dX5_take_0 rfl rfl ?_
  refine z_aload_n h dX5_take_1 rfl rfl ?_
  refine z_iconst (v := 1) h dX5_take_2 (by decide) ?_
  refine z_aload_n h dX5_take_3 rfl rfl ?_
  refine z_callTI h hi (c_J0_length l hi) gm_RX5_38 rfl ⟨rfl, rfl⟩ 0 (by decide +kernel) ⟨by decide, by decide⟩ rfl rfl (Nat.le_of_ble_eq_true rfl) ⟨Nat.zero_le _, Nat.zero_le _⟩ dX5_take_4 ?_
  rw [show (1 : Int32) = nI 1 from rfl]
  refine z_callVI h (c_X5_find l hT hi (zsb_ok i hi).1 (by decide) (by omega)) h1 rfl gm_RX5_43 rfl ⟨rfl, rfl⟩ 3 (by decide +kernel) ⟨by decide, by decide⟩ rfl rfl (Nat.le_of_ble_eq_true rfl) ⟨Nat.zero_le _, Nat.zero_le _⟩ dX5_take_7 ?_
  refine z_iconst (v := -1) h dX5_take_10 (by decide) ?_
  rw [fnd_1]
  refine z_icmp_ne h 16 dX5_take_11 (by decide) (fun c11 => ?_) (fun c11 => ?_)
  · have hm : mW (I b) f e (zsb i) = true := by
      by_cases q : mW (I b) f e (zsb i) = true
      · exact q
      · rw [if_neg q] at c11
        exact absurd rfl c11
    refine z_aload_n h dX5_take_16 rfl rfl ?_
    refine z_callVN h (c_X5_advance l (n := n) (p := e) (b := b) h1 h2 h3 h4 h7 h6 h9) h1 rfl gm_RX5_28 rfl ⟨rfl, rfl⟩ 0 (by decide +kernel) ⟨by decide, by decide⟩ rfl rfl (Nat.le_of_ble_eq_true rfl) ⟨Nat.zero_le _, Nat.zero_le _⟩ dX5_take_17 ?_
    refine z_iconst (v := 1) h dX5_take_20 (by decide) ?_
    refine ret (r := 1) ⟨by rw [hm]; rfl, ?_⟩ dX5_take_21 rfl
    rw [if_pos hm, if_pos hm]
    exact ⟨_, rfl, hT.adv⟩
  · have hm : mW (I b) f e (zsb i) = false := by
      by_cases q : mW (I b) f e (zsb i) = true
      · rw [if_pos q] at c11
        exact absurd c11 (by decide)
      · simpa using q
    refine z_iconst (v := 0) h dX5_take_14 (by decide) ?_
    refine ret (r := 0) ⟨by rw [hm]; rfl, ?_⟩ dX5_take_15 rfl
    rw [hm]
    exact ⟨_, rfl, hT, fr_rf⟩

set_option maxHeartbeats 4000000 in
set_option maxRecDepth 100000 in
theorem c_X5_takeName (l : Launch) {E : zE} {S : zS} {I : Nat → Nat → Int32} {J : Nat → Nat → Int64} {R : Nat → Nat → Option Nat} {t b n f e : Nat} {u : Int32} (hT : TP S R I t b n f e) : zIP l yX5_takeName wsX5_takeName rmX5_takeName E S [.ref t, .int u] (I, J, R) (fun r ν => r = (if fnd (I b) f e (zsb 17) 8 3 ≠ -1 ∧ fnd (I b) f e (zsb 17) 8 3 ≠ u then fnd (I b) f e (zsb 17) 8 3 else -1) ∧ tpN S J R I t b n (if fnd (I b) f e (zsb 17) 8 3 ≠ -1 ∧ fnd (I b) f e (zsb 17) 8 3 ≠ u then nxF (I b) n e else f) (if fnd (I b) f e (zsb 17) 8 3 ≠ -1 ∧ fnd (I b) f e (zsb 17) 8 3 ≠ u then nxE (I b) n e else e) ν) := by
  refine z_metIP (cc := cX5_takeName) (maxL := 3) (ty := .int) (by decide) rfl (Nat.le_of_ble_eq_true rfl) (fun X h ret => ?_)
  show zV X E S 0 0 (I, J, R) 0 _ []
  obtain ⟨h1, h2, h3, h4, h5, h6, h7, h8, h9⟩ := id hT
  refine z_aload_n h dX5_takeName_0 rfl rfl ?_
  refine z_ldcS h 17 (by decide) rfl rfl dX5_takeName_1 ?_
  refine z_bipush (v := 8) h dX5_takeName_3 (by decide) ?_
  refine z_iconst (v := 3) h dX5_takeName_5 (by decide) ?_
  rw [show (8 : Int32) = nI 8 from rfl, show (3 : Int32) = nI 3 from rfl]
  refine z_callVI h (c_X5_find l hT (i := 17) (by decide) (by decide) (by decide) (by decide)) (by assumption) rfl gm_RX5_43 rfl ⟨rfl, rfl⟩ 3 (by decide +kernel) ⟨by decide, by decide⟩ rfl rfl (Nat.le_of_ble_eq_true rfl) ⟨Nat.zero_le _, Nat.zero_le _⟩ dX5_takeName_6 ?_
  refine z_istore_n h dX5_takeName_9 rfl (by decide) ?_
  refine z_iload_n h dX5_takeName_10 rfl rfl ?_
  refine z_iconst (v := -1) h dX5_takeName_11 (by decide) ?_
  refine z_icmp_eq h 20 dX5_takeName_12 (by decide) (fun c12 => ?_) (fun c12 => ?_)
  · refine z_iconst (v := -1) h dX5_takeName_20 (by decide) ?_
    refine ret (r := -1) ⟨?_, ?_⟩ dX5_takeName_21 rfl
    · rw [if_neg (fun q => q.1 c12)]
    · rw [if_neg (fun q => q.1 c12), if_neg (fun q => q.1 c12)]
      exact ⟨_, rfl, hT, fr_rf⟩
  · refine z_iload_n h dX5_takeName_15 rfl rfl ?_
    refine z_iload_n h dX5_takeName_16 rfl rfl ?_
    refine z_icmp_ne h 22 dX5_takeName_17 (by decide) (fun c17 => ?_) (fun c17 => ?_)
    · refine z_aload_n h dX5_takeName_22 rfl rfl ?_
      refine z_callVN h (c_X5_advance l (n := n) (p := e) (b := b) h1 h2 h3 h4 h7 h6 h9) h1 rfl gm_RX5_28 rfl ⟨rfl, rfl⟩ 0 (by decide +kernel) ⟨by decide, by decide⟩ rfl rfl (Nat.le_of_ble_eq_true rfl) ⟨Nat.zero_le _, Nat.zero_le _⟩ dX5_takeName_23 ?_
      refine z_iload_n h dX5_takeName_26 rfl rfl ?_
      refine ret ⟨?_, ?_⟩ dX5_takeName_27 rfl
      · rw [if_pos ⟨c12, c17⟩]
      · rw [if_pos ⟨c12, c17⟩, if_pos ⟨c12, c17⟩]
        exact ⟨_, rfl, hT.adv⟩
    · refine z_iconst (v := -1) h dX5_takeName_20 (by decide) ?_
      refine ret (r := -1) ⟨?_, ?_⟩ dX5_takeName_21 rfl
      · rw [if_neg (fun q => q.2 c17)]
      · rw [if_neg (fun q => q.2 c17), if_neg (fun q => q.2 c17)]
        exact ⟨_, rfl, hT, fr_rf⟩

set_option maxHeartbeats 4000000 in
set_option maxRecDepth 100000 in
theorem c_X5_takeUnit (l : Launch) {E : zE} {S : zS} {I : Nat → Nat → Int32} {J : Nat → Nat → Int64} {R : Nat → Nat → Option Nat} {t b n f e : Nat} (hT : TP S R I t b n f e) : zIP l yX5_takeUnit wsX5_takeUnit rmX5_takeUnit E S [.ref t] (I, J, R) (fun r ν => r = fnd (I b) f e (zsb 18) 4 4 ∧ tpN S J R I t b n (if fnd (I b) f e (zsb 18) 4 4 ≠ -1 then nxF (I b) n e else f) (if fnd (I b) f e (zsb 18) 4 4 ≠ -1 then nxE (I b) n e else e) ν) := by
  refine z_metIP (cc := cX5_takeUnit) (maxL := 2) (ty := .int) (by decide) rfl (Nat.le_of_ble_eq_true rfl) (fun X h ret => ?_)
  show zV X E S 0 0 (I, J, R) 0 _ []
  obtain ⟨h1, h2, h3, h4, h5, h6, h7, h8, h9⟩ := id hT
  refine z_aload_n h dX5_takeUnit_0 rfl rfl ?_
  refine z_ldcS h 18 (by decide) rfl rfl dX5_takeUnit_1 ?_
  refine z_iconst (v := 4) h dX5_takeUnit_3 (by decide) ?_
  refine z_iconst (v := 4) h dX5_takeUnit_4 (by decide) ?_
  rw [show (4 : Int32) = nI 4 from rfl]
  refine z_callVI h (c_X5_find l hT (i := 18) (by decide) (by decide) (by decide) (by decide)) (by assumption) rfl gm_RX5_43 rfl ⟨rfl, rfl⟩ 3 (by decide +kernel) ⟨by decide, by decide⟩ rfl rfl (Nat.le_of_ble_eq_true rfl) ⟨Nat.zero_le _, Nat.zero_le _⟩ dX5_takeUnit_5 ?_
  refine z_istore_n h dX5_takeUnit_8 rfl (by decide) ?_
  refine z_iload_n h dX5_takeUnit_9 rfl rfl ?_
  refine z_iconst (v := -1) h dX5_takeUnit_10 (by decide) ?_
  refine z_icmp_eq h 18 dX5_takeUnit_11 (by decide) (fun c11 => ?_) (fun c11 => ?_)
  · refine z_iload_n h dX5_takeUnit_18 rfl rfl ?_
    refine ret ⟨rfl, ?_⟩ dX5_takeUnit_19 rfl
    rw [if_neg (fun q => q c11), if_neg (fun q => q c11)]
    exact ⟨_, rfl, hT, fr_rf⟩
  · refine z_aload_n h dX5_takeUnit_14 rfl rfl ?_
    refine z_callVN h (c_X5_advance l (n := n) (p := e) (b := b) h1 h2 h3 h4 h7 h6 h9) h1 rfl gm_RX5_28 rfl ⟨rfl, rfl⟩ 0 (by decide +kernel) ⟨by decide, by decide⟩ rfl rfl (Nat.le_of_ble_eq_true rfl) ⟨Nat.zero_le _, Nat.zero_le _⟩ dX5_takeUnit_15 ?_
    refine z_iload_n h dX5_takeUnit_18 rfl rfl ?_
    refine ret ⟨rfl, ?_⟩ dX5_takeUnit_19 rfl
    rw [if_pos c11, if_pos c11]
    exact ⟨_, rfl, hT.adv⟩

set_option maxHeartbeats 4000000 in
set_option maxRecDepth 100000 in
theorem c_X5_takeNumber (l : Launch) {E : zE} {S : zS} {I : Nat → Nat → Int32} {J : Nat → Nat → Int64} {R : Nat → Nat → Option Nat} {t b n f e : Nat} (hT : TP S R I t b n f e) : zIP l yX5_takeNumber wsX5_takeNumber rmX5_takeNumber E S [.ref t] (I, J, R) (fun r ν => r = (nmW (I b) f e).getD (-1) ∧ tpN S J R I t b n (if (nmW (I b) f e).isSome = true then nxF (I b) n e else f) (if (nmW (I b) f e).isSome = true then nxE (I b) n e else e) ν) := by
  refine z_metIP (cc := cX5_takeNumber) (maxL := 3) (ty := .int) (by decide) rfl (Nat.le_of_ble_eq_true rfl) (fun X h ret => ?_)
  show zV X E S 0 0 (I, J, R) 0 _ []
  obtain ⟨h1, h2, h3, h4, h5, h6, h7, h8, h9⟩ := id hT
  have L44 : ∀ (d p : Nat) (a : Int32), p + d = e → f ≤ p → nmW (I b) f e = dgW (I b) d p a → zV X E S 0 0 (I, J, R) 44 [(0, .ref t), (1, .int a), (2, .int (nI p))] [] := by
    intro d
    induction d with
    | zero =>
      intro p a hp hfp hm
      refine z_iload_n h dX5_takeNumber_44 rfl rfl ?_
      refine z_aload_n h dX5_takeNumber_45 rfl rfl ?_
      refine z_getI h (by assumption) rfl kw5 3 (by decide) rfl kf_RX5_22 dX5_takeNumber_46 ?_
      rw [h6]
      refine z_icmp_ge h 87 dX5_takeNumber_49 (by decide) (fun c49 => ?_) (fun c49 => ?_)
      · refine z_aload_n h dX5_takeNumber_87 rfl rfl ?_
        refine z_callVN h (c_X5_advance l (n := n) (p := e) (b := b) h1 h2 h3 h4 h7 h6 h9) h1 rfl gm_RX5_28 rfl ⟨rfl, rfl⟩ 0 (by decide +kernel) ⟨by decide, by decide⟩ rfl rfl (Nat.le_of_ble_eq_true rfl) ⟨Nat.zero_le _, Nat.zero_le _⟩ dX5_takeNumber_88 ?_
        refine z_iload_n h dX5_takeNumber_91 rfl rfl ?_
        refine ret ⟨by rw [hm]; rfl, ?_⟩ dX5_takeNumber_92 rfl
        rw [hm]
        exact ⟨_, rfl, hT.adv⟩
      · exact absurd (nI_le (by omega) (by omega)) c49
    | succ d ih =>
      intro p a hp hfp hm
      refine z_iload_n h dX5_takeNumber_44 rfl rfl ?_
      refine z_aload_n h dX5_takeNumber_45 rfl rfl ?_
      refine z_getI h (by assumption) rfl kw5 3 (by decide) rfl kf_RX5_22 dX5_takeNumber_46 ?_
      rw [h6]
      refine z_icmp_ge h 87 dX5_takeNumber_49 (by decide) (fun c49 => ?_) (fun c49 => ?_)
      · exact absurd (nle (by omega) (by omega) c49) (by omega)
      · refine z_aload_n h dX5_takeNumber_52 rfl rfl ?_
        refine z_getR h (by assumption) rfl kw5 0 (by decide) rfl (by assumption) kf_RX5_9 dX5_takeNumber_53 ?_
        refine z_iload_n h dX5_takeNumber_56 rfl rfl ?_
        refine z_iald h (by assumption) (zix_nI (by omega) (by decide)) dX5_takeNumber_57 ?_
        refine z_callSI h (c_X5_isDigit l _) (va_cwS 1 h.2.2.2.2.1 gm_RX5_31 rfl rfl rfl (by decide +kernel) ⟨by decide, by decide⟩) rfl rfl (Nat.le_of_ble_eq_true rfl) ⟨Nat.zero_le _, Nat.zero_le _⟩ dX5_takeNumber_58 ?_
        refine z_if_ne h 66 dX5_takeNumber_61 (by decide) (fun c61 => ?_) (fun c61 => ?_)
        · rw [dgW, if_pos (b2i_n0.mp c61)] at hm
          refine z_iload_n h dX5_takeNumber_66 rfl rfl ?_
          refine z_bipush (v := 10) h dX5_takeNumber_67 (by decide) ?_
          refine z_imul h dX5_takeNumber_69 ?_
          refine z_aload_n h dX5_takeNumber_70 rfl rfl ?_
          refine z_getR h (by assumption) rfl kw5 0 (by decide) rfl (by assumption) kf_RX5_9 dX5_takeNumber_71 ?_
          refine z_iload_n h dX5_takeNumber_74 rfl rfl ?_
          refine z_iald h (by assumption) (zix_nI (by omega) (by decide)) dX5_takeNumber_75 ?_
          refine z_bipush (v := 48) h dX5_takeNumber_76 (by decide) ?_
          refine z_isub h dX5_takeNumber_78 ?_
          refine z_iadd h dX5_takeNumber_79 ?_
          refine z_istore_n h dX5_takeNumber_80 rfl (by decide) ?_
          refine z_iinc h dX5_takeNumber_81 rfl (nI_1 p) (by decide) ?_
          refine z_goto h 44 dX5_takeNumber_84 (by decide) ?_
          exact z_lk (ih (p + 1) _ (by omega) (by omega) hm) ⟨rfl, rfl, rfl, trivial⟩
        · refine z_iconst (v := -1) h dX5_takeNumber_64 (by decide) ?_
          rw [dgW, if_neg (by rw [b2i_0.mp c61]; decide)] at hm
          refine ret (r := -1) ⟨by rw [hm]; rfl, ?_⟩ dX5_takeNumber_65 rfl
          rw [hm]
          exact ⟨_, rfl, hT, fr_rf⟩
  refine z_aload_n h dX5_takeNumber_0 rfl rfl ?_
  refine z_getI h (by assumption) rfl kw5 2 (by decide) rfl kf_RX5_19 dX5_takeNumber_1 ?_
  refine z_aload_n h dX5_takeNumber_4 rfl rfl ?_
  refine z_getI h (by assumption) rfl kw5 3 (by decide) rfl kf_RX5_22 dX5_takeNumber_5 ?_
  rw [h5, h6]
  refine z_icmp_ge h 35 dX5_takeNumber_8 (by decide) (fun c8 => ?_) (fun c8 => ?_)
  · refine z_iconst (v := -1) h dX5_takeNumber_35 (by decide) ?_
    have hno : nmW (I b) f e = none := if_neg (fun q => absurd (nle (by omega) (by omega) c8) (by omega))
    refine ret (r := -1) ⟨by rw [hno]; rfl, ?_⟩ dX5_takeNumber_36 rfl
    rw [hno]
    exact ⟨_, rfl, hT, fr_rf⟩
  · refine z_aload_n h dX5_takeNumber_11 rfl rfl ?_
    refine z_getI h (by assumption) rfl kw5 3 (by decide) rfl kf_RX5_22 dX5_takeNumber_12 ?_
    refine z_aload_n h dX5_takeNumber_15 rfl rfl ?_
    refine z_getI h (by assumption) rfl kw5 1 (by decide) rfl kf_RX5_15 dX5_takeNumber_16 ?_
    rw [h6, h4]
    refine z_icmp_gt h 35 dX5_takeNumber_19 (by decide) (fun c19 => ?_) (fun c19 => ?_)
    · exact absurd (nlt (by omega) (by omega) c19) (by omega)
    · refine z_aload_n h dX5_takeNumber_22 rfl rfl ?_
      refine z_getI h (by assumption) rfl kw5 3 (by decide) rfl kf_RX5_22 dX5_takeNumber_23 ?_
      refine z_aload_n h dX5_takeNumber_26 rfl rfl ?_
      refine z_getI h (by assumption) rfl kw5 2 (by decide) rfl kf_RX5_19 dX5_takeNumber_27 ?_
      rw [h6, h5]
      refine z_isub h dX5_takeNumber_30 ?_
      rw [pk_sub h8]
      refine z_iconst (v := 3) h dX5_takeNumber_31 (by decide) ?_
      rw [show (3 : Int32) = nI 3 from rfl]
      refine z_icmp_le h 37 dX5_takeNumber_32 (by decide) (fun c32 => ?_) (fun c32 => ?_)
      · have c8 := nnle (by omega) (by omega) c8
        have c32 := nle (by omega) (by decide) c32
        refine z_iconst (v := 0) h dX5_takeNumber_37 (by decide) ?_
        refine z_istore_n h dX5_takeNumber_38 rfl (by decide) ?_
        refine z_aload_n h dX5_takeNumber_39 rfl rfl ?_
        refine z_getI h (by assumption) rfl kw5 2 (by decide) rfl kf_RX5_19 dX5_takeNumber_40 ?_
        rw [h5]
        refine z_istore_n h dX5_takeNumber_43 rfl (by decide) ?_
        exact z_lk (L44 (e - f) f 0 (by omega) (Nat.le_refl _) (if_pos ⟨c8, c32⟩)) ⟨rfl, rfl, rfl, trivial⟩
      · refine z_iconst (v := -1) h dX5_takeNumber_35 (by decide) ?_
        have hno : nmW (I b) f e = none := if_neg (fun q => absurd (nnle (by omega) (by decide) c32) (by omega))
        refine ret (r := -1) ⟨by rw [hno]; rfl, ?_⟩ dX5_takeNumber_36 rfl
        rw [hno]
        exact ⟨_, rfl, hT, fr_rf⟩
