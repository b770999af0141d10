/-! bytesIn, put4, feed of the reference -/
def fdM (I : Nat → Nat → Int32) (x tp : Nat) (s : (Nat → Int32) × Nat) : Nat → Nat → Int32 := zu (zr I tp s.1) x 2 (nI s.2)
def fdM5 (a b c d e : Int32) (s : (Nat → Int32) × Nat) : (Nat → Int32) × Nat := apM e (apM d (apM c (apM b (apM a s))))
theorem fbN_4 (v : Int32) : fbN v ≤ 4 := by
  have h : ∀ x, nzN x ≤ 1 := fun x => by unfold nzN; split <;> decide
  have a := h (byt v 24)
  have b := h (byt v 16)
  have c := h (byt v 8)
  have d := h (byt v 0)
  unfold fbN
  omega
theorem nar_b (y : Int32) : vp_nar .byte y = tB y := rfl

set_option maxHeartbeats 4000000 in
set_option maxRecDepth 100000 in
theorem c_X7_bytesIn (l : Launch) {E : zE} {S : zS} {μ : zM} (v : Int32) : zI l yX7_bytesIn wsX7_bytesIn rmX7_bytesIn E S [.int v] μ (fbC v) μ := by
  refine z_metI (cc := cX7_bytesIn) (maxL := 3) (ty := .int) (by decide) rfl (Nat.le_of_ble_eq_true rfl) (fun X h ret => ?_)
  show zV X E S 0 0 μ 0 _ []
  have IT : ∀ (sh b c : Int32), (v >>> (sh &&& 31)) &&& 255 = b → zV X E S 0 0 μ 27 [(0, .int v), (1, .int (c + nz b)), (2, .int sh)] [] → zV X E S 0 0 μ 9 [(0, .int v), (1, .int c), (2, .int sh)] [] := by
    intro sh b c hb k
    refine z_iload_n h dX7_bytesIn_9 rfl rfl ?_
    refine z_iload_n h dX7_bytesIn_10 rfl rfl ?_
    refine z_iload_n h dX7_bytesIn_11 rfl rfl ?_
    refine z_ishr h dX7_bytesIn_12 ?_
    refine z_sipush (v := 255) h dX7_bytesIn_13 (by decide) ?_
    refine z_iand h dX7_bytesIn_16 ?_
    rw [hb]
    refine z_if_eq h 24 dX7_bytesIn_17 (by decide) (fun c17 => ?_) (fun c17 => ?_)
    · rw [show nz b = 0 from if_pos c17] at k
      refine z_iconst (v := 0) h dX7_bytesIn_24 (by decide) ?_
      refine z_iadd h dX7_bytesIn_25 ?_
      refine z_istore_n h dX7_bytesIn_26 rfl (by decide) ?_
      exact z_lk k ⟨rfl, rfl, rfl, trivial⟩
    · rw [show nz b = 1 from if_neg c17] at k
      refine z_iconst (v := 1) h dX7_bytesIn_20 (by decide) ?_
      refine z_goto h 25 dX7_bytesIn_21 (by decide) ?_
      refine z_iadd h dX7_bytesIn_25 ?_
      refine z_istore_n h dX7_bytesIn_26 rfl (by decide) ?_
      exact z_lk k ⟨rfl, rfl, rfl, trivial⟩
  have ST : ∀ (sh sh' c : Int32), sh + Int32.ofInt (-8) = sh' → ¬ sh' < 0 → zV X E S 0 0 μ 9 [(0, .int v), (1, .int c), (2, .int sh')] [] → zV X E S 0 0 μ 27 [(0, .int v), (1, .int c), (2, .int sh)] [] := by
    intro sh sh' c e hs k
    refine z_iinc h dX7_bytesIn_27 rfl e (by decide) ?_
    refine z_goto h 5 dX7_bytesIn_30 (by decide) ?_
    refine z_iload_n h dX7_bytesIn_5 rfl rfl ?_
    refine z_if_lt h 33 dX7_bytesIn_6 (by decide) (fun q => absurd q hs) (fun _ => ?_)
    exact z_lk k ⟨rfl, rfl, rfl, trivial⟩
  refine z_iconst (v := 0) h dX7_bytesIn_0 (by decide) ?_
  refine z_istore_n h dX7_bytesIn_1 rfl (by decide) ?_
  refine z_bipush (v := 24) h dX7_bytesIn_2 (by decide) ?_
  refine z_istore_n h dX7_bytesIn_4 rfl (by decide) ?_
  refine z_iload_n h dX7_bytesIn_5 rfl rfl ?_
  refine z_if_lt h 33 dX7_bytesIn_6 (by decide) (fun q => absurd q (by decide)) (fun _ => ?_)
  refine z_lk (IT 24 (byt v 24) 0 (sh_24 v) ?_) ⟨rfl, rfl, rfl, trivial⟩
  refine ST 24 16 _ (by decide) (by decide) (IT 16 (byt v 16) _ (sh_16 v) ?_)
  refine ST 16 8 _ (by decide) (by decide) (IT 8 (byt v 8) _ (sh_8 v) ?_)
  refine ST 8 0 _ (by decide) (by decide) (IT 0 (byt v 0) _ (sh_0 v) ?_)
  refine z_iinc h dX7_bytesIn_27 rfl (show (0 : Int32) + Int32.ofInt (-8) = -8 by decide) (by decide) ?_
  refine z_goto h 5 dX7_bytesIn_30 (by decide) ?_
  refine z_iload_n h dX7_bytesIn_5 rfl rfl ?_
  refine z_if_lt h 33 dX7_bytesIn_6 (by decide) (fun _ => ?_) (fun q => absurd (by decide) q)
  refine z_iload_n h dX7_bytesIn_33 rfl rfl ?_
  exact ret dX7_bytesIn_34 rfl

set_option maxHeartbeats 4000000 in
set_option maxRecDepth 100000 in
theorem c_X7_put4 (l : Launch) {E : zE} {S : zS} {I : Nat → Nat → Int32} {J : Nat → Nat → Int64} {R : Nat → Nat → Option Nat} {x tp : Nat} {s : (Nat → Int32) × Nat} {v : Int32} (d1 : zO S x 7) (d2 : R x 1 = some tp) (d3 : zA S tp 8 400) (hs : s.2 + fbN v ≤ 400) : zN l yX7_put4 wsX7_put4 rmX7_put4 E S [.ref x, .int v] (fdM I x tp s, J, R) (fdM I x tp (apM v s), J, R) := by
  refine z_metN (cc := cX7_put4) (maxL := 3) (by decide) rfl (Nat.le_of_ble_eq_true rfl) (fun X h ret => ?_)
  show zV X E S 0 0 (fdM I x tp s, J, R) 0 _ []
  have hbt : tp ≠ x := fun q => absurd (d1.2.symm.trans (q ▸ d3.2.1)) (by decide)
  have IT : ∀ (sh b : Int32) (s : (Nat → Int32) × Nat), (v >>> (sh &&& 31)) &&& 255 = b → s.2 + nzN b ≤ 400 → zV X E S 0 0 (fdM I x tp (ap1M s b), J, R) 43 [(0, .ref x), (1, .int v), (2, .int sh)] [] → zV X E S 0 0 (fdM I x tp s, J, R) 7 [(0, .ref x), (1, .int v), (2, .int sh)] [] := by
    intro sh b s hb hs k
    have e1 : fdM I x tp s x 2 = nI s.2 := zu_s
    refine z_iload_n h dX7_put4_7 rfl rfl ?_
    refine z_iload_n h dX7_put4_8 rfl rfl ?_
    refine z_ishr h dX7_put4_9 ?_
    refine z_sipush (v := 255) h dX7_put4_10 (by decide) ?_
    refine z_iand h dX7_put4_13 ?_
    rw [hb]
    refine z_if_ne h 20 dX7_put4_14 (by decide) (fun c14 => ?_) (fun c14 => ?_)
    · have h1 : nzN b = 1 := if_neg c14
      rw [show ap1M s b = (fun j => if j = s.2 then tB b else s.1 j, s.2 + 1) from if_neg c14] at k
      refine z_aload_n h dX7_put4_20 rfl rfl ?_
      refine z_getR h (by assumption) rfl kw7 1 (by decide) rfl (by assumption) kf_RX7_9 dX7_put4_21 ?_
      refine z_aload_n h dX7_put4_24 rfl rfl ?_
      refine z_getI h (by assumption) rfl kw7 2 (by decide) rfl kf_RX7_46 dX7_put4_25 ?_
      rw [e1]
      refine z_iload_n h dX7_put4_28 rfl rfl ?_
      refine z_iload_n h dX7_put4_29 rfl rfl ?_
      refine z_ishr h dX7_put4_30 ?_
      refine z_i2b h dX7_put4_31 rfl ?_
      refine z_bast h (by assumption) (zix_nI (by omega) (by decide)) dX7_put4_32 ?_
      rw [nar_b, show (v >>> (sh &&& 31)).toInt8.toInt32 = tB (v >>> (sh &&& 31)) from rfl, tB_tB, ← tB_255 (v >>> (sh &&& 31)), hb]
      refine z_aload_n h dX7_put4_33 rfl rfl ?_
      refine z_dup h dX7_put4_34 rfl ?_
      refine z_getI h (by assumption) rfl kw7 2 (by decide) rfl kf_RX7_46 dX7_put4_35 ?_
      rw [show zu (fdM I x tp s) tp s.2 (tB b) x 2 = nI s.2 from (zu_a (Ne.symm hbt)).trans e1]
      refine z_iconst (v := 1) h dX7_put4_38 (by decide) ?_
      refine z_iadd h dX7_put4_39 ?_
      rw [nI_1]
      refine z_putI h (by assumption) rfl kw7 2 (by decide) rfl rfl (rfl) (rfl) kf_RX7_46 dX7_put4_40 ?_
      refine z_mem (show _ = (fdM I x tp (fun j => if j = s.2 then tB b else s.1 j, s.2 + 1), J, R) from ?_) (z_lk k ⟨rfl, rfl, rfl, trivial⟩)
      unfold fdM
      rw [zmA hbt]
    · have c14 : b = 0 := by
        by_cases w : b = 0
        · exact w
        · exact absurd w (by first | exact c14 | exact fun q => q c14)
      rw [show ap1M s b = s from if_pos c14] at k
      refine z_goto h 43 dX7_put4_17 (by decide) ?_
      exact z_lk k ⟨rfl, rfl, rfl, trivial⟩
  have ST : ∀ (sh sh' : Int32) (μ : zM), sh + Int32.ofInt (-8) = sh' → ¬ sh' < 0 → zV X E S 0 0 μ 7 [(0, .ref x), (1, .int v), (2, .int sh')] [] → zV X E S 0 0 μ 43 [(0, .ref x), (1, .int v), (2, .int sh)] [] := by
    intro sh sh' μ e hs k
    refine z_iinc h dX7_put4_43 rfl e (by decide) ?_
    refine z_goto h 3 dX7_put4_46 (by decide) ?_
    refine z_iload_n h dX7_put4_3 rfl rfl ?_
    refine z_if_lt h 49 dX7_put4_4 (by decide) (fun q => absurd q hs) (fun _ => ?_)
    exact z_lk k ⟨rfl, rfl, rfl, trivial⟩
  unfold fbN at hs
  have a1 := ap1M_2 s (byt v 24)
  have a2 := ap1M_2 (ap1M s (byt v 24)) (byt v 16)
  have a3 := ap1M_2 (ap1M (ap1M s (byt v 24)) (byt v 16)) (byt v 8)
  refine z_bipush (v := 24) h dX7_put4_0 (by decide) ?_
  refine z_istore_n h dX7_put4_2 rfl (by decide) ?_
  refine z_iload_n h dX7_put4_3 rfl rfl ?_
  refine z_if_lt h 49 dX7_put4_4 (by decide) (fun q => absurd q (by decide)) (fun _ => ?_)
  refine z_lk (IT 24 (byt v 24) s (sh_24 v) (by omega) ?_) ⟨rfl, rfl, rfl, trivial⟩
  refine ST 24 16 _ (by decide) (by decide) (IT 16 (byt v 16) _ (sh_16 v) (by omega) ?_)
  refine ST 16 8 _ (by decide) (by decide) (IT 8 (byt v 8) _ (sh_8 v) (by omega) ?_)
  refine ST 8 0 _ (by decide) (by decide) (IT 0 (byt v 0) _ (sh_0 v) (by omega) ?_)
  refine z_iinc h dX7_put4_43 rfl (show (0 : Int32) + Int32.ofInt (-8) = -8 by decide) (by decide) ?_
  refine z_goto h 3 dX7_put4_46 (by decide) ?_
  refine z_iload_n h dX7_put4_3 rfl rfl ?_
  refine z_if_lt h 49 dX7_put4_4 (by decide) (fun _ => ?_) (fun q => absurd (by decide) q)
  exact ret dX7_put4_49

set_option maxHeartbeats 4000000 in
set_option maxRecDepth 100000 in
theorem c_X7_feed (l : Launch) {E : zE} {S : zS} {I : Nat → Nat → Int32} {J : Nat → Nat → Int64} {R : Nat → Nat → Option Nat} {x tp n : Nat} {a b c d e : Int32} (d1 : zO S x 7) (d2 : R x 1 = some tp) (d3 : zA S tp 8 400) (hn : I x 2 = nI n) (h4 : n ≤ 400) : zIP l yX7_feed wsX7_feed rmX7_feed E S [.ref x, .int a, .int b, .int c, .int d, .int e] (I, J, R) (fun r ν => (n + (fbN a + fbN b + fbN c + fbN d + fbN e) ≤ 400 ∧ r = nI (fdM5 a b c d e (I tp, n)).2 ∧ ν = (fdM (zu I x 0 0) x tp (fdM5 a b c d e (I tp, n)), J, R)) ∨ (400 < n + (fbN a + fbN b + fbN c + fbN d + fbN e) ∧ r = -1 ∧ ν = (zu I x 0 0, J, R))) := by
  refine z_metIP (cc := cX7_feed) (maxL := 6) (ty := .int) (by decide) rfl (Nat.le_of_ble_eq_true rfl) (fun X h ret => ?_)
  show zV X E S 0 0 (I, J, R) 0 _ []
  have l1 := fbN_4 a
  have l2 := fbN_4 b
  have l3 := fbN_4 c
  have l4 := fbN_4 d
  have l5 := fbN_4 e
  have m1 := apM_2 a (I tp, n)
  have m2 := apM_2 b (apM a (I tp, n))
  have m3 := apM_2 c (apM b (apM a (I tp, n)))
  have m4 := apM_2 d (apM c (apM b (apM a (I tp, n))))
  have m0 : ((I tp, n) : (Nat → Int32) × Nat).2 = n := rfl
  have hbt : tp ≠ x := fun q => absurd (d1.2.symm.trans (q ▸ d3.2.1)) (by decide)
  refine z_aload_n h dX7_feed_0 rfl rfl ?_
  refine z_iconst (v := 0) h dX7_feed_1 (by decide) ?_
  refine z_putI h (by assumption) rfl kw7 0 (by decide) rfl rfl (rfl) (rfl) kf_RX7_42 dX7_feed_2 ?_
  refine z_aload_n h dX7_feed_5 rfl rfl ?_
  refine z_getI h (by assumption) rfl kw7 2 (by decide) rfl kf_RX7_46 dX7_feed_6 ?_
  rw [zu_k (by decide), hn]
  refine z_iload_n h dX7_feed_9 rfl rfl ?_
  refine z_callSI h (c_X7_bytesIn l a) (va_cwS 1 h.2.2.2.2.1 gm_RX7_49 rfl rfl rfl (by decide +kernel) ⟨by decide, by decide⟩) rfl rfl (Nat.le_of_ble_eq_true rfl) ⟨Nat.zero_le _, Nat.zero_le _⟩ dX7_feed_10 ?_
  refine z_iadd h dX7_feed_13 ?_
  refine z_iload_n h dX7_feed_14 rfl rfl ?_
  refine z_callSI h (c_X7_bytesIn l b) (va_cwS 1 h.2.2.2.2.1 gm_RX7_49 rfl rfl rfl (by decide +kernel) ⟨by decide, by decide⟩) rfl rfl (Nat.le_of_ble_eq_true rfl) ⟨Nat.zero_le _, Nat.zero_le _⟩ dX7_feed_15 ?_
  refine z_iadd h dX7_feed_18 ?_
  refine z_iload_n h dX7_feed_19 rfl rfl ?_
  refine z_callSI h (c_X7_bytesIn l c) (va_cwS 1 h.2.2.2.2.1 gm_RX7_49 rfl rfl rfl (by decide +kernel) ⟨by decide, by decide⟩) rfl rfl (Nat.le_of_ble_eq_true rfl) ⟨Nat.zero_le _, Nat.zero_le _⟩ dX7_feed_20 ?_
  refine z_iadd h dX7_feed_23 ?_
  refine z_iload h dX7_feed_24 rfl ?_
  refine z_callSI h (c_X7_bytesIn l d) (va_cwS 1 h.2.2.2.2.1 gm_RX7_49 rfl rfl rfl (by decide +kernel) ⟨by decide, by decide⟩) rfl rfl (Nat.le_of_ble_eq_true rfl) ⟨Nat.zero_le _, Nat.zero_le _⟩ dX7_feed_26 ?_
  refine z_iadd h dX7_feed_29 ?_
  refine z_iload h dX7_feed_30 rfl ?_
  refine z_callSI h (c_X7_bytesIn l e) (va_cwS 1 h.2.2.2.2.1 gm_RX7_49 rfl rfl rfl (by decide +kernel) ⟨by decide, by decide⟩) rfl rfl (Nat.le_of_ble_eq_true rfl) ⟨Nat.zero_le _, Nat.zero_le _⟩ dX7_feed_32 ?_
  refine z_iadd h dX7_feed_35 ?_
  refine z_sipush (v := 400) h dX7_feed_36 (by decide) ?_
  rw [fbC_fbN, fbC_fbN, fbC_fbN, fbC_fbN, fbC_fbN, nI_add, nI_add, nI_add, nI_add, nI_add, show (400 : Int32) = nI 400 from rfl]
  refine z_icmp_le h 44 dX7_feed_39 (by decide) (fun c39 => ?_) (fun c39 => ?_)
  · have c39 := nle (by omega) (by decide) c39
    have e0 : (zu I x 0 0, J, R) = (fdM (zu I x 0 0) x tp (I tp, n), J, R) := by
      unfold fdM
      have e1 : (zu I x 0 0) tp = I tp := zu_o hbt
      have e2 : zu (zr (zu I x 0 0) tp ((zu I x 0 0) tp)) x 2 (nI n) = zu I x 0 0 := zmB (by rw [zu_k (by decide)]; exact hn)
      rw [e1] at e2
      show _ = (zu (zr (zu I x 0 0) tp (I tp)) x 2 (nI n), J, R)
      rw [e2]
    rw [e0]
    refine z_aload_n h dX7_feed_44 rfl rfl ?_
    refine z_iload_n h dX7_feed_45 rfl rfl ?_
    refine z_callVN h (c_X7_put4 l d1 d2 d3 (by omega)) (by assumption) rfl gm_RX7_53 rfl ⟨rfl, rfl⟩ 1 (by decide +kernel) ⟨by decide, by decide⟩ rfl rfl (Nat.le_of_ble_eq_true rfl) ⟨Nat.zero_le _, Nat.zero_le _⟩ dX7_feed_46 ?_
    refine z_aload_n h dX7_feed_49 rfl rfl ?_
    refine z_iload_n h dX7_feed_50 rfl rfl ?_
    refine z_callVN h (c_X7_put4 l d1 d2 d3 (by omega)) (by assumption) rfl gm_RX7_53 rfl ⟨rfl, rfl⟩ 1 (by decide +kernel) ⟨by decide, by decide⟩ rfl rfl (Nat.le_of_ble_eq_true rfl) ⟨Nat.zero_le _, Nat.zero_le _⟩ dX7_feed_51 ?_
    refine z_aload_n h dX7_feed_54 rfl rfl ?_
    refine z_iload_n h dX7_feed_55 rfl rfl ?_
    refine z_callVN h (c_X7_put4 l d1 d2 d3 (by omega)) (by assumption) rfl gm_RX7_53 rfl ⟨rfl, rfl⟩ 1 (by decide +kernel) ⟨by decide, by decide⟩ rfl rfl (Nat.le_of_ble_eq_true rfl) ⟨Nat.zero_le _, Nat.zero_le _⟩ dX7_feed_56 ?_
    refine z_aload_n h dX7_feed_59 rfl rfl ?_
    refine z_iload h dX7_feed_60 rfl ?_
    refine z_callVN h (c_X7_put4 l d1 d2 d3 (by omega)) (by assumption) rfl gm_RX7_53 rfl ⟨rfl, rfl⟩ 1 (by decide +kernel) ⟨by decide, by decide⟩ rfl rfl (Nat.le_of_ble_eq_true rfl) ⟨Nat.zero_le _, Nat.zero_le _⟩ dX7_feed_62 ?_
    refine z_aload_n h dX7_feed_65 rfl rfl ?_
    refine z_iload h dX7_feed_66 rfl ?_
    refine z_callVN h (c_X7_put4 l d1 d2 d3 (by omega)) (by assumption) rfl gm_RX7_53 rfl ⟨rfl, rfl⟩ 1 (by decide +kernel) ⟨by decide, by decide⟩ rfl rfl (Nat.le_of_ble_eq_true rfl) ⟨Nat.zero_le _, Nat.zero_le _⟩ dX7_feed_68 ?_
    refine z_aload_n h dX7_feed_71 rfl rfl ?_
    refine z_getI h (by assumption) rfl kw7 2 (by decide) rfl kf_RX7_46 dX7_feed_72 ?_
    rw [show ∀ s, fdM (zu I x 0 0) x tp s x 2 = nI s.2 from fun s => by unfold fdM; rw [zu_s]]
    exact ret (Or.inl ⟨by omega, rfl, rfl⟩) dX7_feed_75 rfl
  · have c39 := nnle (by omega) (by decide) c39
    refine z_iconst (v := -1) h dX7_feed_42 (by decide) ?_
    exact ret (Or.inr ⟨by omega, rfl, rfl⟩) dX7_feed_43 rfl
