set_option maxHeartbeats 4000000 in
set_option maxRecDepth 100000 in
theorem c_X5_filledBytes (l : Launch) {E : zE} {S : zS} {μ : zM} (v : Int32) : zI l yX5_filledBytes wsX5_filledBytes rmX5_filledBytes E S [.int v] μ (fbC v) μ := by
  refine z_metI (cc := cX5_filledBytes) (maxL := 3) (ty := .int) (by decide) rfl (Nat.le_of_ble_eq_true rfl) (fun X h ret => ?_)
  show zV X E S 0 0 μ 0 _ []
  have IT : ∀ (sh c : Int32), zV X E S 0 0 μ 22 [(0, .int v), (1, .int (c + nz (byt v sh))), (2, .int sh)] [] → zV X E S 0 0 μ 9 [(0, .int v), (1, .int c), (2, .int sh)] [] := by
    intro sh c k
    refine z_iload_n h dX5_filledBytes_9 rfl rfl ?_
    refine z_iload_n h dX5_filledBytes_10 rfl rfl ?_
    refine z_iushr h dX5_filledBytes_11 rfl ?_
    refine z_sipush (v := 255) h dX5_filledBytes_12 (by decide) ?_
    refine z_iand h dX5_filledBytes_15 ?_
    rw [show (v.toUInt32 >>> (sh.toUInt32 &&& Int32.toUInt32 31)).toInt32 &&& 255 = byt v sh from rfl]
    refine z_if_eq h 22 dX5_filledBytes_16 (by decide) (fun c16 => ?_) (fun c16 => ?_)
    · rw [show c + nz (byt v sh) = c by rw [nz, if_pos c16]; exact Int32.add_zero c] at k
      exact z_lk k ⟨rfl, rfl, rfl, trivial⟩
    · rw [show nz (byt v sh) = 1 from if_neg c16] at k
      refine z_iinc h dX5_filledBytes_19 rfl rfl (by decide) ?_
      exact z_lk k ⟨rfl, rfl, rfl, trivial⟩
  have ST : ∀ (sh sh' c : Int32), sh + Int32.ofInt (-8) = sh' → ¬ sh' < 0 → zV X E S 0 0 μ 9 [(0, .int v), (1, .int c), (2, .int sh')] [] → zV X E S 0 0 μ 22 [(0, .int v), (1, .int c), (2, .int sh)] [] := by
    intro sh sh' c e hs k
    refine z_iinc h dX5_filledBytes_22 rfl e (by decide) ?_
    refine z_goto h 5 dX5_filledBytes_25 (by decide) ?_
    refine z_iload_n h dX5_filledBytes_5 rfl rfl ?_
    refine z_if_lt h 28 dX5_filledBytes_6 (by decide) (fun q => absurd q hs) (fun _ => ?_)
    exact z_lk k ⟨rfl, rfl, rfl, trivial⟩
  refine z_iconst (v := 0) h dX5_filledBytes_0 (by decide) ?_
  refine z_istore_n h dX5_filledBytes_1 rfl (by decide) ?_
  refine z_bipush (v := 24) h dX5_filledBytes_2 (by decide) ?_
  refine z_istore_n h dX5_filledBytes_4 rfl (by decide) ?_
  refine z_iload_n h dX5_filledBytes_5 rfl rfl ?_
  refine z_if_lt h 28 dX5_filledBytes_6 (by decide) (fun q => absurd q (by decide)) (fun _ => ?_)
  refine z_lk (IT 24 0 ?_) ⟨rfl, rfl, rfl, trivial⟩
  refine ST 24 16 _ (by decide) (by decide) (IT 16 _ ?_)
  refine ST 16 8 _ (by decide) (by decide) (IT 8 _ ?_)
  refine ST 8 0 _ (by decide) (by decide) (IT 0 _ ?_)
  refine z_iinc h dX5_filledBytes_22 rfl (show (0 : Int32) + Int32.ofInt (-8) = -8 by decide) (by decide) ?_
  refine z_goto h 5 dX5_filledBytes_25 (by decide) ?_
  refine z_iload_n h dX5_filledBytes_5 rfl rfl ?_
  refine z_if_lt h 28 dX5_filledBytes_6 (by decide) (fun _ => ?_) (fun q => absurd (by decide) q)
  refine z_iload_n h dX5_filledBytes_28 rfl rfl ?_
  exact ret dX5_filledBytes_29 rfl

theorem zmA {I : Nat → Nat → Int32} {t b k n : Nat} {g : Nat → Int32} {u x w : Int32} (h : b ≠ t) : zu (zu (zu (zr I b g) t k u) b n x) t k w = zu (zr I b (fun j => if j = n then x else g j)) t k w := by
  funext c i
  by_cases q : c = t <;> by_cases p : c = b
  · exact absurd (p.symm.trans q) h
  · subst q
    by_cases r : i = k <;> simp [zu, zr, r, p]
  · subst p
    by_cases r : i = n <;> simp [zu, zr, r, q]
  · simp [zu, zr, q, p]
theorem zmB {I : Nat → Nat → Int32} {t b k : Nat} {v : Int32} (h : I t k = v) : zu (zr I b (I b)) t k v = I := by
  rw [zr_id, ← h, zu_self]

set_option maxHeartbeats 4000000 in
set_option maxRecDepth 100000 in
theorem c_X5_append (l : Launch) {E : zE} {S : zS} {I : Nat → Nat → Int32} {J : Nat → Nat → Int64} {R : Nat → Nat → Option Nat} {t b n : Nat} {v : Int32} (ht : zO S t 5) (hb : R t 0 = some b) (hB : zA S b 9 400) (hn : I t 1 = nI n) (h4 : n ≤ 400) : zN l yX5_append wsX5_append rmX5_append E S [.ref t, .int v] (I, J, R) (zu (zr I b (apB v (I b, n)).1) t 1 (nI (apB v (I b, n)).2), J, R) := by
  refine z_metN (cc := cX5_append) (maxL := 4) (by decide) rfl (Nat.le_of_ble_eq_true rfl) (fun X h ret => ?_)
  show zV X E S 0 0 (I, J, R) 0 _ []
  have hbt : b ≠ t := fun q => absurd (ht.2.symm.trans (q ▸ hB.2.1)) (by decide)
  have IT : ∀ (sh : Int32) (s : (Nat → Int32) × Nat), s.2 ≤ 400 → zV X E S 0 0 (zu (zr I b (ap1 s (byt v sh)).1) t 1 (nI (ap1 s (byt v sh)).2), J, R) 49 [(0, .ref t), (1, .int v), (2, .int sh)] [] → zV X E S 0 0 (zu (zr I b s.1) t 1 (nI s.2), J, R) 7 [(0, .ref t), (1, .int v), (2, .int sh)] [] := by
    intro sh s h4 k
    have e1 : zu (zr I b s.1) t 1 (nI s.2) t 1 = nI s.2 := zu_s
    refine z_iload_n h dX5_append_7 rfl rfl ?_
    refine z_iload_n h dX5_append_8 rfl rfl ?_
    refine z_iushr h dX5_append_9 rfl ?_
    refine z_sipush (v := 255) h dX5_append_10 (by decide) ?_
    refine z_iand h dX5_append_13 ?_
    rw [show (v.toUInt32 >>> (sh.toUInt32 &&& Int32.toUInt32 31)).toInt32 &&& 255 = byt v sh from rfl]
    refine z_istore_n h dX5_append_14 rfl (by decide) ?_
    refine z_iload_n h dX5_append_15 rfl rfl ?_
    refine z_if_eq h 49 dX5_append_16 (by decide) (fun c16 => ?_) (fun c16 => ?_)
    · rw [show ap1 s (byt v sh) = s from if_pos c16] at k
      exact z_lk k ⟨rfl, rfl, rfl, trivial⟩
    · refine z_aload_n h dX5_append_19 rfl rfl ?_
      refine z_getI h (by assumption) rfl kw5 1 (by decide) rfl kf_RX5_15 dX5_append_20 ?_
      rw [e1]
      refine z_sipush (v := 400) h dX5_append_23 (by decide) ?_
      refine z_icmp_ge h 49 dX5_append_26 (by decide) (fun c26 => ?_) (fun c26 => ?_)
      · have c26 := nle (a := 400) (by decide) (by omega) c26
        rw [show ap1 s (byt v sh) = s by unfold ap1; rw [if_neg c16, if_pos c26]] at k
        exact z_lk k ⟨rfl, rfl, rfl, trivial⟩
      · have c26 := nnle (a := 400) (by decide) (by omega) c26
        rw [show ap1 s (byt v sh) = (fun j => if j = s.2 then byt v sh else s.1 j, s.2 + 1) by unfold ap1; rw [if_neg c16, if_neg (by omega)]] at k
        refine z_aload_n h dX5_append_29 rfl rfl ?_
        refine z_getR h (by assumption) rfl kw5 0 (by decide) rfl (by assumption) kf_RX5_9 dX5_append_30 ?_
        refine z_aload_n h dX5_append_33 rfl rfl ?_
        refine z_getI h (by assumption) rfl kw5 1 (by decide) rfl kf_RX5_15 dX5_append_34 ?_
        rw [e1]
        refine z_iload_n h dX5_append_37 rfl rfl ?_
        refine z_iast h (by assumption) (zix_nI c26 (by decide)) dX5_append_38 ?_
        refine z_aload_n h dX5_append_39 rfl rfl ?_
        refine z_dup h dX5_append_40 rfl ?_
        refine z_getI h (by assumption) rfl kw5 1 (by decide) rfl kf_RX5_15 dX5_append_41 ?_
        rw [show zu (zu (zr I b s.1) t 1 (nI s.2)) b s.2 (byt v sh) t 1 = nI s.2 from (zu_a (Ne.symm hbt)).trans e1]
        refine z_iconst (v := 1) h dX5_append_44 (by decide) ?_
        refine z_iadd h dX5_append_45 ?_
        rw [nI_1]
        refine z_putI h (by assumption) rfl kw5 1 (by decide) rfl rfl (rfl) (rfl) kf_RX5_15 dX5_append_46 ?_
        refine z_mem (show _ = (zu (zr I b (fun j => if j = s.2 then byt v sh else s.1 j)) t 1 (nI (s.2 + 1)), J, R) from ?_) (z_lk k ⟨rfl, rfl, rfl, trivial⟩)
        rw [zmA hbt]
  have ST : ∀ (sh sh' : Int32) (μ : zM), sh + Int32.ofInt (-8) = sh' → ¬ sh' < 0 → zV X E S 0 0 μ 7 [(0, .ref t), (1, .int v), (2, .int sh')] [] → zV X E S 0 0 μ 49 [(0, .ref t), (1, .int v), (2, .int sh)] [] := by
    intro sh sh' μ e hs k
    refine z_iinc h dX5_append_49 rfl e (by decide) ?_
    refine z_goto h 3 dX5_append_52 (by decide) ?_
    refine z_iload_n h dX5_append_3 rfl rfl ?_
    refine z_if_lt h 55 dX5_append_4 (by decide) (fun q => absurd q hs) (fun _ => ?_)
    exact z_lk k ⟨rfl, rfl, rfl, trivial⟩
  have h1 := ap1_le (s := (I b, n)) (x := byt v 24) h4
  have h2 := ap1_le (x := byt v 16) h1.1
  have h3 := ap1_le (x := byt v 8) h2.1
  refine z_bipush (v := 24) h dX5_append_0 (by decide) ?_
  refine z_istore_n h dX5_append_2 rfl (by decide) ?_
  refine z_iload_n h dX5_append_3 rfl rfl ?_
  refine z_if_lt h 55 dX5_append_4 (by decide) (fun q => absurd q (by decide)) (fun _ => ?_)
  refine z_mem (show (I, J, R) = (zu (zr I b (I b)) t 1 (nI n), J, R) by rw [zmB hn]) ?_
  refine z_lk (IT 24 (I b, n) h4 ?_) ⟨rfl, rfl, rfl, trivial⟩
  refine ST 24 16 _ (by decide) (by decide) (IT 16 _ h1.1 ?_)
  refine ST 16 8 _ (by decide) (by decide) (IT 8 _ h2.1 ?_)
  refine ST 8 0 _ (by decide) (by decide) (IT 0 _ h3.1 ?_)
  refine z_iinc h dX5_append_49 rfl (show (0 : Int32) + Int32.ofInt (-8) = -8 by decide) (by decide) ?_
  refine z_goto h 3 dX5_append_52 (by decide) ?_
  refine z_iload_n h dX5_append_3 rfl rfl ?_
  refine z_if_lt h 55 dX5_append_4 (by decide) (fun _ => ?_) (fun q => absurd (by decide) q)
  exact ret dX5_append_55

theorem TP.adv {S : zS} {R : Nat → Nat → Option Nat} {I : Nat → Nat → Int32} {t b n f e : Nat} (h : TP S R I t b n f e) : TP S R (zu (zu I t 2 (nI (skp (I b) n e))) t 3 (nI (wnd (I b) n (skp (I b) n e)))) t b n (skp (I b) n e) (wnd (I b) n (skp (I b) n e)) ∧ fr [t] I (zu (zu I t 2 (nI (skp (I b) n e))) t 3 (nI (wnd (I b) n (skp (I b) n e)))) := by
  obtain ⟨h1, h2, h3, h4, h5, h6, h7, h8, h9⟩ := h
  have hs := skp_le (I b) h9
  have hw := wnd_le (I b) hs.2
  refine ⟨⟨h1, h2, h3, ?_, ?_, zu_s, h7, hw.1, hw.2.1⟩, fr_zu (fr_zu fr_rf (by simp)) (by simp)⟩
  · rw [zu_k (by decide), zu_k (by decide)]; exact h4
  · rw [zu_k (by decide)]; exact zu_s
theorem TP.row {S : zS} {R : Nat → Nat → Option Nat} {I I' : Nat → Nat → Int32} {t b n f e : Nat} (h : TP S R I t b n f e) (g : fr [t] I I') : I' b = I b := g b (by simpa using h.ne)
/-- where the tape stands behind a method: the same bytes, the next word -/
def tpN (S : zS) (J : Nat → Nat → Int64) (R : Nat → Nat → Option Nat) (I : Nat → Nat → Int32) (t b n f e : Nat) (ν : zM) : Prop := ∃ I', ν = (I', J, R) ∧ TP S R I' t b n f e ∧ fr [t] I I'

set_option maxHeartbeats 4000000 in
set_option maxRecDepth 100000 in
theorem c_X5_rewind (l : Launch) {E : zE} {S : zS} {I : Nat → Nat → Int32} {J : Nat → Nat → Int64} {R : Nat → Nat → Option Nat} {t b n f e : Nat} (hT : TP S R I t b n f e) : zNP l yX5_rewind wsX5_rewind rmX5_rewind E S [.ref t] (I, J, R) (tpN S J R I t b n (skp (I b) n 0) (wnd (I b) n (skp (I b) n 0))) := by
  refine z_metNP (cc := cX5_rewind) (maxL := 1) (by decide) rfl (Nat.le_of_ble_eq_true rfl) (fun X h ret => ?_)
  show zV X E S 0 0 (I, J, R) 0 _ []
  obtain ⟨h1, h2, h3, h4, h5, h6, h7, h8, h9⟩ := id hT
  have hbt := hT.ne
  have hI : zu I t 3 (0 : Int32) b = I b := zu_o hbt
  refine z_aload_n h dX5_rewind_0 rfl rfl ?_
  refine z_iconst (v := 0) h dX5_rewind_1 (by decide) ?_
  refine z_putI h (by assumption) rfl kw5 3 (by decide) rfl rfl (rfl) (rfl) kf_RX5_22 dX5_rewind_2 ?_
  refine z_aload_n h dX5_rewind_5 rfl rfl ?_
  refine z_callVN h (c_X5_advance l (n := n) (p := 0) (b := b) h1 h2 h3 ((zu_k (by decide)).trans h4) h7 zu_s (Nat.zero_le _)) (by assumption) rfl gm_RX5_28 rfl ⟨rfl, rfl⟩ 0 (by decide +kernel) ⟨by decide, by decide⟩ rfl rfl (Nat.le_of_ble_eq_true rfl) ⟨Nat.zero_le _, Nat.zero_le _⟩ dX5_rewind_6 ?_
  rw [hI]
  have hs := skp_le (I b) (Nat.zero_le n)
  have hw := wnd_le (I b) hs.2
  refine ret ⟨_, rfl, ⟨h1, h2, h3, ?_, ?_, zu_s, h7, hw.1, hw.2.1⟩, fr_zu (fr_zu (fr_zu fr_rf (by simp)) (by simp)) (by simp)⟩ dX5_rewind_9
  · rw [zu_k (by decide), zu_k (by decide), zu_k (by decide)]; exact h4
  · rw [zu_k (by decide)]; exact zu_s

set_option maxHeartbeats 4000000 in
set_option maxRecDepth 100000 in
theorem c_X5_rewind2 (l : Launch) {E : zE} {S : zS} {I : Nat → Nat → Int32} {J : Nat → Nat → Int64} {R : Nat → Nat → Option Nat} {t b n : Nat} (h1 : zO S t 5) (h2 : R t 0 = some b) (h3 : zA S b 9 400) (h4 : I t 1 = nI n) (h7 : n ≤ 400) : zNP l yX5_rewind wsX5_rewind rmX5_rewind E S [.ref t] (I, J, R) (tpN S J R I t b n (skp (I b) n 0) (wnd (I b) n (skp (I b) n 0))) := by
  refine z_metNP (cc := cX5_rewind) (maxL := 1) (by decide) rfl (Nat.le_of_ble_eq_true rfl) (fun X h ret => ?_)
  show zV X E S 0 0 (I, J, R) 0 _ []
  have hbt : b ≠ t := fun q => absurd (h1.2.symm.trans (q ▸ h3.2.1)) (by decide)
  have hI : zu I t 3 (0 : Int32) b = I b := zu_o hbt
  refine z_aload_n h dX5_rewind_0 rfl rfl ?_
  refine z_iconst (v := 0) h dX5_rewind_1 (by decide) ?_
  refine z_putI h (by assumption) rfl kw5 3 (by decide) rfl rfl (rfl) (rfl) kf_RX5_22 dX5_rewind_2 ?_
  refine z_aload_n h dX5_rewind_5 rfl rfl ?_
  refine z_callVN h (c_X5_advance l (n := n) (p := 0) (b := b) h1 h2 h3 ((zu_k (by decide)).trans h4) h7 zu_s (Nat.zero_le _)) (by assumption) rfl gm_RX5_28 rfl ⟨rfl, rfl⟩ 0 (by decide +kernel) ⟨by decide, by decide⟩ rfl rfl (Nat.le_of_ble_eq_true rfl) ⟨Nat.zero_le _, Nat.zero_le _⟩ dX5_rewind_6 ?_
  rw [hI]
  have hs := skp_le (I b) (Nat.zero_le n)
  have hw := wnd_le (I b) hs.2
  refine ret ⟨_, rfl, ⟨h1, h2, h3, ?_, ?_, zu_s, h7, hw.1, hw.2.1⟩, fr_zu (fr_zu (fr_zu fr_rf (by simp)) (by simp)) (by simp)⟩ dX5_rewind_9
  · rw [zu_k (by decide), zu_k (by decide), zu_k (by decide)]; exact h4
  · rw [zu_k (by decide)]; exact zu_s

set_option maxHeartbeats 4000000 in
set_option maxRecDepth 100000 in
theorem c_X5_cut (l : Launch) {E : zE} {S : zS} {I : Nat → Nat → Int32} {J : Nat → Nat → Int64} {R : Nat → Nat → Option Nat} {t b n f e : Nat} {x : Int32} (hT : TP S R I t b n f e) : zIP l yX5_cut wsX5_cut rmX5_cut E S [.ref t, .int x] (I, J, R) (fun r ν => (r = 0 ∧ (x < 0 ∨ ¬ x ≤ nI n) ∧ ν = (I, J, R)) ∨ (r = 1 ∧ ∃ q : Nat, x = nI q ∧ q ≤ n ∧ tpN S J R I t b q (skp (I b) q 0) (wnd (I b) q (skp (I b) q 0)) ν)) := by
  refine z_metIP (cc := cX5_cut) (maxL := 2) (ty := .boolean) (by decide) rfl (Nat.le_of_ble_eq_true rfl) (fun X h ret => ?_)
  show zV X E S 0 0 (I, J, R) 0 _ []
  obtain ⟨h1, h2, h3, h4, h5, h6, h7, h8, h9⟩ := id hT
  have hbt := hT.ne
  refine z_iload_n h dX5_cut_0 rfl rfl ?_
  refine z_if_lt h 12 dX5_cut_1 (by decide) (fun c1 => ?_) (fun c1 => ?_)
  · refine z_iconst (v := 0) h dX5_cut_12 (by decide) ?_
    exact ret (Or.inl ⟨rfl, Or.inl c1, rfl⟩) dX5_cut_13 rfl
  · refine z_iload_n h dX5_cut_4 rfl rfl ?_
    refine z_aload_n h dX5_cut_5 rfl rfl ?_
    refine z_getI h (by assumption) rfl kw5 1 (by decide) rfl kf_RX5_15 dX5_cut_6 ?_
    rw [h4]
    refine z_icmp_le h 14 dX5_cut_9 (by decide) (fun c9 => ?_) (fun c9 => ?_)
    · obtain ⟨q, hq, e⟩ := nI_of c1
      subst e
      have hq2 := nle hq (by omega) c9
      have hT2 : TP S R (zu (zu I t 1 (nI q)) t 3 0) t b q 0 0 → True := fun _ => trivial
      refine z_aload_n h dX5_cut_14 rfl rfl ?_
      refine z_iload_n h dX5_cut_15 rfl rfl ?_
      refine z_putI h (by assumption) rfl kw5 1 (by decide) rfl rfl (rfl) (rfl) kf_RX5_15 dX5_cut_16 ?_
      refine z_aload_n h dX5_cut_19 rfl rfl ?_
      refine z_callVNP h (c_X5_rewind2 l (n := q) (b := b) h1 h2 h3 zu_s (by omega)) (by assumption) rfl gm_RX5_25 rfl ⟨rfl, rfl⟩ 0 (by decide +kernel) ⟨by decide, by decide⟩ rfl rfl (Nat.le_of_ble_eq_true rfl) ⟨Nat.zero_le _, Nat.zero_le _⟩ dX5_cut_20 (fun ν hν => ?_)
      obtain ⟨I2, rfl, hT3, hf⟩ := hν
      refine z_iconst (v := 1) h dX5_cut_23 (by decide) ?_
      rw [zu_o hbt] at hT3
      exact ret (Or.inr ⟨rfl, q, rfl, hq2, I2, rfl, hT3, fun a ha => (hf a ha).trans (zu_o (by simpa using ha))⟩) dX5_cut_24 rfl
    · refine z_iconst (v := 0) h dX5_cut_12 (by decide) ?_
      exact ret (Or.inl ⟨rfl, Or.inr c9, rfl⟩) dX5_cut_13 rfl
