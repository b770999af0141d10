theorem i32_dig (v t : Int32) : 10 * v + t - 48 = v * 10 + (t - 48) := by
  rw [Int32.mul_comm 10 v, Int32.sub_eq_add_neg, Int32.sub_eq_add_neg, Int32.add_assoc]

set_option maxHeartbeats 4000000 in
set_option maxRecDepth 100000 in
theorem c_X7_number (l : Launch) {E : zE} {S : zS} {I : Nat → Nat → Int32} {J : Nat → Nat → Int64} {R : Nat → Nat → Option Nat} {x tp n f e : Nat} (hT : MP S R I x tp n f e) (hfe : f < n → f < e) : zI l yX7_number wsX7_number rmX7_number E S [.ref x] (I, J, R) ((nmW (I tp) f e).getD (-1)) (I, J, R) := by
  refine z_metI (cc := cX7_number) (maxL := 3) (ty := .int) (by decide) rfl (Nat.le_of_ble_eq_true rfl) (fun X h ret => ?_)
  show zV X E S 0 0 (I, J, R) 0 _ []
  obtain ⟨h1, h2, h3, h4, h5, h6, h7, h8, h9⟩ := id hT
  have L48 : ∀ (d p : Nat) (a : Int32), p + d = e → f ≤ p → nmW (I tp) f e = dgW (I tp) d p a → zV X E S 0 0 (I, J, R) 48 [(0, .ref x), (1, .int a), (2, .int (nI p))] [] := by
    intro d
    induction d with
    | zero =>
      intro p a hp hfp hm
      refine z_iload_n h dX7_number_48 rfl rfl ?_
      refine z_aload_n h dX7_number_49 rfl rfl ?_
      refine z_getI h (by assumption) rfl kw7 14 (by decide) rfl kf_RX7_57 dX7_number_50 ?_
      rw [h6]
      refine z_icmp_ge h 91 dX7_number_53 (by decide) (fun c53 => ?_) (fun c53 => ?_)
      · rw [show (nmW (I tp) f e).getD (-1) = a by rw [hm]; rfl] at ret
        refine z_iload_n h dX7_number_91 rfl rfl ?_
        exact ret dX7_number_92 rfl
      · exact absurd (nI_le (by omega) (by omega)) c53
    | succ d ih =>
      intro p a hp hfp hm
      refine z_iload_n h dX7_number_48 rfl rfl ?_
      refine z_aload_n h dX7_number_49 rfl rfl ?_
      refine z_getI h (by assumption) rfl kw7 14 (by decide) rfl kf_RX7_57 dX7_number_50 ?_
      rw [h6]
      refine z_icmp_ge h 91 dX7_number_53 (by decide) (fun c53 => ?_) (fun c53 => ?_)
      · exact absurd (nle (by omega) (by omega) c53) (by omega)
      · refine z_aload_n h dX7_number_56 rfl rfl ?_
        refine z_getR h (by assumption) rfl kw7 1 (by decide) rfl (by assumption) kf_RX7_9 dX7_number_57 ?_
        refine z_iload_n h dX7_number_60 rfl rfl ?_
        refine z_bald h (by assumption) (zix_nI (by omega) (by decide)) dX7_number_61 ?_
        refine z_callSI h (c_X7_isDigit l _) (va_cwS 1 h.2.2.2.2.1 gm_RX7_67 rfl rfl rfl (by decide +kernel) ⟨by decide, by decide⟩) rfl rfl (Nat.le_of_ble_eq_true rfl) ⟨Nat.zero_le _, Nat.zero_le _⟩ dX7_number_62 ?_
        refine z_if_ne h 70 dX7_number_65 (by decide) (fun c65 => ?_) (fun c65 => ?_)
        · rw [dgW, if_pos (b2i_n0.mp c65)] at hm
          refine z_bipush (v := 10) h dX7_number_70 (by decide) ?_
          refine z_iload_n h dX7_number_72 rfl rfl ?_
          refine z_imul h dX7_number_73 ?_
          refine z_aload_n h dX7_number_74 rfl rfl ?_
          refine z_getR h (by assumption) rfl kw7 1 (by decide) rfl (by assumption) kf_RX7_9 dX7_number_75 ?_
          refine z_iload_n h dX7_number_78 rfl rfl ?_
          refine z_bald h (by assumption) (zix_nI (by omega) (by decide)) dX7_number_79 ?_
          refine z_iadd h dX7_number_80 ?_
          refine z_bipush (v := 48) h dX7_number_81 (by decide) ?_
          refine z_isub h dX7_number_83 ?_
          rw [i32_dig]
          refine z_istore_n h dX7_number_84 rfl (by decide) ?_
          refine z_iinc h dX7_number_85 rfl (nI_1 p) (by decide) ?_
          refine z_goto h 48 dX7_number_88 (by decide) ?_
          exact z_lk (ih (p + 1) _ (by omega) (by omega) hm) ⟨rfl, rfl, rfl, trivial⟩
        · rw [dgW, if_neg (by rw [b2i_0.mp c65]; decide)] at hm
          rw [show (nmW (I tp) f e).getD (-1) = -1 by rw [hm]; rfl] at ret
          refine z_iconst (v := -1) h dX7_number_68 (by decide) ?_
          exact ret dX7_number_69 rfl
  refine z_aload_n h dX7_number_0 rfl rfl ?_
  refine z_getI h (by assumption) rfl kw7 13 (by decide) rfl kf_RX7_60 dX7_number_1 ?_
  refine z_aload_n h dX7_number_4 rfl rfl ?_
  refine z_getI h (by assumption) rfl kw7 2 (by decide) rfl kf_RX7_46 dX7_number_5 ?_
  rw [h5, h4]
  refine z_icmp_eq h 39 dX7_number_8 (by decide) (fun c8 => ?_) (fun c8 => ?_)
  · have c8 := (nI_eq (by omega) (by omega)).mp c8
    rw [show (nmW (I tp) f e).getD (-1) = -1 by rw [show nmW (I tp) f e = none from if_neg (by omega)]; rfl] at ret
    refine z_iconst (v := -1) h dX7_number_39 (by decide) ?_
    exact ret dX7_number_40 rfl
  · have c8 : f < e := hfe (by
      have : f ≠ n := fun q => c8 (by rw [q])
      omega)
    refine z_aload_n h dX7_number_11 rfl rfl ?_
    refine z_getI h (by assumption) rfl kw7 14 (by decide) rfl kf_RX7_57 dX7_number_12 ?_
    refine z_aload_n h dX7_number_15 rfl rfl ?_
    refine z_getI h (by assumption) rfl kw7 13 (by decide) rfl kf_RX7_60 dX7_number_16 ?_
    rw [h6, h5]
    refine z_isub h dX7_number_19 ?_
    rw [pk_sub h8]
    refine z_iconst (v := 3) h dX7_number_20 (by decide) ?_
    rw [show (3 : Int32) = nI 3 from rfl]
    refine z_icmp_gt h 39 dX7_number_21 (by decide) (fun c21 => ?_) (fun c21 => ?_)
    · have c21 := nlt (by decide) (by omega) c21
      rw [show (nmW (I tp) f e).getD (-1) = -1 by rw [show nmW (I tp) f e = none from if_neg (by omega)]; rfl] at ret
      refine z_iconst (v := -1) h dX7_number_39 (by decide) ?_
      exact ret dX7_number_40 rfl
    · have c21 := nnlt (by decide) (by omega) c21
      refine z_aload_n h dX7_number_24 rfl rfl ?_
      refine z_getR h (by assumption) rfl kw7 1 (by decide) rfl (by assumption) kf_RX7_9 dX7_number_25 ?_
      refine z_aload_n h dX7_number_28 rfl rfl ?_
      refine z_getI h (by assumption) rfl kw7 13 (by decide) rfl kf_RX7_60 dX7_number_29 ?_
      rw [h5]
      refine z_bald h (by assumption) (zix_nI (by omega) (by decide)) dX7_number_32 ?_
      refine z_callSI h (c_X7_isDigit l _) (va_cwS 1 h.2.2.2.2.1 gm_RX7_67 rfl rfl rfl (by decide +kernel) ⟨by decide, by decide⟩) rfl rfl (Nat.le_of_ble_eq_true rfl) ⟨Nat.zero_le _, Nat.zero_le _⟩ dX7_number_33 ?_
      refine z_if_ne h 41 dX7_number_36 (by decide) (fun c36 => ?_) (fun c36 => ?_)
      · refine z_iconst (v := 0) h dX7_number_41 (by decide) ?_
        refine z_istore_n h dX7_number_42 rfl (by decide) ?_
        refine z_aload_n h dX7_number_43 rfl rfl ?_
        refine z_getI h (by assumption) rfl kw7 13 (by decide) rfl kf_RX7_60 dX7_number_44 ?_
        rw [h5]
        refine z_istore_n h dX7_number_47 rfl (by decide) ?_
        exact z_lk (L48 (e - f) f 0 (by omega) (Nat.le_refl _) (if_pos ⟨c8, c21⟩)) ⟨rfl, rfl, rfl, trivial⟩
      · have hd : e - f = (e - f - 1) + 1 := by omega
        rw [show (nmW (I tp) f e).getD (-1) = -1 by rw [show nmW (I tp) f e = none from by unfold nmW; rw [if_pos ⟨c8, c21⟩, hd, dgW, if_neg (by rw [b2i_0.mp c36]; decide)]]; rfl] at ret
        refine z_iconst (v := -1) h dX7_number_39 (by decide) ?_
        exact ret dX7_number_40 rfl

/-- the reference at the word q; its other fields are v; all else is as in I0 -/
def MS (S : zS) (R : Nat → Nat → Option Nat) (g : Nat → Int32) (I0 I : Nat → Nat → Int32) (x tp n : Nat) (q : zQ) (v : Nat → Int32) : Prop := MP S R I x tp n q.1 q.2 ∧ I tp = g ∧ (q.1 < n → q.1 < q.2) ∧ fr [x] I0 I ∧ ∀ j, j ≠ 13 → j ≠ 14 → I x j = v j
theorem MS.put {S : zS} {R : Nat → Nat → Option Nat} {g : Nat → Int32} {I0 I : Nat → Nat → Int32} {x tp n : Nat} {q : zQ} {v : Nat → Int32} (h : MS S R g I0 I x tp n q v) {j : Nat} {w : Int32} (j2 : j ≠ 2) (j3 : j ≠ 13) (j4 : j ≠ 14) : MS S R g I0 (zu I x j w) x tp n q (upd v j w) := by
  have hne := h.1.ne
  obtain ⟨⟨a1, a2, a3, a4, a5, a6, a7, a8, a9⟩, h2, h3, h4, h5⟩ := h
  refine ⟨⟨a1, a2, a3, ?_, ?_, ?_, a7, a8, a9⟩, ?_, h3, fr_zu h4 (by simp), fun i i1 i2 => ?_⟩
  · rw [zu_k (Ne.symm j2)]; exact a4
  · rw [zu_k (Ne.symm j3)]; exact a5
  · rw [zu_k (Ne.symm j4)]; exact a6
  · rw [zu_o hne]; exact h2
  · by_cases e : i = j
    · subst e; rw [zu_s]; simp [upd]
    · rw [zu_k e, h5 i i1 i2]; simp [upd, e]
theorem MS.nx {S : zS} {J : Nat → Nat → Int64} {R : Nat → Nat → Option Nat} {g : Nat → Int32} {I0 I : Nat → Nat → Int32} {x tp n : Nat} {q : zQ} {v : Nat → Int32} (h : MS S R g I0 I x tp n q v) {ν : zM} (hν : mpN S J R I x tp n (skp (I tp) n q.2) (wnd (I tp) n (skp (I tp) n q.2)) ν) : ∃ I', ν = (I', J, R) ∧ MS S R g I0 I' x tp n (nx g n q) v := by
  have hne := h.1.ne
  obtain ⟨I', e1, hM, hf, ho⟩ := hν
  obtain ⟨a, h2, h3, h4, h5⟩ := h
  rw [h2] at hM
  have h9 : q.2 ≤ n := a.2.2.2.2.2.2.2.2
  refine ⟨I', e1, hM, (hf tp (by simpa using hne)).trans h2, (wnd_le g (skp_le g h9).2).2.2, fr_tr h4 hf, fun j j1 j2 => (ho j j1 j2).trans (h5 j j1 j2)⟩

theorem cM_takes (l : Launch) {E : zE} {S : zS} {I I0 : Nat → Nat → Int32} {J : Nat → Nat → Int64} {R : Nat → Nat → Option Nat} {g : Nat → Int32} {x tp n : Nat} {q : zQ} {v : Nat → Int32} (hS : MS S R g I0 I x tp n q v) {i : Nat} (hi : i < zlN) : zIP l yX7_takes wsX7_takes rmX7_takes E S [.ref x, .ref (E.2.2.1 i)] (I, J, R) (fun r ν => r = b2i (mW g q.1 q.2 (zsb i)) ∧ ∃ I', ν = (I', J, R) ∧ MS S R g I0 I' x tp n (if mW g q.1 q.2 (zsb i) = true then nx g n q else q) v) := zIP_w (c_X7_takes l hS.1 hi) (fun r ν h => by
  obtain ⟨h1, h3⟩ := h
  rw [hS.2.1] at h1
  refine ⟨h1, ?_⟩
  by_cases m : mW g q.1 q.2 (zsb i) = true
  · rw [if_pos m]
    rw [if_pos (by rw [hS.2.1]; exact m), if_pos (by rw [hS.2.1]; exact m)] at h3
    exact hS.nx h3
  · rw [if_neg m]
    rw [if_neg (by rw [hS.2.1]; exact m), if_neg (by rw [hS.2.1]; exact m)] at h3
    obtain ⟨I', e1, hM, hf, ho⟩ := h3
    exact ⟨I', e1, hM, (hf tp (by simpa using hS.1.ne)).trans hS.2.1, hS.2.2.1, fr_tr hS.2.2.2.1 hf, fun j j1 j2 => (ho j j1 j2).trans (hS.2.2.2.2 j j1 j2)⟩)
theorem cM_is (l : Launch) {E : zE} {S : zS} {I I0 : Nat → Nat → Int32} {J : Nat → Nat → Int64} {R : Nat → Nat → Option Nat} {g : Nat → Int32} {x tp n : Nat} {q : zQ} {v : Nat → Int32} (hS : MS S R g I0 I x tp n q v) {i : Nat} (hi : i < zlN) : zI l yX7_is wsX7_is rmX7_is E S [.ref x, .ref (E.2.2.1 i)] (I, J, R) (b2i (mW g q.1 q.2 (zsb i))) (I, J, R) := hS.2.1 ▸ c_X7_is l hS.1 hi
theorem cM_name (l : Launch) {E : zE} {S : zS} {I I0 : Nat → Nat → Int32} {J : Nat → Nat → Int64} {R : Nat → Nat → Option Nat} {g : Nat → Int32} {x tp n : Nat} {q : zQ} {v : Nat → Int32} (hS : MS S R g I0 I x tp n q v) : zI l yX7_name wsX7_name rmX7_name E S [.ref x] (I, J, R) (nmF g q) (I, J, R) := hS.2.1 ▸ c_X7_name l hS.1
theorem cM_unit (l : Launch) {E : zE} {S : zS} {I I0 : Nat → Nat → Int32} {J : Nat → Nat → Int64} {R : Nat → Nat → Option Nat} {g : Nat → Int32} {x tp n : Nat} {q : zQ} {v : Nat → Int32} (hS : MS S R g I0 I x tp n q v) : zI l yX7_unit wsX7_unit rmX7_unit E S [.ref x] (I, J, R) (unF g q) (I, J, R) := hS.2.1 ▸ c_X7_unit l hS.1
theorem cM_number (l : Launch) {E : zE} {S : zS} {I I0 : Nat → Nat → Int32} {J : Nat → Nat → Int64} {R : Nat → Nat → Option Nat} {g : Nat → Int32} {x tp n : Nat} {q : zQ} {v : Nat → Int32} (hS : MS S R g I0 I x tp n q v) : zI l yX7_number wsX7_number rmX7_number E S [.ref x] (I, J, R) ((nmW g q.1 q.2).getD (-1)) (I, J, R) := hS.2.1 ▸ c_X7_number l hS.1 hS.2.2.1
theorem cM_next (l : Launch) {E : zE} {S : zS} {I I0 : Nat → Nat → Int32} {J : Nat → Nat → Int64} {R : Nat → Nat → Option Nat} {g : Nat → Int32} {x tp n : Nat} {q : zQ} {v : Nat → Int32} (hS : MS S R g I0 I x tp n q v) : zNP l yX7_next wsX7_next rmX7_next E S [.ref x] (I, J, R) (fun ν => ∃ I', ν = (I', J, R) ∧ MS S R g I0 I' x tp n (nx g n q) v) := by
  obtain ⟨⟨a1, a2, a3, a4, a5, a6, a7, a8, a9⟩, h2, h3, h4, h5⟩ := id hS
  exact zNP_w (c_X7_next l a1 a2 a3 a4 a7 a6 a9) (fun ν hν => hS.nx hν)
