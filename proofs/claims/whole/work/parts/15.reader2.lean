/-- the tape alone: at the word q; all else is as in I0 -/
def QS (S : zS) (R : Nat → Nat → Option Nat) (g : Nat → Int32) (I0 I : Nat → Nat → Int32) (t b n : Nat) (q : zQ) : Prop := TP S R I t b n q.1 q.2 ∧ I b = g ∧ fr [t] I0 I
theorem QS.mv {S : zS} {R : Nat → Nat → Option Nat} {g : Nat → Int32} {I0 I I' : Nat → Nat → Int32} {t b n : Nat} {q : zQ} (h : QS S R g I0 I t b n q) {f e : Nat} (hT : TP S R I' t b n f e) (hf : fr [t] I I') : QS S R g I0 I' t b n (f, e) := by
  refine ⟨hT, ?_, fr_tr h.2.2 hf⟩
  rw [hf b (by simpa using h.1.ne)]; exact h.2.1

theorem cQ_take (l : Launch) {E : zE} {S : zS} {I I0 : Nat → Nat → Int32} {J : Nat → Nat → Int64} {R : Nat → Nat → Option Nat} {g : Nat → Int32} {t b n : Nat} {q : zQ} (hS : QS S R g I0 I t b n q) {i : Nat} (hi : i < zlN) : zIP l yX5_take wsX5_take rmX5_take E S [.ref t, .ref (E.2.2.1 i)] (I, J, R) (fun r ν => r = b2i (mW g q.1 q.2 (zsb i)) ∧ ∃ I', ν = (I', J, R) ∧ QS S R g I0 I' t b n (if mW g q.1 q.2 (zsb i) = true then nx g n q else q)) := zIP_w (c_X5_take l hS.1 hi) (fun r ν h => by
  obtain ⟨h1, I', h2, h3, h4⟩ := h
  rw [hS.2.1] at h1 h3
  refine ⟨h1, I', h2, ?_⟩
  have h5 := hS.mv h3 h4
  by_cases m : mW g q.1 q.2 (zsb i) = true
  · rw [if_pos m]; rw [if_pos m, if_pos m] at h5; exact h5
  · rw [if_neg m]; rw [if_neg m, if_neg m] at h5; exact h5)
theorem cQ_name (l : Launch) {E : zE} {S : zS} {I I0 : Nat → Nat → Int32} {J : Nat → Nat → Int64} {R : Nat → Nat → Option Nat} {g : Nat → Int32} {t b n : Nat} {q : zQ} (hS : QS S R g I0 I t b n q) {u : Int32} : zIP l yX5_takeName wsX5_takeName rmX5_takeName E S [.ref t, .int u] (I, J, R) (fun r ν => r = (if nmF g q ≠ -1 ∧ nmF g q ≠ u then nmF g q else -1) ∧ ∃ I', ν = (I', J, R) ∧ QS S R g I0 I' t b n (if nmF g q ≠ -1 ∧ nmF g q ≠ u then nx g n q else q)) := zIP_w (c_X5_takeName l hS.1) (fun r ν h => by
  obtain ⟨h1, I', h2, h3, h4⟩ := h
  rw [hS.2.1, show fnd g q.1 q.2 (zsb 17) 8 3 = nmF g q from rfl] at h1 h3
  refine ⟨h1, I', h2, ?_⟩
  have h5 := hS.mv h3 h4
  by_cases m : nmF g q ≠ -1 ∧ nmF g q ≠ u
  · rw [if_pos m]; rw [if_pos m, if_pos m] at h5; exact h5
  · rw [if_neg m]; rw [if_neg m, if_neg m] at h5; exact h5)
theorem cQ_unit (l : Launch) {E : zE} {S : zS} {I I0 : Nat → Nat → Int32} {J : Nat → Nat → Int64} {R : Nat → Nat → Option Nat} {g : Nat → Int32} {t b n : Nat} {q : zQ} (hS : QS S R g I0 I t b n q) : zIP l yX5_takeUnit wsX5_takeUnit rmX5_takeUnit E S [.ref t] (I, J, R) (fun r ν => r = unF g q ∧ ∃ I', ν = (I', J, R) ∧ QS S R g I0 I' t b n (if unF g q ≠ -1 then nx g n q else q)) := zIP_w (c_X5_takeUnit l hS.1) (fun r ν h => by
  obtain ⟨h1, I', h2, h3, h4⟩ := h
  rw [hS.2.1, show fnd g q.1 q.2 (zsb 18) 4 4 = unF g q from rfl] at h1 h3
  refine ⟨h1, I', h2, ?_⟩
  have h5 := hS.mv h3 h4
  by_cases m : unF g q ≠ -1
  · rw [if_pos m]; rw [if_pos m, if_pos m] at h5; exact h5
  · rw [if_neg m]; rw [if_neg m, if_neg m] at h5; exact h5)
set_option maxHeartbeats 4000000 in
set_option maxRecDepth 100000 in
theorem c_X2_sort (l : Launch) {E : zE} {S : zS} {I I0 : Nat → Nat → Int32} {J : Nat → Nat → Int64} {R : Nat → Nat → Option Nat} {g : Nat → Int32} {rd : Nat} {t b n : Nat} {q : zQ} (hS : QS S R g I0 I t b n q) (f1 : zO S rd 2) (f2 : R rd 0 = some t) (f3 : zO S t 5) : zIP l yX2_takeAskedSort wsX2_takeAskedSort rmX2_takeAskedSort E S [.ref rd] (I, J, R) (fun r ν => r = sSrt g q ∧ ∃ I', ν = (I', J, R) ∧ QS S R g I0 I' t b n (if sSrt g q ≠ -1 then nx g n q else q)) := by
  refine z_metIP (cc := cX2_takeAskedSort) (maxL := 1) (ty := .int) (by decide) rfl (Nat.le_of_ble_eq_true rfl) (fun X h ret => ?_)
  show zV X E S 0 0 (I, J, R) 0 _ []
  refine z_aload_n h dX2_takeAskedSort_0 rfl rfl ?_
  refine z_getR h (by assumption) rfl kw2 0 (by decide) rfl (by assumption) kf_RX2_9 dX2_takeAskedSort_1 ?_
  refine z_ldcS h 1 (by decide) rfl rfl dX2_takeAskedSort_4 ?_
  refine z_callVIP h (cQ_take l hS (i := 1) (by decide)) (by assumption) rfl gm_RX2_27 rfl ⟨rfl, rfl⟩ 1 (by decide +kernel) ⟨by decide, by decide⟩ rfl rfl (Nat.le_of_ble_eq_true rfl) ⟨Nat.zero_le _, Nat.zero_le _⟩ dX2_takeAskedSort_6 (fun r ν hν => ?_)
  obtain ⟨rfl, I1, rfl, hS⟩ := hν
  refine z_if_eq h 14 dX2_takeAskedSort_9 (by decide) (fun c9 => ?_) (fun c9 => ?_)
  · have m9 := b2i_0.mp c9
    rw [if_neg (by rw [m9]; decide)] at hS
    refine z_aload_n h dX2_takeAskedSort_14 rfl rfl ?_
    refine z_getR h (by assumption) rfl kw2 0 (by decide) rfl (by assumption) kf_RX2_9 dX2_takeAskedSort_15 ?_
    refine z_ldcS h 3 (by decide) rfl rfl dX2_takeAskedSort_18 ?_
    refine z_callVIP h (cQ_take l hS (i := 3) (by decide)) (by assumption) rfl gm_RX2_27 rfl ⟨rfl, rfl⟩ 1 (by decide +kernel) ⟨by decide, by decide⟩ rfl rfl (Nat.le_of_ble_eq_true rfl) ⟨Nat.zero_le _, Nat.zero_le _⟩ dX2_takeAskedSort_20 (fun r ν hν => ?_)
    obtain ⟨rfl, I1, rfl, hS⟩ := hν
    refine z_if_eq h 28 dX2_takeAskedSort_23 (by decide) (fun c23 => ?_) (fun c23 => ?_)
    · have m23 := b2i_0.mp c23
      rw [if_neg (by rw [m23]; decide)] at hS
      refine z_aload_n h dX2_takeAskedSort_28 rfl rfl ?_
      refine z_getR h (by assumption) rfl kw2 0 (by decide) rfl (by assumption) kf_RX2_9 dX2_takeAskedSort_29 ?_
      refine z_ldcS h 16 (by decide) rfl rfl dX2_takeAskedSort_32 ?_
      refine z_callVIP h (cQ_take l hS (i := 16) (by decide)) (by assumption) rfl gm_RX2_27 rfl ⟨rfl, rfl⟩ 1 (by decide +kernel) ⟨by decide, by decide⟩ rfl rfl (Nat.le_of_ble_eq_true rfl) ⟨Nat.zero_le _, Nat.zero_le _⟩ dX2_takeAskedSort_34 (fun r ν hν => ?_)
      obtain ⟨rfl, I1, rfl, hS⟩ := hν
      refine z_if_eq h 44 dX2_takeAskedSort_37 (by decide) (fun c37 => ?_) (fun c37 => ?_)
      · have m37 := b2i_0.mp c37
        rw [if_neg (by rw [m37]; decide)] at hS
        have e : sSrt g q = -1 := by unfold sSrt; rw [if_neg (by rw [m9]; decide), if_neg (by rw [m23]; decide), if_neg (by rw [m37]; decide)]
        rw [e] at ret
        refine z_iconst (v := -1) h dX2_takeAskedSort_44 (by decide) ?_
        exact ret (r := -1) ⟨rfl, _, rfl, by rw [if_neg (by decide)]; exact hS⟩ dX2_takeAskedSort_45 rfl
      · have m37 := b2i_n0.mp c37
        rw [if_pos m37] at hS
        have e : sSrt g q = 2 := by unfold sSrt; rw [if_neg (by rw [m9]; decide), if_neg (by rw [m23]; decide), if_pos m37]
        rw [e] at ret
        refine z_iconst (v := 2) h dX2_takeAskedSort_40 (by decide) ?_
        refine z_goto h 45 dX2_takeAskedSort_41 (by decide) ?_
        exact ret (r := 2) ⟨rfl, _, rfl, by rw [if_pos (by decide)]; exact hS⟩ dX2_takeAskedSort_45 rfl
    · have m23 := b2i_n0.mp c23
      rw [if_pos m23] at hS
      have e : sSrt g q = 1 := by unfold sSrt; rw [if_neg (by rw [m9]; decide), if_pos m23]
      rw [e] at ret
      refine z_iconst (v := 1) h dX2_takeAskedSort_26 (by decide) ?_
      exact ret (r := 1) ⟨rfl, _, rfl, by rw [if_pos (by decide)]; exact hS⟩ dX2_takeAskedSort_27 rfl
  · have m9 := b2i_n0.mp c9
    rw [if_pos m9] at hS
    have e : sSrt g q = 0 := by unfold sSrt; rw [if_pos m9]
    rw [e] at ret
    refine z_iconst (v := 0) h dX2_takeAskedSort_12 (by decide) ?_
    exact ret (r := 0) ⟨rfl, _, rfl, by rw [if_pos (by decide)]; exact hS⟩ dX2_takeAskedSort_13 rfl

/-- what a question leaves: the answer of the reader, what is asked -/
def askP (S : zS) (J : Nat → Nat → Int64) (R : Nat → Nat → Option Nat) (g : Nat → Int32) (I : Nat → Nat → Int32) (t b n st ak : Nat) (o : Option zR × zQ) (r : Int32) (ν : zM) : Prop := ∃ I', ν = (I', J, R) ∧ TP S R I' t b n o.2.1 o.2.2 ∧ I' b = g ∧ fr [t, ak, st] I I' ∧ match o.1 with
  | none => r = 0 ∧ fr [t] I I'
  | some v => r = 1 ∧ I' ak 0 = v.1 ∧ I' ak 1 = v.2.1 ∧ I' ak 2 = v.2.2.1 ∧ I' ak 3 = v.2.2.2 ∧ I' ak 4 = (if v.1 = 2 then 0 else I st 3) ∧ I' st 5 = 1 ∧ ∀ i, i ≠ 5 → I' st i = I st i
theorem sSrt_or (g : Nat → Int32) (q : zQ) : sSrt g q = -1 ∨ sSrt g q = 0 ∨ sSrt g q = 1 ∨ sSrt g q = 2 := by
  unfold sSrt
  split
  · exact Or.inr (Or.inl rfl)
  · split
    · exact Or.inr (Or.inr (Or.inl rfl))
    · split
      · exact Or.inr (Or.inr (Or.inr rfl))
      · exact Or.inl rfl

set_option maxHeartbeats 4000000 in
set_option maxRecDepth 100000 in
theorem c_X2_question (l : Launch) {E : zE} {S : zS} {I : Nat → Nat → Int32} {J : Nat → Nat → Int64} {R : Nat → Nat → Option Nat} {g : Nat → Int32} {rd st pa ak : Nat} {rw : Nat → Nat} {t b n : Nat} {q : zQ} (hS : QS S R g I I t b n q) (f1 : zO S rd 2) (f2 : R rd 0 = some t) (f3 : zO S t 5) (hY : SY S R st pa ak rw) : zIP l yX2_readQuestion wsX2_readQuestion rmX2_readQuestion E S [.ref rd, .ref st] (I, J, R) (askP S J R g I t b n st ak (sAsk g n q)) := by
  refine z_metIP (cc := cX2_readQuestion) (maxL := 6) (ty := .boolean) (by decide) rfl (Nat.le_of_ble_eq_true rfl) (fun X h ret => ?_)
  show zV X E S 0 0 (I, J, R) 0 _ []
  have f7 := hY.1
  have n2 := hY.n2
  have n3 : st ≠ t := fun q => absurd (hY.1.2.symm.trans (q ▸ f3.2)) (by decide)
  have n4 : ak ≠ t := fun q => absurd (hY.2.2.2.2.1.2.1.symm.trans (q ▸ f3.2)) (by decide)
  have n5 : ak ≠ b := fun q => absurd (hY.2.2.2.2.1.2.2.symm.trans (q ▸ hS.1.2.2.1.2.2)) (by decide)
  have n6 : st ≠ b := fun q => absurd (hY.1.2.symm.trans (q ▸ hS.1.2.2.1.2.1)) (by decide)
  have hF : ∀ (I1 : Nat → Nat → Int32) (p : zQ), QS S R g I I1 t b n p → sAsk g n q = (none, p) → askP S J R g I t b n st ak (sAsk g n q) 0 (I1, J, R) := by
    intro I1 p h1 h2
    rw [h2]
    exact ⟨I1, rfl, h1.1, h1.2.1, fr_mono h1.2.2 (by simp), rfl, h1.2.2⟩
  have F55 : ∀ (I1 : Nat → Nat → Int32) (p : zQ) (lv : List (Nat × Value)), QS S R g I I1 t b n p → sAsk g n q = (none, p) → zV X E S 0 0 (I1, J, R) 55 lv [.int (-1)] := by
    intro I1 p lv h1 h2
    refine z_istore h dX2_readQuestion_55 (by decide) ?_
    refine z_iload h dX2_readQuestion_57 rfl ?_
    refine z_iconst (v := -1) h dX2_readQuestion_59 (by decide) ?_
    refine z_icmp_ne h 65 dX2_readQuestion_60 (by decide) (fun c => absurd rfl c) (fun _ => ?_)
    refine z_iconst (v := 0) h dX2_readQuestion_63 (by decide) ?_
    exact ret (hF I1 p h1 h2) dX2_readQuestion_64 rfl
  have F37 : ∀ (I1 : Nat → Nat → Int32) (p : zQ) (lv : List (Nat × Value)), QS S R g I I1 t b n p → sAsk g n q = (none, p) → zV X E S 0 0 (I1, J, R) 37 lv [.int (-1)] := by
    intro I1 p lv h1 h2
    refine z_istore_n h dX2_readQuestion_37 rfl (by decide) ?_
    refine z_iload_n h dX2_readQuestion_38 rfl rfl ?_
    refine z_iconst (v := -1) h dX2_readQuestion_39 (by decide) ?_
    refine z_icmp_ne h 47 dX2_readQuestion_40 (by decide) (fun c => absurd rfl c) (fun _ => ?_)
    refine z_iconst (v := -1) h dX2_readQuestion_43 (by decide) ?_
    refine z_goto h 55 dX2_readQuestion_44 (by decide) ?_
    exact F55 I1 p _ h1 h2
  have F23 : ∀ (I1 : Nat → Nat → Int32) (p : zQ) (lv : List (Nat × Value)), QS S R g I I1 t b n p → sAsk g n q = (none, p) → zV X E S 0 0 (I1, J, R) 23 lv [.int (-1)] := by
    intro I1 p lv h1 h2
    refine z_istore_n h dX2_readQuestion_23 rfl (by decide) ?_
    refine z_iload_n h dX2_readQuestion_24 rfl rfl ?_
    refine z_iconst (v := -1) h dX2_readQuestion_25 (by decide) ?_
    refine z_icmp_ne h 33 dX2_readQuestion_26 (by decide) (fun c => absurd rfl c) (fun _ => ?_)
    refine z_iconst (v := -1) h dX2_readQuestion_29 (by decide) ?_
    refine z_goto h 37 dX2_readQuestion_30 (by decide) ?_
    exact F37 I1 p _ h1 h2
  have F98 : ∀ (I1 : Nat → Nat → Int32) (p : zQ) (lv : List (Nat × Value)), QS S R g I I1 t b n p → sAsk g n q = (none, p) → zV X E S 0 0 (I1, J, R) 98 lv [.int (-1)] := by
    intro I1 p lv h1 h2
    refine z_istore h dX2_readQuestion_98 (by decide) ?_
    refine z_iload h dX2_readQuestion_100 rfl ?_
    refine z_iconst (v := -1) h dX2_readQuestion_102 (by decide) ?_
    refine z_icmp_ne h 108 dX2_readQuestion_103 (by decide) (fun c => absurd rfl c) (fun _ => ?_)
    refine z_iconst (v := 0) h dX2_readQuestion_106 (by decide) ?_
    exact ret (hF I1 p h1 h2) dX2_readQuestion_107 rfl
  have G108 : ∀ (I1 : Nat → Nat → Int32) (p : zQ) (so fi se u : Int32), QS S R g I I1 t b n p → sAsk g n q = (tk g n w_qm p fun p => (some (so, fi, se, u), p)) → zV X E S 0 0 (I1, J, R) 108 [(0, .ref rd), (1, .ref st), (2, .int u), (3, .int so), (4, .int fi), (5, .int se)] [] := by
    intro I1 p so fi se u hS hsp
    refine z_aload_n h dX2_readQuestion_108 rfl rfl ?_
    refine z_getR h (by assumption) rfl kw2 0 (by decide) rfl (by assumption) kf_RX2_9 dX2_readQuestion_109 ?_
    refine z_ldcS h 15 (by decide) rfl rfl dX2_readQuestion_112 ?_
    refine z_callVIP h (cQ_take l hS (i := 15) (by decide)) (by assumption) rfl gm_RX2_27 rfl ⟨rfl, rfl⟩ 1 (by decide +kernel) ⟨by decide, by decide⟩ rfl rfl (Nat.le_of_ble_eq_true rfl) ⟨Nat.zero_le _, Nat.zero_le _⟩ dX2_readQuestion_114 (fun r ν hν => ?_)
    obtain ⟨rfl, I1, rfl, hS⟩ := hν
    refine z_if_ne h 122 dX2_readQuestion_117 (by decide) (fun c117 => ?_) (fun c117 => ?_)
    · have m117 := b2i_n0.mp c117
      rw [if_pos m117] at hS
      rw [tk_t m117] at hsp
      refine z_aload_n h dX2_readQuestion_122 rfl rfl ?_
      refine z_iload_n h dX2_readQuestion_123 rfl rfl ?_
      refine z_iload h dX2_readQuestion_124 rfl ?_
      refine z_iload h dX2_readQuestion_126 rfl ?_
      refine z_iload_n h dX2_readQuestion_128 rfl rfl ?_
      refine z_callVNP h (c_X3_ask l hY) (by assumption) rfl gm_RX2_112 rfl ⟨rfl, rfl⟩ 4 (by decide +kernel) ⟨by decide, by decide⟩ rfl rfl (Nat.le_of_ble_eq_true rfl) ⟨Nat.zero_le _, Nat.zero_le _⟩ dX2_readQuestion_129 (fun ν hν => ?_)
      obtain ⟨I2, rfl, a0, a1, a2, a3, a4, a5, a6, a7⟩ := hν
      refine z_iconst (v := 1) h dX2_readQuestion_132 (by decide) ?_
      refine ret (r := 1) ?_ dX2_readQuestion_133 rfl
      rw [hsp]
      have e : I1 st = I st := hS.2.2 st (by simpa using n3)
      have w : ∀ a, a ≠ ak → a ≠ st → I2 a = I1 a := fun a q1 q2 => a0 a (by simp [q1, q2])
      obtain ⟨⟨t1, t2, t3, t4, t5, t6, t7, t8, t9⟩, hb, hf⟩ := hS
      refine ⟨I2, rfl, ⟨t1, t2, t3, ?_, ?_, ?_, t7, t8, t9⟩, ?_, ?_, rfl, a1, a2, a3, a4, ?_, a6, fun i hi => ?_⟩
      · rw [w t (Ne.symm n4) (Ne.symm n3)]; exact t4
      · rw [w t (Ne.symm n4) (Ne.symm n3)]; exact t5
      · rw [w t (Ne.symm n4) (Ne.symm n3)]; exact t6
      · rw [w b (Ne.symm n5) (Ne.symm n6)]; exact hb
      · exact fr_tr (fr_mono hf (by simp)) (fr_mono a0 (by simp))
      · rw [a5, e]
      · rw [a7 i hi, e]
    · have m117 := b2i_0.mp c117
      rw [if_neg (by rw [m117]; decide)] at hS
      rw [tk_f m117] at hsp
      refine z_iconst (v := 0) h dX2_readQuestion_120 (by decide) ?_
      exact ret (hF _ _ hS hsp) dX2_readQuestion_121 rfl
  have hsp : sAsk g n q = (tk g n w_many q fun q => tkU g n q fun u q => if sSrt g q = -1 then (none, q) else tkN g n (-1) (nx g n q) fun fi p => if sSrt g q = 1 then (tk g n w_and p fun p => tkN g n fi p fun se p => tk g n w_qm p fun p => (some (1, fi, se, u), p)) else tk g n w_qm p fun p => (some (sSrt g q, fi, -1, u), p)) := rfl
  refine z_aload_n h dX2_readQuestion_0 rfl rfl ?_
  refine z_getR h (by assumption) rfl kw2 0 (by decide) rfl (by assumption) kf_RX2_9 dX2_readQuestion_1 ?_
  refine z_ldcS h 14 (by decide) rfl rfl dX2_readQuestion_4 ?_
  refine z_callVIP h (cQ_take l hS (i := 14) (by decide)) (by assumption) rfl gm_RX2_27 rfl ⟨rfl, rfl⟩ 1 (by decide +kernel) ⟨by decide, by decide⟩ rfl rfl (Nat.le_of_ble_eq_true rfl) ⟨Nat.zero_le _, Nat.zero_le _⟩ dX2_readQuestion_6 (fun r ν hν => ?_)
  obtain ⟨rfl, I1, rfl, hS⟩ := hν
  refine z_if_eq h 22 dX2_readQuestion_9 (by decide) (fun c9 => ?_) (fun c9 => ?_)
  · have m9 := b2i_0.mp c9
    rw [if_neg (by rw [m9]; decide)] at hS
    rw [tk_f m9] at hsp
    refine z_iconst (v := -1) h dX2_readQuestion_22 (by decide) ?_
    exact F23 _ _ _ hS hsp
  · have m9 := b2i_n0.mp c9
    rw [if_pos m9] at hS
    rw [tk_t m9] at hsp
    generalize nx g n q = q1 at hS hsp
    refine z_aload_n h dX2_readQuestion_12 rfl rfl ?_
    refine z_getR h (by assumption) rfl kw2 0 (by decide) rfl (by assumption) kf_RX2_9 dX2_readQuestion_13 ?_
    refine z_callVIP h (cQ_unit l hS) (by assumption) rfl gm_RX2_104 rfl ⟨rfl, rfl⟩ 0 (by decide +kernel) ⟨by decide, by decide⟩ rfl rfl (Nat.le_of_ble_eq_true rfl) ⟨Nat.zero_le _, Nat.zero_le _⟩ dX2_readQuestion_16 (fun r ν hν => ?_)
    obtain ⟨rfl, I2, rfl, hS⟩ := hν
    refine z_goto h 23 dX2_readQuestion_19 (by decide) ?_
    by_cases mu : unF g q1 ≠ -1
    · rw [if_pos mu] at hS
      rw [tkU_t mu] at hsp
      generalize unF g q1 = u at mu hsp ⊢
      generalize nx g n q1 = q2 at hS hsp
      refine z_istore_n h dX2_readQuestion_23 rfl (by decide) ?_
      refine z_iload_n h dX2_readQuestion_24 rfl rfl ?_
      refine z_iconst (v := -1) h dX2_readQuestion_25 (by decide) ?_
      refine z_icmp_ne h 33 dX2_readQuestion_26 (by decide) (fun _ => ?_) (fun c => absurd c mu)
      refine z_aload_n h dX2_readQuestion_33 rfl rfl ?_
      refine z_callVIP h (c_X2_sort l hS f1 f2 f3) (by assumption) rfl gm_RX2_107 rfl ⟨rfl, rfl⟩ 0 (by decide +kernel) ⟨by decide, by decide⟩ rfl rfl (Nat.le_of_ble_eq_true rfl) ⟨Nat.zero_le _, Nat.zero_le _⟩ dX2_readQuestion_34 (fun r ν hν => ?_)
      obtain ⟨rfl, I3, rfl, hS⟩ := hν
      by_cases ms : sSrt g q2 = -1
      · rw [if_pos ms] at hsp
        rw [if_neg (fun w => w ms)] at hS
        rw [ms]
        exact F37 _ _ _ hS hsp
      · rw [if_neg ms] at hsp
        rw [if_pos ms] at hS
        generalize hso : sSrt g q2 = so at ms hsp ⊢
        generalize nx g n q2 = q3 at hS hsp
        refine z_istore_n h dX2_readQuestion_37 rfl (by decide) ?_
        refine z_iload_n h dX2_readQuestion_38 rfl rfl ?_
        refine z_iconst (v := -1) h dX2_readQuestion_39 (by decide) ?_
        refine z_icmp_ne h 47 dX2_readQuestion_40 (by decide) (fun _ => ?_) (fun c => absurd c ms)
        refine z_aload_n h dX2_readQuestion_47 rfl rfl ?_
        refine z_getR h (by assumption) rfl kw2 0 (by decide) rfl (by assumption) kf_RX2_9 dX2_readQuestion_48 ?_
        refine z_iconst (v := -1) h dX2_readQuestion_51 (by decide) ?_
        refine z_callVIP h (cQ_name l hS) (by assumption) rfl gm_RX2_46 rfl ⟨rfl, rfl⟩ 1 (by decide +kernel) ⟨by decide, by decide⟩ rfl rfl (Nat.le_of_ble_eq_true rfl) ⟨Nat.zero_le _, Nat.zero_le _⟩ dX2_readQuestion_52 (fun r ν hν => ?_)
        obtain ⟨rfl, I4, rfl, hS⟩ := hν
        by_cases mn : nmF g q3 ≠ -1 ∧ nmF g q3 ≠ -1
        · rw [if_pos mn] at hS ⊢
          rw [tkN_t mn] at hsp
          generalize nmF g q3 = fi at mn hsp ⊢
          generalize nx g n q3 = q4 at hS hsp
          refine z_istore h dX2_readQuestion_55 (by decide) ?_
          refine z_iload h dX2_readQuestion_57 rfl ?_
          refine z_iconst (v := -1) h dX2_readQuestion_59 (by decide) ?_
          refine z_icmp_ne h 65 dX2_readQuestion_60 (by decide) (fun _ => ?_) (fun c => absurd c mn.1)
          refine z_iconst (v := -1) h dX2_readQuestion_65 (by decide) ?_
          refine z_istore h dX2_readQuestion_66 (by decide) ?_
          refine z_iload_n h dX2_readQuestion_68 rfl rfl ?_
          refine z_iconst (v := 1) h dX2_readQuestion_69 (by decide) ?_
          refine z_icmp_ne h 108 dX2_readQuestion_70 (by decide) (fun c70 => ?_) (fun c70 => ?_)
          · rw [if_neg c70] at hsp
            exact z_lk (G108 _ _ _ _ _ _ hS hsp) ⟨rfl, rfl, rfl, rfl, rfl, rfl, trivial⟩
          · rw [if_pos c70] at hsp
            rw [c70]
            refine z_aload_n h dX2_readQuestion_73 rfl rfl ?_
            refine z_getR h (by assumption) rfl kw2 0 (by decide) rfl (by assumption) kf_RX2_9 dX2_readQuestion_74 ?_
            refine z_ldcS h 2 (by decide) rfl rfl dX2_readQuestion_77 ?_
            refine z_callVIP h (cQ_take l hS (i := 2) (by decide)) (by assumption) rfl gm_RX2_27 rfl ⟨rfl, rfl⟩ 1 (by decide +kernel) ⟨by decide, by decide⟩ rfl rfl (Nat.le_of_ble_eq_true rfl) ⟨Nat.zero_le _, Nat.zero_le _⟩ dX2_readQuestion_79 (fun r ν hν => ?_)
            obtain ⟨rfl, I5, rfl, hS⟩ := hν
            refine z_if_eq h 97 dX2_readQuestion_82 (by decide) (fun c82 => ?_) (fun c82 => ?_)
            · have m82 := b2i_0.mp c82
              rw [if_neg (by rw [m82]; decide)] at hS
              rw [tk_f m82] at hsp
              refine z_iconst (v := -1) h dX2_readQuestion_97 (by decide) ?_
              exact F98 _ _ _ hS hsp
            · have m82 := b2i_n0.mp c82
              rw [if_pos m82] at hS
              rw [tk_t m82] at hsp
              generalize nx g n q4 = q5 at hS hsp
              refine z_aload_n h dX2_readQuestion_85 rfl rfl ?_
              refine z_getR h (by assumption) rfl kw2 0 (by decide) rfl (by assumption) kf_RX2_9 dX2_readQuestion_86 ?_
              refine z_iload h dX2_readQuestion_89 rfl ?_
              refine z_callVIP h (cQ_name l hS) (by assumption) rfl gm_RX2_46 rfl ⟨rfl, rfl⟩ 1 (by decide +kernel) ⟨by decide, by decide⟩ rfl rfl (Nat.le_of_ble_eq_true rfl) ⟨Nat.zero_le _, Nat.zero_le _⟩ dX2_readQuestion_91 (fun r ν hν => ?_)
              obtain ⟨rfl, I6, rfl, hS⟩ := hν
              refine z_goto h 98 dX2_readQuestion_94 (by decide) ?_
              by_cases m2 : nmF g q5 ≠ -1 ∧ nmF g q5 ≠ fi
              · rw [if_pos m2] at hS ⊢
                rw [tkN_t m2] at hsp
                refine z_istore h dX2_readQuestion_98 (by decide) ?_
                refine z_iload h dX2_readQuestion_100 rfl ?_
                refine z_iconst (v := -1) h dX2_readQuestion_102 (by decide) ?_
                refine z_icmp_ne h 108 dX2_readQuestion_103 (by decide) (fun _ => ?_) (fun c => absurd c m2.1)
                exact z_lk (G108 _ _ _ _ _ _ hS hsp) ⟨rfl, rfl, rfl, rfl, rfl, rfl, trivial⟩
              · rw [if_neg m2] at hS ⊢
                rw [tkN_f m2] at hsp
                exact F98 _ _ _ hS hsp
        · rw [if_neg mn] at hS ⊢
          rw [tkN_f mn] at hsp
          exact F55 _ _ _ hS hsp
    · rw [if_neg mu] at hS
      rw [tkU_f mu] at hsp
      rw [show unF g q1 = -1 from Classical.not_not.mp mu]
      exact F23 _ _ _ hS hsp
