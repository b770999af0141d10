/-! THE PARSER, as functions: a position is a word, from its first byte to behind its last one -/
abbrev w_how : List Int32 := zsb 0
abbrev w_has : List Int32 := zsb 1
abbrev w_and : List Int32 := zsb 2
abbrev w_have : List Int32 := zsb 3
abbrev w_gives : List Int32 := zsb 4
abbrev w_to : List Int32 := zsb 5
abbrev w_buys : List Int32 := zsb 6
abbrev w_eats : List Int32 := zsb 7
abbrev w_dot : List Int32 := zsb 8
abbrev w_more : List Int32 := zsb 9
abbrev w_than : List Int32 := zsb 10
abbrev w_fewer : List Int32 := zsb 11
abbrev w_times : List Int32 := zsb 12
abbrev w_as : List Int32 := zsb 13
abbrev w_many : List Int32 := zsb 14
abbrev w_qm : List Int32 := zsb 15
abbrev w_had : List Int32 := zsb 16
abbrev zQ : Type := Nat × Nat
def nx (g : Nat → Int32) (n : Nat) (q : zQ) : zQ := (nxF g n q.2, nxE g n q.2)
def nmF (g : Nat → Int32) (q : zQ) : Int32 := fnd g q.1 q.2 (zsb 17) 8 3
def unF (g : Nat → Int32) (q : zQ) : Int32 := fnd g q.1 q.2 (zsb 18) 4 4
def tk {ρ : Type} (g : Nat → Int32) (n : Nat) (s : List Int32) (q : zQ) (k : zQ → Option ρ × zQ) : Option ρ × zQ := if mW g q.1 q.2 s = true then k (nx g n q) else (none, q)
def tkN {ρ : Type} (g : Nat → Int32) (n : Nat) (u : Int32) (q : zQ) (k : Int32 → zQ → Option ρ × zQ) : Option ρ × zQ := if nmF g q ≠ -1 ∧ nmF g q ≠ u then k (nmF g q) (nx g n q) else (none, q)
def tkU {ρ : Type} (g : Nat → Int32) (n : Nat) (q : zQ) (k : Int32 → zQ → Option ρ × zQ) : Option ρ × zQ := if unF g q ≠ -1 then k (unF g q) (nx g n q) else (none, q)
def tkD {ρ : Type} (g : Nat → Int32) (n : Nat) (q : zQ) (k : Int32 → zQ → Option ρ × zQ) : Option ρ × zQ := match nmW g q.1 q.2 with
  | some a => k a (nx g n q)
  | none => (none, q)
/-- sort, second name, unit, number -/
abbrev zR : Type := Int32 × Int32 × Int32 × Int32
def sPl (g : Nat → Int32) (n : Nat) (so : Int32) (q : zQ) : Option zR × zQ := tkD g n q fun a q => tkU g n q fun u q => (some (so, -1, u, a), q)
def sCmp (g : Nat → Int32) (n : Nat) (so a fi : Int32) (q : zQ) : Option zR × zQ := tkU g n q fun u q => tk g n w_than q fun q => tkN g n fi q fun s q => (some (so, s, u, a), q)
def sTim (g : Nat → Int32) (n : Nat) (a fi : Int32) (q : zQ) : Option zR × zQ := tk g n w_as q fun q => tk g n w_many q fun q => tkU g n q fun u q => tk g n w_as q fun q => tkN g n fi q fun s q => (some (3, s, u, a), q)
def sHas (g : Nat → Int32) (n : Nat) (fi : Int32) (q : zQ) : Option zR × zQ := tkD g n q fun a q =>
  if mW g q.1 q.2 w_more = true then sCmp g n 1 a fi (nx g n q) else if mW g q.1 q.2 w_fewer = true then sCmp g n 2 a fi (nx g n q) else if (2 ≤ a ∧ a ≤ 9) ∧ mW g q.1 q.2 w_times = true then sTim g n a fi (nx g n q) else tkU g n q fun u q => (some (0, -1, u, a), q)
def sVrb (g : Nat → Int32) (n : Nat) (fi : Int32) (q : zQ) : Option zR × zQ :=
  if mW g q.1 q.2 w_has = true then sHas g n fi (nx g n q) else
  if mW g q.1 q.2 w_and = true then (tkN g n fi (nx g n q) fun s q => tk g n w_have q fun q => tkD g n q fun a q => tkU g n q fun u q => (some (4, s, u, a), q)) else
  if mW g q.1 q.2 w_gives = true then (tkD g n (nx g n q) fun a q => tkU g n q fun u q => tk g n w_to q fun q => tkN g n fi q fun s q => (some (5, s, u, a), q)) else
  if mW g q.1 q.2 w_buys = true then sPl g n 6 (nx g n q) else
  if mW g q.1 q.2 w_eats = true then sPl g n 7 (nx g n q) else (none, q)
/-- a sentence: first name, then the rest -/
def sSen (g : Nat → Int32) (n : Nat) (q : zQ) : Option (Int32 × zR) × zQ := tkN g n (-1) q fun fi q => match sVrb g n fi q with
  | (some v, q) => tk g n w_dot q fun q => (some (fi, v), q)
  | (none, q) => (none, q)
/-- what is asked, behind 'how': sort, names, unit -/
def sSrt (g : Nat → Int32) (q : zQ) : Int32 := if mW g q.1 q.2 w_has = true then 0 else if mW g q.1 q.2 w_have = true then 1 else if mW g q.1 q.2 w_had = true then 2 else -1
def sAsk (g : Nat → Int32) (n : Nat) (q : zQ) : Option zR × zQ := tk g n w_many q fun q => tkU g n q fun u q => if sSrt g q = -1 then (none, q) else tkN g n (-1) (nx g n q) fun fi p => if sSrt g q = 1 then (tk g n w_and p fun p => tkN g n fi p fun se p => tk g n w_qm p fun p => (some (1, fi, se, u), p)) else tk g n w_qm p fun p => (some (sSrt g q, fi, -1, u), p)
/-! THE READER over a tape and a story -/
/-- rd reads the tape t (bytes g, n of them) at the word q into the row k of the story st; the row holds ρ; all else is as in I0 -/
def RS (S : zS) (R : Nat → Nat → Option Nat) (g : Nat → Int32) (I0 I : Nat → Nat → Int32) (t b n st : Nat) (rw : Nat → Nat) (k : Nat) (q : zQ) (ρ : Nat → Int32) : Prop := TP S R I t b n q.1 q.2 ∧ I b = g ∧ I st 2 = nI k ∧ I (rw k) = ρ ∧ fr [t, rw k] I0 I
/-- what stays: the objects -/
def RF (S : zS) (R : Nat → Nat → Option Nat) (rd t b st pa ak : Nat) (rw : Nat → Nat) (k : Nat) : Prop := zO S rd 2 ∧ R rd 0 = some t ∧ zO S t 5 ∧ zA S b 9 400 ∧ SY S R st pa ak rw ∧ k < 10
theorem RF.n1 {S : zS} {R : Nat → Nat → Option Nat} {rd t b st pa ak : Nat} {rw : Nat → Nat} {k : Nat} (h : RF S R rd t b st pa ak rw k) : rw k ≠ t ∧ rw k ≠ b ∧ st ≠ t ∧ b ≠ t ∧ st ≠ b ∧ rw k ≠ st := by
  obtain ⟨h1, h2, h3, h4, h5, h6⟩ := h
  have r := (h5.2.2.2.2.2.1 k h6).2
  refine ⟨fun q => ?_, fun q => ?_, fun q => ?_, fun q => ?_, fun q => ?_, fun q => ?_⟩
  · exact absurd (r.2.1.symm.trans (q ▸ h3.2)) (by decide)
  · exact absurd (r.2.2.symm.trans (q ▸ h4.2.2)) (by decide)
  · exact absurd (h5.1.2.symm.trans (q ▸ h3.2)) (by decide)
  · exact absurd (h4.2.1.symm.trans (q ▸ h3.2)) (by decide)
  · exact absurd (h5.1.2.symm.trans (q ▸ h4.2.1)) (by decide)
  · exact absurd (r.2.1.symm.trans (q ▸ h5.1.2)) (by decide)
theorem RS.mv {S : zS} {R : Nat → Nat → Option Nat} {g : Nat → Int32} {I0 I I' : Nat → Nat → Int32} {rd t b n st pa ak : Nat} {rw : Nat → Nat} {k : Nat} {q : zQ} {ρ : Nat → Int32} (hF : RF S R rd t b st pa ak rw k) (h : RS S R g I0 I t b n st rw k q ρ) {f e : Nat} (hT : TP S R I' t b n f e) (hf : fr [t] I I') : RS S R g I0 I' t b n st rw k (f, e) ρ := by
  obtain ⟨n1, n2, n3, n4, n5, n6⟩ := hF.n1
  refine ⟨hT, ?_, ?_, ?_, ?_⟩
  · rw [hf b (by simpa using n4)]; exact h.2.1
  · rw [hf st (by simpa using n3)]; exact h.2.2.1
  · rw [hf (rw k) (by simpa using n1)]; exact h.2.2.2.1
  · exact fr_tr h.2.2.2.2 (fr_mono hf (by simp))
theorem RS.tl {S : zS} {R : Nat → Nat → Option Nat} {g : Nat → Int32} {I0 I : Nat → Nat → Int32} {rd t b n st pa ak : Nat} {rw : Nat → Nat} {k : Nat} {q : zQ} {ρ : Nat → Int32} (hF : RF S R rd t b st pa ak rw k) (h : RS S R g I0 I t b n st rw k q ρ) (j : Nat) (v : Int32) : RS S R g I0 (zu I (rw k) j v) t b n st rw k q (upd ρ j v) := by
  obtain ⟨n1, n2, n3, n4, n5, n6⟩ := hF.n1
  obtain ⟨⟨a1, a2, a3, a4, a5, a6, a7, a8, a9⟩, h2, h3, h4, h5⟩ := h
  refine ⟨⟨a1, a2, a3, ?_, ?_, ?_, a7, a8, a9⟩, ?_, ?_, ?_, fr_zu h5 (by simp)⟩
  · rw [zu_a (Ne.symm n1)]; exact a4
  · rw [zu_a (Ne.symm n1)]; exact a5
  · rw [zu_a (Ne.symm n1)]; exact a6
  · rw [zu_o (Ne.symm n2)]; exact h2
  · rw [zu_a (Ne.symm n6)]; exact h3
  · rw [zu_upd, h4]

theorem cR_take (l : Launch) {E : zE} {S : zS} {I I0 : Nat → Nat → Int32} {J : Nat → Nat → Int64} {R : Nat → Nat → Option Nat} {g : Nat → Int32} {rd t b n st pa ak k : Nat} {rw : Nat → Nat} {q : zQ} {ρ : Nat → Int32} (hF : RF S R rd t b st pa ak rw k) (hS : RS S R g I0 I t b n st rw k q ρ) {i : Nat} (hi : i < zlN) : zIP l yX5_take wsX5_take rmX5_take E S [.ref t, .ref (E.2.2.1 i)] (I, J, R) (fun r ν => r = b2i (mW g q.1 q.2 (zsb i)) ∧ ∃ I', ν = (I', J, R) ∧ RS S R g I0 I' t b n st rw k (if mW g q.1 q.2 (zsb i) = true then nx g n q else q) ρ) := zIP_w (c_X5_take l hS.1 hi) (fun r ν h => by
  obtain ⟨h1, I', h2, h3, h4⟩ := h
  rw [hS.2.1] at h1 h3
  refine ⟨h1, I', h2, ?_⟩
  have h5 := RS.mv hF hS h3 h4
  by_cases m : mW g q.1 q.2 (zsb i) = true
  · rw [if_pos m] at h5 ⊢; rw [if_pos m] at h5; exact h5
  · rw [if_neg m] at h5 ⊢; rw [if_neg m] at h5; exact h5)
theorem cR_name (l : Launch) {E : zE} {S : zS} {I I0 : Nat → Nat → Int32} {J : Nat → Nat → Int64} {R : Nat → Nat → Option Nat} {g : Nat → Int32} {rd t b n st pa ak k : Nat} {rw : Nat → Nat} {q : zQ} {ρ : Nat → Int32} (hF : RF S R rd t b st pa ak rw k) (hS : RS S R g I0 I t b n st rw k q ρ) {u : Int32} : zIP l yX5_takeName wsX5_takeName rmX5_takeName E S [.ref t, .int u] (I, J, R) (fun r ν => r = (if nmF g q ≠ -1 ∧ nmF g q ≠ u then nmF g q else -1) ∧ ∃ I', ν = (I', J, R) ∧ RS S R g I0 I' t b n st rw k (if nmF g q ≠ -1 ∧ nmF g q ≠ u then nx g n q else q) ρ) := zIP_w (c_X5_takeName l hS.1) (fun r ν h => by
  obtain ⟨h1, I', h2, h3, h4⟩ := h
  rw [hS.2.1] at h1 h3
  refine ⟨h1, I', h2, ?_⟩
  have h5 := RS.mv hF hS h3 h4
  by_cases m : nmF g q ≠ -1 ∧ nmF g q ≠ u
  · rw [if_pos m]; rw [if_pos m, if_pos m] at h5; exact h5
  · rw [if_neg m]; rw [if_neg m, if_neg m] at h5; exact h5)
theorem cR_unit (l : Launch) {E : zE} {S : zS} {I I0 : Nat → Nat → Int32} {J : Nat → Nat → Int64} {R : Nat → Nat → Option Nat} {g : Nat → Int32} {rd t b n st pa ak k : Nat} {rw : Nat → Nat} {q : zQ} {ρ : Nat → Int32} (hF : RF S R rd t b st pa ak rw k) (hS : RS S R g I0 I t b n st rw k q ρ) : zIP l yX5_takeUnit wsX5_takeUnit rmX5_takeUnit E S [.ref t] (I, J, R) (fun r ν => r = unF g q ∧ ∃ I', ν = (I', J, R) ∧ RS S R g I0 I' t b n st rw k (if unF g q ≠ -1 then nx g n q else q) ρ) := zIP_w (c_X5_takeUnit l hS.1) (fun r ν h => by
  obtain ⟨h1, I', h2, h3, h4⟩ := h
  rw [hS.2.1] at h1 h3
  refine ⟨h1, I', h2, ?_⟩
  have h5 := RS.mv hF hS h3 h4
  by_cases m : unF g q ≠ -1
  · rw [if_pos m]; rw [if_pos m, if_pos m] at h5; exact h5
  · rw [if_neg m]; rw [if_neg m, if_neg m] at h5; exact h5)
theorem cR_num (l : Launch) {E : zE} {S : zS} {I I0 : Nat → Nat → Int32} {J : Nat → Nat → Int64} {R : Nat → Nat → Option Nat} {g : Nat → Int32} {rd t b n st pa ak k : Nat} {rw : Nat → Nat} {q : zQ} {ρ : Nat → Int32} (hF : RF S R rd t b st pa ak rw k) (hS : RS S R g I0 I t b n st rw k q ρ) : zIP l yX5_takeNumber wsX5_takeNumber rmX5_takeNumber E S [.ref t] (I, J, R) (fun r ν => r = (nmW g q.1 q.2).getD (-1) ∧ ∃ I', ν = (I', J, R) ∧ RS S R g I0 I' t b n st rw k (if (nmW g q.1 q.2).isSome = true then nx g n q else q) ρ) := zIP_w (c_X5_takeNumber l hS.1) (fun r ν h => by
  obtain ⟨h1, I', h2, h3, h4⟩ := h
  rw [hS.2.1] at h1 h3
  refine ⟨h1, I', h2, ?_⟩
  have h5 := RS.mv hF hS h3 h4
  by_cases m : (nmW g q.1 q.2).isSome = true
  · rw [if_pos m]; rw [if_pos m, if_pos m] at h5; exact h5
  · rw [if_neg m]; rw [if_neg m, if_neg m] at h5; exact h5)
theorem cR_tell (l : Launch) {E : zE} {S : zS} {I I0 : Nat → Nat → Int32} {J : Nat → Nat → Int64} {R : Nat → Nat → Option Nat} {g : Nat → Int32} {rd t b n st pa ak k : Nat} {rw : Nat → Nat} {q : zQ} {ρ : Nat → Int32} (hF : RF S R rd t b st pa ak rw k) (hS : RS S R g I0 I t b n st rw k q ρ) {j : Nat} {v : Int32} (hj : j < 7) : zNP l yX3_tell wsX3_tell rmX3_tell E S [.ref st, .int (nI j), .int v] (I, J, R) (fun ν => ∃ I', ν = (I', J, R) ∧ RS S R g I0 I' t b n st rw k q (upd ρ j v)) := zNP_w (zNP_of (c_X3_tell l hF.2.2.2.2.1 hS.2.2.1 hF.2.2.2.2.2 hj)) (fun ν h => by
  subst h
  exact ⟨_, rfl, RS.tl hF hS j v⟩)

set_option maxHeartbeats 4000000 in
set_option maxRecDepth 100000 in
theorem c_X2_readUnit (l : Launch) {E : zE} {S : zS} {I I0 : Nat → Nat → Int32} {J : Nat → Nat → Int64} {R : Nat → Nat → Option Nat} {g : Nat → Int32} {rd t b n st pa ak k : Nat} {rw : Nat → Nat} {q : zQ} {ρ : Nat → Int32} (hF : RF S R rd t b st pa ak rw k) (hS : RS S R g I0 I t b n st rw k q ρ) : zIP l yX2_readUnit wsX2_readUnit rmX2_readUnit E S [.ref rd, .ref st] (I, J, R) (fun r ν => r = b2i (decide (unF g q ≠ -1)) ∧ ∃ I', ν = (I', J, R) ∧ RS S R g I0 I' t b n st rw k (if unF g q ≠ -1 then nx g n q else q) (upd ρ 3 (unF g q))) := by
  refine z_metIP (cc := cX2_readUnit) (maxL := 3) (ty := .boolean) (by decide) rfl (Nat.le_of_ble_eq_true rfl) (fun X h ret => ?_)
  show zV X E S 0 0 (I, J, R) 0 _ []
  obtain ⟨f1, f2, f3, f4, f5, f6⟩ := id hF
  have f7 := f5.1
  refine z_aload_n h dX2_readUnit_0 rfl rfl ?_
  refine z_getR h (by assumption) rfl kw2 0 (by decide) rfl (by assumption) kf_RX2_9 dX2_readUnit_1 ?_
  refine z_callVIP h (cR_unit l hF hS) (by assumption) rfl gm_RX2_104 rfl ⟨rfl, rfl⟩ 0 (by decide +kernel) ⟨by decide, by decide⟩ rfl rfl (Nat.le_of_ble_eq_true rfl) ⟨Nat.zero_le _, Nat.zero_le _⟩ dX2_readUnit_4 (fun r ν hν => ?_)
  obtain ⟨rfl, I1, rfl, hS⟩ := hν
  refine z_istore_n h dX2_readUnit_7 rfl (by decide) ?_
  refine z_aload_n h dX2_readUnit_8 rfl rfl ?_
  refine z_iconst (v := 3) h dX2_readUnit_9 (by decide) ?_
  refine z_iload_n h dX2_readUnit_10 rfl rfl ?_
  rw [show (3 : Int32) = nI 3 from rfl]
  refine z_callVNP h (cR_tell l hF hS (j := 3) (by decide)) (by assumption) rfl gm_RX2_86 rfl ⟨rfl, rfl⟩ 2 (by decide +kernel) ⟨by decide, by decide⟩ rfl rfl (Nat.le_of_ble_eq_true rfl) ⟨Nat.zero_le _, Nat.zero_le _⟩ dX2_readUnit_11 (fun ν hν => ?_)
  obtain ⟨I2, rfl, hS⟩ := hν
  refine z_iload_n h dX2_readUnit_14 rfl rfl ?_
  refine z_iconst (v := -1) h dX2_readUnit_15 (by decide) ?_
  refine z_icmp_eq h 23 dX2_readUnit_16 (by decide) (fun c16 => ?_) (fun c16 => ?_)
  · refine z_iconst (v := 0) h dX2_readUnit_23 (by decide) ?_
    exact ret (r := 0) ⟨(b2i_f (decide_eq_false (fun q => q c16))).symm, I2, rfl, hS⟩ dX2_readUnit_24 rfl
  · refine z_iconst (v := 1) h dX2_readUnit_19 (by decide) ?_
    refine z_goto h 24 dX2_readUnit_20 (by decide) ?_
    exact ret (r := 1) ⟨(b2i_t (decide_eq_true c16)).symm, I2, rfl, hS⟩ dX2_readUnit_24 rfl

set_option maxHeartbeats 4000000 in
set_option maxRecDepth 100000 in
theorem c_X2_readSecond (l : Launch) {E : zE} {S : zS} {I I0 : Nat → Nat → Int32} {J : Nat → Nat → Int64} {R : Nat → Nat → Option Nat} {g : Nat → Int32} {rd t b n st pa ak k : Nat} {rw : Nat → Nat} {q : zQ} {ρ : Nat → Int32} (hF : RF S R rd t b st pa ak rw k) (hS : RS S R g I0 I t b n st rw k q ρ) {u : Int32} : zIP l yX2_readSecond wsX2_readSecond rmX2_readSecond E S [.ref rd, .ref st, .int u] (I, J, R) (fun r ν => r = b2i (decide (nmF g q ≠ -1 ∧ nmF g q ≠ u)) ∧ ∃ I', ν = (I', J, R) ∧ RS S R g I0 I' t b n st rw k (if nmF g q ≠ -1 ∧ nmF g q ≠ u then nx g n q else q) (upd ρ 2 (if nmF g q ≠ -1 ∧ nmF g q ≠ u then nmF g q else -1))) := by
  refine z_metIP (cc := cX2_readSecond) (maxL := 4) (ty := .boolean) (by decide) rfl (Nat.le_of_ble_eq_true rfl) (fun X h ret => ?_)
  show zV X E S 0 0 (I, J, R) 0 _ []
  obtain ⟨f1, f2, f3, f4, f5, f6⟩ := id hF
  have f7 := f5.1
  refine z_aload_n h dX2_readSecond_0 rfl rfl ?_
  refine z_getR h (by assumption) rfl kw2 0 (by decide) rfl (by assumption) kf_RX2_9 dX2_readSecond_1 ?_
  refine z_iload_n h dX2_readSecond_4 rfl rfl ?_
  refine z_callVIP h (cR_name l hF hS) (by assumption) rfl gm_RX2_46 rfl ⟨rfl, rfl⟩ 1 (by decide +kernel) ⟨by decide, by decide⟩ rfl rfl (Nat.le_of_ble_eq_true rfl) ⟨Nat.zero_le _, Nat.zero_le _⟩ dX2_readSecond_5 (fun r ν hν => ?_)
  obtain ⟨rfl, I1, rfl, hS⟩ := hν
  refine z_istore_n h dX2_readSecond_8 rfl (by decide) ?_
  refine z_aload_n h dX2_readSecond_9 rfl rfl ?_
  refine z_iconst (v := 2) h dX2_readSecond_10 (by decide) ?_
  refine z_iload_n h dX2_readSecond_11 rfl rfl ?_
  rw [show (2 : Int32) = nI 2 from rfl]
  refine z_callVNP h (cR_tell l hF hS (j := 2) (by decide)) (by assumption) rfl gm_RX2_86 rfl ⟨rfl, rfl⟩ 2 (by decide +kernel) ⟨by decide, by decide⟩ rfl rfl (Nat.le_of_ble_eq_true rfl) ⟨Nat.zero_le _, Nat.zero_le _⟩ dX2_readSecond_12 (fun ν hν => ?_)
  obtain ⟨I2, rfl, hS⟩ := hν
  refine z_iload_n h dX2_readSecond_15 rfl rfl ?_
  refine z_iconst (v := -1) h dX2_readSecond_16 (by decide) ?_
  refine z_icmp_eq h 24 dX2_readSecond_17 (by decide) (fun c17 => ?_) (fun c17 => ?_)
  · refine z_iconst (v := 0) h dX2_readSecond_24 (by decide) ?_
    exact ret (r := 0) ⟨(b2i_f (decide_eq_false (fun w => by rw [if_pos w] at c17; exact w.1 c17))).symm, I2, rfl, hS⟩ dX2_readSecond_25 rfl
  · refine z_iconst (v := 1) h dX2_readSecond_20 (by decide) ?_
    refine z_goto h 25 dX2_readSecond_21 (by decide) ?_
    exact ret (r := 1) ⟨(b2i_t (decide_eq_true (by by_cases w : nmF g q ≠ -1 ∧ nmF g q ≠ u
                                                     · exact w
                                                     · rw [if_neg w] at c17; exact absurd rfl c17))).symm, I2, rfl, hS⟩ dX2_readSecond_25 rfl
