theorem Met_w {l : Launch} {y : MethodName} {ws : List Cond} {rm : Room} {Pc : Array Value → State → Prop} {Qc Qd : Array Value → State → Outcome → State → Prop} {mc ms : Nat} {free : Addr → Prop} (h : Met l y ws rm Pc Qc mc ms free) (hq : ∀ a s o t, Qc a s o t → Qd a s o t) : Met l y ws rm Pc Qd mc ms free := by
  intro p e ha hc hk s m args below hf happ hP hK
  obtain ⟨n, o, h1, h2, h3, h4, h5⟩ := h p e ha hc hk s m args below hf happ hP hK
  exact ⟨n, o, h1, h2, h3, hq _ _ _ _ h4, h5⟩
theorem zIP_w {l : Launch} {y : MethodName} {ws : List Cond} {rm : Room} {E : zE} {S : zS} {av : List Value} {μ : zM} {post post' : Int32 → zM → Prop} (h : zIP l y ws rm E S av μ post) (hp : ∀ r ν, post r ν → post' r ν) : zIP l y ws rm E S av μ post' := fun sz => Met_w (h sz) (fun a s o t q => by
  obtain ⟨⟨r, u, q1, q2, q3⟩, q4⟩ := q
  exact ⟨⟨r, u, q1, hp r u q2, q3⟩, q4⟩)
theorem zLP_w {l : Launch} {y : MethodName} {ws : List Cond} {rm : Room} {E : zE} {S : zS} {av : List Value} {μ : zM} {post post' : Int64 → zM → Prop} (h : zLP l y ws rm E S av μ post) (hp : ∀ r ν, post r ν → post' r ν) : zLP l y ws rm E S av μ post' := fun sz => Met_w (h sz) (fun a s o t q => by
  obtain ⟨⟨r, u, q1, q2, q3⟩, q4⟩ := q
  exact ⟨⟨r, u, q1, hp r u q2, q3⟩, q4⟩)
theorem zNP_w {l : Launch} {y : MethodName} {ws : List Cond} {rm : Room} {E : zE} {S : zS} {av : List Value} {μ : zM} {post post' : zM → Prop} (h : zNP l y ws rm E S av μ post) (hp : ∀ ν, post ν → post' ν) : zNP l y ws rm E S av μ post' := fun sz => Met_w (h sz) (fun a s o t q => by
  obtain ⟨⟨u, q1, q2, q3⟩, q4⟩ := q
  exact ⟨⟨u, q1, hp u q2, q3⟩, q4⟩)
theorem zNP_of {l : Launch} {y : MethodName} {ws : List Cond} {rm : Room} {E : zE} {S : zS} {av : List Value} {μ ν : zM} (h : zN l y ws rm E S av μ ν) : zNP l y ws rm E S av μ (fun u => u = ν) := h
theorem zIP_of {l : Launch} {y : MethodName} {ws : List Cond} {rm : Room} {E : zE} {S : zS} {av : List Value} {μ ν : zM} {r : Int32} (h : zI l y ws rm E S av μ r ν) : zIP l y ws rm E S av μ (fun r' u => r' = r ∧ u = ν) := h

/-! THE PARSER, as functions: a position is a word, from its first byte to behind its last one -/
abbrev w_how : List Int32 := zsb 0
abbrev w_has : List Int32 := zsb 1
abbrev w_and : List Int32 := zsb 2
abbrev w_have : List Int32 := zsb 3
abbrev w_gives : List Int32 := zsb 4
abbrev w_to : List Int32 := zsb 5
abbrev w_buys : List Int32 := zsb 6
abbrev w_eats : List Int32 := zsb 7
abbrev w_dot : List Int32 := zsb 8
abbrev w_more : List Int32 := zsb 9
abbrev w_than : List Int32 := zsb 10
abbrev w_fewer : List Int32 := zsb 11
abbrev w_times : List Int32 := zsb 12
abbrev w_as : List Int32 := zsb 13
abbrev w_many : List Int32 := zsb 14
abbrev w_qm : List Int32 := zsb 15
abbrev w_had : List Int32 := zsb 16
abbrev zQ : Type := Nat × Nat
def nx (g : Nat → Int32) (n : Nat) (q : zQ) : zQ := (nxF g n q.2, nxE g n q.2)
def nmF (g : Nat → Int32) (q : zQ) : Int32 := fnd g q.1 q.2 (zsb 17) 8 3
def unF (g : Nat → Int32) (q : zQ) : Int32 := fnd g q.1 q.2 (zsb 18) 4 4
def tk {ρ : Type} (g : Nat → Int32) (n : Nat) (s : List Int32) (q : zQ) (k : zQ → Option ρ × zQ) : Option ρ × zQ := if mW g q.1 q.2 s = true then k (nx g n q) else (none, q)
def tkN {ρ : Type} (g : Nat → Int32) (n : Nat) (u : Int32) (q : zQ) (k : Int32 → zQ → Option ρ × zQ) : Option ρ × zQ := if nmF g q ≠ -1 ∧ nmF g q ≠ u then k (nmF g q) (nx g n q) else (none, q)
def tkU {ρ : Type} (g : Nat → Int32) (n : Nat) (q : zQ) (k : Int32 → zQ → Option ρ × zQ) : Option ρ × zQ := if unF g q ≠ -1 then k (unF g q) (nx g n q) else (none, q)
def tkD {ρ : Type} (g : Nat → Int32) (n : Nat) (q : zQ) (k : Int32 → zQ → Option ρ × zQ) : Option ρ × zQ := match nmW g q.1 q.2 with
  | some a => k a (nx g n q)
  | none => (none, q)
/-- sort, second name, unit, number -/
abbrev zR : Type := Int32 × Int32 × Int32 × Int32
def sPl (g : Nat → Int32) (n : Nat) (so : Int32) (q : zQ) : Option zR × zQ := tkD g n q fun a q => tkU g n q fun u q => (some (so, -1, u, a), q)
def sCmp (g : Nat → Int32) (n : Nat) (so a fi : Int32) (q : zQ) : Option zR × zQ := tkU g n q fun u q => tk g n w_than q fun q => tkN g n fi q fun s q => (some (so, s, u, a), q)
def sTim (g : Nat → Int32) (n : Nat) (a fi : Int32) (q : zQ) : Option zR × zQ := tk g n w_as q fun q => tk g n w_many q fun q => tkU g n q fun u q => tk g n w_as q fun q => tkN g n fi q fun s q => (some (3, s, u, a), q)
def sHas (g : Nat → Int32) (n : Nat) (fi : Int32) (q : zQ) : Option zR × zQ := tkD g n q fun a q =>
  if mW g q.1 q.2 w_more = true then sCmp g n 1 a fi (nx g n q) else if mW g q.1 q.2 w_fewer = true then sCmp g n 2 a fi (nx g n q) else if (2 ≤ a ∧ a ≤ 9) ∧ mW g q.1 q.2 w_times = true then sTim g n a fi (nx g n q) else tkU g n q fun u q => (some (0, -1, u, a), q)
def sVrb (g : Nat → Int32) (n : Nat) (fi : Int32) (q : zQ) : Option zR × zQ :=
  if mW g q.1 q.2 w_has = true then sHas g n fi (nx g n q) else
  if mW g q.1 q.2 w_and = true then (tkN g n fi (nx g n q) fun s q => tk g n w_have q fun q => tkD g n q fun a q => tkU g n q fun u q => (some (4, s, u, a), q)) else
  if mW g q.1 q.2 w_gives = true then (tkD g n (nx g n q) fun a q => tkU g n q fun u q => tk g n w_to q fun q => tkN g n fi q fun s q => (some (5, s, u, a), q)) else
  if mW g q.1 q.2 w_buys = true then sPl g n 6 (nx g n q) else
  if mW g q.1 q.2 w_eats = true then sPl g n 7 (nx g n q) else (none, q)
/-- a sentence: first name, then the rest -/
def sSen (g : Nat → Int32) (n : Nat) (q : zQ) : Option (Int32 × zR) × zQ := tkN g n (-1) q fun fi q => match sVrb g n fi q with
  | (some v, q) => tk g n w_dot q fun q => (some (fi, v), q)
  | (none, q) => (none, q)
/-- what is asked, behind 'how': sort, names, unit -/
def sSrt (g : Nat → Int32) (q : zQ) : Int32 := if mW g q.1 q.2 w_has = true then 0 else if mW g q.1 q.2 w_have = true then 1 else if mW g q.1 q.2 w_had = true then 2 else -1
def sAsk (g : Nat → Int32) (n : Nat) (q : zQ) : Option zR × zQ := tk g n w_many q fun q => tkU g n q fun u q => if sSrt g q = -1 then (none, q) else tkN g n (-1) (nx g n q) fun fi p => if sSrt g q = 1 then (tk g n w_and p fun p => tkN g n fi p fun se p => tk g n w_qm p fun p => (some (1, fi, se, u), p)) else tk g n w_qm p fun p => (some (sSrt g q, fi, -1, u), p)
/-! THE READER over a tape and a story -/
/-- rd reads the tape t (bytes g, n of them) at the word q into the row k of the story st; the row holds ρ; all else is as in I0 -/
def RS (S : zS) (R : Nat → Nat → Option Nat) (g : Nat → Int32) (I0 I : Nat → Nat → Int32) (t b n st : Nat) (rw : Nat → Nat) (k : Nat) (q : zQ) (ρ : Nat → Int32) : Prop := TP S R I t b n q.1 q.2 ∧ I b = g ∧ I st 2 = nI k ∧ I (rw k) = ρ ∧ fr [t, rw k] I0 I
/-- what stays: the objects -/
def RF (S : zS) (R : Nat → Nat → Option Nat) (rd t b st pa ak : Nat) (rw : Nat → Nat) (k : Nat) : Prop := zO S rd 2 ∧ R rd 0 = some t ∧ zO S t 5 ∧ zA S b 9 400 ∧ SY S R st pa ak rw ∧ k < 10
theorem RF.n1 {S : zS} {R : Nat → Nat → Option Nat} {rd t b st pa ak : Nat} {rw : Nat → Nat} {k : Nat} (h : RF S R rd t b st pa ak rw k) : rw k ≠ t ∧ rw k ≠ b ∧ st ≠ t ∧ b ≠ t ∧ st ≠ b ∧ rw k ≠ st := by
  obtain ⟨h1, h2, h3, h4, h5, h6⟩ := h
  have r := (h5.2.2.2.2.2.1 k h6).2
  refine ⟨fun q => ?_, fun q => ?_, fun q => ?_, fun q => ?_, fun q => ?_, fun q => ?_⟩
  · exact absurd (r.2.1.symm.trans (q ▸ h3.2)) (by decide)
  · exact absurd (r.2.2.symm.trans (q ▸ h4.2.2)) (by decide)
  · exact absurd (h5.1.2.symm.trans (q ▸ h3.2)) (by decide)
  · exact absurd (h4.2.1.symm.trans (q ▸ h3.2)) (by decide)
  · exact absurd (h5.1.2.symm.trans (q ▸ h4.2.1)) (by decide)
  · exact absurd (r.2.1.symm.trans (q ▸ h5.1.2)) (by decide)
theorem RS.mv {S : zS} {R : Nat → Nat → Option Nat} {g : Nat → Int32} {I0 I I' : Nat → Nat → Int32} {rd t b n st pa ak : Nat} {rw : Nat → Nat} {k : Nat} {q : zQ} {ρ : Nat → Int32} (hF : RF S R rd t b st pa ak rw k) (h : RS S R g I0 I t b n st rw k q ρ) {f e : Nat} (hT : TP S R I' t b n f e) (hf : fr [t] I I') : RS S R g I0 I' t b n st rw k (f, e) ρ := by
  obtain ⟨n1, n2, n3, n4, n5, n6⟩ := hF.n1
  refine ⟨hT, ?_, ?_, ?_, ?_⟩
  · rw [hf b (by simpa using n4)]; exact h.2.1
  · rw [hf st (by simpa using n3)]; exact h.2.2.1
  · rw [hf (rw k) (by simpa using n1)]; exact h.2.2.2.1
  · exact fr_tr h.2.2.2.2 (fr_mono hf (by simp))
theorem RS.tl {S : zS} {R : Nat → Nat → Option Nat} {g : Nat → Int32} {I0 I : Nat → Nat → Int32} {rd t b n st pa ak : Nat} {rw : Nat → Nat} {k : Nat} {q : zQ} {ρ : Nat → Int32} (hF : RF S R rd t b st pa ak rw k) (h : RS S R g I0 I t b n st rw k q ρ) (j : Nat) (v : Int32) : RS S R g I0 (zu I (rw k) j v) t b n st rw k q (upd ρ j v) := by
  obtain ⟨n1, n2, n3, n4, n5, n6⟩ := hF.n1
  obtain ⟨⟨a1, a2, a3, a4, a5, a6, a7, a8, a9⟩, h2, h3, h4, h5⟩ := h
  refine ⟨⟨a1, a2, a3, ?_, ?_, ?_, a7, a8, a9⟩, ?_, ?_, ?_, fr_zu h5 (by simp)⟩
  · rw [zu_a (Ne.symm n1)]; exact a4
  · rw [zu_a (Ne.symm n1)]; exact a5
  · rw [zu_a (Ne.symm n1)]; exact a6
  · rw [zu_o (Ne.symm n2)]; exact h2
  · rw [zu_a (Ne.symm n6)]; exact h3
  · rw [zu_upd, h4]

theorem cR_take (l : Launch) {E : zE} {S : zS} {I I0 : Nat → Nat → Int32} {J : Nat → Nat → Int64} {R : Nat → Nat → Option Nat} {g : Nat → Int32} {rd t b n st pa ak k : Nat} {rw : Nat → Nat} {q : zQ} {ρ : Nat → Int32} (hF : RF S R rd t b st pa ak rw k) (hS : RS S R g I0 I t b n st rw k q ρ) {i : Nat} (hi : i < zlN) : zIP l yX5_take wsX5_take rmX5_take E S [.ref t, .ref (E.2.2.1 i)] (I, J, R) (fun r ν => r = b2i (mW g q.1 q.2 (zsb i)) ∧ ∃ I', ν = (I', J, R) ∧ RS S R g I0 I' t b n st rw k (if mW g q.1 q.2 (zsb i) = true then nx g n q else q) ρ) := zIP_w (c_X5_take l hS.1 hi) (fun r ν h => by
  obtain ⟨h1, I', h2, h3, h4⟩ := h
  rw [hS.2.1] at h1 h3
  refine ⟨h1, I', h2, ?_⟩
  have h5 := RS.mv hF hS h3 h4
  by_cases m : mW g q.1 q.2 (zsb i) = true
  · rw [if_pos m] at h5 ⊢; rw [if_pos m] at h5; exact h5
  · rw [if_neg m] at h5 ⊢; rw [if_neg m] at h5; exact h5)
theorem cR_name (l : Launch) {E : zE} {S : zS} {I I0 : Nat → Nat → Int32} {J : Nat → Nat → Int64} {R : Nat → Nat → Option Nat} {g : Nat → Int32} {rd t b n st pa ak k : Nat} {rw : Nat → Nat} {q : zQ} {ρ : Nat → Int32} (hF : RF S R rd t b st pa ak rw k) (hS : RS S R g I0 I t b n st rw k q ρ) {u : Int32} : zIP l yX5_takeName wsX5_takeName rmX5_takeName E S [.ref t, .int u] (I, J, R) (fun r ν => r = (if nmF g q ≠ -1 ∧ nmF g q ≠ u then nmF g q else -1) ∧ ∃ I', ν = (I', J, R) ∧ RS S R g I0 I' t b n st rw k (if nmF g q ≠ -1 ∧ nmF g q ≠ u then nx g n q else q) ρ) := zIP_w (c_X5_takeName l hS.1) (fun r ν h => by
  obtain ⟨h1, I', h2, h3, h4⟩ := h
  rw [hS.2.1, show fnd g q.1 q.2 (zsb 17) 8 3 = nmF g q from rfl] at h1 h3
  refine ⟨h1, I', h2, ?_⟩
  have h5 := RS.mv hF hS h3 h4
  by_cases m : nmF g q ≠ -1 ∧ nmF g q ≠ u
  · rw [if_pos m]; rw [if_pos m, if_pos m] at h5; exact h5
  · rw [if_neg m]; rw [if_neg m, if_neg m] at h5; exact h5)
theorem cR_unit (l : Launch) {E : zE} {S : zS} {I I0 : Nat → Nat → Int32} {J : Nat → Nat → Int64} {R : Nat → Nat → Option Nat} {g : Nat → Int32} {rd t b n st pa ak k : Nat} {rw : Nat → Nat} {q : zQ} {ρ : Nat → Int32} (hF : RF S R rd t b st pa ak rw k) (hS : RS S R g I0 I t b n st rw k q ρ) : zIP l yX5_takeUnit wsX5_takeUnit rmX5_takeUnit E S [.ref t] (I, J, R) (fun r ν => r = unF g q ∧ ∃ I', ν = (I', J, R) ∧ RS S R g I0 I' t b n st rw k (if unF g q ≠ -1 then nx g n q else q) ρ) := zIP_w (c_X5_takeUnit l hS.1) (fun r ν h => by
  obtain ⟨h1, I', h2, h3, h4⟩ := h
  rw [hS.2.1, show fnd g q.1 q.2 (zsb 18) 4 4 = unF g q from rfl] at h1 h3
  refine ⟨h1, I', h2, ?_⟩
  have h5 := RS.mv hF hS h3 h4
  by_cases m : unF g q ≠ -1
  · rw [if_pos m]; rw [if_pos m, if_pos m] at h5; exact h5
  · rw [if_neg m]; rw [if_neg m, if_neg m] at h5; exact h5)
theorem cR_num (l : Launch) {E : zE} {S : zS} {I I0 : Nat → Nat → Int32} {J : Nat → Nat → Int64} {R : Nat → Nat → Option Nat} {g : Nat → Int32} {rd t b n st pa ak k : Nat} {rw : Nat → Nat} {q : zQ} {ρ : Nat → Int32} (hF : RF S R rd t b st pa ak rw k) (hS : RS S R g I0 I t b n st rw k q ρ) : zIP l yX5_takeNumber wsX5_takeNumber rmX5_takeNumber E S [.ref t] (I, J, R) (fun r ν => r = (nmW g q.1 q.2).getD (-1) ∧ ∃ I', ν = (I', J, R) ∧ RS S R g I0 I' t b n st rw k (if (nmW g q.1 q.2).isSome = true then nx g n q else q) ρ) := zIP_w (c_X5_takeNumber l hS.1) (fun r ν h => by
  obtain ⟨h1, I', h2, h3, h4⟩ := h
  rw [hS.2.1] at h1 h3
  refine ⟨h1, I', h2, ?_⟩
  have h5 := RS.mv hF hS h3 h4
  by_cases m : (nmW g q.1 q.2).isSome = true
  · rw [if_pos m]; rw [if_pos m, if_pos m] at h5; exact h5
  · rw [if_neg m]; rw [if_neg m, if_neg m] at h5; exact h5)
theorem cR_tell (l : Launch) {E : zE} {S : zS} {I I0 : Nat → Nat → Int32} {J : Nat → Nat → Int64} {R : Nat → Nat → Option Nat} {g : Nat → Int32} {rd t b n st pa ak k : Nat} {rw : Nat → Nat} {q : zQ} {ρ : Nat → Int32} (hF : RF S R rd t b st pa ak rw k) (hS : RS S R g I0 I t b n st rw k q ρ) {j : Nat} {v : Int32} (hj : j < 7) : zNP l yX3_tell wsX3_tell rmX3_tell E S [.ref st, .int (nI j), .int v] (I, J, R) (fun ν => ∃ I', ν = (I', J, R) ∧ RS S R g I0 I' t b n st rw k q (upd ρ j v)) := zNP_w (zNP_of (c_X3_tell l hF.2.2.2.2.1 hS.2.2.1 hF.2.2.2.2.2 hj)) (fun ν h => by
  subst h
  exact ⟨_, rfl, RS.tl hF hS j v⟩)

set_option maxHeartbeats 4000000 in
set_option maxRecDepth 100000 in
theorem c_X2_readUnit (l : Launch) {E : zE} {S : zS} {I I0 : Nat → Nat → Int32} {J : Nat → Nat → Int64} {R : Nat → Nat → Option Nat} {g : Nat → Int32} {rd t b n st pa ak k : Nat} {rw : Nat → Nat} {q : zQ} {ρ : Nat → Int32} (hF : RF S R rd t b st pa ak rw k) (hS : RS S R g I0 I t b n st rw k q ρ) : zIP l yX2_readUnit wsX2_readUnit rmX2_readUnit E S [.ref rd, .ref st] (I, J, R) (fun r ν => r = b2i (decide (unF g q ≠ -1)) ∧ ∃ I', ν = (I', J, R) ∧ RS S R g I0 I' t b n st rw k (if unF g q ≠ -1 then nx g n q else q) (upd ρ 3 (unF g q))) := by
  refine z_metIP (cc := cX2_readUnit) (maxL := 3) (ty := .boolean) (by decide) rfl (Nat.le_of_ble_eq_true rfl) (fun X h ret => ?_)
  show zV X E S 0 0 (I, J, R) 0 _ []
  obtain ⟨f1, f2, f3, f4, f5, f6⟩ := id hF
  have f7 := f5.1
  refine z_aload_n h dX2_readUnit_0 rfl rfl ?_
  refine z_getR h (by assumption) rfl kw2 0 (by decide) rfl (by assumption) kf_RX2_9 dX2_readUnit_1 ?_
  refine z_callVIP h (cR_unit l hF hS) (by assumption) rfl gm_RX2_104 rfl ⟨rfl, rfl⟩ 0 (by decide +kernel) ⟨by decide, by decide⟩ rfl rfl (Nat.le_of_ble_eq_true rfl) ⟨Nat.zero_le _, Nat.zero_le _⟩ dX2_readUnit_4 (fun r ν hν => ?_)
  obtain ⟨rfl, I1, rfl, hS⟩ := hν
  refine z_istore_n h dX2_readUnit_7 rfl (by decide) ?_
  refine z_aload_n h dX2_readUnit_8 rfl rfl ?_
  refine z_iconst (v := 3) h dX2_readUnit_9 (by decide) ?_
  refine z_iload_n h dX2_readUnit_10 rfl rfl ?_
  rw [show (3 : Int32) = nI 3 from rfl]
  refine z_callVNP h (cR_tell l hF hS (j := 3) (by decide)) (by assumption) rfl gm_RX2_86 rfl ⟨rfl, rfl⟩ 2 (by decide +kernel) ⟨by decide, by decide⟩ rfl rfl (Nat.le_of_ble_eq_true rfl) ⟨Nat.zero_le _, Nat.zero_le _⟩ dX2_readUnit_11 (fun ν hν => ?_)
  obtain ⟨I2, rfl, hS⟩ := hν
  refine z_iload_n h dX2_readUnit_14 rfl rfl ?_
  refine z_iconst (v := -1) h dX2_readUnit_15 (by decide) ?_
  refine z_icmp_eq h 23 dX2_readUnit_16 (by decide) (fun c16 => ?_) (fun c16 => ?_)
  · refine z_iconst (v := 0) h dX2_readUnit_23 (by decide) ?_
    exact ret (r := 0) ⟨(b2i_f (decide_eq_false (fun q => q c16))).symm, I2, rfl, hS⟩ dX2_readUnit_24 rfl
  · refine z_iconst (v := 1) h dX2_readUnit_19 (by decide) ?_
    refine z_goto h 24 dX2_readUnit_20 (by decide) ?_
    exact ret (r := 1) ⟨(b2i_t (decide_eq_true c16)).symm, I2, rfl, hS⟩ dX2_readUnit_24 rfl

set_option maxHeartbeats 4000000 in
set_option maxRecDepth 100000 in
theorem c_X2_readSecond (l : Launch) {E : zE} {S : zS} {I I0 : Nat → Nat → Int32} {J : Nat → Nat → Int64} {R : Nat → Nat → Option Nat} {g : Nat → Int32} {rd t b n st pa ak k : Nat} {rw : Nat → Nat} {q : zQ} {ρ : Nat → Int32} (hF : RF S R rd t b st pa ak rw k) (hS : RS S R g I0 I t b n st rw k q ρ) {u : Int32} : zIP l yX2_readSecond wsX2_readSecond rmX2_readSecond E S [.ref rd, .ref st, .int u] (I, J, R) (fun r ν => r = b2i (decide (nmF g q ≠ -1 ∧ nmF g q ≠ u)) ∧ ∃ I', ν = (I', J, R) ∧ RS S R g I0 I' t b n st rw k (if nmF g q ≠ -1 ∧ nmF g q ≠ u then nx g n q else q) (upd ρ 2 (if nmF g q ≠ -1 ∧ nmF g q ≠ u then nmF g q else -1))) := by
  refine z_metIP (cc := cX2_readSecond) (maxL := 4) (ty := .boolean) (by decide) rfl (Nat.le_of_ble_eq_true rfl) (fun X h ret => ?_)
  show zV X E S 0 0 (I, J, R) 0 _ []
  obtain ⟨f1, f2, f3, f4, f5, f6⟩ := id hF
  have f7 := f5.1
  refine z_aload_n h dX2_readSecond_0 rfl rfl ?_
  refine z_getR h (by assumption) rfl kw2 0 (by decide) rfl (by assumption) kf_RX2_9 dX2_readSecond_1 ?_
  refine z_iload_n h dX2_readSecond_4 rfl rfl ?_
  refine z_callVIP h (cR_name l hF hS) (by assumption) rfl gm_RX2_46 rfl ⟨rfl, rfl⟩ 1 (by decide +kernel) ⟨by decide, by decide⟩ rfl rfl (Nat.le_of_ble_eq_true rfl) ⟨Nat.zero_le _, Nat.zero_le _⟩ dX2_readSecond_5 (fun r ν hν => ?_)
  obtain ⟨rfl, I1, rfl, hS⟩ := hν
  refine z_istore_n h dX2_readSecond_8 rfl (by decide) ?_
  refine z_aload_n h dX2_readSecond_9 rfl rfl ?_
  refine z_iconst (v := 2) h dX2_readSecond_10 (by decide) ?_
  refine z_iload_n h dX2_readSecond_11 rfl rfl ?_
  rw [show (2 : Int32) = nI 2 from rfl]
  refine z_callVNP h (cR_tell l hF hS (j := 2) (by decide)) (by assumption) rfl gm_RX2_86 rfl ⟨rfl, rfl⟩ 2 (by decide +kernel) ⟨by decide, by decide⟩ rfl rfl (Nat.le_of_ble_eq_true rfl) ⟨Nat.zero_le _, Nat.zero_le _⟩ dX2_readSecond_12 (fun ν hν => ?_)
  obtain ⟨I2, rfl, hS⟩ := hν
  refine z_iload_n h dX2_readSecond_15 rfl rfl ?_
  refine z_iconst (v := -1) h dX2_readSecond_16 (by decide) ?_
  refine z_icmp_eq h 24 dX2_readSecond_17 (by decide) (fun c17 => ?_) (fun c17 => ?_)
  · refine z_iconst (v := 0) h dX2_readSecond_24 (by decide) ?_
    exact ret (r := 0) ⟨(b2i_f (decide_eq_false (fun w => by rw [if_pos w] at c17; exact w.1 c17))).symm, I2, rfl, hS⟩ dX2_readSecond_25 rfl
  · refine z_iconst (v := 1) h dX2_readSecond_20 (by decide) ?_
    refine z_goto h 25 dX2_readSecond_21 (by decide) ?_
    exact ret (r := 1) ⟨(b2i_t (decide_eq_true (Decidable.byContradiction fun w => c17 (if_neg w)))).symm, I2, rfl, hS⟩ dX2_readSecond_25 rfl

theorem tk_t {ρ : Type} {g : Nat → Int32} {n : Nat} {s : List Int32} {q : zQ} {k : zQ → Option ρ × zQ} (h : mW g q.1 q.2 s = true) : tk g n s q k = k (nx g n q) := if_pos h
theorem tk_f {ρ : Type} {g : Nat → Int32} {n : Nat} {s : List Int32} {q : zQ} {k : zQ → Option ρ × zQ} (h : mW g q.1 q.2 s = false) : tk g n s q k = (none, q) := if_neg (by rw [h]; decide)
theorem tkN_t {ρ : Type} {g : Nat → Int32} {n : Nat} {u : Int32} {q : zQ} {k : Int32 → zQ → Option ρ × zQ} (h : nmF g q ≠ -1 ∧ nmF g q ≠ u) : tkN g n u q k = k (nmF g q) (nx g n q) := if_pos h
theorem tkN_f {ρ : Type} {g : Nat → Int32} {n : Nat} {u : Int32} {q : zQ} {k : Int32 → zQ → Option ρ × zQ} (h : ¬ (nmF g q ≠ -1 ∧ nmF g q ≠ u)) : tkN g n u q k = (none, q) := if_neg h
theorem tkU_t {ρ : Type} {g : Nat → Int32} {n : Nat} {q : zQ} {k : Int32 → zQ → Option ρ × zQ} (h : unF g q ≠ -1) : tkU g n q k = k (unF g q) (nx g n q) := if_pos h
theorem tkU_f {ρ : Type} {g : Nat → Int32} {n : Nat} {q : zQ} {k : Int32 → zQ → Option ρ × zQ} (h : ¬ unF g q ≠ -1) : tkU g n q k = (none, q) := if_neg h
theorem tkD_s {ρ : Type} {g : Nat → Int32} {n : Nat} {q : zQ} {a : Int32} {k : Int32 → zQ → Option ρ × zQ} (h : nmW g q.1 q.2 = some a) : tkD g n q k = k a (nx g n q) := by unfold tkD; rw [h]
theorem tkD_n {ρ : Type} {g : Nat → Int32} {n : Nat} {q : zQ} {k : Int32 → zQ → Option ρ × zQ} (h : nmW g q.1 q.2 = none) : tkD g n q k = (none, q) := by unfold tkD; rw [h]
/-- numbers are 0 .. 999 -/
theorem dgW_ne (g : Nat → Int32) : ∀ (d p : Nat) (c : Nat) (a : Int32), a = nI c → c < 10 ^ (3 - d) → d ≤ 3 → ∀ x, dgW g d p a = some x → ∃ c', x = nI c' ∧ c' < 1000
  | 0, p, c, a, ha, hc, _, x, h => by
    have : a = x := by simpa [dgW] using h
    exact ⟨c, by rw [← this, ha], by simpa using hc⟩
  | d + 1, p, c, a, ha, hc, hd, x, h => by
    unfold dgW at h
    by_cases q : isD (g p) = true
    · rw [if_pos q] at h
      have q2 : 48 ≤ g p ∧ g p ≤ 57 := by simpa [isD] using q
      obtain ⟨v, hv, e⟩ := nI_of (x := g p) (Int32.not_lt.mpr (Int32.le_trans (by decide) q2.1))
      have h1 : 48 ≤ v := nle (by decide) hv (show nI 48 ≤ nI v by rw [← e]; exact q2.1)
      have h2 : v ≤ 57 := nle hv (by decide) (show nI v ≤ nI 57 by rw [← e]; exact q2.2)
      have e2 : a * 10 + (g p - 48) = nI (c * 10 + (v - 48)) := by
        rw [ha, e, show (10 : Int32) = nI 10 from rfl, pk_mul, show (48 : Int32) = nI 48 from rfl, pk_sub h1, nI_add]
      have hp : 10 ^ (3 - d) = 10 ^ (3 - (d + 1)) * 10 := by
        rw [← Nat.pow_succ]; congr 1; omega
      exact dgW_ne g d (p + 1) (c * 10 + (v - 48)) _ e2 (by rw [hp]; omega) (by omega) x h
    · rw [if_neg q] at h
      exact absurd h (by simp)
theorem nmW_ne {g : Nat → Int32} {f e : Nat} {x : Int32} (h : nmW g f e = some x) : ∃ c, x = nI c ∧ c < 1000 := by
  unfold nmW at h
  by_cases q : f < e ∧ e - f ≤ 3
  · rw [if_pos q] at h
    exact dgW_ne g (e - f) f 0 0 rfl (Nat.pow_pos (by decide)) q.2 x h
  · rw [if_neg q] at h
    exact absurd h (by simp)
theorem nI_m1 {c : Nat} (h : c < 1000) : nI c ≠ -1 := fun q => absurd (show nI c < 0 by rw [q]; decide) (nI_pos (by omega))
def rowQ (r : Int32) (o : Option zR) (ρ ρ' : Nat → Int32) : Prop := (ρ' 1 = ρ 1 ∧ ρ' 2 = ρ 2 ∧ ρ' 5 = ρ 5 ∧ ρ' 6 = ρ 6) ∧ match o with
  | none => r = 0
  | some v => r = 1 ∧ ρ' 0 = v.1 ∧ ρ' 3 = v.2.2.1 ∧ ρ' 4 = v.2.2.2
def rowP (r : Int32) (o : Option zR) (ρ ρ' : Nat → Int32) : Prop := (ρ' 1 = ρ 1 ∧ ρ' 5 = ρ 5 ∧ ρ' 6 = ρ 6) ∧ match o with
  | none => r = 0
  | some v => r = 1 ∧ ρ' 0 = v.1 ∧ ρ' 2 = v.2.1 ∧ ρ' 3 = v.2.2.1 ∧ ρ' 4 = v.2.2.2

set_option maxHeartbeats 4000000 in
set_option maxRecDepth 100000 in
theorem c_X2_readPlain (l : Launch) {E : zE} {S : zS} {I I0 : Nat → Nat → Int32} {J : Nat → Nat → Int64} {R : Nat → Nat → Option Nat} {g : Nat → Int32} {rd t b n st pa ak k : Nat} {rw : Nat → Nat} {q : zQ} {ρ : Nat → Int32} (hF : RF S R rd t b st pa ak rw k) (hS : RS S R g I0 I t b n st rw k q ρ) {so : Int32} : zIP l yX2_readPlain wsX2_readPlain rmX2_readPlain E S [.ref rd, .ref st, .int so] (I, J, R) (fun r ν => ∃ I' ρ', ν = (I', J, R) ∧ RS S R g I0 I' t b n st rw k (sPl g n so q).2 ρ' ∧ rowQ r (sPl g n so q).1 ρ ρ') := by
  refine z_metIP (cc := cX2_readPlain) (maxL := 4) (ty := .boolean) (by decide) rfl (Nat.le_of_ble_eq_true rfl) (fun X h ret => ?_)
  show zV X E S 0 0 (I, J, R) 0 _ []
  obtain ⟨f1, f2, f3, f4, f5, f6⟩ := id hF
  have f7 := f5.1
  have hsp : sPl g n so q = tkD g n q (fun a q => tkU g n q fun u q => (some (so, -1, u, a), q)) := rfl
  refine z_aload_n h dX2_readPlain_0 rfl rfl ?_
  refine z_getR h (by assumption) rfl kw2 0 (by decide) rfl (by assumption) kf_RX2_9 dX2_readPlain_1 ?_
  refine z_callVIP h (cR_num l hF hS) (by assumption) rfl gm_RX2_83 rfl ⟨rfl, rfl⟩ 0 (by decide +kernel) ⟨by decide, by decide⟩ rfl rfl (Nat.le_of_ble_eq_true rfl) ⟨Nat.zero_le _, Nat.zero_le _⟩ dX2_readPlain_4 (fun r ν hν => ?_)
  obtain ⟨rfl, I1, rfl, hS⟩ := hν
  rcases hnum : nmW g q.1 q.2 with _ | a
  · rw [tkD_n hnum] at hsp
    rw [hnum, if_neg (by decide)] at hS
    refine z_istore_n h dX2_readPlain_7 rfl (by decide) ?_
    refine z_iload_n h dX2_readPlain_8 rfl rfl ?_
    refine z_iconst (v := -1) h dX2_readPlain_9 (by decide) ?_
    refine z_icmp_ne h 15 dX2_readPlain_10 (by decide) (fun c => absurd rfl c) (fun _ => ?_)
    refine z_iconst (v := 0) h dX2_readPlain_13 (by decide) ?_
    exact ret (r := 0) ⟨_, _, rfl, by rw [hsp]; exact hS, by rw [hsp]; exact ⟨⟨rfl, rfl, rfl, rfl⟩, rfl⟩⟩ dX2_readPlain_14 rfl
  · rw [tkD_s hnum] at hsp
    rw [hnum, if_pos (show (some a).isSome = true from rfl)] at hS
    obtain ⟨c, hc, hc2⟩ := nmW_ne hnum
    refine z_istore_n h dX2_readPlain_7 rfl (by decide) ?_
    refine z_iload_n h dX2_readPlain_8 rfl rfl ?_
    refine z_iconst (v := -1) h dX2_readPlain_9 (by decide) ?_
    refine z_icmp_ne h 15 dX2_readPlain_10 (by decide) (fun _ => ?_) (fun c9 => absurd (hc.symm.trans c9) (nI_m1 hc2))
    refine z_aload_n h dX2_readPlain_15 rfl rfl ?_
    refine z_iconst (v := nI 0) h dX2_readPlain_16 (by decide) ?_
    refine z_iload_n h dX2_readPlain_17 rfl rfl ?_
    refine z_callVNP h (cR_tell l hF hS (j := 0) (by decide)) (by assumption) rfl gm_RX2_86 rfl ⟨rfl, rfl⟩ 2 (by decide +kernel) ⟨by decide, by decide⟩ rfl rfl (Nat.le_of_ble_eq_true rfl) ⟨Nat.zero_le _, Nat.zero_le _⟩ dX2_readPlain_18 (fun ν hν => ?_)
    obtain ⟨I2, rfl, hS⟩ := hν
    refine z_aload_n h dX2_readPlain_21 rfl rfl ?_
    refine z_iconst (v := nI 4) h dX2_readPlain_22 (by decide) ?_
    refine z_iload_n h dX2_readPlain_23 rfl rfl ?_
    refine z_callVNP h (cR_tell l hF hS (j := 4) (by decide)) (by assumption) rfl gm_RX2_86 rfl ⟨rfl, rfl⟩ 2 (by decide +kernel) ⟨by decide, by decide⟩ rfl rfl (Nat.le_of_ble_eq_true rfl) ⟨Nat.zero_le _, Nat.zero_le _⟩ dX2_readPlain_24 (fun ν hν => ?_)
    obtain ⟨I3, rfl, hS⟩ := hν
    refine z_aload_n h dX2_readPlain_27 rfl rfl ?_
    refine z_aload_n h dX2_readPlain_28 rfl rfl ?_
    refine z_callVIP h (c_X2_readUnit l hF hS) (by assumption) rfl gm_RX2_91 rfl ⟨rfl, rfl⟩ 1 (by decide +kernel) ⟨by decide, by decide⟩ rfl rfl (Nat.le_of_ble_eq_true rfl) ⟨Nat.zero_le _, Nat.zero_le _⟩ dX2_readPlain_29 (fun r ν hν => ?_)
    obtain ⟨rfl, I4, rfl, hS⟩ := hν
    by_cases m : unF g (nx g n q) ≠ -1
    · rw [if_pos m] at hS
      rw [tkU_t m] at hsp
      refine ret ⟨_, _, rfl, by rw [hsp]; exact hS, by rw [hsp]; exact ⟨⟨by simp [upd], by simp [upd], by simp [upd], by simp [upd]⟩, b2i_t (decide_eq_true m), by simp [upd], by simp [upd], by simp [upd]⟩⟩ dX2_readPlain_32 (b2i_nar _)
    · rw [if_neg m] at hS
      rw [tkU_f m] at hsp
      refine ret ⟨_, _, rfl, by rw [hsp]; exact hS, by rw [hsp]; exact ⟨⟨by simp [upd], by simp [upd], by simp [upd], by simp [upd]⟩, b2i_f (decide_eq_false m)⟩⟩ dX2_readPlain_32 (b2i_nar _)

set_option maxHeartbeats 4000000 in
set_option maxRecDepth 100000 in
theorem c_X2_readHas (l : Launch) {E : zE} {S : zS} {I I0 : Nat → Nat → Int32} {J : Nat → Nat → Int64} {R : Nat → Nat → Option Nat} {g : Nat → Int32} {rd t b n st pa ak k : Nat} {rw : Nat → Nat} {q : zQ} {ρ : Nat → Int32} (hF : RF S R rd t b st pa ak rw k) (hS : RS S R g I0 I t b n st rw k q ρ) {fi : Int32} (h2 : ρ 2 = -1) : zIP l yX2_readHas wsX2_readHas rmX2_readHas E S [.ref rd, .ref st, .int fi] (I, J, R) (fun r ν => ∃ I' ρ', ν = (I', J, R) ∧ RS S R g I0 I' t b n st rw k (sHas g n fi q).2 ρ' ∧ rowP r (sHas g n fi q).1 ρ ρ') := by
  refine z_metIP (cc := cX2_readHas) (maxL := 4) (ty := .boolean) (by decide) rfl (Nat.le_of_ble_eq_true rfl) (fun X h ret => ?_)
  show zV X E S 0 0 (I, J, R) 0 _ []
  obtain ⟨f1, f2, f3, f4, f5, f6⟩ := id hF
  have f7 := f5.1
  have hsp : sHas g n fi q = tkD g n q (fun a q => if mW g q.1 q.2 w_more = true then sCmp g n 1 a fi (nx g n q) else if mW g q.1 q.2 w_fewer = true then sCmp g n 2 a fi (nx g n q) else if (2 ≤ a ∧ a ≤ 9) ∧ mW g q.1 q.2 w_times = true then sTim g n a fi (nx g n q) else tkU g n q fun u q => (some (0, -1, u, a), q)) := rfl
  refine z_aload_n h dX2_readHas_0 rfl rfl ?_
  refine z_getR h (by assumption) rfl kw2 0 (by decide) rfl (by assumption) kf_RX2_9 dX2_readHas_1 ?_
  refine z_callVIP h (cR_num l hF hS) (by assumption) rfl gm_RX2_83 rfl ⟨rfl, rfl⟩ 0 (by decide +kernel) ⟨by decide, by decide⟩ rfl rfl (Nat.le_of_ble_eq_true rfl) ⟨Nat.zero_le _, Nat.zero_le _⟩ dX2_readHas_4 (fun r ν hν => ?_)
  obtain ⟨rfl, I1, rfl, hS⟩ := hν
  rcases hnum : nmW g q.1 q.2 with _ | a
  · rw [tkD_n hnum] at hsp
    rw [hnum, if_neg (by decide)] at hS
    refine z_istore_n h dX2_readHas_7 rfl (by decide) ?_
    refine z_iload_n h dX2_readHas_8 rfl rfl ?_
    refine z_iconst (v := -1) h dX2_readHas_9 (by decide) ?_
    refine z_icmp_ne h 15 dX2_readHas_10 (by decide) (fun c => absurd rfl c) (fun _ => ?_)
    refine z_iconst (v := 0) h dX2_readHas_13 (by decide) ?_
    exact ret (r := 0) ⟨_, _, rfl, by rw [hsp]; exact hS, by rw [hsp]; exact ⟨⟨rfl, rfl, rfl⟩, rfl⟩⟩ dX2_readHas_14 rfl
  rw [tkD_s hnum] at hsp
  rw [hnum, if_pos (show (some a).isSome = true from rfl)] at hS
  obtain ⟨c, hc, hc2⟩ := nmW_ne hnum
  generalize nx g n q = q1 at hS hsp
  refine z_istore_n h dX2_readHas_7 rfl (by decide) ?_
  refine z_iload_n h dX2_readHas_8 rfl rfl ?_
  refine z_iconst (v := -1) h dX2_readHas_9 (by decide) ?_
  refine z_icmp_ne h 15 dX2_readHas_10 (by decide) (fun _ => ?_) (fun c9 => absurd (hc.symm.trans c9) (nI_m1 hc2))
  refine z_lk (lv' := [(0, .ref rd), (1, .ref st), (2, .int fi), (3, .int a)]) ?_ ⟨rfl, rfl, rfl, rfl, trivial⟩
  have J215 : ∀ (I1 : Nat → Nat → Int32) (p : zQ), RS S R g I0 I1 t b n st rw k p (upd ρ 4 a) → sHas g n fi q = tkU g n p (fun u q => (some (0, -1, u, a), q)) → zV X E S 0 0 (I1, J, R) 215 [(0, .ref rd), (1, .ref st), (2, .int fi), (3, .int a)] [] := by
    intro I1 p hS hsp
    refine z_aload_n h dX2_readHas_215 rfl rfl ?_
    refine z_iconst (v := 0) h dX2_readHas_216 (by decide) ?_
    refine z_iconst (v := 0) h dX2_readHas_217 (by decide) ?_
    refine z_st (show _ = [_, Value.int (nI 0), Value.ref st] from rfl) ?_
    refine z_callVNP h (cR_tell l hF hS (j := 0) (by decide)) (by assumption) rfl gm_RX2_86 rfl ⟨rfl, rfl⟩ 2 (by decide +kernel) ⟨by decide, by decide⟩ rfl rfl (Nat.le_of_ble_eq_true rfl) ⟨Nat.zero_le _, Nat.zero_le _⟩ dX2_readHas_218 (fun ν hν => ?_)
    obtain ⟨I2, rfl, hS⟩ := hν
    refine z_aload_n h dX2_readHas_221 rfl rfl ?_
    refine z_aload_n h dX2_readHas_222 rfl rfl ?_
    refine z_callVIP h (c_X2_readUnit l hF hS) (by assumption) rfl gm_RX2_91 rfl ⟨rfl, rfl⟩ 1 (by decide +kernel) ⟨by decide, by decide⟩ rfl rfl (Nat.le_of_ble_eq_true rfl) ⟨Nat.zero_le _, Nat.zero_le _⟩ dX2_readHas_223 (fun r ν hν => ?_)
    obtain ⟨rfl, I4, rfl, hS⟩ := hν
    by_cases m : unF g p ≠ -1
    · rw [if_pos m] at hS
      rw [tkU_t m] at hsp
      refine ret ⟨_, _, rfl, by rw [hsp]; exact hS, by rw [hsp]; exact ⟨⟨by simp [upd], by simp [upd], by simp [upd]⟩, b2i_t (decide_eq_true m), by simp [upd], by simp [upd, h2], by simp [upd], by simp [upd]⟩⟩ dX2_readHas_226 (b2i_nar _)
    · rw [if_neg m] at hS
      rw [tkU_f m] at hsp
      refine ret ⟨_, _, rfl, by rw [hsp]; exact hS, by rw [hsp]; exact ⟨⟨by simp [upd], by simp [upd], by simp [upd]⟩, b2i_f (decide_eq_false m)⟩⟩ dX2_readHas_226 (b2i_nar _)
  refine z_aload_n h dX2_readHas_15 rfl rfl ?_
  refine z_iconst (v := 4) h dX2_readHas_16 (by decide) ?_
  refine z_iload_n h dX2_readHas_17 rfl rfl ?_
  refine z_st (show _ = [_, Value.int (nI 4), Value.ref st] from rfl) ?_
  refine z_callVNP h (cR_tell l hF hS (j := 4) (by decide)) (by assumption) rfl gm_RX2_86 rfl ⟨rfl, rfl⟩ 2 (by decide +kernel) ⟨by decide, by decide⟩ rfl rfl (Nat.le_of_ble_eq_true rfl) ⟨Nat.zero_le _, Nat.zero_le _⟩ dX2_readHas_18 (fun ν hν => ?_)
  obtain ⟨I2, rfl, hS⟩ := hν
  refine z_aload_n h dX2_readHas_21 rfl rfl ?_
  refine z_getR h (by assumption) rfl kw2 0 (by decide) rfl (by assumption) kf_RX2_9 dX2_readHas_22 ?_
  refine z_ldcS h 9 (by decide) rfl rfl dX2_readHas_25 ?_
  refine z_callVIP h (cR_take l hF hS (i := 9) (by decide)) (by assumption) rfl gm_RX2_27 rfl ⟨rfl, rfl⟩ 1 (by decide +kernel) ⟨by decide, by decide⟩ rfl rfl (Nat.le_of_ble_eq_true rfl) ⟨Nat.zero_le _, Nat.zero_le _⟩ dX2_readHas_27 (fun r ν hν => ?_)
  obtain ⟨rfl, I1, rfl, hS⟩ := hν
  refine z_if_eq h 74 dX2_readHas_30 (by decide) (fun c30 => ?_) (fun c30 => ?_)
  · have m30 := b2i_0.mp c30
    rw [if_neg (by rw [m30]; decide)] at hS
    rw [if_neg (by rw [m30]; decide)] at hsp
    refine z_aload_n h dX2_readHas_74 rfl rfl ?_
    refine z_getR h (by assumption) rfl kw2 0 (by decide) rfl (by assumption) kf_RX2_9 dX2_readHas_75 ?_
    refine z_ldcS h 11 (by decide) rfl rfl dX2_readHas_78 ?_
    refine z_callVIP h (cR_take l hF hS (i := 11) (by decide)) (by assumption) rfl gm_RX2_27 rfl ⟨rfl, rfl⟩ 1 (by decide +kernel) ⟨by decide, by decide⟩ rfl rfl (Nat.le_of_ble_eq_true rfl) ⟨Nat.zero_le _, Nat.zero_le _⟩ dX2_readHas_80 (fun r ν hν => ?_)
    obtain ⟨rfl, I1, rfl, hS⟩ := hν
    refine z_if_eq h 127 dX2_readHas_83 (by decide) (fun c83 => ?_) (fun c83 => ?_)
    · have m83 := b2i_0.mp c83
      rw [if_neg (by rw [m83]; decide)] at hS
      rw [if_neg (by rw [m83]; decide)] at hsp
      refine z_iload_n h dX2_readHas_127 rfl rfl ?_
      refine z_iconst (v := 2) h dX2_readHas_128 (by decide) ?_
      refine z_icmp_lt h 215 dX2_readHas_129 (by decide) (fun c129 => ?_) (fun c129 => ?_)
      · exact J215 _ _ hS (by rw [if_neg (fun w => absurd c129 (Int32.not_lt.mpr w.1.1))] at hsp; exact hsp)
      · refine z_iload_n h dX2_readHas_132 rfl rfl ?_
        refine z_bipush (v := 9) h dX2_readHas_133 (by decide) ?_
        refine z_icmp_gt h 215 dX2_readHas_135 (by decide) (fun c135 => ?_) (fun c135 => ?_)
        · exact J215 _ _ hS (by rw [if_neg (fun w => absurd c135 (Int32.not_lt.mpr w.1.2))] at hsp; exact hsp)
        · refine z_aload_n h dX2_readHas_138 rfl rfl ?_
          refine z_getR h (by assumption) rfl kw2 0 (by decide) rfl (by assumption) kf_RX2_9 dX2_readHas_139 ?_
          refine z_ldcS h 12 (by decide) rfl rfl dX2_readHas_142 ?_
          refine z_callVIP h (cR_take l hF hS (i := 12) (by decide)) (by assumption) rfl gm_RX2_27 rfl ⟨rfl, rfl⟩ 1 (by decide +kernel) ⟨by decide, by decide⟩ rfl rfl (Nat.le_of_ble_eq_true rfl) ⟨Nat.zero_le _, Nat.zero_le _⟩ dX2_readHas_144 (fun r ν hν => ?_)
          obtain ⟨rfl, I1, rfl, hS⟩ := hν
          refine z_if_eq h 215 dX2_readHas_147 (by decide) (fun c147 => ?_) (fun c147 => ?_)
          · have m147 := b2i_0.mp c147
            rw [if_neg (by rw [m147]; decide)] at hS
            exact J215 _ _ hS (by rw [if_neg (fun w => by rw [m147] at w; exact absurd w.2 (by decide))] at hsp; exact hsp)
          · have m147 := b2i_n0.mp c147
            rw [if_pos m147] at hS
            rw [if_pos ⟨⟨Int32.not_lt.mp c129, Int32.not_lt.mp c135⟩, m147⟩] at hsp
            unfold sTim at hsp
            refine z_aload_n h dX2_readHas_150 rfl rfl ?_
            refine z_iconst (v := 0) h dX2_readHas_151 (by decide) ?_
            refine z_iconst (v := 3) h dX2_readHas_152 (by decide) ?_
            refine z_st (show _ = [_, Value.int (nI 0), Value.ref st] from rfl) ?_
            refine z_callVNP h (cR_tell l hF hS (j := 0) (by decide)) (by assumption) rfl gm_RX2_86 rfl ⟨rfl, rfl⟩ 2 (by decide +kernel) ⟨by decide, by decide⟩ rfl rfl (Nat.le_of_ble_eq_true rfl) ⟨Nat.zero_le _, Nat.zero_le _⟩ dX2_readHas_153 (fun ν hν => ?_)
            obtain ⟨I2, rfl, hS⟩ := hν
            refine z_aload_n h dX2_readHas_156 rfl rfl ?_
            refine z_getR h (by assumption) rfl kw2 0 (by decide) rfl (by assumption) kf_RX2_9 dX2_readHas_157 ?_
            refine z_ldcS h 13 (by decide) rfl rfl dX2_readHas_160 ?_
            refine z_callVIP h (cR_take l hF hS (i := 13) (by decide)) (by assumption) rfl gm_RX2_27 rfl ⟨rfl, rfl⟩ 1 (by decide +kernel) ⟨by decide, by decide⟩ rfl rfl (Nat.le_of_ble_eq_true rfl) ⟨Nat.zero_le _, Nat.zero_le _⟩ dX2_readHas_162 (fun r ν hν => ?_)
            obtain ⟨rfl, I1, rfl, hS⟩ := hν
            refine z_if_eq h 213 dX2_readHas_165 (by decide) (fun c165 => ?_) (fun c165 => ?_)
            · have m165 := b2i_0.mp c165
              rw [if_neg (by rw [m165]; decide)] at hS
              rw [tk_f m165] at hsp
              refine z_iconst (v := 0) h dX2_readHas_213 (by decide) ?_
              exact ret (r := 0) ⟨_, _, rfl, by rw [hsp]; exact hS, by rw [hsp]; exact ⟨⟨by simp [upd], by simp [upd], by simp [upd]⟩, rfl⟩⟩ dX2_readHas_214 rfl
            · have m165 := b2i_n0.mp c165
              rw [if_pos m165] at hS
              rw [tk_t m165] at hsp
              refine z_aload_n h dX2_readHas_168 rfl rfl ?_
              refine z_getR h (by assumption) rfl kw2 0 (by decide) rfl (by assumption) kf_RX2_9 dX2_readHas_169 ?_
              refine z_ldcS h 14 (by decide) rfl rfl dX2_readHas_172 ?_
              refine z_callVIP h (cR_take l hF hS (i := 14) (by decide)) (by assumption) rfl gm_RX2_27 rfl ⟨rfl, rfl⟩ 1 (by decide +kernel) ⟨by decide, by decide⟩ rfl rfl (Nat.le_of_ble_eq_true rfl) ⟨Nat.zero_le _, Nat.zero_le _⟩ dX2_readHas_174 (fun r ν hν => ?_)
              obtain ⟨rfl, I1, rfl, hS⟩ := hν
              refine z_if_eq h 213 dX2_readHas_177 (by decide) (fun c177 => ?_) (fun c177 => ?_)
              · have m177 := b2i_0.mp c177
                rw [if_neg (by rw [m177]; decide)] at hS
                rw [tk_f m177] at hsp
                refine z_iconst (v := 0) h dX2_readHas_213 (by decide) ?_
                exact ret (r := 0) ⟨_, _, rfl, by rw [hsp]; exact hS, by rw [hsp]; exact ⟨⟨by simp [upd], by simp [upd], by simp [upd]⟩, rfl⟩⟩ dX2_readHas_214 rfl
              · have m177 := b2i_n0.mp c177
                rw [if_pos m177] at hS
                rw [tk_t m177] at hsp
                refine z_aload_n h dX2_readHas_180 rfl rfl ?_
                refine z_aload_n h dX2_readHas_181 rfl rfl ?_
                refine z_callVIP h (c_X2_readUnit l hF hS) (by assumption) rfl gm_RX2_91 rfl ⟨rfl, rfl⟩ 1 (by decide +kernel) ⟨by decide, by decide⟩ rfl rfl (Nat.le_of_ble_eq_true rfl) ⟨Nat.zero_le _, Nat.zero_le _⟩ dX2_readHas_182 (fun r ν hν => ?_)
                obtain ⟨rfl, I1, rfl, hS⟩ := hν
                refine z_if_eq h 213 dX2_readHas_185 (by decide) (fun c185 => ?_) (fun c185 => ?_)
                · have m185 := of_decide_eq_false (b2i_0.mp c185)
                  rw [if_neg m185] at hS
                  rw [tkU_f m185] at hsp
                  refine z_iconst (v := 0) h dX2_readHas_213 (by decide) ?_
                  exact ret (r := 0) ⟨_, _, rfl, by rw [hsp]; exact hS, by rw [hsp]; exact ⟨⟨by simp [upd], by simp [upd], by simp [upd]⟩, rfl⟩⟩ dX2_readHas_214 rfl
                · have m185 := of_decide_eq_true (b2i_n0.mp c185)
                  rw [if_pos m185] at hS
                  rw [tkU_t m185] at hsp
                  refine z_aload_n h dX2_readHas_188 rfl rfl ?_
                  refine z_getR h (by assumption) rfl kw2 0 (by decide) rfl (by assumption) kf_RX2_9 dX2_readHas_189 ?_
                  refine z_ldcS h 13 (by decide) rfl rfl dX2_readHas_192 ?_
                  refine z_callVIP h (cR_take l hF hS (i := 13) (by decide)) (by assumption) rfl gm_RX2_27 rfl ⟨rfl, rfl⟩ 1 (by decide +kernel) ⟨by decide, by decide⟩ rfl rfl (Nat.le_of_ble_eq_true rfl) ⟨Nat.zero_le _, Nat.zero_le _⟩ dX2_readHas_194 (fun r ν hν => ?_)
                  obtain ⟨rfl, I1, rfl, hS⟩ := hν
                  refine z_if_eq h 213 dX2_readHas_197 (by decide) (fun c197 => ?_) (fun c197 => ?_)
                  · have m197 := b2i_0.mp c197
                    rw [if_neg (by rw [m197]; decide)] at hS
                    rw [tk_f m197] at hsp
                    refine z_iconst (v := 0) h dX2_readHas_213 (by decide) ?_
                    exact ret (r := 0) ⟨_, _, rfl, by rw [hsp]; exact hS, by rw [hsp]; exact ⟨⟨by simp [upd], by simp [upd], by simp [upd]⟩, rfl⟩⟩ dX2_readHas_214 rfl
                  · have m197 := b2i_n0.mp c197
                    rw [if_pos m197] at hS
                    rw [tk_t m197] at hsp
                    refine z_aload_n h dX2_readHas_200 rfl rfl ?_
                    refine z_aload_n h dX2_readHas_201 rfl rfl ?_
                    refine z_iload_n h dX2_readHas_202 rfl rfl ?_
                    refine z_callVIP h (c_X2_readSecond l hF hS (u := fi)) (by assumption) rfl gm_RX2_62 rfl ⟨rfl, rfl⟩ 2 (by decide +kernel) ⟨by decide, by decide⟩ rfl rfl (Nat.le_of_ble_eq_true rfl) ⟨Nat.zero_le _, Nat.zero_le _⟩ dX2_readHas_203 (fun r ν hν => ?_)
                    obtain ⟨rfl, I1, rfl, hS⟩ := hν
                    refine z_if_eq h 213 dX2_readHas_206 (by decide) (fun c206 => ?_) (fun c206 => ?_)
                    · have m206 := of_decide_eq_false (b2i_0.mp c206)
                      rw [if_neg m206, if_neg m206] at hS
                      rw [tkN_f m206] at hsp
                      refine z_iconst (v := 0) h dX2_readHas_213 (by decide) ?_
                      exact ret (r := 0) ⟨_, _, rfl, by rw [hsp]; exact hS, by rw [hsp]; exact ⟨⟨by simp [upd], by simp [upd], by simp [upd]⟩, rfl⟩⟩ dX2_readHas_214 rfl
                    · have m206 := of_decide_eq_true (b2i_n0.mp c206)
                      rw [if_pos m206, if_pos m206] at hS
                      rw [tkN_t m206] at hsp
                      refine z_iconst (v := 1) h dX2_readHas_209 (by decide) ?_
                      refine z_goto h 214 dX2_readHas_210 (by decide) ?_
                      exact ret (r := 1) ⟨_, _, rfl, by rw [hsp]; exact hS, by rw [hsp]; exact ⟨⟨by simp [upd], by simp [upd], by simp [upd]⟩, rfl, by simp [upd], by simp [upd], by simp [upd], by simp [upd]⟩⟩ dX2_readHas_214 rfl
    · have m83 := b2i_n0.mp c83
      rw [if_pos m83] at hS
      rw [if_pos m83] at hsp
      unfold sCmp at hsp
      refine z_aload_n h dX2_readHas_86 rfl rfl ?_
      refine z_iconst (v := 0) h dX2_readHas_87 (by decide) ?_
      refine z_iconst (v := 2) h dX2_readHas_88 (by decide) ?_
      refine z_st (show _ = [_, Value.int (nI 0), Value.ref st] from rfl) ?_
      refine z_callVNP h (cR_tell l hF hS (j := 0) (by decide)) (by assumption) rfl gm_RX2_86 rfl ⟨rfl, rfl⟩ 2 (by decide +kernel) ⟨by decide, by decide⟩ rfl rfl (Nat.le_of_ble_eq_true rfl) ⟨Nat.zero_le _, Nat.zero_le _⟩ dX2_readHas_89 (fun ν hν => ?_)
      obtain ⟨I2, rfl, hS⟩ := hν
      refine z_aload_n h dX2_readHas_92 rfl rfl ?_
      refine z_aload_n h dX2_readHas_93 rfl rfl ?_
      refine z_callVIP h (c_X2_readUnit l hF hS) (by assumption) rfl gm_RX2_91 rfl ⟨rfl, rfl⟩ 1 (by decide +kernel) ⟨by decide, by decide⟩ rfl rfl (Nat.le_of_ble_eq_true rfl) ⟨Nat.zero_le _, Nat.zero_le _⟩ dX2_readHas_94 (fun r ν hν => ?_)
      obtain ⟨rfl, I1, rfl, hS⟩ := hν
      refine z_if_eq h 125 dX2_readHas_97 (by decide) (fun c97 => ?_) (fun c97 => ?_)
      · have m97 := of_decide_eq_false (b2i_0.mp c97)
        rw [if_neg m97] at hS
        rw [tkU_f m97] at hsp
        refine z_iconst (v := 0) h dX2_readHas_125 (by decide) ?_
        exact ret (r := 0) ⟨_, _, rfl, by rw [hsp]; exact hS, by rw [hsp]; exact ⟨⟨by simp [upd], by simp [upd], by simp [upd]⟩, rfl⟩⟩ dX2_readHas_126 rfl
      · have m97 := of_decide_eq_true (b2i_n0.mp c97)
        rw [if_pos m97] at hS
        rw [tkU_t m97] at hsp
        refine z_aload_n h dX2_readHas_100 rfl rfl ?_
        refine z_getR h (by assumption) rfl kw2 0 (by decide) rfl (by assumption) kf_RX2_9 dX2_readHas_101 ?_
        refine z_ldcS h 10 (by decide) rfl rfl dX2_readHas_104 ?_
        refine z_callVIP h (cR_take l hF hS (i := 10) (by decide)) (by assumption) rfl gm_RX2_27 rfl ⟨rfl, rfl⟩ 1 (by decide +kernel) ⟨by decide, by decide⟩ rfl rfl (Nat.le_of_ble_eq_true rfl) ⟨Nat.zero_le _, Nat.zero_le _⟩ dX2_readHas_106 (fun r ν hν => ?_)
        obtain ⟨rfl, I1, rfl, hS⟩ := hν
        refine z_if_eq h 125 dX2_readHas_109 (by decide) (fun c109 => ?_) (fun c109 => ?_)
        · have m109 := b2i_0.mp c109
          rw [if_neg (by rw [m109]; decide)] at hS
          rw [tk_f m109] at hsp
          refine z_iconst (v := 0) h dX2_readHas_125 (by decide) ?_
          exact ret (r := 0) ⟨_, _, rfl, by rw [hsp]; exact hS, by rw [hsp]; exact ⟨⟨by simp [upd], by simp [upd], by simp [upd]⟩, rfl⟩⟩ dX2_readHas_126 rfl
        · have m109 := b2i_n0.mp c109
          rw [if_pos m109] at hS
          rw [tk_t m109] at hsp
          refine z_aload_n h dX2_readHas_112 rfl rfl ?_
          refine z_aload_n h dX2_readHas_113 rfl rfl ?_
          refine z_iload_n h dX2_readHas_114 rfl rfl ?_
          refine z_callVIP h (c_X2_readSecond l hF hS (u := fi)) (by assumption) rfl gm_RX2_62 rfl ⟨rfl, rfl⟩ 2 (by decide +kernel) ⟨by decide, by decide⟩ rfl rfl (Nat.le_of_ble_eq_true rfl) ⟨Nat.zero_le _, Nat.zero_le _⟩ dX2_readHas_115 (fun r ν hν => ?_)
          obtain ⟨rfl, I1, rfl, hS⟩ := hν
          refine z_if_eq h 125 dX2_readHas_118 (by decide) (fun c118 => ?_) (fun c118 => ?_)
          · have m118 := of_decide_eq_false (b2i_0.mp c118)
            rw [if_neg m118, if_neg m118] at hS
            rw [tkN_f m118] at hsp
            refine z_iconst (v := 0) h dX2_readHas_125 (by decide) ?_
            exact ret (r := 0) ⟨_, _, rfl, by rw [hsp]; exact hS, by rw [hsp]; exact ⟨⟨by simp [upd], by simp [upd], by simp [upd]⟩, rfl⟩⟩ dX2_readHas_126 rfl
          · have m118 := of_decide_eq_true (b2i_n0.mp c118)
            rw [if_pos m118, if_pos m118] at hS
            rw [tkN_t m118] at hsp
            refine z_iconst (v := 1) h dX2_readHas_121 (by decide) ?_
            refine z_goto h 126 dX2_readHas_122 (by decide) ?_
            exact ret (r := 1) ⟨_, _, rfl, by rw [hsp]; exact hS, by rw [hsp]; exact ⟨⟨by simp [upd], by simp [upd], by simp [upd]⟩, rfl, by simp [upd], by simp [upd], by simp [upd], by simp [upd]⟩⟩ dX2_readHas_126 rfl
  · have m30 := b2i_n0.mp c30
    rw [if_pos m30] at hS
    rw [if_pos m30] at hsp
    unfold sCmp at hsp
    refine z_aload_n h dX2_readHas_33 rfl rfl ?_
    refine z_iconst (v := 0) h dX2_readHas_34 (by decide) ?_
    refine z_iconst (v := 1) h dX2_readHas_35 (by decide) ?_
    refine z_st (show _ = [_, Value.int (nI 0), Value.ref st] from rfl) ?_
    refine z_callVNP h (cR_tell l hF hS (j := 0) (by decide)) (by assumption) rfl gm_RX2_86 rfl ⟨rfl, rfl⟩ 2 (by decide +kernel) ⟨by decide, by decide⟩ rfl rfl (Nat.le_of_ble_eq_true rfl) ⟨Nat.zero_le _, Nat.zero_le _⟩ dX2_readHas_36 (fun ν hν => ?_)
    obtain ⟨I2, rfl, hS⟩ := hν
    refine z_aload_n h dX2_readHas_39 rfl rfl ?_
    refine z_aload_n h dX2_readHas_40 rfl rfl ?_
    refine z_callVIP h (c_X2_readUnit l hF hS) (by assumption) rfl gm_RX2_91 rfl ⟨rfl, rfl⟩ 1 (by decide +kernel) ⟨by decide, by decide⟩ rfl rfl (Nat.le_of_ble_eq_true rfl) ⟨Nat.zero_le _, Nat.zero_le _⟩ dX2_readHas_41 (fun r ν hν => ?_)
    obtain ⟨rfl, I1, rfl, hS⟩ := hν
    refine z_if_eq h 72 dX2_readHas_44 (by decide) (fun c44 => ?_) (fun c44 => ?_)
    · have m44 := of_decide_eq_false (b2i_0.mp c44)
      rw [if_neg m44] at hS
      rw [tkU_f m44] at hsp
      refine z_iconst (v := 0) h dX2_readHas_72 (by decide) ?_
      exact ret (r := 0) ⟨_, _, rfl, by rw [hsp]; exact hS, by rw [hsp]; exact ⟨⟨by simp [upd], by simp [upd], by simp [upd]⟩, rfl⟩⟩ dX2_readHas_73 rfl
    · have m44 := of_decide_eq_true (b2i_n0.mp c44)
      rw [if_pos m44] at hS
      rw [tkU_t m44] at hsp
      refine z_aload_n h dX2_readHas_47 rfl rfl ?_
      refine z_getR h (by assumption) rfl kw2 0 (by decide) rfl (by assumption) kf_RX2_9 dX2_readHas_48 ?_
      refine z_ldcS h 10 (by decide) rfl rfl dX2_readHas_51 ?_
      refine z_callVIP h (cR_take l hF hS (i := 10) (by decide)) (by assumption) rfl gm_RX2_27 rfl ⟨rfl, rfl⟩ 1 (by decide +kernel) ⟨by decide, by decide⟩ rfl rfl (Nat.le_of_ble_eq_true rfl) ⟨Nat.zero_le _, Nat.zero_le _⟩ dX2_readHas_53 (fun r ν hν => ?_)
      obtain ⟨rfl, I1, rfl, hS⟩ := hν
      refine z_if_eq h 72 dX2_readHas_56 (by decide) (fun c56 => ?_) (fun c56 => ?_)
      · have m56 := b2i_0.mp c56
        rw [if_neg (by rw [m56]; decide)] at hS
        rw [tk_f m56] at hsp
        refine z_iconst (v := 0) h dX2_readHas_72 (by decide) ?_
        exact ret (r := 0) ⟨_, _, rfl, by rw [hsp]; exact hS, by rw [hsp]; exact ⟨⟨by simp [upd], by simp [upd], by simp [upd]⟩, rfl⟩⟩ dX2_readHas_73 rfl
      · have m56 := b2i_n0.mp c56
        rw [if_pos m56] at hS
        rw [tk_t m56] at hsp
        refine z_aload_n h dX2_readHas_59 rfl rfl ?_
        refine z_aload_n h dX2_readHas_60 rfl rfl ?_
        refine z_iload_n h dX2_readHas_61 rfl rfl ?_
        refine z_callVIP h (c_X2_readSecond l hF hS (u := fi)) (by assumption) rfl gm_RX2_62 rfl ⟨rfl, rfl⟩ 2 (by decide +kernel) ⟨by decide, by decide⟩ rfl rfl (Nat.le_of_ble_eq_true rfl) ⟨Nat.zero_le _, Nat.zero_le _⟩ dX2_readHas_62 (fun r ν hν => ?_)
        obtain ⟨rfl, I1, rfl, hS⟩ := hν
        refine z_if_eq h 72 dX2_readHas_65 (by decide) (fun c65 => ?_) (fun c65 => ?_)
        · have m65 := of_decide_eq_false (b2i_0.mp c65)
          rw [if_neg m65, if_neg m65] at hS
          rw [tkN_f m65] at hsp
          refine z_iconst (v := 0) h dX2_readHas_72 (by decide) ?_
          exact ret (r := 0) ⟨_, _, rfl, by rw [hsp]; exact hS, by rw [hsp]; exact ⟨⟨by simp [upd], by simp [upd], by simp [upd]⟩, rfl⟩⟩ dX2_readHas_73 rfl
        · have m65 := of_decide_eq_true (b2i_n0.mp c65)
          rw [if_pos m65, if_pos m65] at hS
          rw [tkN_t m65] at hsp
          refine z_iconst (v := 1) h dX2_readHas_68 (by decide) ?_
          refine z_goto h 73 dX2_readHas_69 (by decide) ?_
          exact ret (r := 1) ⟨_, _, rfl, by rw [hsp]; exact hS, by rw [hsp]; exact ⟨⟨by simp [upd], by simp [upd], by simp [upd]⟩, rfl, by simp [upd], by simp [upd], by simp [upd], by simp [upd]⟩⟩ dX2_readHas_73 rfl
