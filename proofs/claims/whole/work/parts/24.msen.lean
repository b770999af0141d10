/-! THE REFERENCE's sentence, in its own order -/
def mCmp (g : Nat → Int32) (n : Nat) (so a fi : Int32) (q : zQ) : Option (Int32 × zR) × zQ := tkU g n q fun u q => tk g n w_than q fun q => tkN g n fi q fun s q => tk g n w_dot q fun q => (some (fi, so, s, u, a), q)
def mTim (g : Nat → Int32) (n : Nat) (a fi : Int32) (q : zQ) : Option (Int32 × zR) × zQ := tk g n w_as q fun q => tk g n w_many q fun q => tkU g n q fun u q => tk g n w_as q fun q => tkN g n fi q fun s q => tk g n w_dot q fun q => (some (fi, 3, s, u, a), q)
def mPl (g : Nat → Int32) (n : Nat) (so fi : Int32) (q : zQ) : Option (Int32 × zR) × zQ := tkD g n q fun a q => tkU g n q fun u q => tk g n w_dot q fun q => (some (fi, so, -1, u, a), q)
def mHas (g : Nat → Int32) (n : Nat) (fi : Int32) (q : zQ) : Option (Int32 × zR) × zQ := tkD g n q fun a q =>
  if mW g q.1 q.2 w_more = true then mCmp g n 1 a fi (nx g n q) else if mW g q.1 q.2 w_fewer = true then mCmp g n 2 a fi (nx g n q) else if mW g q.1 q.2 w_times = true then (if 2 ≤ a ∧ a ≤ 9 then mTim g n a fi (nx g n q) else (none, q)) else tkU g n q fun u q => tk g n w_dot q fun q => (some (fi, 0, -1, u, a), q)
def mVrb (g : Nat → Int32) (n : Nat) (fi : Int32) (q : zQ) : Option (Int32 × zR) × zQ :=
  if mW g q.1 q.2 w_and = true then (tkN g n fi (nx g n q) fun s q => tk g n w_have q fun q => tkD g n q fun a q => tkU g n q fun u q => tk g n w_dot q fun q => (some (fi, 4, s, u, a), q)) else
  if mW g q.1 q.2 w_gives = true then (tkD g n (nx g n q) fun a q => tkU g n q fun u q => tk g n w_to q fun q => tkN g n fi q fun s q => tk g n w_dot q fun q => (some (fi, 5, s, u, a), q)) else
  if mW g q.1 q.2 w_buys = true then mPl g n 6 fi (nx g n q) else if mW g q.1 q.2 w_eats = true then mPl g n 7 fi (nx g n q) else tk g n w_has q fun q => mHas g n fi q
def mSen (g : Nat → Int32) (n : Nat) (q : zQ) : Option (Int32 × zR) × zQ := tkN g n (-1) q fun fi q => mVrb g n fi q
theorem mtc_all (g : Nat → Int32) (f : Nat) (s : List Int32) : ∀ (d j : Nat), mtc g f s 0 d j = j + d → ∀ i, j ≤ i → i < j + d → g (f + i) = s.getD i 0
  | 0, j, _, i, h1, h2 => absurd h2 (by omega)
  | d + 1, j, h, i, h1, h2 => by
    unfold mtc at h
    by_cases q : g (f + j) = s.getD (0 + j) 0
    · rw [if_pos q] at h
      by_cases e : i = j
      · subst e; rw [q, Nat.zero_add]
      · exact mtc_all g f s d (j + 1) (by omega) i (by omega) (by omega)
    · rw [if_neg q] at h
      omega
theorem mW_all {g : Nat → Int32} {f e : Nat} {s : List Int32} (h : mW g f e s = true) : e - f = s.length ∧ ∀ i, i < s.length → g (f + i) = s.getD i 0 := by
  unfold mW at h
  simp only [Bool.and_eq_true, decide_eq_true_eq] at h
  exact ⟨h.1, fun i hi => mtc_all g f s s.length 0 (by omega) i (by omega) (by omega)⟩
/-- two texts that differ are not one word -/
theorem mW_ex {g : Nat → Int32} {f e : Nat} {s s' : List Int32} (h : mW g f e s = true) (hd : s.length ≠ s'.length ∨ ∃ i, i < s.length ∧ i < s'.length ∧ s.getD i 0 ≠ s'.getD i 0) : mW g f e s' = false := by
  cases q : mW g f e s' with
  | false => rfl
  | true =>
    obtain ⟨a1, a2⟩ := mW_all h
    obtain ⟨b1, b2⟩ := mW_all q
    rcases hd with w | ⟨i, i1, i2, w⟩
    · exact absurd (a1.symm.trans b1) w
    · exact absurd ((a2 i i1).symm.trans (b2 i i2)) w
def dotK (g : Nat → Int32) (n : Nat) (fi : Int32) (o : Option zR × zQ) : Option (Int32 × zR) × zQ := match o with
  | (some v, q) => tk g n w_dot q fun q => (some (fi, v), q)
  | (none, q) => (none, q)
theorem dotK_if {g : Nat → Int32} {n : Nat} {fi : Int32} {c : Prop} [Decidable c] {a b : Option zR × zQ} : dotK g n fi (if c then a else b) = if c then dotK g n fi a else dotK g n fi b := by
  by_cases h : c
  · rw [if_pos h, if_pos h]
  · rw [if_neg h, if_neg h]
theorem dotK_tk {g : Nat → Int32} {n : Nat} {fi : Int32} {s : List Int32} {q : zQ} {k : zQ → Option zR × zQ} : dotK g n fi (tk g n s q k) = tk g n s q fun q => dotK g n fi (k q) := dotK_if
theorem dotK_tkN {g : Nat → Int32} {n : Nat} {fi u : Int32} {q : zQ} {k : Int32 → zQ → Option zR × zQ} : dotK g n fi (tkN g n u q k) = tkN g n u q fun a q => dotK g n fi (k a q) := dotK_if
theorem dotK_tkU {g : Nat → Int32} {n : Nat} {fi : Int32} {q : zQ} {k : Int32 → zQ → Option zR × zQ} : dotK g n fi (tkU g n q k) = tkU g n q fun a q => dotK g n fi (k a q) := dotK_if
theorem dotK_tkD {g : Nat → Int32} {n : Nat} {fi : Int32} {q : zQ} {k : Int32 → zQ → Option zR × zQ} : dotK g n fi (tkD g n q k) = tkD g n q fun a q => dotK g n fi (k a q) := by
  unfold tkD
  cases nmW g q.1 q.2 <;> rfl
theorem dotK_s {g : Nat → Int32} {n : Nat} {fi : Int32} {v : zR} {q : zQ} : dotK g n fi (some v, q) = tk g n w_dot q fun q => (some (fi, v), q) := rfl
theorem dotK_n {g : Nat → Int32} {n : Nat} {fi : Int32} {q : zQ} : dotK g n fi (none, q) = (none, q) := rfl
/-- 'times' is no unit -/
theorem tim_un {g : Nat → Int32} {q : zQ} (h : mW g q.1 q.2 w_times = true) : unF g q = -1 := by
  have h1 := (mW_all h).1
  unfold unF fnd
  rw [if_neg (fun w => absurd (w.symm.trans h1) (by decide))]
theorem has_eq {g : Nat → Int32} {n : Nat} {fi : Int32} {q : zQ} : dotK g n fi (sHas g n fi q) = mHas g n fi q := by
  unfold sHas mHas
  rw [dotK_tkD]
  congr 1
  funext a q
  rw [dotK_if, dotK_if, dotK_if]
  have c1 : ∀ so p, dotK g n fi (sCmp g n so a fi p) = mCmp g n so a fi p := fun so p => by
    unfold sCmp mCmp
    simp only [dotK_tkU, dotK_tk, dotK_tkN, dotK_s]
  have c3 : ∀ p, dotK g n fi (sTim g n a fi p) = mTim g n a fi p := fun p => by
    unfold sTim mTim
    simp only [dotK_tkU, dotK_tk, dotK_tkN, dotK_s]
  rw [c1, c1, c3, dotK_tkU]
  by_cases t : mW g q.1 q.2 w_times = true
  · by_cases a1 : 2 ≤ a ∧ a ≤ 9
    · rw [if_pos (show (2 ≤ a ∧ a ≤ 9) ∧ mW g q.1 q.2 w_times = true from ⟨a1, t⟩), if_pos t, if_pos a1]
    · rw [if_neg (show ¬ ((2 ≤ a ∧ a ≤ 9) ∧ mW g q.1 q.2 w_times = true) from fun w => a1 w.1), if_pos t, if_neg a1, tkU_f (fun w => w (tim_un t))]
  · rw [if_neg (show ¬ ((2 ≤ a ∧ a ≤ 9) ∧ mW g q.1 q.2 w_times = true) from fun w => t w.2), if_neg t]
    rfl
theorem vrb_eq {g : Nat → Int32} {n : Nat} {fi : Int32} {q : zQ} : dotK g n fi (sVrb g n fi q) = mVrb g n fi q := by
  unfold sVrb mVrb
  simp only [dotK_if, dotK_tkN, dotK_tk, dotK_tkD, dotK_tkU, dotK_s, dotK_n, has_eq]
  have pl : ∀ so p, dotK g n fi (sPl g n so p) = mPl g n so fi p := fun so p => by
    unfold sPl mPl
    simp only [dotK_tkD, dotK_tkU, dotK_s]
  rw [pl, pl]
  by_cases h : mW g q.1 q.2 w_has = true
  · rw [if_pos h, if_neg (show ¬ mW g q.1 q.2 w_and = true by rw [mW_ex h (by decide)]; decide), if_neg (show ¬ mW g q.1 q.2 w_gives = true by rw [mW_ex h (by decide)]; decide), if_neg (show ¬ mW g q.1 q.2 w_buys = true by rw [mW_ex h (by decide)]; decide), if_neg (show ¬ mW g q.1 q.2 w_eats = true by rw [mW_ex h (by decide)]; decide), tk_t h]
  · rw [if_neg h, tk_f (by simpa using h)]
theorem sen_eq {g : Nat → Int32} {n : Nat} {q : zQ} : sSen g n q = mSen g n q := by
  have e : sSen g n q = tkN g n (-1) q fun fi q => dotK g n fi (sVrb g n fi q) := by
    unfold sSen
    congr 1
  rw [e]
  unfold mSen
  congr 1
  funext fi q
  exact vrb_eq
