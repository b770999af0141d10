/-! THE PARSER over Java's bytes is the parser over the class's ints -/
theorem tB_lo : ∀ m, m < 128 → tB (nI m) = nI m := by decide +kernel
theorem tB_hi : ∀ m, m < 256 → ¬ m < 128 → tB (nI m) < 0 := by decide +kernel
theorem nI_hi : ∀ m, m < 256 → ¬ m < 128 → 127 < nI m := by decide +kernel
/-- a byte -/
def BY (b : Int32) : Prop := ∃ m, m < 256 ∧ b = nI m
theorem tB_cs {b : Int32} (h : BY b) : tB b = b ∨ (tB b < 0 ∧ 127 < b) := by
  obtain ⟨m, h1, rfl⟩ := h
  by_cases q : m < 128
  · exact Or.inl (tB_lo m q)
  · exact Or.inr ⟨tB_hi m h1 q, nI_hi m h1 q⟩
theorem i32l {a b : Int32} : (a < b ↔ a.toInt < b.toInt) ∧ (a ≤ b ↔ a.toInt ≤ b.toInt) ∧ (a = b ↔ a.toInt = b.toInt) := ⟨Int32.lt_iff_toInt_lt, Int32.le_iff_toInt_le, Int32.toInt_inj.symm⟩
theorem tB_eq {b c : Int32} (h : BY b) (hc : 0 ≤ c ∧ c ≤ 127) : (tB b = c) = (b = c) := by
  rcases tB_cs h with q | ⟨q1, q2⟩
  · rw [q]
  · rw [i32l.1] at q1 q2
    rw [i32l.2.1, i32l.2.1] at hc
    have e0 : (0 : Int32).toInt = 0 := rfl
    have e1 : (127 : Int32).toInt = 127 := rfl
    rw [e0] at q1 hc
    rw [e1] at q2 hc
    refine propext ⟨fun w => ?_, fun w => ?_⟩
    · rw [i32l.2.2] at w; omega
    · rw [i32l.2.2] at w; omega
theorem tB_rg {b lo hi : Int32} (h : BY b) (h1 : 0 ≤ lo) (h2 : hi ≤ 127) : (decide (lo ≤ tB b) && decide (tB b ≤ hi)) = (decide (lo ≤ b) && decide (b ≤ hi)) := by
  rcases tB_cs h with q | ⟨q1, q2⟩
  · rw [q]
  · rw [i32l.1] at q1 q2
    rw [i32l.2.1] at h1 h2
    have e0 : (0 : Int32).toInt = 0 := rfl
    have e1 : (127 : Int32).toInt = 127 := rfl
    rw [e0] at q1 h1
    rw [e1] at q2 h2
    rw [decide_eq_false (p := lo ≤ tB b) (fun w => by rw [i32l.2.1] at w; omega), decide_eq_false (p := b ≤ hi) (fun w => by rw [i32l.2.1] at w; omega), Bool.false_and, Bool.and_false]
section TBY
variable {g : Nat → Int32} (hb : ∀ j, BY (g j))
theorem tb_L (hb : ∀ j, BY (g j)) (j : Nat) : isL (tB (g j)) = isL (g j) := tB_rg (hb j) (by decide) (by decide)
theorem tb_D (hb : ∀ j, BY (g j)) (j : Nat) : isD (tB (g j)) = isD (g j) := tB_rg (hb j) (by decide) (by decide)
theorem tb_B (hb : ∀ j, BY (g j)) (j : Nat) : isB (tB (g j)) = isB (g j) := by
  unfold isB
  simp only [tB_eq (hb j) (c := 32) (by decide), tB_eq (hb j) (c := 10) (by decide)]
theorem tb_sk (hb : ∀ j, BY (g j)) : ∀ d i, skW (fun j => tB (g j)) d i = skW g d i
  | 0, _ => rfl
  | d + 1, i => by
    unfold skW
    rw [tb_sk hb d]
    simp only [tb_B hb]
theorem tb_rn (hb : ∀ j, BY (g j)) (a : Bool) : ∀ d i, rnW (fun j => tB (g j)) a d i = rnW g a d i
  | 0, _ => rfl
  | d + 1, i => by
    unfold rnW
    rw [tb_rn hb a d]
    simp only [tb_L hb, tb_D hb]
theorem tb_nx (hb : ∀ j, BY (g j)) (n : Nat) (q : zQ) : nx (fun j => tB (g j)) n q = nx g n q := by
  unfold nx nxF nxE skp wnd
  simp only [tb_sk hb, tb_rn hb, tb_L hb, tb_D hb]
/-- a text of the small signs -/
def okS (s : List Int32) : Prop := ∀ i, 0 ≤ s.getD i 0 ∧ s.getD i 0 ≤ 127
theorem okS_of {s : List Int32} (h : s.all (fun c => decide (0 ≤ c) && decide (c ≤ 127)) = true) : okS s := fun i => by
  rw [List.getD_eq_getElem?_getD]
  cases e : s[i]? with
  | none => exact ⟨by decide, by decide⟩
  | some c =>
    have := List.all_eq_true.mp h _ (List.mem_of_getElem? e)
    rw [Bool.and_eq_true, decide_eq_true_eq, decide_eq_true_eq] at this
    exact this
theorem tb_mt (hb : ∀ j, BY (g j)) {s : List Int32} (hs : okS s) (f o : Nat) : ∀ d j, mtc (fun j => tB (g j)) f s o d j = mtc g f s o d j
  | 0, _ => rfl
  | d + 1, j => by
    unfold mtc
    rw [tb_mt hb hs f o d]
    simp only [tB_eq (hb (f + j)) (hs (o + j))]
theorem tb_mW (hb : ∀ j, BY (g j)) {s : List Int32} (hs : s.all (fun c => decide (0 ≤ c) && decide (c ≤ 127)) = true) (f e : Nat) : mW (fun j => tB (g j)) f e s = mW g f e s := by
  unfold mW
  rw [tb_mt hb (okS_of hs)]
theorem tb_fw (hb : ∀ j, BY (g j)) {s : List Int32} (hs : okS s) (f k : Nat) : ∀ d i, fndW (fun j => tB (g j)) f s k d i = fndW g f s k d i
  | 0, _ => rfl
  | d + 1, i => by
    unfold fndW
    rw [tb_fw hb hs f k d, tb_mt hb hs]
theorem tb_nm (hb : ∀ j, BY (g j)) (q : zQ) : nmF (fun j => tB (g j)) q = nmF g q := by
  unfold nmF fnd
  rw [tb_fw hb (okS_of (by decide))]
theorem tb_un (hb : ∀ j, BY (g j)) (q : zQ) : unF (fun j => tB (g j)) q = unF g q := by
  unfold unF fnd
  rw [tb_fw hb (okS_of (by decide))]
theorem tb_dg (hb : ∀ j, BY (g j)) : ∀ d p a, dgW (fun j => tB (g j)) d p a = dgW g d p a
  | 0, _, _ => rfl
  | d + 1, p, a => by
    unfold dgW
    rw [tb_D hb]
    by_cases q : isD (g p) = true
    · rw [if_pos q, if_pos q]
      have e : tB (g p) = g p := by
        rcases tB_cs (hb p) with w | ⟨_, w⟩
        · exact w
        · exfalso
          unfold isD at q
          rw [Bool.and_eq_true, decide_eq_true_eq, decide_eq_true_eq] at q
          have q2 := q.2
          rw [i32l.1] at w
          rw [i32l.2.1] at q2
          have e1 : (127 : Int32).toInt = 127 := rfl
          have e2 : (57 : Int32).toInt = 57 := rfl
          omega
      rw [e, tb_dg hb d]
    · rw [if_neg q, if_neg q]
theorem tb_nw (hb : ∀ j, BY (g j)) (f e : Nat) : nmW (fun j => tB (g j)) f e = nmW g f e := by
  unfold nmW
  rw [tb_dg hb]
theorem tb_sen (hb : ∀ j, BY (g j)) (n : Nat) (q : zQ) : sSen (fun j => tB (g j)) n q = sSen g n q := by
  unfold sSen tkN sVrb sHas sCmp sTim sPl
  unfold tkN tkU tkD tk
  simp only [tb_nx hb, tb_nm hb, tb_un hb, tb_nw hb, tb_mW hb (s := w_has) (by decide), tb_mW hb (s := w_and) (by decide), tb_mW hb (s := w_have) (by decide), tb_mW hb (s := w_gives) (by decide), tb_mW hb (s := w_to) (by decide), tb_mW hb (s := w_buys) (by decide), tb_mW hb (s := w_eats) (by decide), tb_mW hb (s := w_dot) (by decide), tb_mW hb (s := w_more) (by decide), tb_mW hb (s := w_than) (by decide), tb_mW hb (s := w_fewer) (by decide), tb_mW hb (s := w_times) (by decide), tb_mW hb (s := w_as) (by decide), tb_mW hb (s := w_many) (by decide)]
theorem tb_ask (hb : ∀ j, BY (g j)) (n : Nat) (q : zQ) : sAsk (fun j => tB (g j)) n q = sAsk g n q := by
  unfold sAsk sSrt
  unfold tkN tkU tk
  simp only [tb_nx hb, tb_nm hb, tb_un hb, tb_mW hb (s := w_has) (by decide), tb_mW hb (s := w_and) (by decide), tb_mW hb (s := w_have) (by decide), tb_mW hb (s := w_had) (by decide), tb_mW hb (s := w_qm) (by decide), tb_mW hb (s := w_many) (by decide)]
theorem tb_prs (hb : ∀ j, BY (g j)) (n : Nat) : ∀ d k q p, prs (fun j => tB (g j)) n d k q p = prs g n d k q p
  | 0, k, q, p => by
    unfold prs prA
    rw [tb_mW hb (s := w_how) (by decide), tb_nx hb, tb_ask hb]
  | d + 1, k, q, p => by
    unfold prs prA
    rw [tb_mW hb (s := w_how) (by decide), tb_nx hb, tb_ask hb, tb_sen hb]
    rcases sSen g n q with ⟨_ | v, q'⟩
    · rfl
    · simp only [tb_prs hb n d]
theorem tb_prs0 (hb : ∀ j, BY (g j)) (n : Nat) : prs0 (fun j => tB (g j)) n = prs0 g n := by
  unfold prs0
  rw [tb_prs hb]
  unfold skp wnd
  simp only [tb_sk hb, tb_rn hb, tb_L hb, tb_D hb]
end TBY
