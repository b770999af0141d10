/-! THE WORDS: all good words of the tables; every method has them all -/
def zTbl : List Cond := lw_tbl.filter goodWord
theorem zmem {w : Cond} (i : Nat) (h : lw_tbl[i]? = some w) (g : goodWord w = true) : w ∈ zTbl := List.mem_filter.mpr ⟨List.mem_of_getElem? h, g⟩
theorem zgA : GoodIn zTbl zTbl := fun w h => ⟨h, good_of_word (List.mem_filter.mp h).2⟩
theorem zg1 {w : Cond} {ws : List Cond} (h : w ∈ zTbl) (g : GoodIn zTbl ws) : GoodIn zTbl (w :: ws) := fun x hx => by
  rcases List.mem_cons.mp hx with e | e
  · rw [e]; exact zgA w h
  · exact g x e
theorem zgI {y : MethodName} {b : ByteArray} {m : Nat} {r : Option FieldType} (h : Cond.code y b m r ∈ zTbl) : GoodIn zTbl (Cond.code y b m r :: zTbl) := zg1 h zgA
theorem zgS {own : String} {ix : Nat} {y : MethodName} {b : ByteArray} {m : Nat} {r : Option FieldType} (h1 : Cond.methodLink own ix y ∈ zTbl) (h2 : Cond.static y ∈ zTbl) (h3 : Cond.initialized y.cls ∈ zTbl) (h : Cond.code y b m r ∈ zTbl) : GoodIn zTbl (va_wsS own ix y (Cond.code y b m r :: zTbl)) := zg1 h1 (zg1 h2 (zg1 h3 (zgI h)))
theorem zgV {own C : String} {ix : Nat} {y : MethodName} {b : ByteArray} {m : Nat} {r : Option FieldType} (h1 : Cond.methodLink own ix y ∈ zTbl) (h2 : Cond.instanceMethod y ∈ zTbl) (h3 : Cond.selects C y y ∈ zTbl) (h4 : Cond.initialized C ∈ zTbl) (h : Cond.code y b m r ∈ zTbl) : GoodIn zTbl (wsV own ix C y (Cond.code y b m r :: zTbl)) := zg1 h1 (zg1 h2 (zg1 h3 (zg1 h4 (zgI h))))
theorem zws {C : String} {T : u_T} {N : Nat} (h : ∀ k, k < N → u_lay C T k ∈ zTbl) : ∀ w ∈ u_ws C T N, w ∈ zTbl := fun w hw => by
  obtain ⟨k, hk, rfl⟩ := List.mem_map.mp hw
  exact h k (List.mem_range.mp hk)
/-! THE MEMORY: what the cells hold, by address and place: ints, longs, references. A heap is a list of addresses, the kind and the length of each, and a memory. -/
abbrev zM : Type := (Nat → Nat → Int32) × (Nat → Nat → Int64) × (Nat → Nat → Option Nat)
abbrev zS : Type := List Nat × (Nat → Nat) × (Nat → Nat)
/-- classes' places, array classes, the addresses of the texts and of their bytes -/
abbrev zE : Type := va_G × (Nat → ClassId) × (Nat → Nat) × (Nat → Nat)
def zu {α : Type} (f : Nat → Nat → α) (a k : Nat) (v : α) : Nat → Nat → α := fun b j => if b = a ∧ j = k then v else f b j
def zr {α : Type} (f : Nat → Nat → α) (a : Nat) (g : Nat → α) : Nat → Nat → α := fun b j => if b = a then g j else f b j
theorem zu_s {α : Type} {f : Nat → Nat → α} {a k : Nat} {v : α} : zu f a k v a k = v := if_pos ⟨rfl, rfl⟩
theorem zu_k {α : Type} {f : Nat → Nat → α} {a b k j : Nat} {v : α} (h : j ≠ k) : zu f a k v b j = f b j := if_neg fun q => h q.2
theorem zu_a {α : Type} {f : Nat → Nat → α} {a b k j : Nat} {v : α} (h : b ≠ a) : zu f a k v b j = f b j := if_neg fun q => h q.1
theorem zr_s {α : Type} {f : Nat → Nat → α} {a : Nat} {g : Nat → α} : zr f a g a = g := funext fun _ => if_pos rfl
theorem zr_sk {α : Type} {f : Nat → Nat → α} {a k : Nat} {g : Nat → α} : zr f a g a k = g k := if_pos rfl
theorem zr_a {α : Type} {f : Nat → Nat → α} {a b : Nat} {g : Nat → α} (h : b ≠ a) : zr f a g b = f b := funext fun _ => if_neg h
theorem zr_ak {α : Type} {f : Nat → Nat → α} {a b k : Nat} {g : Nat → α} (h : b ≠ a) : zr f a g b k = f b k := if_neg h
theorem zr_id {α : Type} {f : Nat → Nat → α} {a : Nat} : zr f a (f a) = f := funext fun b => by
  by_cases h : b = a
  · subst h; exact zr_s
  · exact zr_a h
theorem zr_zr {α : Type} {f : Nat → Nat → α} {a : Nat} {g h : Nat → α} : zr (zr f a g) a h = zr f a h := funext fun b => funext fun j => by
  by_cases q : b = a <;> simp [zr, q]
theorem zu_zr {α : Type} {f : Nat → Nat → α} {a k : Nat} {v : α} {g : Nat → α} : zu (zr f a g) a k v = zr f a (fun j => if j = k then v else g j) := funext fun b => funext fun j => by
  by_cases q : b = a <;> by_cases w : j = k <;> simp [zr, zu, q, w]
theorem zu_as {α : Type} {f : Nat → Nat → α} {a k : Nat} {v : α} : zu f a k v = zr f a (fun j => if j = k then v else f a j) := funext fun b => funext fun j => by
  by_cases q : b = a <;> by_cases w : j = k <;> simp [zr, zu, q, w]
theorem zr_zu {α : Type} {f : Nat → Nat → α} {a k : Nat} {v : α} {g : Nat → α} : zr (zu f a k v) a g = zr f a g := funext fun b => funext fun j => by
  by_cases q : b = a <;> simp [zr, zu, q]
theorem zu_zu {α : Type} {f : Nat → Nat → α} {a k : Nat} {v w : α} : zu (zu f a k v) a k w = zu f a k w := funext fun b => funext fun j => by
  by_cases q : b = a ∧ j = k <;> simp [zu, q]
theorem zu_self {α : Type} {f : Nat → Nat → α} {a k : Nat} : zu f a k (f a k) = f := funext fun b => funext fun j => by
  by_cases q : b = a ∧ j = k
  · simp [zu, q]
  · simp [zu, q]
theorem zu_cm {α : Type} {f : Nat → Nat → α} {a b k j : Nat} {v w : α} (h : k ≠ j) : zu (zu f a k v) b j w = zu (zu f b j w) a k v := funext fun c => funext fun i => by
  by_cases q : c = a ∧ i = k <;> by_cases r : c = b ∧ i = j
  · exact absurd (q.2.symm.trans r.2) h
  · simp [zu, q, r, h]
  · simp [zu, q, r, Ne.symm h]
  · simp [zu, q, r]
theorem zu_ca {α : Type} {f : Nat → Nat → α} {a b k j : Nat} {v w : α} (h : a ≠ b) : zu (zu f a k v) b j w = zu (zu f b j w) a k v := funext fun c => funext fun i => by
  by_cases q : c = a ∧ i = k <;> by_cases r : c = b ∧ i = j
  · exact absurd (q.1.symm.trans r.1) h
  · simp [zu, q, r, h]
  · simp [zu, q, r, Ne.symm h]
  · simp [zu, q, r]
/-- the kinds of a class's fields: 0 int, 1 long, 2 reference -/
def zk : Nat → List Nat
  | 0 => [2, 2, 0]
  | 1 => [2, 2]
  | 2 => [2]
  | 3 => [2, 2, 0, 0, 0, 0]
  | 4 => [2, 2, 2, 2, 2, 2, 2, 2, 2, 0, 1, 1, 0, 0]
  | 5 => [2, 0, 0, 0]
  | 6 => [2, 2, 2, 2, 2, 2]
  | 7 => [0, 2, 0, 2, 2, 2, 2, 0, 0, 0, 2, 2, 0, 0, 0, 0, 0, 0, 0, 0, 0, 2, 2, 2, 0, 1, 1]
  | _ => []
def zval (μ : zM) (a t k : Nat) : Value := if t = 0 then .int (μ.1 a k) else if t = 1 then .long (μ.2.1 a k) else va_rf (μ.2.2 a k)
def zf (μ : zM) (a : Nat) : List Nat → Nat → List Value
  | [], _ => []
  | t :: ts, k => zval μ a t k :: zf μ a ts (k + 1)
theorem zf_len (μ : zM) (a : Nat) : ∀ (ts : List Nat) (k : Nat), (zf μ a ts k).length = ts.length
  | [], _ => rfl
  | _ :: ts, k => congrArg (· + 1) (zf_len μ a ts (k + 1))
theorem zf_get (μ : zM) (a : Nat) : ∀ (ts : List Nat) (k j t : Nat), ts[j]? = some t → (zf μ a ts k)[j]? = some (zval μ a t (k + j))
  | [], _, _, _, h => by simp at h
  | t0 :: ts, k, 0, t, h => by
    have e : t0 = t := by simpa using h
    subst e
    rfl
  | t0 :: ts, k, j + 1, t, h => by
    have e : ts[j]? = some t := by simpa using h
    have := zf_get μ a ts (k + 1) j t e
    show (zf μ a ts (k + 1))[j]? = _
    rw [this, show k + 1 + j = k + (j + 1) by omega]
theorem zf_set (μ ν : zM) (a : Nat) (v : Value) : ∀ (ts : List Nat) (k j t : Nat), ts[j]? = some t → zval ν a t (k + j) = v → (∀ i u : Nat, i ≠ k + j → zval ν a u i = zval μ a u i) → (zf μ a ts k).set j v = zf ν a ts k
  | [], _, _, _, h, _, _ => by simp at h
  | t0 :: ts, k, 0, t, h, hv, ho => by
    have e : t0 = t := by simpa using h
    subst e
    show v :: zf μ a ts (k + 1) = zval ν a t0 k :: zf ν a ts (k + 1)
    rw [← hv]
    congr 1
    have : ∀ (ts : List Nat) (i : Nat), k < i → zf μ a ts i = zf ν a ts i := by
      intro ts
      induction ts with
      | nil => intro i _; rfl
      | cons u us ih =>
        intro i hi
        show zval μ a u i :: _ = zval ν a u i :: _
        rw [ho i u (by omega), ih (i + 1) (by omega)]
    exact this ts (k + 1) (by omega)
  | t0 :: ts, k, j + 1, t, h, hv, ho => by
    have e : ts[j]? = some t := by simpa using h
    show zval μ a t0 k :: (zf μ a ts (k + 1)).set j v = zval ν a t0 k :: zf ν a ts (k + 1)
    rw [ho k t0 (by omega), zf_set μ ν a v ts (k + 1) j t e (by rw [show k + 1 + j = k + (j + 1) by omega]; exact hv) (fun i u hi => ho i u (by omega))]
/-- the cell at an address -/
def zc (Y : Nat → ClassId) (K N : Nat → Nat) (μ : zM) (a : Nat) : va_E :=
  if K a < 8 then .inr (K a, zf μ a (zk (K a)) 0) else .inl (Y (K a - 8), N a, if K a = 10 then .inr (.inl (μ.2.1 a)) else if K a < 12 then .inl (μ.1 a) else .inr (.inr (.inr (.inr (μ.2.2 a)))))
def zW (E : zE) (S : zS) (μ : zM) : va_W := va_pl S.1 (zc E.2.1 S.2.1 S.2.2 μ)
def zT (E : zE) : List (ClassId × FieldType) := [(E.2.1 0, .byte), (E.2.1 1, .int), (E.2.1 2, .long), (E.2.1 3, .boolean), (E.2.1 4, .object "TaleSums$Laws"), (E.2.1 5, .array .int), (E.2.1 6, .array .long)]
/-- an object of the class ci, an array of the kind k with n places -/
def zO (S : zS) (a ci : Nat) : Prop := a ∈ S.1 ∧ S.2.1 a = ci
def zA (S : zS) (a k n : Nat) : Prop := a ∈ S.1 ∧ S.2.1 a = k ∧ S.2.2 a = n
theorem zc_o {Y : Nat → ClassId} {K N : Nat → Nat} {μ : zM} {a ci : Nat} (h : K a = ci) (h8 : ci < 8) : zc Y K N μ a = .inr (ci, zf μ a (zk ci) 0) := by
  unfold zc; rw [h, if_pos h8]
theorem zc_i {Y : Nat → ClassId} {K N : Nat → Nat} {μ : zM} {a k n : Nat} (h : K a = k) (hn : N a = n) (h8 : ¬ k < 8) (h10 : k ≠ 10) (h12 : k < 12) : zc Y K N μ a = .inl (Y (k - 8), n, .inl (μ.1 a)) := by
  unfold zc; rw [h, hn, if_neg h8, if_neg h10, if_pos h12]
theorem zc_j {Y : Nat → ClassId} {K N : Nat → Nat} {μ : zM} {a n : Nat} (h : K a = 10) (hn : N a = n) : zc Y K N μ a = .inl (Y 2, n, .inr (.inl (μ.2.1 a))) := by
  unfold zc; rw [h, hn, if_neg (by decide), if_pos rfl]
theorem zc_r {Y : Nat → ClassId} {K N : Nat → Nat} {μ : zM} {a k n : Nat} (h : K a = k) (hn : N a = n) (h12 : 12 ≤ k) : zc Y K N μ a = .inl (Y (k - 8), n, .inr (.inr (.inr (.inr (μ.2.2 a))))) := by
  unfold zc; rw [h, hn, if_neg (by omega), if_neg (by omega), if_neg (by omega)]
theorem zW_at {E : zE} {S : zS} {μ : zM} {a : Nat} {x : va_E} (h : a ∈ S.1) (e : zc E.2.1 S.2.1 S.2.2 μ a = x) : ∃ k : Nat, (zW E S μ)[k]? = some (a, zc E.2.1 S.2.1 S.2.2 μ a) ∧ (zW E S μ)[k]? = some (a, x) := by
  obtain ⟨k, hk⟩ := va_pl_get (X := []) (f := zc E.2.1 S.2.1 S.2.2 μ) h
  exact ⟨k, hk, by rw [← e]; exact hk⟩
theorem zW_set {E : zE} {S : zS} {μ ν : zM} {A : Nat → Prop} {a k : Nat} {x : va_E} (hD : va_D A (zW E S μ)) (h : a ∈ S.1) (hk : (zW E S μ)[k]? = some (a, zc E.2.1 S.2.1 S.2.2 μ a)) (e : zc E.2.1 S.2.1 S.2.2 ν a = x) (ho : ∀ b, b ≠ a → zc E.2.1 S.2.1 S.2.2 ν b = zc E.2.1 S.2.1 S.2.2 μ b) : (zW E S μ).set k (a, x) = zW E S ν := by
  have h1 := va_pl_set (X := []) (L := S.1) (f := zc E.2.1 S.2.1 S.2.2 μ) (e := x) hD h hk
  show ([] ++ va_pl S.1 (zc E.2.1 S.2.1 S.2.2 μ)).set k (a, x) = va_pl S.1 (zc E.2.1 S.2.1 S.2.2 ν)
  rw [h1]
  refine va_pl_congr fun b => ?_
  by_cases q : b = a
  · subst q; rw [e]; simp [va_up]
  · rw [ho b q]; simp [va_up, q]
theorem zf_congr {μ ν : zM} {a : Nat} (h : ∀ t k, zval μ a t k = zval ν a t k) : ∀ (ts : List Nat) (k : Nat), zf μ a ts k = zf ν a ts k
  | [], _ => rfl
  | t :: ts, k => by show _ :: _ = _ :: _; rw [h t k, zf_congr h ts (k + 1)]
theorem zc_congr {Y : Nat → ClassId} {K N : Nat → Nat} {μ ν : zM} {b : Nat} (h1 : μ.1 b = ν.1 b) (h2 : μ.2.1 b = ν.2.1 b) (h3 : μ.2.2 b = ν.2.2 b) : zc Y K N μ b = zc Y K N ν b := by
  unfold zc
  rw [h1, h2, h3, zf_congr (μ := μ) (ν := ν) (fun t k => by unfold zval; rw [h1, h2, h3])]
theorem zu_o {α : Type} {f : Nat → Nat → α} {a b k : Nat} {v : α} (h : b ≠ a) : zu f a k v b = f b := funext fun _ => zu_a h
/-! THE TEXTS: every literal of the program by its place: class, entry, text, bytes -/
def zlits : List (String × Nat × String) := [("TaleSums$Reader", 25, "how"), ("TaleSums$Reader", 54, "has"), ("TaleSums$Reader", 60, "and"), ("TaleSums$Reader", 65, "have"), ("TaleSums$Reader", 70, "gives"), ("TaleSums$Reader", 72, "to"), ("TaleSums$Reader", 74, "buys"), ("TaleSums$Reader", 76, "eats"), ("TaleSums$Reader", 78, "."), ("TaleSums$Reader", 89, "more"), ("TaleSums$Reader", 94, "than"), ("TaleSums$Reader", 96, "fewer"), ("TaleSums$Reader", 98, "times"), ("TaleSums$Reader", 100, "as"), ("TaleSums$Reader", 102, "many"), ("TaleSums$Reader", 110, "?"), ("TaleSums$Reader", 116, "had"), ("TaleSums$Tape", 47, "annbobcatdanevefaygushal"), ("TaleSums$Tape", 49, "nutsfigspieseggs"), ("TaleSumsModel", 86, "ann"), ("TaleSumsModel", 88, "bob"), ("TaleSumsModel", 90, "cat"), ("TaleSumsModel", 92, "dan"), ("TaleSumsModel", 98, "eve"), ("TaleSumsModel", 100, "fay"), ("TaleSumsModel", 102, "gus"), ("TaleSumsModel", 104, "hal"), ("TaleSumsModel", 106, "nuts"), ("TaleSumsModel", 108, "figs"), ("TaleSumsModel", 110, "pies"), ("TaleSumsModel", 112, "eggs"), ("TaleSumsModel", 139, "and"), ("TaleSumsModel", 147, "have"), ("TaleSumsModel", 156, "."), ("TaleSumsModel", 158, "gives"), ("TaleSumsModel", 160, "to"), ("TaleSumsModel", 162, "buys"), ("TaleSumsModel", 164, "eats"), ("TaleSumsModel", 166, "has"), ("TaleSumsModel", 168, "more"), ("TaleSumsModel", 170, "fewer"), ("TaleSumsModel", 172, "than"), ("TaleSumsModel", 174, "times"), ("TaleSumsModel", 180, "as"), ("TaleSumsModel", 182, "many"), ("TaleSumsModel", 184, "how"), ("TaleSumsModel", 186, "had"), ("TaleSumsModel", 188, "?")]
def zlN : Nat := 48
def zlO (i : Nat) : String := (zlits.getD i ("", 0, "")).1
def zlK (i : Nat) : Nat := (zlits.getD i ("", 0, "")).2.1
def zlT (i : Nat) : String := (zlits.getD i ("", 0, "")).2.2
def zsB : List (List Int32) := [[104, 111, 119], [104, 97, 115], [97, 110, 100], [104, 97, 118, 101], [103, 105, 118, 101, 115], [116, 111], [98, 117, 121, 115], [101, 97, 116, 115], [46], [109, 111, 114, 101], [116, 104, 97, 110], [102, 101, 119, 101, 114], [116, 105, 109, 101, 115], [97, 115], [109, 97, 110, 121], [63], [104, 97, 100], [97, 110, 110, 98, 111, 98, 99, 97, 116, 100, 97, 110, 101, 118, 101, 102, 97, 121, 103, 117, 115, 104, 97, 108], [110, 117, 116, 115, 102, 105, 103, 115, 112, 105, 101, 115, 101, 103, 103, 115], [97, 110, 110], [98, 111, 98], [99, 97, 116], [100, 97, 110], [101, 118, 101], [102, 97, 121], [103, 117, 115], [104, 97, 108], [110, 117, 116, 115], [102, 105, 103, 115], [112, 105, 101, 115], [101, 103, 103, 115], [97, 110, 100], [104, 97, 118, 101], [46], [103, 105, 118, 101, 115], [116, 111], [98, 117, 121, 115], [101, 97, 116, 115], [104, 97, 115], [109, 111, 114, 101], [102, 101, 119, 101, 114], [116, 104, 97, 110], [116, 105, 109, 101, 115], [97, 115], [109, 97, 110, 121], [104, 111, 119], [104, 97, 100], [63]]
def zsb (i : Nat) : List Int32 := zsB.getD i []
/-- the text i, as an object that nothing here writes -/
def zs1 (E : zE) (A : Nat → Prop) (U : State) (H : Heap) (i : Nat) : Prop := va_O "java/lang/String" (E.2.2.1 i) A U H ∧ va_OF "java/lang/String" "coder" "B" (.int 0) (E.2.2.1 i) A U H ∧ va_OF "java/lang/String" "value" "[B" (.ref (E.2.2.2 i)) (E.2.2.1 i) A U H ∧ va_T .byte (E.2.2.2 i) (zsb i).length (fun j => .int ((zsb i).getD j 0)) A U H
theorem zs1_moved {E : zE} {A : Nat → Prop} {u U : State} {H : Heap} {i : Nat} (hvm : u.vm.Alike U.vm) (h : zs1 E A u H i) : zs1 E A U H i := ⟨va_O.moved hvm h.1, va_OF.moved hvm h.2.1, va_OF.moved hvm h.2.2.1, va_T.moved hvm h.2.2.2⟩
theorem zs1_kept {E : zE} {A : Nat → Prop} {U : State} {H H1 : Heap} {i : Nat} (hq : ∀ a : Nat, a < H.size → ¬ A a → H1[a]? = H[a]?) (h : zs1 E A U H i) : zs1 E A U H1 i := ⟨h.1.kept hq, h.2.1.kept hq, h.2.2.1.kept hq, h.2.2.2.kept hq⟩
theorem zs1_narrow {E : zE} {A B : Nat → Prop} {U : State} {H : Heap} {i : Nat} (hAB : ∀ q, B q → A q) (h : zs1 E A U H i) : zs1 E B U H i := ⟨h.1.narrow hAB, h.2.1.narrow hAB, h.2.2.1.narrow hAB, h.2.2.2.narrow hAB⟩
/-- the two statics of the JDK that are read -/
def zs2 (E : zE) (A : Nat → Prop) (U : State) (H : Heap) : Prop := va_Z "java/lang/String" "COMPACT_STRINGS" "Z" (.int 1) A U H ∧ va_Zq "jdk/internal/util/Preconditions" "SIOOBE_FORMATTER" "Ljava/util/function/BiFunction;" A U H
def zX (E : zE) (A : Nat → Prop) (U : State) : Prop := (∀ i : Nat, i < zlN → zs1 E A U U.heap i) ∧ (∀ i : Nat, i < zlN → vk_R (zlO i) (zlK i) (zlT i) (E.2.2.1 i) U) ∧ zs2 E A U U.heap
/-- a method's fixed things: program, launch, env, room, start, method, args, frames below, its code, the end that is wanted, the free addresses, its locals -/
abbrev zC : Type := Program × Launch × Env × Room × State × MethodId × Array Value × List Frame × Method × Code × (State → Prop) × (Nat → Prop) × Nat
def zV (X : zC) (E : zE) (S : zS) (kc ks : Nat) (μ : zM) (pc : Nat) (lv : List (Nat × Value)) (st : List Value) : Prop :=
  ∀ (H : Heap) (locs : List Loc) (ls : Array Slot), va_P E.1 vwCl (zW E S μ) H → va_D X.2.2.2.2.2.2.2.2.2.2.2.1 (zW E S μ) → va_S X.2.2.2.2.2.2.2.2.2.2.2.1 X.2.2.2.2.1.heap H locs → lv_has ls X.2.2.2.2.2.2.2.2.2.2.2.2 lv →
    W X.1 X.2.1 X.2.2.1 X.2.2.2.1 X.2.2.2.2.1 X.2.2.2.2.2.1 X.2.2.2.2.2.2.1 X.2.2.2.2.2.2.2.1 X.2.2.2.2.2.2.2.2.1 X.2.2.2.2.2.2.2.2.2.1 H locs kc ks X.2.2.2.2.2.2.2.2.2.2.1 (F0 X.2.2.2.2.2.1 pc ls st)
/-- what holds of them all through the method -/
def zOK (X : zC) (E : zE) (l : Launch) (cc : ByteArray) (own : String) (Ts : List Cond) (rm : Room) (nL : Nat) : Prop :=
  X.1.tables.exec = Jvm.exec ∧ X.2.2.2.2.2.2.2.2.2.1.code = cc ∧ X.2.2.2.2.2.2.2.2.2.1.maxLocals = nL ∧ X.2.2.2.2.1.vm.findClass own = some X.2.2.2.2.2.1.cls ∧ (∀ w ∈ Ts, w.before X.2.2.2.2.2.2.1 X.2.2.2.2.1 = true) ∧ va_K E.1 vwCl (zT E) X.2.2.2.2.1 ∧ (∀ q, X.2.2.2.2.1.heap.size ≤ q → X.2.2.2.2.2.2.2.2.2.2.2.1 q) ∧ zX E X.2.2.2.2.2.2.2.2.2.2.2.1 X.2.2.2.2.1 ∧ X.2.1 = l ∧ X.2.2.2.1 = rm ∧ X.2.2.2.2.2.2.2.2.2.2.2.2 = nL
def lvg : List (Nat × Value) → Nat → Option Value
  | [], _ => none
  | q :: r, i => match Nat.beq q.1 i with
    | true => some q.2
    | false => lvg r i
theorem lvg_has {ls : Array Slot} {n : Nat} : ∀ {lv : List (Nat × Value)} {i : Nat} {v : Value}, lv_has ls n lv → lvg lv i = some v → ls[i]? = some (.val v) := by
  intro lv
  induction lv with
  | nil => intro i v _ h; simp [lvg] at h
  | cons q r ih =>
    intro i v h1 h
    unfold lvg at h
    cases e : Nat.beq q.1 i with
    | true =>
      rw [e] at h
      have h2 : q.2 = v := by simpa using h
      have h3 := Nat.eq_of_beq_eq_true e
      have h4 := h1.2.2 q List.mem_cons_self
      rw [h3, h2] at h4
      exact h4
    | false =>
      rw [e] at h
      exact ih ⟨h1.1, h1.2.1, fun q hq => h1.2.2 q (List.mem_cons_of_mem _ hq)⟩ h
def lvsub (lv : List (Nat × Value)) : List (Nat × Value) → Prop
  | [] => True
  | q :: r => lvg lv q.1 = some q.2 ∧ lvsub lv r
theorem lvsub_has {ls : Array Slot} {n : Nat} {lv : List (Nat × Value)} (h : lv_has ls n lv) : ∀ {lv' : List (Nat × Value)}, lvsub lv lv' → lv_has ls n lv' := by
  intro lv' hs
  refine ⟨h.1, h.2.1, ?_⟩
  induction lv' with
  | nil => intro q hq; simp at hq
  | cons q r ih =>
    intro x hx
    rcases List.mem_cons.mp hx with e | e
    · rw [e]; exact lvg_has h hs.1
    · exact ih hs.2 x e
abbrev lvs1 (lv : List (Nat × Value)) (i : Nat) (v : Value) : List (Nat × Value) := (i, v) :: lv.filter (fun q => !(q.1 == i) && !(q.1 + 1 == i && q.2.category == 2))
abbrev lvs2 (lv : List (Nat × Value)) (i : Nat) (v : Value) : List (Nat × Value) := (i, v) :: lv.filter (fun q => !(q.1 == i) && (!(q.1 == i + 1) && !(q.1 + 1 == i && q.2.category == 2)))
section ZV
variable {X : zC} {E : zE} {S : zS} {kc ks : Nat} {μ : zM} {pc : Nat} {lv : List (Nat × Value)} {st : List Value} {l : Launch} {cc : ByteArray} {own : String} {Ts : List Cond} {rm : Room} {nL : Nat}
theorem z_mem {ν : zM} (e : μ = ν) (k : zV X E S kc ks ν pc lv st) : zV X E S kc ks μ pc lv st := e ▸ k
theorem z_st {st' : List Value} (e : st = st') (k : zV X E S kc ks μ pc lv st') : zV X E S kc ks μ pc lv st := e ▸ k
theorem z_lv {lv' : List (Nat × Value)} (hs : lvsub lv lv') (k : zV X E S kc ks μ pc lv' st) : zV X E S kc ks μ pc lv st := fun H locs ls hP hD hS hl => k H locs ls hP hD hS (lvsub_has hl hs)
theorem z_wide {kc' ks' : Nat} (h1 : kc ≤ kc') (h2 : ks ≤ ks') (k : zV X E S kc' ks' μ pc lv st) : zV X E S kc ks μ pc lv st := fun H locs ls hP hD hS hl => W.widen h1 h2 (k H locs ls hP hD hS hl)
theorem z_iconst (h : zOK X E l cc own Ts rm nL) {n : Int} {v : Int32} (hd : decode cc pc = .ok (.iconst n, 1)) (hv : Int32.ofInt n = v) (k : zV X E S kc ks μ (pc + 1) lv (.int v :: st)) : zV X E S kc ks μ pc lv (st) := fun H locs ls hP hD hS hl => lv_iconst h.1 h.2.1 hd hv (k H locs ls hP hD hS hl)
theorem z_bipush (h : zOK X E l cc own Ts rm nL) {n : Int} {v : Int32} (hd : decode cc pc = .ok (.bipush n, 2)) (hv : (Int8.ofInt n).toInt32 = v) (k : zV X E S kc ks μ (pc + 2) lv (.int v :: st)) : zV X E S kc ks μ pc lv (st) := fun H locs ls hP hD hS hl => lv_bipush h.1 h.2.1 hd hv (k H locs ls hP hD hS hl)
theorem z_sipush (h : zOK X E l cc own Ts rm nL) {n : Int} {v : Int32} (hd : decode cc pc = .ok (.sipush n, 3)) (hv : (Int16.ofInt n).toInt32 = v) (k : zV X E S kc ks μ (pc + 3) lv (.int v :: st)) : zV X E S kc ks μ pc lv (st) := fun H locs ls hP hD hS hl => lv_sipush h.1 h.2.1 hd hv (k H locs ls hP hD hS hl)
theorem z_lconst (h : zOK X E l cc own Ts rm nL) {n : Fin 2} {v : Int64} (hd : decode cc pc = .ok (.lconst n, 1)) (hv : Int64.ofNat (n : Nat) = v) (k : zV X E S kc ks μ (pc + 1) lv (.long v :: st)) : zV X E S kc ks μ pc lv (st) := fun H locs ls hP hD hS hl => lv_lconst h.1 h.2.1 hd hv (k H locs ls hP hD hS hl)
theorem z_iload_n (h : zOK X E l cc own Ts rm nL) {j : Fin 4} {i : Nat} {x : Int32} (hd : decode cc pc = .ok (.iload_n j, 1)) (hi : (j : Nat) = i) (hv : lvg lv i = some (.int x)) (k : zV X E S kc ks μ (pc + 1) lv (.int x :: st)) : zV X E S kc ks μ pc lv (st) := fun H locs ls hP hD hS hl => lv_iload_n h.1 h.2.1 hd hi (lvg_has hl hv) (k H locs ls hP hD hS hl)
theorem z_iload (h : zOK X E l cc own Ts rm nL) {i : Nat} {x : Int32} (hd : decode cc pc = .ok (.iload i, 2)) (hv : lvg lv i = some (.int x)) (k : zV X E S kc ks μ (pc + 2) lv (.int x :: st)) : zV X E S kc ks μ pc lv (st) := fun H locs ls hP hD hS hl => lv_iload h.1 h.2.1 hd (lvg_has hl hv) (k H locs ls hP hD hS hl)
theorem z_istore_n (h : zOK X E l cc own Ts rm nL) {j : Fin 4} {i : Nat} {x : Int32} (hd : decode cc pc = .ok (.istore_n j, 1)) (hi : (j : Nat) = i) (hn : i < nL) (k : zV X E S kc ks μ (pc + 1) (lvs1 lv i (.int x)) st) : zV X E S kc ks μ pc lv (.int x :: st) := fun H locs ls hP hD hS hl => lv_istore_n h.1 h.2.1 hd hi hl (by rw [h.2.2.2.2.2.2.2.2.2.2]; exact hn) rfl (fun ls' hl' => k H locs ls' hP hD hS hl')
theorem z_istore (h : zOK X E l cc own Ts rm nL) {i : Nat} {x : Int32} (hd : decode cc pc = .ok (.istore i, 2)) (hn : i < nL) (k : zV X E S kc ks μ (pc + 2) (lvs1 lv i (.int x)) st) : zV X E S kc ks μ pc lv (.int x :: st) := fun H locs ls hP hD hS hl => lv_istore h.1 h.2.1 hd hl (by rw [h.2.2.2.2.2.2.2.2.2.2]; exact hn) rfl (fun ls' hl' => k H locs ls' hP hD hS hl')
theorem z_lload_n (h : zOK X E l cc own Ts rm nL) {j : Fin 4} {i : Nat} {x : Int64} (hd : decode cc pc = .ok (.lload_n j, 1)) (hi : (j : Nat) = i) (hv : lvg lv i = some (.long x)) (k : zV X E S kc ks μ (pc + 1) lv (.long x :: st)) : zV X E S kc ks μ pc lv (st) := fun H locs ls hP hD hS hl => lv_lload_n h.1 h.2.1 hd hi (lvg_has hl hv) (k H locs ls hP hD hS hl)
theorem z_lload (h : zOK X E l cc own Ts rm nL) {i : Nat} {x : Int64} (hd : decode cc pc = .ok (.lload i, 2)) (hv : lvg lv i = some (.long x)) (k : zV X E S kc ks μ (pc + 2) lv (.long x :: st)) : zV X E S kc ks μ pc lv (st) := fun H locs ls hP hD hS hl => lv_lload h.1 h.2.1 hd (lvg_has hl hv) (k H locs ls hP hD hS hl)
theorem z_lstore_n (h : zOK X E l cc own Ts rm nL) {j : Fin 4} {i : Nat} {x : Int64} (hd : decode cc pc = .ok (.lstore_n j, 1)) (hi : (j : Nat) = i) (hn : i + 1 < nL) (k : zV X E S kc ks μ (pc + 1) (lvs2 lv i (.long x)) st) : zV X E S kc ks μ pc lv (.long x :: st) := fun H locs ls hP hD hS hl => lv_lstore_n h.1 h.2.1 hd hi hl (by rw [h.2.2.2.2.2.2.2.2.2.2]; exact hn) rfl (fun ls' hl' => k H locs ls' hP hD hS hl')
theorem z_lstore (h : zOK X E l cc own Ts rm nL) {i : Nat} {x : Int64} (hd : decode cc pc = .ok (.lstore i, 2)) (hn : i + 1 < nL) (k : zV X E S kc ks μ (pc + 2) (lvs2 lv i (.long x)) st) : zV X E S kc ks μ pc lv (.long x :: st) := fun H locs ls hP hD hS hl => lv_lstore h.1 h.2.1 hd hl (by rw [h.2.2.2.2.2.2.2.2.2.2]; exact hn) rfl (fun ls' hl' => k H locs ls' hP hD hS hl')
theorem z_aload_n (h : zOK X E l cc own Ts rm nL) {j : Fin 4} {i : Nat} {x : Nat} (hd : decode cc pc = .ok (.aload_n j, 1)) (hi : (j : Nat) = i) (hv : lvg lv i = some (.ref x)) (k : zV X E S kc ks μ (pc + 1) lv (.ref x :: st)) : zV X E S kc ks μ pc lv (st) := fun H locs ls hP hD hS hl => lv_aload_n h.1 h.2.1 hd hi (lvg_has hl hv) (k H locs ls hP hD hS hl)
theorem z_aload (h : zOK X E l cc own Ts rm nL) {i : Nat} {x : Nat} (hd : decode cc pc = .ok (.aload i, 2)) (hv : lvg lv i = some (.ref x)) (k : zV X E S kc ks μ (pc + 2) lv (.ref x :: st)) : zV X E S kc ks μ pc lv (st) := fun H locs ls hP hD hS hl => lv_aload h.1 h.2.1 hd (lvg_has hl hv) (k H locs ls hP hD hS hl)
theorem z_astore_n (h : zOK X E l cc own Ts rm nL) {j : Fin 4} {i : Nat} {x : Nat} (hd : decode cc pc = .ok (.astore_n j, 1)) (hi : (j : Nat) = i) (hn : i < nL) (k : zV X E S kc ks μ (pc + 1) (lvs1 lv i (.ref x)) st) : zV X E S kc ks μ pc lv (.ref x :: st) := fun H locs ls hP hD hS hl => lv_astore_n h.1 h.2.1 hd hi hl (by rw [h.2.2.2.2.2.2.2.2.2.2]; exact hn) rfl (fun ls' hl' => k H locs ls' hP hD hS hl')
theorem z_astore (h : zOK X E l cc own Ts rm nL) {i : Nat} {x : Nat} (hd : decode cc pc = .ok (.astore i, 2)) (hn : i < nL) (k : zV X E S kc ks μ (pc + 2) (lvs1 lv i (.ref x)) st) : zV X E S kc ks μ pc lv (.ref x :: st) := fun H locs ls hP hD hS hl => lv_astore h.1 h.2.1 hd hl (by rw [h.2.2.2.2.2.2.2.2.2.2]; exact hn) rfl (fun ls' hl' => k H locs ls' hP hD hS hl')
theorem lvg_pos : ∀ {lv : List (Nat × Value)} {i : Nat} {v : Value}, lvg lv i = some v → ∃ k : Nat, lv[k]? = some (i, v) := by
  intro lv
  induction lv with
  | nil => intro i v h; simp [lvg] at h
  | cons q r ih =>
    intro i v h
    unfold lvg at h
    cases e : Nat.beq q.1 i with
    | true =>
      rw [e] at h
      have h2 : q.2 = v := by simpa using h
      have h3 := Nat.eq_of_beq_eq_true e
      exact ⟨0, by rw [← h3, ← h2]; rfl⟩
    | false =>
      rw [e] at h
      obtain ⟨k, hk⟩ := ih h
      exact ⟨k + 1, hk⟩
theorem z_iinc (h : zOK X E l cc own Ts rm nL) {i : Nat} {n : Int} {x v : Int32} (hd : decode cc pc = .ok (.iinc i n, 3)) (hx : lvg lv i = some (.int x)) (hv : x + Int32.ofInt n = v) (hn : i < nL) (k : zV X E S kc ks μ (pc + 3) (lvs1 lv i (.int v)) st) : zV X E S kc ks μ pc lv st := fun H locs ls hP hD hS hl => by
  obtain ⟨q, hq⟩ := lvg_pos hx
  exact lv_iinc h.1 h.2.1 hd hl hq hv (by rw [h.2.2.2.2.2.2.2.2.2.2]; exact hn) rfl (fun ls' hl' => k H locs ls' hP hD hS hl')
theorem z_iadd (h : zOK X E l cc own Ts rm nL) {x y : Int32} (hd : decode cc pc = .ok (.iadd, 1)) (k : zV X E S kc ks μ (pc + 1) lv (.int (x + y) :: st)) : zV X E S kc ks μ pc lv (.int y :: .int x :: st) := fun H locs ls hP hD hS hl => lv_iadd h.1 h.2.1 hd (k H locs ls hP hD hS hl)
theorem z_isub (h : zOK X E l cc own Ts rm nL) {x y : Int32} (hd : decode cc pc = .ok (.isub, 1)) (k : zV X E S kc ks μ (pc + 1) lv (.int (x - y) :: st)) : zV X E S kc ks μ pc lv (.int y :: .int x :: st) := fun H locs ls hP hD hS hl => lv_isub h.1 h.2.1 hd (k H locs ls hP hD hS hl)
theorem z_imul (h : zOK X E l cc own Ts rm nL) {x y : Int32} (hd : decode cc pc = .ok (.imul, 1)) (k : zV X E S kc ks μ (pc + 1) lv (.int (x * y) :: st)) : zV X E S kc ks μ pc lv (.int y :: .int x :: st) := fun H locs ls hP hD hS hl => lv_imul h.1 h.2.1 hd (k H locs ls hP hD hS hl)
theorem z_iand (h : zOK X E l cc own Ts rm nL) {x y : Int32} (hd : decode cc pc = .ok (.iand, 1)) (k : zV X E S kc ks μ (pc + 1) lv (.int (x &&& y) :: st)) : zV X E S kc ks μ pc lv (.int y :: .int x :: st) := fun H locs ls hP hD hS hl => lv_iand h.1 h.2.1 hd (k H locs ls hP hD hS hl)
theorem z_ior (h : zOK X E l cc own Ts rm nL) {x y : Int32} (hd : decode cc pc = .ok (.ior, 1)) (k : zV X E S kc ks μ (pc + 1) lv (.int (x ||| y) :: st)) : zV X E S kc ks μ pc lv (.int y :: .int x :: st) := fun H locs ls hP hD hS hl => lv_ior h.1 h.2.1 hd (k H locs ls hP hD hS hl)
theorem z_ixor (h : zOK X E l cc own Ts rm nL) {x y : Int32} (hd : decode cc pc = .ok (.ixor, 1)) (k : zV X E S kc ks μ (pc + 1) lv (.int (x ^^^ y) :: st)) : zV X E S kc ks μ pc lv (.int y :: .int x :: st) := fun H locs ls hP hD hS hl => lv_ixor h.1 h.2.1 hd (k H locs ls hP hD hS hl)
theorem z_ishl (h : zOK X E l cc own Ts rm nL) {x y : Int32} (hd : decode cc pc = .ok (.ishl, 1)) (k : zV X E S kc ks μ (pc + 1) lv (.int (x <<< (y &&& 31)) :: st)) : zV X E S kc ks μ pc lv (.int y :: .int x :: st) := fun H locs ls hP hD hS hl => lv_ishl h.1 h.2.1 hd (k H locs ls hP hD hS hl)
theorem z_ishr (h : zOK X E l cc own Ts rm nL) {x y : Int32} (hd : decode cc pc = .ok (.ishr, 1)) (k : zV X E S kc ks μ (pc + 1) lv (.int (x >>> (y &&& 31)) :: st)) : zV X E S kc ks μ pc lv (.int y :: .int x :: st) := fun H locs ls hP hD hS hl => lv_ishr h.1 h.2.1 hd (k H locs ls hP hD hS hl)
theorem z_iushr (h : zOK X E l cc own Ts rm nL) {x y v : Int32} (hd : decode cc pc = .ok (.iushr, 1)) (hv : (x.toUInt32 >>> (y.toUInt32 &&& Int32.toUInt32 31)).toInt32 = v) (k : zV X E S kc ks μ (pc + 1) lv (.int v :: st)) : zV X E S kc ks μ pc lv (.int y :: .int x :: st) := fun H locs ls hP hD hS hl => lv_iushr h.1 h.2.1 hd hv (k H locs ls hP hD hS hl)
theorem z_ineg (h : zOK X E l cc own Ts rm nL) {x : Int32} (hd : decode cc pc = .ok (.ineg, 1)) (k : zV X E S kc ks μ (pc + 1) lv (.int (-x) :: st)) : zV X E S kc ks μ pc lv (.int x :: st) := fun H locs ls hP hD hS hl => lv_ineg h.1 h.2.1 hd (k H locs ls hP hD hS hl)
theorem z_ladd (h : zOK X E l cc own Ts rm nL) {x y : Int64} (hd : decode cc pc = .ok (.ladd, 1)) (k : zV X E S kc ks μ (pc + 1) lv (.long (x + y) :: st)) : zV X E S kc ks μ pc lv (.long y :: .long x :: st) := fun H locs ls hP hD hS hl => lv_ladd h.1 h.2.1 hd (k H locs ls hP hD hS hl)
theorem z_lsub (h : zOK X E l cc own Ts rm nL) {x y : Int64} (hd : decode cc pc = .ok (.lsub, 1)) (k : zV X E S kc ks μ (pc + 1) lv (.long (x - y) :: st)) : zV X E S kc ks μ pc lv (.long y :: .long x :: st) := fun H locs ls hP hD hS hl => lv_lsub h.1 h.2.1 hd (k H locs ls hP hD hS hl)
theorem z_lmul (h : zOK X E l cc own Ts rm nL) {x y : Int64} (hd : decode cc pc = .ok (.lmul, 1)) (k : zV X E S kc ks μ (pc + 1) lv (.long (x * y) :: st)) : zV X E S kc ks μ pc lv (.long y :: .long x :: st) := fun H locs ls hP hD hS hl => lv_lmul h.1 h.2.1 hd (k H locs ls hP hD hS hl)
theorem z_ldiv (h : zOK X E l cc own Ts rm nL) {x y : Int64} (hd : decode cc pc = .ok (.ldiv, 1)) (hne : ¬ y = 0) (k : zV X E S kc ks μ (pc + 1) lv (.long (x / y) :: st)) : zV X E S kc ks μ pc lv (.long y :: .long x :: st) := fun H locs ls hP hD hS hl => lv_ldiv h.1 h.2.1 hd hne (k H locs ls hP hD hS hl)
theorem z_lrem (h : zOK X E l cc own Ts rm nL) {x y : Int64} (hd : decode cc pc = .ok (.lrem, 1)) (hne : ¬ y = 0) (k : zV X E S kc ks μ (pc + 1) lv (.long (x - x / y * y) :: st)) : zV X E S kc ks μ pc lv (.long y :: .long x :: st) := fun H locs ls hP hD hS hl => lv_lrem h.1 h.2.1 hd hne (k H locs ls hP hD hS hl)
theorem z_lneg (h : zOK X E l cc own Ts rm nL) {x : Int64} (hd : decode cc pc = .ok (.lneg, 1)) (k : zV X E S kc ks μ (pc + 1) lv (.long (-x) :: st)) : zV X E S kc ks μ pc lv (.long x :: st) := fun H locs ls hP hD hS hl => lv_lneg h.1 h.2.1 hd (k H locs ls hP hD hS hl)
theorem z_i2l (h : zOK X E l cc own Ts rm nL) {x : Int32} {v : Int64} (hd : decode cc pc = .ok (.i2l, 1)) (hv : x.toInt64 = v) (k : zV X E S kc ks μ (pc + 1) lv (.long v :: st)) : zV X E S kc ks μ pc lv (.int x :: st) := fun H locs ls hP hD hS hl => lv_i2l h.1 h.2.1 hd hv (k H locs ls hP hD hS hl)
theorem z_i2b (h : zOK X E l cc own Ts rm nL) {x : Int32} {v : Int32} (hd : decode cc pc = .ok (.i2b, 1)) (hv : x.toInt8.toInt32 = v) (k : zV X E S kc ks μ (pc + 1) lv (.int v :: st)) : zV X E S kc ks μ pc lv (.int x :: st) := fun H locs ls hP hD hS hl => lv_i2b h.1 h.2.1 hd hv (k H locs ls hP hD hS hl)
theorem z_i2c (h : zOK X E l cc own Ts rm nL) {x : Int32} {v : Int32} (hd : decode cc pc = .ok (.i2c, 1)) (hv : (x.toUInt32 % 65536).toInt32 = v) (k : zV X E S kc ks μ (pc + 1) lv (.int v :: st)) : zV X E S kc ks μ pc lv (.int x :: st) := fun H locs ls hP hD hS hl => lv_i2c h.1 h.2.1 hd hv (k H locs ls hP hD hS hl)
theorem z_dup (h : zOK X E l cc own Ts rm nL) {va : Value} (hd : decode cc pc = .ok (.dup, 1)) (hva : va.category = 1) (k : zV X E S kc ks μ (pc + 1) lv (va :: va :: st)) : zV X E S kc ks μ pc lv (va :: st) := fun H locs ls hP hD hS hl => lv_dup h.1 h.2.1 hd hva (k H locs ls hP hD hS hl)
theorem z_pop (h : zOK X E l cc own Ts rm nL) {va : Value} (hd : decode cc pc = .ok (.pop, 1)) (hva : va.category = 1) (k : zV X E S kc ks μ (pc + 1) lv (st)) : zV X E S kc ks μ pc lv (va :: st) := fun H locs ls hP hD hS hl => lv_pop h.1 h.2.1 hd hva (k H locs ls hP hD hS hl)
theorem z_dup2 (h : zOK X E l cc own Ts rm nL) {va vb : Value} (hd : decode cc pc = .ok (.dup2, 1)) (hva : va.category = 1) (hvb : vb.category = 1) (k : zV X E S kc ks μ (pc + 1) lv (va :: vb :: va :: vb :: st)) : zV X E S kc ks μ pc lv (va :: vb :: st) := fun H locs ls hP hD hS hl => lv_dup2_11 h.1 h.2.1 hd hva hvb (k H locs ls hP hD hS hl)
theorem z_lcmp (h : zOK X E l cc own Ts rm nL) {x y : Int64} (hd : decode cc pc = .ok (.lcmp, 1)) (k : zV X E S kc ks μ (pc + 1) lv (.int (lg_cmp x y) :: st)) : zV X E S kc ks μ pc lv (.long y :: .long x :: st) := fun H locs ls hP hD hS hl => W.lcmp h.1 h.2.1 hd (k H locs ls hP hD hS hl)
theorem z_ldc2 (h : zOK X E l cc own Ts rm nL) {index : Nat} {v : Int64} (hw : Cond.constantLong own index v ∈ Ts) (hd : decode cc pc = .ok (.ldc2_w index, 3)) (k : zV X E S kc ks μ (pc + 3) lv (.long v :: st)) : zV X E S kc ks μ pc lv (st) := fun H locs ls hP hD hS hl => lv_ldc2 h.1 h.2.1 h.2.2.2.1 (h.2.2.2.2.1 _ hw) hd (k H locs ls hP hD hS hl)
theorem z_ldcI (h : zOK X E l cc own Ts rm nL) {index : Nat} {v : Int32} (hw : Cond.constant own index v ∈ Ts) (hd : decode cc pc = .ok (.ldc index, 2)) (k : zV X E S kc ks μ (pc + 2) lv (.int v :: st)) : zV X E S kc ks μ pc lv (st) := fun H locs ls hP hD hS hl => lv_ldc h.1 h.2.1 h.2.2.2.1 (h.2.2.2.2.1 _ hw) hd (k H locs ls hP hD hS hl)
theorem z_ldcS (h : zOK X E l cc own Ts rm nL) {index : Nat} (i : Nat) (hi : i < zlN) (ho : zlO i = own) (hk : zlK i = index) (hd : decode cc pc = .ok (.ldc index, 2)) (k : zV X E S kc ks μ (pc + 2) lv (.ref (E.2.2.1 i) :: st)) : zV X E S kc ks μ pc lv (st) := fun H locs ls hP hD hS hl => va_ldcS h.1 h.2.1 h.2.2.2.1 (tx := zlT i) (by have := h.2.2.2.2.2.2.2.1.2.1 i hi; rw [ho, hk] at this; exact this) hd (k H locs ls hP hD hS hl)
theorem z_icmp_eq (h : zOK X E l cc own Ts rm nL) {x y : Int32} {off : Int} (tgt : Nat) (hd : decode cc pc = .ok (.if_icmp .eq off, 3)) (ht : (pc : Int) + off = (tgt : Int)) (kt : x = y → zV X E S kc ks μ tgt lv st) (kf : ¬ x = y → zV X E S kc ks μ (pc + 3) lv st) : zV X E S kc ks μ pc lv (.int y :: .int x :: st) := fun H locs ls hP hD hS hl => lv_icmp_eq h.1 h.2.1 hd ht (fun q => kt q H locs ls hP hD hS hl) (fun q => kf q H locs ls hP hD hS hl)
theorem z_if_eq (h : zOK X E l cc own Ts rm nL) {x : Int32} {off : Int} (tgt : Nat) (hd : decode cc pc = .ok (.ifCond .eq off, 3)) (ht : (pc : Int) + off = (tgt : Int)) (kt : x = 0 → zV X E S kc ks μ tgt lv st) (kf : ¬ x = 0 → zV X E S kc ks μ (pc + 3) lv st) : zV X E S kc ks μ pc lv (.int x :: st) := fun H locs ls hP hD hS hl => lv_if_eq h.1 h.2.1 hd ht (fun q => kt q H locs ls hP hD hS hl) (fun q => kf q H locs ls hP hD hS hl)
theorem z_icmp_ne (h : zOK X E l cc own Ts rm nL) {x y : Int32} {off : Int} (tgt : Nat) (hd : decode cc pc = .ok (.if_icmp .ne off, 3)) (ht : (pc : Int) + off = (tgt : Int)) (kt : ¬ x = y → zV X E S kc ks μ tgt lv st) (kf : x = y → zV X E S kc ks μ (pc + 3) lv st) : zV X E S kc ks μ pc lv (.int y :: .int x :: st) := fun H locs ls hP hD hS hl => lv_icmp_ne h.1 h.2.1 hd ht (fun q => kt q H locs ls hP hD hS hl) (fun q => kf q H locs ls hP hD hS hl)
theorem z_if_ne (h : zOK X E l cc own Ts rm nL) {x : Int32} {off : Int} (tgt : Nat) (hd : decode cc pc = .ok (.ifCond .ne off, 3)) (ht : (pc : Int) + off = (tgt : Int)) (kt : ¬ x = 0 → zV X E S kc ks μ tgt lv st) (kf : x = 0 → zV X E S kc ks μ (pc + 3) lv st) : zV X E S kc ks μ pc lv (.int x :: st) := fun H locs ls hP hD hS hl => lv_if_ne h.1 h.2.1 hd ht (fun q => kt q H locs ls hP hD hS hl) (fun q => kf q H locs ls hP hD hS hl)
theorem z_icmp_lt (h : zOK X E l cc own Ts rm nL) {x y : Int32} {off : Int} (tgt : Nat) (hd : decode cc pc = .ok (.if_icmp .lt off, 3)) (ht : (pc : Int) + off = (tgt : Int)) (kt : x < y → zV X E S kc ks μ tgt lv st) (kf : ¬ x < y → zV X E S kc ks μ (pc + 3) lv st) : zV X E S kc ks μ pc lv (.int y :: .int x :: st) := fun H locs ls hP hD hS hl => lv_icmp_lt h.1 h.2.1 hd ht (fun q => kt q H locs ls hP hD hS hl) (fun q => kf q H locs ls hP hD hS hl)
theorem z_if_lt (h : zOK X E l cc own Ts rm nL) {x : Int32} {off : Int} (tgt : Nat) (hd : decode cc pc = .ok (.ifCond .lt off, 3)) (ht : (pc : Int) + off = (tgt : Int)) (kt : x < 0 → zV X E S kc ks μ tgt lv st) (kf : ¬ x < 0 → zV X E S kc ks μ (pc + 3) lv st) : zV X E S kc ks μ pc lv (.int x :: st) := fun H locs ls hP hD hS hl => lv_if_lt h.1 h.2.1 hd ht (fun q => kt q H locs ls hP hD hS hl) (fun q => kf q H locs ls hP hD hS hl)
theorem z_icmp_ge (h : zOK X E l cc own Ts rm nL) {x y : Int32} {off : Int} (tgt : Nat) (hd : decode cc pc = .ok (.if_icmp .ge off, 3)) (ht : (pc : Int) + off = (tgt : Int)) (kt : y ≤ x → zV X E S kc ks μ tgt lv st) (kf : ¬ y ≤ x → zV X E S kc ks μ (pc + 3) lv st) : zV X E S kc ks μ pc lv (.int y :: .int x :: st) := fun H locs ls hP hD hS hl => lv_icmp_ge h.1 h.2.1 hd ht (fun q => kt q H locs ls hP hD hS hl) (fun q => kf q H locs ls hP hD hS hl)
theorem z_if_ge (h : zOK X E l cc own Ts rm nL) {x : Int32} {off : Int} (tgt : Nat) (hd : decode cc pc = .ok (.ifCond .ge off, 3)) (ht : (pc : Int) + off = (tgt : Int)) (kt : 0 ≤ x → zV X E S kc ks μ tgt lv st) (kf : ¬ 0 ≤ x → zV X E S kc ks μ (pc + 3) lv st) : zV X E S kc ks μ pc lv (.int x :: st) := fun H locs ls hP hD hS hl => lv_if_ge h.1 h.2.1 hd ht (fun q => kt q H locs ls hP hD hS hl) (fun q => kf q H locs ls hP hD hS hl)
theorem z_icmp_gt (h : zOK X E l cc own Ts rm nL) {x y : Int32} {off : Int} (tgt : Nat) (hd : decode cc pc = .ok (.if_icmp .gt off, 3)) (ht : (pc : Int) + off = (tgt : Int)) (kt : y < x → zV X E S kc ks μ tgt lv st) (kf : ¬ y < x → zV X E S kc ks μ (pc + 3) lv st) : zV X E S kc ks μ pc lv (.int y :: .int x :: st) := fun H locs ls hP hD hS hl => lv_icmp_gt h.1 h.2.1 hd ht (fun q => kt q H locs ls hP hD hS hl) (fun q => kf q H locs ls hP hD hS hl)
theorem z_if_gt (h : zOK X E l cc own Ts rm nL) {x : Int32} {off : Int} (tgt : Nat) (hd : decode cc pc = .ok (.ifCond .gt off, 3)) (ht : (pc : Int) + off = (tgt : Int)) (kt : 0 < x → zV X E S kc ks μ tgt lv st) (kf : ¬ 0 < x → zV X E S kc ks μ (pc + 3) lv st) : zV X E S kc ks μ pc lv (.int x :: st) := fun H locs ls hP hD hS hl => lv_if_gt h.1 h.2.1 hd ht (fun q => kt q H locs ls hP hD hS hl) (fun q => kf q H locs ls hP hD hS hl)
theorem z_icmp_le (h : zOK X E l cc own Ts rm nL) {x y : Int32} {off : Int} (tgt : Nat) (hd : decode cc pc = .ok (.if_icmp .le off, 3)) (ht : (pc : Int) + off = (tgt : Int)) (kt : x ≤ y → zV X E S kc ks μ tgt lv st) (kf : ¬ x ≤ y → zV X E S kc ks μ (pc + 3) lv st) : zV X E S kc ks μ pc lv (.int y :: .int x :: st) := fun H locs ls hP hD hS hl => lv_icmp_le h.1 h.2.1 hd ht (fun q => kt q H locs ls hP hD hS hl) (fun q => kf q H locs ls hP hD hS hl)
theorem z_if_le (h : zOK X E l cc own Ts rm nL) {x : Int32} {off : Int} (tgt : Nat) (hd : decode cc pc = .ok (.ifCond .le off, 3)) (ht : (pc : Int) + off = (tgt : Int)) (kt : x ≤ 0 → zV X E S kc ks μ tgt lv st) (kf : ¬ x ≤ 0 → zV X E S kc ks μ (pc + 3) lv st) : zV X E S kc ks μ pc lv (.int x :: st) := fun H locs ls hP hD hS hl => lv_if_le h.1 h.2.1 hd ht (fun q => kt q H locs ls hP hD hS hl) (fun q => kf q H locs ls hP hD hS hl)
theorem z_goto (h : zOK X E l cc own Ts rm nL) {off : Int} (tgt : Nat) (hd : decode cc pc = .ok (.goto off, 3)) (ht : (pc : Int) + off = (tgt : Int)) (k : zV X E S kc ks μ tgt lv st) : zV X E S kc ks μ pc lv st := fun H locs ls hP hD hS hl => lv_goto h.1 h.2.1 hd ht (k H locs ls hP hD hS hl)
end ZV
def zty : Nat → Nat → FieldType
  | 0 => tyX0
  | 1 => tyX1
  | 2 => tyX2
  | 3 => tyX3
  | 4 => tyX4
  | 5 => tyX5
  | 6 => tyX6
  | _ => tyX7
theorem zcls {ci : Nat} {C : String} {T : u_T} {N : Nat} (hc : vwCl[ci]? = some (C, T, N)) : (∀ k, k < N → parseFieldDescriptor (T k).2.2.1 = some (zty ci k)) ∧ (∀ a, a < N → ∀ b, b < N → a ≠ b → (T a).2.1 ≠ (T b).2.1) ∧ ci < 8 := by
  match ci, hc with
  | 0, hc => cases hc; exact ⟨tyX0_ok, nmX0, by decide⟩
  | 1, hc => cases hc; exact ⟨tyX1_ok, nmX1, by decide⟩
  | 2, hc => cases hc; exact ⟨tyX2_ok, nmX2, by decide⟩
  | 3, hc => cases hc; exact ⟨tyX3_ok, nmX3, by decide⟩
  | 4, hc => cases hc; exact ⟨tyX4_ok, nmX4, by decide⟩
  | 5, hc => cases hc; exact ⟨tyX5_ok, nmX5, by decide⟩
  | 6, hc => cases hc; exact ⟨tyX6_ok, nmX6, by decide⟩
  | 7, hc => cases hc; exact ⟨tyX7_ok, nmX7, by decide⟩
  | k + 8, hc => simp [vwCl] at hc
/-- an index that is in its row -/
def zix (i : Int32) (j n : Nat) : Prop := vp_in i n ∧ i.toNatClampNeg = j
theorem zix_nI {j n : Nat} (h : j < n) (hn : n < 2 ^ 31) : zix (nI j) j n := ⟨vp_in_nI h hn, nI_clamp (by omega)⟩
theorem zix_e {i : Int32} {j n : Nat} (e : i = nI j) (h : j < n) (hn : n < 2 ^ 31) : zix i j n := e ▸ zix_nI h hn
section ZF
variable {X : zC} {E : zE} {S : zS} {kc ks : Nat} {μ : zM} {I : Nat → Nat → Int32} {J : Nat → Nat → Int64} {R : Nat → Nat → Option Nat} {pc : Nat} {lv : List (Nat × Value)} {st : List Value} {l : Launch} {cc : ByteArray} {own : String} {Ts : List Cond} {rm : Room} {nL : Nat}
variable {C : String} {T : u_T} {N ci index a k : Nat}
theorem z_getI (h : zOK X E l cc own Ts rm nL) (ho : zO S a ci) (hc : vwCl[ci]? = some (C, T, N)) (hin : ∀ w ∈ u_ws C T N, w ∈ Ts) (k : Nat) (hk : k < N) (ht : (zk ci)[k]? = some 0) (hw : Cond.fieldLink own index (T k).1 (T k).2.1 (T k).2.2.1 ∈ Ts) (hd : decode cc pc = .ok (.getfield index, 3))
    (kk : zV X E S kc ks (I, J, R) (pc + 3) lv (.int (I a k) :: st)) : zV X E S kc ks (I, J, R) pc lv (.ref a :: st) := fun H locs ls hP hD hS hl => by
  obtain ⟨q, hq, hq'⟩ := zW_at (E := E) (μ := (I, J, R)) ho.1 (zc_o ho.2 (zcls hc).2.2)
  exact va_get h.1 h.2.1 h.2.2.2.2.1 hin h.2.2.2.1 h.2.2.2.2.2.1 hP q hq' hc k hk (h.2.2.2.2.1 _ hw) (fun _ h9 => h9) (v := .int (I a k)) (by rw [zf_get _ _ _ _ _ _ ht]; simp [zval]) hd (kk H locs ls hP hD hS hl)
theorem z_getJ (h : zOK X E l cc own Ts rm nL) (ho : zO S a ci) (hc : vwCl[ci]? = some (C, T, N)) (hin : ∀ w ∈ u_ws C T N, w ∈ Ts) (k : Nat) (hk : k < N) (ht : (zk ci)[k]? = some 1) (hw : Cond.fieldLink own index (T k).1 (T k).2.1 (T k).2.2.1 ∈ Ts) (hd : decode cc pc = .ok (.getfield index, 3))
    (kk : zV X E S kc ks (I, J, R) (pc + 3) lv (.long (J a k) :: st)) : zV X E S kc ks (I, J, R) pc lv (.ref a :: st) := fun H locs ls hP hD hS hl => by
  obtain ⟨q, hq, hq'⟩ := zW_at (E := E) (μ := (I, J, R)) ho.1 (zc_o ho.2 (zcls hc).2.2)
  exact va_get h.1 h.2.1 h.2.2.2.2.1 hin h.2.2.2.1 h.2.2.2.2.2.1 hP q hq' hc k hk (h.2.2.2.2.1 _ hw) (fun _ h9 => h9) (v := .long (J a k)) (by rw [zf_get _ _ _ _ _ _ ht]; simp [zval]) hd (kk H locs ls hP hD hS hl)
theorem z_getR (h : zOK X E l cc own Ts rm nL) (ho : zO S a ci) (hc : vwCl[ci]? = some (C, T, N)) (hin : ∀ w ∈ u_ws C T N, w ∈ Ts) (k : Nat) (hk : k < N) (ht : (zk ci)[k]? = some 2) {b : Nat} (hr : R a k = some b) (hw : Cond.fieldLink own index (T k).1 (T k).2.1 (T k).2.2.1 ∈ Ts) (hd : decode cc pc = .ok (.getfield index, 3))
    (kk : zV X E S kc ks (I, J, R) (pc + 3) lv (.ref b :: st)) : zV X E S kc ks (I, J, R) pc lv (.ref a :: st) := fun H locs ls hP hD hS hl => by
  obtain ⟨q, hq, hq'⟩ := zW_at (E := E) (μ := (I, J, R)) ho.1 (zc_o ho.2 (zcls hc).2.2)
  exact va_get h.1 h.2.1 h.2.2.2.2.1 hin h.2.2.2.1 h.2.2.2.2.2.1 hP q hq' hc k hk (h.2.2.2.2.1 _ hw) (fun _ h9 => h9) (v := .ref b) (by rw [zf_get _ _ _ _ _ _ ht]; simp [zval, hr, va_rf]) hd (kk H locs ls hP hD hS hl)
theorem zc_putI {Y : Nat → ClassId} {K N : Nat → Nat} {a ci k : Nat} {v : Int32} (e : K a = ci) (h8 : ci < 8) (ht : (zk ci)[k]? = some 0) : zc Y K N (zu μ.1 a k v, μ.2) a = .inr (ci, (zf μ a (zk ci) 0).set k (.int v)) := by
  rw [zc_o e h8, zf_set μ (zu μ.1 a k v, μ.2) a (.int v) (zk ci) 0 k 0 ht (by simp [zval, zu]) (fun i u hi => by simp [zval, zu, show i ≠ k by omega])]
theorem zc_putJ {Y : Nat → ClassId} {K N : Nat → Nat} {a ci k : Nat} {v : Int64} (e : K a = ci) (h8 : ci < 8) (ht : (zk ci)[k]? = some 1) : zc Y K N (μ.1, zu μ.2.1 a k v, μ.2.2) a = .inr (ci, (zf μ a (zk ci) 0).set k (.long v)) := by
  rw [zc_o e h8, zf_set μ (μ.1, zu μ.2.1 a k v, μ.2.2) a (.long v) (zk ci) 0 k 1 ht (by simp [zval, zu]) (fun i u hi => by simp [zval, zu, show i ≠ k by omega])]
theorem zc_putR {Y : Nat → ClassId} {K N : Nat → Nat} {a ci k : Nat} {v : Option Nat} (e : K a = ci) (h8 : ci < 8) (ht : (zk ci)[k]? = some 2) : zc Y K N (μ.1, μ.2.1, zu μ.2.2 a k v) a = .inr (ci, (zf μ a (zk ci) 0).set k (va_rf v)) := by
  rw [zc_o e h8, zf_set μ (μ.1, μ.2.1, zu μ.2.2 a k v) a (va_rf v) (zk ci) 0 k 2 ht (by simp [zval, zu]) (fun i u hi => by simp [zval, zu, show i ≠ k by omega])]
theorem z_putI (h : zOK X E l cc own Ts rm nL) (ho : zO S a ci) (hc : vwCl[ci]? = some (C, T, N)) (hin : ∀ w ∈ u_ws C T N, w ∈ Ts) (k : Nat) (hk : k < N) (ht : (zk ci)[k]? = some 0) (hfin : (T k).2.2.2 = false) {v : Int32} (hn : narrow (zty ci k) (.int v) = .int v) (hfit : fits (zty ci k) (.int v) = true) (hw : Cond.fieldLink own index (T k).1 (T k).2.1 (T k).2.2.1 ∈ Ts) (hd : decode cc pc = .ok (.putfield index, 3))
    (kk : zV X E S kc ks (zu I a k v, J, R) (pc + 3) lv st) : zV X E S kc ks (I, J, R) pc lv (.int v :: .ref a :: st) := fun H locs ls hP hD hS hl => by
  obtain ⟨h1, h2, h8⟩ := zcls hc
  obtain ⟨q, hq, hq'⟩ := zW_at (E := E) (μ := (I, J, R)) ho.1 (zc_o ho.2 h8)
  refine va_put h.1 h.2.1 h.2.2.2.2.1 hin (zty ci) h1 h2 h.2.2.2.1 h.2.2.2.2.2.1 hP hD hS q hq' hc k hk (h.2.2.2.2.1 _ hw) (fun _ h9 => h9) hfin (h1 k hk) hn hfit (by rw [zf_len]; exact (List.getElem?_eq_some_iff.mp ht).1) hd (fun H1 locs1 hP1 hD1 hS1 => ?_)
  have e := zW_set (ν := (zu I a k v, J, R)) hD ho.1 hq (zc_putI (μ := (I, J, R)) ho.2 h8 ht) (fun b hb => zc_congr (zu_o hb) rfl rfl)
  rw [e] at hP1 hD1
  exact kk H1 locs1 ls hP1 hD1 hS1 hl
theorem z_putJ (h : zOK X E l cc own Ts rm nL) (ho : zO S a ci) (hc : vwCl[ci]? = some (C, T, N)) (hin : ∀ w ∈ u_ws C T N, w ∈ Ts) (k : Nat) (hk : k < N) (ht : (zk ci)[k]? = some 1) (hfin : (T k).2.2.2 = false) {v : Int64} (hn : narrow (zty ci k) (.long v) = .long v) (hfit : fits (zty ci k) (.long v) = true) (hw : Cond.fieldLink own index (T k).1 (T k).2.1 (T k).2.2.1 ∈ Ts) (hd : decode cc pc = .ok (.putfield index, 3))
    (kk : zV X E S kc ks (I, zu J a k v, R) (pc + 3) lv st) : zV X E S kc ks (I, J, R) pc lv (.long v :: .ref a :: st) := fun H locs ls hP hD hS hl => by
  obtain ⟨h1, h2, h8⟩ := zcls hc
  obtain ⟨q, hq, hq'⟩ := zW_at (E := E) (μ := (I, J, R)) ho.1 (zc_o ho.2 h8)
  refine va_put h.1 h.2.1 h.2.2.2.2.1 hin (zty ci) h1 h2 h.2.2.2.1 h.2.2.2.2.2.1 hP hD hS q hq' hc k hk (h.2.2.2.2.1 _ hw) (fun _ h9 => h9) hfin (h1 k hk) hn hfit (by rw [zf_len]; exact (List.getElem?_eq_some_iff.mp ht).1) hd (fun H1 locs1 hP1 hD1 hS1 => ?_)
  have e := zW_set (ν := (I, zu J a k v, R)) hD ho.1 hq (zc_putJ (μ := (I, J, R)) ho.2 h8 ht) (fun b hb => zc_congr rfl (zu_o hb) rfl)
  rw [e] at hP1 hD1
  exact kk H1 locs1 ls hP1 hD1 hS1 hl
theorem z_putR (h : zOK X E l cc own Ts rm nL) (ho : zO S a ci) (hc : vwCl[ci]? = some (C, T, N)) (hin : ∀ w ∈ u_ws C T N, w ∈ Ts) (k : Nat) (hk : k < N) (ht : (zk ci)[k]? = some 2) (hfin : (T k).2.2.2 = false) {b : Nat} (hn : narrow (zty ci k) (.ref b) = .ref b) (hfit : fits (zty ci k) (.ref b) = true) (hw : Cond.fieldLink own index (T k).1 (T k).2.1 (T k).2.2.1 ∈ Ts) (hd : decode cc pc = .ok (.putfield index, 3))
    (kk : zV X E S kc ks (I, J, zu R a k (some b)) (pc + 3) lv st) : zV X E S kc ks (I, J, R) pc lv (.ref b :: .ref a :: st) := fun H locs ls hP hD hS hl => by
  obtain ⟨h1, h2, h8⟩ := zcls hc
  obtain ⟨q, hq, hq'⟩ := zW_at (E := E) (μ := (I, J, R)) ho.1 (zc_o ho.2 h8)
  refine va_put h.1 h.2.1 h.2.2.2.2.1 hin (zty ci) h1 h2 h.2.2.2.1 h.2.2.2.2.2.1 hP hD hS q hq' hc k hk (h.2.2.2.2.1 _ hw) (fun _ h9 => h9) hfin (h1 k hk) hn hfit (by rw [zf_len]; exact (List.getElem?_eq_some_iff.mp ht).1) hd (fun H1 locs1 hP1 hD1 hS1 => ?_)
  have e := zW_set (ν := (I, J, zu R a k (some b))) hD ho.1 hq (zc_putR (μ := (I, J, R)) ho.2 h8 ht) (fun b hb => zc_congr rfl rfl (zu_o hb))
  rw [show va_rf (some b) = Value.ref b from rfl] at e
  rw [e] at hP1 hD1
  exact kk H1 locs1 ls hP1 hD1 hS1 hl
theorem z_iald (h : zOK X E l cc own Ts rm nL) {n j : Nat} {i : Int32} (ha : zA S a 9 n) (hi : zix i j n) (hd : decode cc pc = .ok (.iaload, 1)) (kk : zV X E S kc ks (I, J, R) (pc + 1) lv (.int (I a j) :: st)) : zV X E S kc ks (I, J, R) pc lv (.int i :: .ref a :: st) := fun H locs ls hP hD hS hl => by
  obtain ⟨q, hq, hq'⟩ := zW_at (E := E) (μ := (I, J, R)) ha.1 (zc_i ha.2.1 ha.2.2 (by decide) (by decide) (by decide))
  refine va_iald h.1 h.2.1 h.2.2.2.2.2.1 hP q 1 hq' rfl hi.1 hd ?_
  rw [hi.2]
  exact kk H locs ls hP hD hS hl
theorem z_bald (h : zOK X E l cc own Ts rm nL) {n j : Nat} {i : Int32} (ha : zA S a 8 n) (hi : zix i j n) (hd : decode cc pc = .ok (.baload, 1)) (kk : zV X E S kc ks (I, J, R) (pc + 1) lv (.int (I a j) :: st)) : zV X E S kc ks (I, J, R) pc lv (.int i :: .ref a :: st) := fun H locs ls hP hD hS hl => by
  obtain ⟨q, hq, hq'⟩ := zW_at (E := E) (μ := (I, J, R)) ha.1 (zc_i ha.2.1 ha.2.2 (by decide) (by decide) (by decide))
  refine va_bald h.1 h.2.1 h.2.2.2.2.2.1 hP q 0 hq' rfl hi.1 hd ?_
  rw [hi.2]
  exact kk H locs ls hP hD hS hl
theorem z_zald (h : zOK X E l cc own Ts rm nL) {n j : Nat} {i : Int32} (ha : zA S a 11 n) (hi : zix i j n) (hd : decode cc pc = .ok (.baload, 1)) (kk : zV X E S kc ks (I, J, R) (pc + 1) lv (.int (I a j) :: st)) : zV X E S kc ks (I, J, R) pc lv (.int i :: .ref a :: st) := fun H locs ls hP hD hS hl => by
  obtain ⟨q, hq, hq'⟩ := zW_at (E := E) (μ := (I, J, R)) ha.1 (zc_i ha.2.1 ha.2.2 (by decide) (by decide) (by decide))
  refine va_zald h.1 h.2.1 h.2.2.2.2.2.1 hP q 3 hq' rfl hi.1 hd ?_
  rw [hi.2]
  exact kk H locs ls hP hD hS hl
theorem z_lald (h : zOK X E l cc own Ts rm nL) {n j : Nat} {i : Int32} (ha : zA S a 10 n) (hi : zix i j n) (hd : decode cc pc = .ok (.laload, 1)) (kk : zV X E S kc ks (I, J, R) (pc + 1) lv (.long (J a j) :: st)) : zV X E S kc ks (I, J, R) pc lv (.int i :: .ref a :: st) := fun H locs ls hP hD hS hl => by
  obtain ⟨q, hq, hq'⟩ := zW_at (E := E) (μ := (I, J, R)) ha.1 (zc_j ha.2.1 ha.2.2)
  refine va_lald h.1 h.2.1 h.2.2.2.2.2.1 hP q 2 hq' rfl hi.1 hd ?_
  rw [hi.2]
  exact kk H locs ls hP hD hS hl
theorem z_aaldL (h : zOK X E l cc own Ts rm nL) {n j b : Nat} {i : Int32} (ha : zA S a 12 n) (hi : zix i j n) (hr : R a j = some b) (hd : decode cc pc = .ok (.aaload, 1)) (kk : zV X E S kc ks (I, J, R) (pc + 1) lv (.ref b :: st)) : zV X E S kc ks (I, J, R) pc lv (.int i :: .ref a :: st) := fun H locs ls hP hD hS hl => by
  obtain ⟨q, hq, hq'⟩ := zW_at (E := E) (μ := (I, J, R)) ha.1 (zc_r ha.2.1 ha.2.2 (by decide))
  refine va_aldq h.1 h.2.1 h.2.2.2.2.2.1 hP q 4 hq' rfl hi.1 hd ?_
  rw [hi.2, show (I, J, R).2.2 a j = some b from hr]
  exact kk H locs ls hP hD hS hl
theorem va_aldA {p : Program} {l : Launch} {e : Env} {R : Room} {s : State} {m : MethodId} {args : Array Value} {below : List Frame} {meth : Method} {c : Code} {H : Heap} {locs : List Loc} {cells slots : Nat} {Q : State → Prop} {cc : ByteArray} {pc : Nat} {ls : Array Slot} {rest : List Value} {D : va_G} {cl : List vw_C} {a : Nat} {tys : List (ClassId × FieldType)} {ws : va_W} (hexec : p.tables.exec = Jvm.exec) (hb : c.code = cc) (hK : va_K D cl tys s) (hP : va_P D cl ws H) (q0 t0 : Nat) {cA : ClassId} {t : FieldType} {n : Nat} {f : Nat → Option Nat} (ha : ws[q0]? = some (a, .inl (cA, n, .inr (.inr (.inr (.inr f)))))) (ht : tys[t0]? = some (cA, .array t)) {i : Int32} (hin : vp_in i n) (hdg : decode cc pc = .ok (.aaload, 1))
    (kk : W p l e R s m args below meth c H locs cells slots Q (F0 m (pc + 1) ls (va_rf (f i.toNatClampNeg) :: rest))) : W p l e R s m args below meth c H locs cells slots Q (F0 m pc ls (.int i :: .ref a :: rest)) := by
  have hlt : i.toNatClampNeg < n := Nat.not_le.mp fun q => hin (Or.inr q)
  exact W.aald (v := va_rf (f i.toNatClampNeg)) (ty := .array t) hexec hb (hP q0 _ ha) ((hK.2 t0 _ ht).1 n (fun j => va_rf (f j))) rfl (fun q => by cases q) (by show ¬ (i < 0 ∨ (arrV _ _ _).slots.size ≤ _); rw [arrV_size]; exact hin) (by show (arrV _ _ _).slots[_]? = _; rw [arrV_read _ _ hlt]) rfl rfl hdg kk
theorem z_aaldI (h : zOK X E l cc own Ts rm nL) {n j b : Nat} {i : Int32} (ha : zA S a 13 n) (hi : zix i j n) (hr : R a j = some b) (hd : decode cc pc = .ok (.aaload, 1)) (kk : zV X E S kc ks (I, J, R) (pc + 1) lv (.ref b :: st)) : zV X E S kc ks (I, J, R) pc lv (.int i :: .ref a :: st) := fun H locs ls hP hD hS hl => by
  obtain ⟨q, hq, hq'⟩ := zW_at (E := E) (μ := (I, J, R)) ha.1 (zc_r ha.2.1 ha.2.2 (by decide))
  refine va_aldA h.1 h.2.1 h.2.2.2.2.2.1 hP q 5 hq' rfl hi.1 hd ?_
  rw [hi.2, show (I, J, R).2.2 a j = some b from hr]
  exact kk H locs ls hP hD hS hl
theorem z_aaldJ (h : zOK X E l cc own Ts rm nL) {n j b : Nat} {i : Int32} (ha : zA S a 14 n) (hi : zix i j n) (hr : R a j = some b) (hd : decode cc pc = .ok (.aaload, 1)) (kk : zV X E S kc ks (I, J, R) (pc + 1) lv (.ref b :: st)) : zV X E S kc ks (I, J, R) pc lv (.int i :: .ref a :: st) := fun H locs ls hP hD hS hl => by
  obtain ⟨q, hq, hq'⟩ := zW_at (E := E) (μ := (I, J, R)) ha.1 (zc_r ha.2.1 ha.2.2 (by decide))
  refine va_aldA h.1 h.2.1 h.2.2.2.2.2.1 hP q 6 hq' rfl hi.1 hd ?_
  rw [hi.2, show (I, J, R).2.2 a j = some b from hr]
  exact kk H locs ls hP hD hS hl
theorem zu_upd {f : Nat → Nat → Int32} {a j : Nat} {v : Int32} : zu f a j v a = upd (f a) j v := funext fun q => by by_cases e : q = j <;> simp [zu, upd, e]
theorem zu_updL {f : Nat → Nat → Int64} {a j : Nat} {v : Int64} : zu f a j v a = vp_updL (f a) j v := funext fun q => by by_cases e : q = j <;> simp [zu, vp_updL, e]
theorem z_iast (h : zOK X E l cc own Ts rm nL) {n j : Nat} {i x : Int32} (ha : zA S a 9 n) (hi : zix i j n) (hd : decode cc pc = .ok (.iastore, 1)) (kk : zV X E S kc ks (zu I a j x, J, R) (pc + 1) lv st) : zV X E S kc ks (I, J, R) pc lv (.int x :: .int i :: .ref a :: st) := fun H locs ls hP hD hS hl => by
  obtain ⟨q, hq, hq'⟩ := zW_at (E := E) (μ := (I, J, R)) ha.1 (zc_i ha.2.1 ha.2.2 (by decide) (by decide) (by decide))
  refine va_iast h.1 h.2.1 h.2.2.2.2.2.1 hP hD hS q 1 hq' rfl hi.1 hd (fun H1 locs1 hP1 hD1 hS1 => ?_)
  have e := zW_set (ν := (zu I a j x, J, R)) hD ha.1 hq (zc_i ha.2.1 ha.2.2 (by decide) (by decide) (by decide)) (fun b hb => zc_congr (zu_o hb) rfl rfl)
  rw [show (zu I a j x, J, R).1 a = upd (I a) j x from zu_upd] at e
  rw [hi.2] at hP1 hD1
  rw [e] at hP1 hD1
  exact kk H1 locs1 ls hP1 hD1 hS1 hl
theorem z_bast (h : zOK X E l cc own Ts rm nL) {n j : Nat} {i x : Int32} (ha : zA S a 8 n) (hi : zix i j n) (hd : decode cc pc = .ok (.bastore, 1)) (kk : zV X E S kc ks (zu I a j (vp_nar .byte x), J, R) (pc + 1) lv st) : zV X E S kc ks (I, J, R) pc lv (.int x :: .int i :: .ref a :: st) := fun H locs ls hP hD hS hl => by
  obtain ⟨q, hq, hq'⟩ := zW_at (E := E) (μ := (I, J, R)) ha.1 (zc_i ha.2.1 ha.2.2 (by decide) (by decide) (by decide))
  refine va_bast h.1 h.2.1 h.2.2.2.2.2.1 hP hD hS q 0 hq' rfl hi.1 hd (fun H1 locs1 hP1 hD1 hS1 => ?_)
  have e := zW_set (ν := (zu I a j (vp_nar .byte x), J, R)) hD ha.1 hq (zc_i ha.2.1 ha.2.2 (by decide) (by decide) (by decide)) (fun b hb => zc_congr (zu_o hb) rfl rfl)
  rw [show (zu I a j (vp_nar .byte x), J, R).1 a = upd (I a) j (vp_nar .byte x) from zu_upd] at e
  rw [hi.2] at hP1 hD1
  rw [e] at hP1 hD1
  exact kk H1 locs1 ls hP1 hD1 hS1 hl
theorem z_last (h : zOK X E l cc own Ts rm nL) {n j : Nat} {i : Int32} {x : Int64} (ha : zA S a 10 n) (hi : zix i j n) (hd : decode cc pc = .ok (.lastore, 1)) (kk : zV X E S kc ks (I, zu J a j x, R) (pc + 1) lv st) : zV X E S kc ks (I, J, R) pc lv (.long x :: .int i :: .ref a :: st) := fun H locs ls hP hD hS hl => by
  obtain ⟨q, hq, hq'⟩ := zW_at (E := E) (μ := (I, J, R)) ha.1 (zc_j ha.2.1 ha.2.2)
  refine va_last h.1 h.2.1 h.2.2.2.2.2.1 hP hD hS q 2 hq' rfl hi.1 hd (fun H1 locs1 hP1 hD1 hS1 => ?_)
  have e := zW_set (ν := (I, zu J a j x, R)) hD ha.1 hq (zc_j ha.2.1 ha.2.2) (fun b hb => zc_congr rfl (zu_o hb) rfl)
  rw [show (I, zu J a j x, R).2.1 a = vp_updL (J a) j x from zu_updL] at e
  rw [hi.2] at hP1 hD1
  rw [e] at hP1 hD1
  exact kk H1 locs1 ls hP1 hD1 hS1 hl
end ZF
/-! CONTRACTS: at memory μ, with these arguments, the method answers r and leaves the memory ν; it makes nothing. -/
def zP (E : zE) (S : zS) (μ : zM) (sz : Nat) (U : State) : Prop := U.heap.size = sz ∧ va_P E.1 vwCl (zW E S μ) U.heap ∧ va_K E.1 vwCl (zT E) U ∧ va_D (fun _ => True) (zW E S μ) ∧ zX E (va_A (zW E S μ) sz) U
def zB (E : zE) (S : zS) (A : Nat → Prop) (u : zM) (t : State) : Prop := va_P E.1 vwCl (zW E S u) t.heap ∧ va_K E.1 vwCl (zT E) t ∧ va_D A (zW E S u)
def zI (l : Launch) (y : MethodName) (ws : List Cond) (rm : Room) (E : zE) (S : zS) (av : List Value) (μ : zM) (r : Int32) (ν : zM) : Prop :=
  ∀ sz, Met l y ws rm (va_Pc av (zP E S μ sz)) (va_Qi (fun r' u => r' = r ∧ u = ν) (zB E S (va_A (zW E S μ) sz)) (va_A (zW E S μ) sz)) 0 0 (va_A (zW E S μ) sz)
def zL (l : Launch) (y : MethodName) (ws : List Cond) (rm : Room) (E : zE) (S : zS) (av : List Value) (μ : zM) (r : Int64) (ν : zM) : Prop :=
  ∀ sz, Met l y ws rm (va_Pc av (zP E S μ sz)) (va_Ql (fun r' u => r' = r ∧ u = ν) (zB E S (va_A (zW E S μ) sz)) (va_A (zW E S μ) sz)) 0 0 (va_A (zW E S μ) sz)
def zN (l : Launch) (y : MethodName) (ws : List Cond) (rm : Room) (E : zE) (S : zS) (av : List Value) (μ ν : zM) : Prop :=
  ∀ sz, Met l y ws rm (va_Pc av (zP E S μ sz)) (va_Qv (fun u => u = ν) (zB E S (va_A (zW E S μ) sz)) (va_A (zW E S μ) sz)) 0 0 (va_A (zW E S μ) sz)
theorem zX_moved {E : zE} {A : Nat → Prop} {u U : State} (hv : U.vm = u.vm) (hh : U.heap = u.heap) (h : zX E A u) : zX E A U := by
  have q : u.vm.Alike U.vm := by rw [hv]; exact Vm.Alike.refl u.vm
  refine ⟨fun i hi => ?_, fun i hi => vk_R.same hv (h.2.1 i hi), ?_⟩
  · rw [hh]
    exact zs1_moved q (h.1 i hi)
  · rw [hh]
    exact ⟨va_Z.moved q h.2.2.1, va_Zq.moved q h.2.2.2⟩
theorem zX_warm {E : zE} {A B : Nat → Prop} {s U : State} {H : Heap} {locs : List Loc} (hW : s.WarmedH U.vm) (hU : U.heap = H) (hS : va_S A s.heap H locs) (hAB : ∀ q, B q → A q) (h : zX E A s) : zX E B U := by
  refine ⟨fun i hi => ?_, fun i hi => vk_R.warm hW (h.2.1 i hi), ?_⟩
  · rw [hU]
    exact zs1_narrow hAB (zs1_kept hS.2.1 (zs1_moved hW.alike (h.1 i hi)))
  · rw [hU]
    exact ⟨va_Z.narrow (va_Z.kept (va_Z.moved hW.alike h.2.2.1) hS.2.1) hAB, va_Zq.narrow (va_Zq.kept (va_Zq.moved hW.alike h.2.2.2) hS.2.1) hAB⟩
section ZC
variable {l : Launch} {y : MethodName} {ws ws' : List Cond} {rm : Room} {E : zE} {S : zS} {av : List Value} {μ ν : zM} {cc : ByteArray} {maxL : Nat}
theorem zA_sub {A : Nat → Prop} {s : State} {H : Heap} {locs : List Loc} (hD : va_D A (zW E S μ)) (hS : va_S A s.heap H locs) (hA : ∀ q, s.heap.size ≤ q → A q) : ∀ q, va_A (zW E S μ) H.size q → A q := by
  intro q hq
  rcases hq with ⟨k, e, hk⟩ | hq
  · exact hD.2 k _ hk
  · exact hA q (Nat.le_trans hS.1 hq)
theorem z_metI {r : Int32} {ty : FieldType} (hy : plainName y.cls = true) (hw : ws = Cond.code y cc maxL (some ty) :: zTbl) (hlen : (lg_sl av).length ≤ maxL)
    (body : ∀ X : zC, zOK X E l cc y.cls zTbl rm maxL → (∀ {pc : Nat} {lv : List (Nat × Value)}, decode cc pc = .ok (.ireturn, 1) → narrow ty (.int r) = .int r → zV X E S 0 0 ν pc lv [.int r]) → zV X E S 0 0 μ 0 (lv_args 0 av) []) : zI l y ws rm E S av μ r ν := by
  intro sz
  refine Met.ofW (cc := cc) (maxL := maxL) (ret := some ty) hy hw ?_
  intro p e s m args below meth c s₁ B hml hv
  obtain ⟨rfl, hsz, hP, hK, hD0, hE⟩ := hv
  subst hsz
  have hD : va_D (va_A (zW E S μ) s.heap.size) (zW E S μ) := hD0.self (sz := s.heap.size)
  have hlocks := B.notSynchronized
  have hb := body (p, l, e, (headSpec ws rm).room, s, m, av.toArray, below, meth, c, MQ below (va_Qi (fun r' u => r' = r ∧ u = ν) (zB E S (va_A (zW E S μ) s.heap.size)) (va_A (zW E S μ) s.heap.size)) av.toArray s 0 0 (va_A (zW E S μ) s.heap.size), va_A (zW E S μ) s.heap.size, maxL)
    ⟨B.exec, B.bytes, hml, findClass_of_methodNamed B.named, fun w hw9 => atoms_spec (ws := ws) B.pre w (by rw [hw]; exact List.mem_cons_of_mem _ hw9), hK, fun q h => Or.inr h, hE, rfl, rfl, rfl⟩
    (fun {pc lv} hd hn H locs ls hP hD hS hl => W.zret (v := r) B.exec B.bytes B.returns hn (fun t ht hW => ⟨⟨r, ν, rfl, ⟨rfl, rfl⟩, by rw [ht]; exact hP, va_K.moved hW.alike hK, hD⟩, hS.F ht⟩) hS.2.2 hd)
  rw [lg_entry_eq]
  exact hb s.heap [] _ hP hD va_S.rf (lv_entry av hlen)
theorem z_metL {r : Int64} (hy : plainName y.cls = true) (hw : ws = Cond.code y cc maxL (some .long) :: zTbl) (hlen : (lg_sl av).length ≤ maxL)
    (body : ∀ X : zC, zOK X E l cc y.cls zTbl rm maxL → (∀ {pc : Nat} {lv : List (Nat × Value)}, decode cc pc = .ok (.lreturn, 1) → zV X E S 0 0 ν pc lv [.long r]) → zV X E S 0 0 μ 0 (lv_args 0 av) []) : zL l y ws rm E S av μ r ν := by
  intro sz
  refine Met.ofW (cc := cc) (maxL := maxL) (ret := some .long) hy hw ?_
  intro p e s m args below meth c s₁ B hml hv
  obtain ⟨rfl, hsz, hP, hK, hD0, hE⟩ := hv
  subst hsz
  have hD : va_D (va_A (zW E S μ) s.heap.size) (zW E S μ) := hD0.self (sz := s.heap.size)
  have hlocks := B.notSynchronized
  have hb := body (p, l, e, (headSpec ws rm).room, s, m, av.toArray, below, meth, c, MQ below (va_Ql (fun r' u => r' = r ∧ u = ν) (zB E S (va_A (zW E S μ) s.heap.size)) (va_A (zW E S μ) s.heap.size)) av.toArray s 0 0 (va_A (zW E S μ) s.heap.size), va_A (zW E S μ) s.heap.size, maxL)
    ⟨B.exec, B.bytes, hml, findClass_of_methodNamed B.named, fun w hw9 => atoms_spec (ws := ws) B.pre w (by rw [hw]; exact List.mem_cons_of_mem _ hw9), hK, fun q h => Or.inr h, hE, rfl, rfl, rfl⟩
    (fun {pc lv} hd H locs ls hP hD hS hl => W.lret (v := r) B.exec B.bytes B.returns (fun t ht hW => ⟨⟨r, ν, rfl, ⟨rfl, rfl⟩, by rw [ht]; exact hP, va_K.moved hW.alike hK, hD⟩, hS.F ht⟩) hS.2.2 hd)
  rw [lg_entry_eq]
  exact hb s.heap [] _ hP hD va_S.rf (lv_entry av hlen)
theorem z_metN (hy : plainName y.cls = true) (hw : ws = Cond.code y cc maxL none :: zTbl) (hlen : (lg_sl av).length ≤ maxL)
    (body : ∀ X : zC, zOK X E l cc y.cls zTbl rm maxL → (∀ {pc : Nat} {lv : List (Nat × Value)}, decode cc pc = .ok (.return_, 1) → zV X E S 0 0 ν pc lv []) → zV X E S 0 0 μ 0 (lv_args 0 av) []) : zN l y ws rm E S av μ ν := by
  intro sz
  refine Met.ofW (cc := cc) (maxL := maxL) (ret := none) hy hw ?_
  intro p e s m args below meth c s₁ B hml hv
  obtain ⟨rfl, hsz, hP, hK, hD0, hE⟩ := hv
  subst hsz
  have hD : va_D (va_A (zW E S μ) s.heap.size) (zW E S μ) := hD0.self (sz := s.heap.size)
  have hlocks := B.notSynchronized
  have hb := body (p, l, e, (headSpec ws rm).room, s, m, av.toArray, below, meth, c, MQ below (va_Qv (fun u => u = ν) (zB E S (va_A (zW E S μ) s.heap.size)) (va_A (zW E S μ) s.heap.size)) av.toArray s 0 0 (va_A (zW E S μ) s.heap.size), va_A (zW E S μ) s.heap.size, maxL)
    ⟨B.exec, B.bytes, hml, findClass_of_methodNamed B.named, fun w hw9 => atoms_spec (ws := ws) B.pre w (by rw [hw]; exact List.mem_cons_of_mem _ hw9), hK, fun q h => Or.inr h, hE, rfl, rfl, rfl⟩
    (fun {pc lv} hd H locs ls hP hD hS hl => W.vret B.exec B.bytes B.returns (fun t ht hW => ⟨⟨ν, rfl, rfl, by rw [ht]; exact hP, va_K.moved hW.alike hK, hD⟩, hS.F ht⟩) hS.2.2 hd)
  rw [lg_entry_eq]
  exact hb s.heap [] _ hP hD va_S.rf (lv_entry av hlen)
theorem zP_blind {sz : Nat} : FrameBlind (va_Pc av (zP E S μ sz)) := fun a U g mk q => by
  obtain ⟨q0, q1, qP, qK, qD, qE⟩ := q
  exact ⟨q0, q1, qP, va_K.moved (u := U) (U := U.calling g mk a) (Vm.Alike.refl U.vm) qK, qD, zX_moved (u := U) rfl rfl qE⟩
end ZC
section ZCALL
variable {X : zC} {E : zE} {S : zS} {kc ks : Nat} {μ ν : zM} {pc : Nat} {lv : List (Nat × Value)} {st st0 : List Value} {l : Launch} {cc : ByteArray} {own : String} {Ts : List Cond} {rm : Room} {nL : Nat}
variable {C : String} {T : u_T} {N ci index b n maxL : Nat} {y : MethodName} {bytes : ByteArray} {ret : Option FieldType} {ws ws' : List Cond} {rc : Room} {As : List Value}
theorem z_pre (h : zOK X E l cc own Ts rm nL) {H : Heap} {locs : List Loc} (hP : va_P E.1 vwCl (zW E S μ) H) (hD : va_D X.2.2.2.2.2.2.2.2.2.2.2.1 (zW E S μ)) (hS : va_S X.2.2.2.2.2.2.2.2.2.2.2.1 X.2.2.2.2.1.heap H locs) (av : List Value) : ∀ U : State, U.heap = H → X.2.2.2.2.1.WarmedH U.vm → va_Pc av (zP E S μ H.size) av.toArray U := fun U hU hW =>
  ⟨rfl, by rw [hU], by rw [hU]; exact hP, va_K.moved hW.alike h.2.2.2.2.2.1, hD.weaken (fun _ _ _ _ => trivial), zX_warm hW hU hS (zA_sub hD hS h.2.2.2.2.2.2.1) h.2.2.2.2.2.2.2.1⟩
theorem z_callVI {r : Int32} (h : zOK X E l cc own Ts rm nL) (hM : zI l y ws rc E S (.ref b :: As) μ r ν) (ho : zO S b ci) (hc : vwCl[ci]? = some (C, T, N)) (hg : GoodIn Ts (wsV own index C y ws)) (hws : ws = Cond.code y bytes maxL ret :: ws') (hrc : rc.cells = 0 ∧ rc.slots = 0) (n : Nat)
    (hd0 : y.cls = C ∧ y.cls ≠ "java/lang/invoke/MethodHandle" ∧ y.cls ≠ "java/lang/invoke/VarHandle" ∧ (parseMethodDescriptor y.desc).map (fun d => d.parameters.length) = some n) (hR : rc.frames + 1 ≤ rm.frames ∧ 8 + (maxL + 11) + rc.locals ≤ rm.locals) (hn : As.length = n) (hst : st0 = As.reverse ++ .ref b :: st) (hcat : (st.map fun v => v.category).sum ≤ 8) (hkc : kc ≤ rm.cells ∧ ks ≤ rm.slots) (hd : decode cc pc = .ok (.invokevirtual index, 3))
    (k : zV X E S kc ks ν (pc + 3) lv (.int r :: st)) : zV X E S kc ks μ pc lv st0 := fun H locs ls hP hD hS hl => by
  subst hst
  obtain ⟨q, hq, hq'⟩ := zW_at (E := E) (μ := μ) ho.1 (zc_o ho.2 (zcls hc).2.2)
  have hF := zA_sub hD hS h.2.2.2.2.2.2.1
  have hl2 : X.2.1 = l := h.2.2.2.2.2.2.2.2.1
  have hR2 : X.2.2.2.1 = rm := h.2.2.2.2.2.2.2.2.2.1
  have hM2 := hM H.size
  rw [← hl2] at hM2
  refine va_calli (va_runV (As := As) (rest := st) ⟨h.1, h.2.1, h.2.2.1, h.2.2.2.1, h.2.2.2.2.1⟩ hM2 (cwV n h.2.2.2.2.1 hg hws hrc.1 hrc.2 hd0 (by rw [hR2]; exact hR)) ⟨zP_blind, va_recv h.2.2.2.2.2.1 hP (q := (C, T, N)) (ci := ci) (q0 := q) hc hq', z_pre h hP hD hS _⟩ rfl hn (hl.1.trans h.2.2.2.2.2.2.2.2.2.2) rfl (lv_room hcat) hd (by rw [hR2]; exact hkc)) hS (fun q _ h => hF q h) hF (fun r2 u t H1 locs1 ht hvm hw hB hz1 hk1 hS1 => ?_)
  obtain ⟨rfl, rfl⟩ := hw
  obtain ⟨hP1, hK1, hD1⟩ := hB
  rw [ht] at hP1
  exact k H1 locs1 ls hP1 (hD1.weaken (fun _ _ _ q => hF _ q)) hS1 hl
theorem z_callVL {r : Int64} (h : zOK X E l cc own Ts rm nL) (hM : zL l y ws rc E S (.ref b :: As) μ r ν) (ho : zO S b ci) (hc : vwCl[ci]? = some (C, T, N)) (hg : GoodIn Ts (wsV own index C y ws)) (hws : ws = Cond.code y bytes maxL ret :: ws') (hrc : rc.cells = 0 ∧ rc.slots = 0) (n : Nat)
    (hd0 : y.cls = C ∧ y.cls ≠ "java/lang/invoke/MethodHandle" ∧ y.cls ≠ "java/lang/invoke/VarHandle" ∧ (parseMethodDescriptor y.desc).map (fun d => d.parameters.length) = some n) (hR : rc.frames + 1 ≤ rm.frames ∧ 8 + (maxL + 11) + rc.locals ≤ rm.locals) (hn : As.length = n) (hst : st0 = As.reverse ++ .ref b :: st) (hcat : (st.map fun v => v.category).sum ≤ 8) (hkc : kc ≤ rm.cells ∧ ks ≤ rm.slots) (hd : decode cc pc = .ok (.invokevirtual index, 3))
    (k : zV X E S kc ks ν (pc + 3) lv (.long r :: st)) : zV X E S kc ks μ pc lv st0 := fun H locs ls hP hD hS hl => by
  subst hst
  obtain ⟨q, hq, hq'⟩ := zW_at (E := E) (μ := μ) ho.1 (zc_o ho.2 (zcls hc).2.2)
  have hF := zA_sub hD hS h.2.2.2.2.2.2.1
  have hl2 : X.2.1 = l := h.2.2.2.2.2.2.2.2.1
  have hR2 : X.2.2.2.1 = rm := h.2.2.2.2.2.2.2.2.2.1
  have hM2 := hM H.size
  rw [← hl2] at hM2
  refine va_calll (va_runV (As := As) (rest := st) ⟨h.1, h.2.1, h.2.2.1, h.2.2.2.1, h.2.2.2.2.1⟩ hM2 (cwV n h.2.2.2.2.1 hg hws hrc.1 hrc.2 hd0 (by rw [hR2]; exact hR)) ⟨zP_blind, va_recv h.2.2.2.2.2.1 hP (q := (C, T, N)) (ci := ci) (q0 := q) hc hq', z_pre h hP hD hS _⟩ rfl hn (hl.1.trans h.2.2.2.2.2.2.2.2.2.2) rfl (lv_room hcat) hd (by rw [hR2]; exact hkc)) hS (fun q _ h => hF q h) hF (fun r2 u t H1 locs1 ht hvm hw hB hz1 hk1 hS1 => ?_)
  obtain ⟨rfl, rfl⟩ := hw
  obtain ⟨hP1, hK1, hD1⟩ := hB
  rw [ht] at hP1
  exact k H1 locs1 ls hP1 (hD1.weaken (fun _ _ _ q => hF _ q)) hS1 hl
theorem z_callVN (h : zOK X E l cc own Ts rm nL) (hM : zN l y ws rc E S (.ref b :: As) μ ν) (ho : zO S b ci) (hc : vwCl[ci]? = some (C, T, N)) (hg : GoodIn Ts (wsV own index C y ws)) (hws : ws = Cond.code y bytes maxL ret :: ws') (hrc : rc.cells = 0 ∧ rc.slots = 0) (n : Nat)
    (hd0 : y.cls = C ∧ y.cls ≠ "java/lang/invoke/MethodHandle" ∧ y.cls ≠ "java/lang/invoke/VarHandle" ∧ (parseMethodDescriptor y.desc).map (fun d => d.parameters.length) = some n) (hR : rc.frames + 1 ≤ rm.frames ∧ 8 + (maxL + 11) + rc.locals ≤ rm.locals) (hn : As.length = n) (hst : st0 = As.reverse ++ .ref b :: st) (hcat : (st.map fun v => v.category).sum ≤ 8) (hkc : kc ≤ rm.cells ∧ ks ≤ rm.slots) (hd : decode cc pc = .ok (.invokevirtual index, 3))
    (k : zV X E S kc ks ν (pc + 3) lv st) : zV X E S kc ks μ pc lv st0 := fun H locs ls hP hD hS hl => by
  subst hst
  obtain ⟨q, hq, hq'⟩ := zW_at (E := E) (μ := μ) ho.1 (zc_o ho.2 (zcls hc).2.2)
  have hF := zA_sub hD hS h.2.2.2.2.2.2.1
  have hl2 : X.2.1 = l := h.2.2.2.2.2.2.2.2.1
  have hR2 : X.2.2.2.1 = rm := h.2.2.2.2.2.2.2.2.2.1
  have hM2 := hM H.size
  rw [← hl2] at hM2
  refine va_callv (va_runV (As := As) (rest := st) ⟨h.1, h.2.1, h.2.2.1, h.2.2.2.1, h.2.2.2.2.1⟩ hM2 (cwV n h.2.2.2.2.1 hg hws hrc.1 hrc.2 hd0 (by rw [hR2]; exact hR)) ⟨zP_blind, va_recv h.2.2.2.2.2.1 hP (q := (C, T, N)) (ci := ci) (q0 := q) hc hq', z_pre h hP hD hS _⟩ rfl hn (hl.1.trans h.2.2.2.2.2.2.2.2.2.2) rfl (lv_room hcat) hd (by rw [hR2]; exact hkc)) hS (fun q _ h => hF q h) hF (fun u t H1 locs1 ht hvm hw hB hz1 hk1 hS1 => ?_)
  subst hw
  obtain ⟨hP1, hK1, hD1⟩ := hB
  rw [ht] at hP1
  exact k H1 locs1 ls hP1 (hD1.weaken (fun _ _ _ q => hF _ q)) hS1 hl
theorem z_callSI {r : Int32} (h : zOK X E l cc own Ts rm nL) (hM : zI l y ws rc E S As μ r ν) (hcw : CallB rm X.2.2.2.2.1 X.2.2.2.2.2.2.1 own index y bytes maxL ret ws rc 0 0 n ∧ (Cond.static y).before X.2.2.2.2.2.2.1 X.2.2.2.2.1 = true) (hn : As.length = n) (hst : st0 = As.reverse ++ st) (hcat : (st.map fun v => v.category).sum ≤ 8) (hkc : kc ≤ rm.cells ∧ ks ≤ rm.slots) (hd : decode cc pc = .ok (.invokestatic index, 3))
    (k : zV X E S kc ks ν (pc + 3) lv (.int r :: st)) : zV X E S kc ks μ pc lv st0 := fun H locs ls hP hD hS hl => by
  subst hst
  have hF := zA_sub hD hS h.2.2.2.2.2.2.1
  have hl2 : X.2.1 = l := h.2.2.2.2.2.2.2.2.1
  have hR2 : X.2.2.2.1 = rm := h.2.2.2.2.2.2.2.2.2.1
  have hM2 := hM H.size
  rw [← hl2] at hM2
  refine va_calli (va_runS (As := As) (rest := st) ⟨h.1, h.2.1, h.2.2.1, h.2.2.2.1, h.2.2.2.2.1⟩ hM2 (by rw [hR2]; exact hcw) ⟨zP_blind, z_pre h hP hD hS _⟩ rfl hn (hl.1.trans h.2.2.2.2.2.2.2.2.2.2) rfl (lv_room hcat) hd (by rw [hR2]; exact hkc)) hS (fun q _ h => hF q h) hF (fun r2 u t H1 locs1 ht hvm hw hB hz1 hk1 hS1 => ?_)
  obtain ⟨rfl, rfl⟩ := hw
  obtain ⟨hP1, hK1, hD1⟩ := hB
  rw [ht] at hP1
  exact k H1 locs1 ls hP1 (hD1.weaken (fun _ _ _ q => hF _ q)) hS1 hl
theorem z_callSL {r : Int64} (h : zOK X E l cc own Ts rm nL) (hM : zL l y ws rc E S As μ r ν) (hcw : CallB rm X.2.2.2.2.1 X.2.2.2.2.2.2.1 own index y bytes maxL ret ws rc 0 0 n ∧ (Cond.static y).before X.2.2.2.2.2.2.1 X.2.2.2.2.1 = true) (hn : As.length = n) (hst : st0 = As.reverse ++ st) (hcat : (st.map fun v => v.category).sum ≤ 8) (hkc : kc ≤ rm.cells ∧ ks ≤ rm.slots) (hd : decode cc pc = .ok (.invokestatic index, 3))
    (k : zV X E S kc ks ν (pc + 3) lv (.long r :: st)) : zV X E S kc ks μ pc lv st0 := fun H locs ls hP hD hS hl => by
  subst hst
  have hF := zA_sub hD hS h.2.2.2.2.2.2.1
  have hl2 : X.2.1 = l := h.2.2.2.2.2.2.2.2.1
  have hR2 : X.2.2.2.1 = rm := h.2.2.2.2.2.2.2.2.2.1
  have hM2 := hM H.size
  rw [← hl2] at hM2
  refine va_calll (va_runS (As := As) (rest := st) ⟨h.1, h.2.1, h.2.2.1, h.2.2.2.1, h.2.2.2.2.1⟩ hM2 (by rw [hR2]; exact hcw) ⟨zP_blind, z_pre h hP hD hS _⟩ rfl hn (hl.1.trans h.2.2.2.2.2.2.2.2.2.2) rfl (lv_room hcat) hd (by rw [hR2]; exact hkc)) hS (fun q _ h => hF q h) hF (fun r2 u t H1 locs1 ht hvm hw hB hz1 hk1 hS1 => ?_)
  obtain ⟨rfl, rfl⟩ := hw
  obtain ⟨hP1, hK1, hD1⟩ := hB
  rw [ht] at hP1
  exact k H1 locs1 ls hP1 (hD1.weaken (fun _ _ _ q => hF _ q)) hS1 hl
theorem z_callSN (h : zOK X E l cc own Ts rm nL) (hM : zN l y ws rc E S As μ ν) (hcw : CallB rm X.2.2.2.2.1 X.2.2.2.2.2.2.1 own index y bytes maxL ret ws rc 0 0 n ∧ (Cond.static y).before X.2.2.2.2.2.2.1 X.2.2.2.2.1 = true) (hn : As.length = n) (hst : st0 = As.reverse ++ st) (hcat : (st.map fun v => v.category).sum ≤ 8) (hkc : kc ≤ rm.cells ∧ ks ≤ rm.slots) (hd : decode cc pc = .ok (.invokestatic index, 3))
    (k : zV X E S kc ks ν (pc + 3) lv st) : zV X E S kc ks μ pc lv st0 := fun H locs ls hP hD hS hl => by
  subst hst
  have hF := zA_sub hD hS h.2.2.2.2.2.2.1
  have hl2 : X.2.1 = l := h.2.2.2.2.2.2.2.2.1
  have hR2 : X.2.2.2.1 = rm := h.2.2.2.2.2.2.2.2.2.1
  have hM2 := hM H.size
  rw [← hl2] at hM2
  refine va_callv (va_runS (As := As) (rest := st) ⟨h.1, h.2.1, h.2.2.1, h.2.2.2.1, h.2.2.2.2.1⟩ hM2 (by rw [hR2]; exact hcw) ⟨zP_blind, z_pre h hP hD hS _⟩ rfl hn (hl.1.trans h.2.2.2.2.2.2.2.2.2.2) rfl (lv_room hcat) hd (by rw [hR2]; exact hkc)) hS (fun q _ h => hF q h) hF (fun u t H1 locs1 ht hvm hw hB hz1 hk1 hS1 => ?_)
  subst hw
  obtain ⟨hP1, hK1, hD1⟩ := hB
  rw [ht] at hP1
  exact k H1 locs1 ls hP1 (hD1.weaken (fun _ _ _ q => hF _ q)) hS1 hl
end ZCALL
section ZSTR
variable {X : zC} {E : zE} {S : zS} {kc ks : Nat} {μ ν : zM} {pc : Nat} {lv : List (Nat × Value)} {st st0 : List Value} {l : Launch} {cc : ByteArray} {own : String} {Ts : List Cond} {rm : Room} {nL : Nat}
variable {index i n maxL : Nat} {y : MethodName} {bytes : ByteArray} {ret : Option FieldType} {ws ws' : List Cond} {rc : Room} {As : List Value}
/-- a call on a text -/
theorem z_callTI {r : Int32} (h : zOK X E l cc own Ts rm nL) (hi : i < zlN) (hM : zI l y ws rc E S (.ref (E.2.2.1 i) :: As) μ r ν) (hg : GoodIn Ts (wsV own index "java/lang/String" y ws)) (hws : ws = Cond.code y bytes maxL ret :: ws') (hrc : rc.cells = 0 ∧ rc.slots = 0) (n : Nat)
    (hd0 : y.cls = "java/lang/String" ∧ y.cls ≠ "java/lang/invoke/MethodHandle" ∧ y.cls ≠ "java/lang/invoke/VarHandle" ∧ (parseMethodDescriptor y.desc).map (fun d => d.parameters.length) = some n) (hR : rc.frames + 1 ≤ rm.frames ∧ 8 + (maxL + 11) + rc.locals ≤ rm.locals) (hn : As.length = n) (hst : st0 = As.reverse ++ .ref (E.2.2.1 i) :: st) (hcat : (st.map fun v => v.category).sum ≤ 8) (hkc : kc ≤ rm.cells ∧ ks ≤ rm.slots) (hd : decode cc pc = .ok (.invokevirtual index, 3))
    (k : zV X E S kc ks ν (pc + 3) lv (.int r :: st)) : zV X E S kc ks μ pc lv st0 := fun H locs ls hP hD hS hl => by
  subst hst
  have hF := zA_sub hD hS h.2.2.2.2.2.2.1
  have hl2 : X.2.1 = l := h.2.2.2.2.2.2.2.2.1
  have hR2 : X.2.2.2.1 = rm := h.2.2.2.2.2.2.2.2.2.1
  have hM2 := hM H.size
  rw [← hl2] at hM2
  have hrecv : ∃ cell : Cell, H[E.2.2.1 i]? = some cell ∧ cell.vm.isStatics = false ∧ X.2.2.2.2.1.vm.findClass "java/lang/String" = some cell.cls := by
    obtain ⟨cell, h1, h2, h3, -⟩ := (h.2.2.2.2.2.2.2.1.1 i hi).1.kept hS.2.1
    exact ⟨cell, h1, h2, h3⟩
  refine va_calli (va_runV (As := As) (rest := st) ⟨h.1, h.2.1, h.2.2.1, h.2.2.2.1, h.2.2.2.2.1⟩ hM2 (cwV n h.2.2.2.2.1 hg hws hrc.1 hrc.2 hd0 (by rw [hR2]; exact hR)) ⟨zP_blind, hrecv, z_pre h hP hD hS _⟩ rfl hn (hl.1.trans h.2.2.2.2.2.2.2.2.2.2) rfl (lv_room hcat) hd (by rw [hR2]; exact hkc)) hS (fun q _ h => hF q h) hF (fun r2 u t H1 locs1 ht hvm hw hB hz1 hk1 hS1 => ?_)
  obtain ⟨rfl, rfl⟩ := hw
  obtain ⟨hP1, hK1, hD1⟩ := hB
  rw [ht] at hP1
  exact k H1 locs1 ls hP1 (hD1.weaken (fun _ _ _ q => hF _ q)) hS1 hl
theorem z_getC (h : zOK X E l cc own Ts rm nL) (hi : i < zlN) (hw : Cond.fieldLink own index "java/lang/String" "coder" "B" ∈ Ts) (hd : decode cc pc = .ok (.getfield index, 3)) (kk : zV X E S kc ks μ (pc + 3) lv (.int 0 :: st)) : zV X E S kc ks μ pc lv (.ref (E.2.2.1 i) :: st) := fun H locs ls hP hD hS hl =>
  vk_getf h.1 h.2.1 (h.2.2.2.2.2.2.2.1.1 i hi).2.1 hS h.2.2.2.1 (h.2.2.2.2.1 _ hw) (fun _ h9 => h9) hd (kk H locs ls hP hD hS hl)
theorem z_getT (h : zOK X E l cc own Ts rm nL) (hi : i < zlN) (hw : Cond.fieldLink own index "java/lang/String" "value" "[B" ∈ Ts) (hd : decode cc pc = .ok (.getfield index, 3)) (kk : zV X E S kc ks μ (pc + 3) lv (.ref (E.2.2.2 i) :: st)) : zV X E S kc ks μ pc lv (.ref (E.2.2.1 i) :: st) := fun H locs ls hP hD hS hl =>
  vk_getf h.1 h.2.1 (h.2.2.2.2.2.2.2.1.1 i hi).2.2.1 hS h.2.2.2.1 (h.2.2.2.2.1 _ hw) (fun _ h9 => h9) hd (kk H locs ls hP hD hS hl)
theorem z_tlen (h : zOK X E l cc own Ts rm nL) (hi : i < zlN) (hd : decode cc pc = .ok (.arraylength, 1)) (kk : zV X E S kc ks μ (pc + 1) lv (.int (nI (zsb i).length) :: st)) : zV X E S kc ks μ pc lv (.ref (E.2.2.2 i) :: st) := fun H locs ls hP hD hS hl =>
  va_tlen h.1 h.2.1 (h.2.2.2.2.2.2.2.1.1 i hi).2.2.2 hS rfl hd (kk H locs ls hP hD hS hl)
theorem z_tald (h : zOK X E l cc own Ts rm nL) (hi : i < zlN) {k : Int32} {j : Nat} (hk : zix k j (zsb i).length) (hd : decode cc pc = .ok (.baload, 1)) (kk : zV X E S kc ks μ (pc + 1) lv (.int ((zsb i).getD j 0) :: st)) : zV X E S kc ks μ pc lv (.int k :: .ref (E.2.2.2 i) :: st) := fun H locs ls hP hD hS hl =>
  va_tb h.1 h.2.1 (h.2.2.2.2.2.2.2.1.1 i hi).2.2.2 hS hk.1 (by rw [hk.2]) hd (kk H locs ls hP hD hS hl)
theorem z_gets1 (h : zOK X E l cc own Ts rm nL) (hw : Cond.fieldLink own index "java/lang/String" "COMPACT_STRINGS" "Z" ∈ Ts) (hd : decode cc pc = .ok (.getstatic index, 3)) (kk : zV X E S kc ks μ (pc + 3) lv (.int 1 :: st)) : zV X E S kc ks μ pc lv st := fun H locs ls hP hD hS hl =>
  va_gets h.1 h.2.1 h.2.2.2.2.2.2.2.1.2.2.1 hS h.2.2.2.1 (h.2.2.2.2.1 _ hw) (fun _ h9 => h9) hd (kk H locs ls hP hD hS hl)
theorem z_gets2 (h : zOK X E l cc own Ts rm nL) (hw : Cond.fieldLink own index "jdk/internal/util/Preconditions" "SIOOBE_FORMATTER" "Ljava/util/function/BiFunction;" ∈ Ts) (hd : decode cc pc = .ok (.getstatic index, 3)) (kk : ∀ v : Value, (v = .null ∨ ∃ t, v = .ref t) → zV X E S kc ks μ (pc + 3) lv (v :: st)) : zV X E S kc ks μ pc lv st := fun H locs ls hP hD hS hl => by
  rcases h.2.2.2.2.2.2.2.1.2.2.2 with z | ⟨t, z⟩
  · exact va_gets h.1 h.2.1 z hS h.2.2.2.1 (h.2.2.2.2.1 _ hw) (fun _ h9 => h9) hd (kk _ (Or.inl rfl) H locs ls hP hD hS hl)
  · exact va_gets h.1 h.2.1 z hS h.2.2.2.1 (h.2.2.2.2.1 _ hw) (fun _ h9 => h9) hd (kk _ (Or.inr ⟨t, rfl⟩) H locs ls hP hD hS hl)
/-- the length of an int row (or a long one) of the world -/
theorem z_alenJ {a n : Nat} (h : zOK X E l cc own Ts rm nL) (ha : zA S a 10 n) {v : Int32} (hv : nI n = v) (hd : decode cc pc = .ok (.arraylength, 1)) (kk : zV X E S kc ks μ (pc + 1) lv (.int v :: st)) : zV X E S kc ks μ pc lv (.ref a :: st) := fun H locs ls hP hD hS hl => by
  obtain ⟨q, hq, hq'⟩ := zW_at (E := E) (μ := μ) ha.1 (zc_j ha.2.1 ha.2.2)
  exact va_alen h.1 h.2.1 h.2.2.2.2.2.1 hP q 2 hq' (ty := .long) rfl hv hd (kk H locs ls hP hD hS hl)
end ZSTR
