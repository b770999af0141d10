/-! NEW OBJECTS AND ARRAYS. A cell that is not there yet holds zeros in the memory, so that a new one changes the shape alone. -/
def zZ : zM := (fun _ _ => 0, fun _ _ => 0, fun _ _ => none)
def zNul (S : zS) (μ : zM) : Prop := ∀ b, b ∉ S.1 → μ.1 b = (fun _ => 0) ∧ μ.2.1 b = (fun _ => 0) ∧ μ.2.2 b = (fun _ => none)
def zSub (S S' : zS) : Prop := ∀ b, b ∈ S.1 → b ∈ S'.1 ∧ S'.2.1 b = S.2.1 b ∧ S'.2.2 b = S.2.2 b
theorem zSub.refl {S : zS} : zSub S S := fun _ h => ⟨h, rfl, rfl⟩
theorem zSub.trans {S T U : zS} (h : zSub S T) (k : zSub T U) : zSub S U := fun b hb => ⟨(k b (h b hb).1).1, (k b (h b hb).1).2.1.trans (h b hb).2.1, (k b (h b hb).1).2.2.trans (h b hb).2.2⟩
theorem zSub.O {S T : zS} {a ci : Nat} (h : zSub S T) (k : zO S a ci) : zO T a ci := ⟨(h a k.1).1, (h a k.1).2.1.trans k.2⟩
theorem zSub.A {S T : zS} {a k n : Nat} (h : zSub S T) (q : zA S a k n) : zA T a k n := ⟨(h a q.1).1, (h a q.1).2.1.trans q.2.1, (h a q.1).2.2.trans q.2.2⟩
theorem zSub.no {S T : zS} {a : Nat} (h : zSub S T) (k : a ∉ T.1) : a ∉ S.1 := fun q => k (h a q).1
def zSk (S : zS) (a k n : Nat) : zS := (S.1 ++ [a], fun b => if b = a then k else S.2.1 b, fun b => if b = a then n else S.2.2 b)
theorem zSk_sub {S : zS} {a k n : Nat} (ha : a ∉ S.1) : zSub S (zSk S a k n) := fun b hb => by
  have hba : b ≠ a := fun q => ha (q ▸ hb)
  exact ⟨List.mem_append_left _ hb, if_neg hba, if_neg hba⟩
theorem zSk_a {S : zS} {a k n : Nat} : zA (zSk S a k n) a k n := ⟨List.mem_append_right _ (List.mem_singleton.mpr rfl), if_pos rfl, if_pos rfl⟩
theorem zSk_nul {S : zS} {a k n : Nat} {μ : zM} (h : zNul S μ) : zNul (zSk S a k n) μ := fun b hb => h b fun q => hb (List.mem_append_left _ q)
theorem zW_k {E : zE} {S : zS} {μ : zM} {a k n : Nat} (ha : a ∉ S.1) : zW E (zSk S a k n) μ = zW E S μ ++ [(a, zc E.2.1 (fun _ => k) (fun _ => n) μ a)] := by
  unfold zW zSk
  show va_pl (S.1 ++ [a]) _ = va_pl S.1 _ ++ _
  unfold va_pl
  rw [List.map_append]
  congr 1
  · refine List.map_congr_left fun b hb => ?_
    have hba : b ≠ a := fun q => ha (q ▸ hb)
    congr 1
    exact zc_kn (if_neg hba) (if_neg hba) rfl rfl rfl
  · show [(a, zc E.2.1 _ _ _ a)] = _
    congr 2
    exact zc_kn (if_pos rfl) (if_pos rfl) rfl rfl rfl
theorem zf_nul {μ : zM} {a : Nat} (h1 : μ.1 a = fun _ => 0) (h2 : μ.2.1 a = fun _ => 0) (h3 : μ.2.2 a = fun _ => none) : ∀ (ts : List Nat) (k : Nat), zf μ a ts k = zf zZ 0 ts k
  | [], _ => rfl
  | t :: ts, k => by
    show zval μ a t k :: _ = zval zZ 0 t k :: _
    rw [zf_nul h1 h2 h3 ts (k + 1)]
    unfold zval
    rw [h1, h2, h3]
    rfl
theorem zD_head {A : Nat → Prop} {q : Nat} {e : va_E} {L : List Nat} {f : Nat → va_E} (h : va_D A ((q, e) :: va_pl L f)) : q ∉ L := fun hq => by
  obtain ⟨k, hk⟩ := va_pl_get (X := []) (f := f) hq
  have := h.1 0 (k + 1) (q, e) (q, f q) rfl hk rfl
  omega

set_option maxRecDepth 20000 in
theorem kk_RL_8 : Cond.classLink RL 8 RX6 ∈ zTbl := zmem 72 rfl rfl
set_option maxRecDepth 20000 in
theorem kt_6 : Cond.instantiable RX6 6 ∈ zTbl := zmem 73 rfl rfl
set_option maxRecDepth 20000 in
theorem kq_6 : Cond.methodLink RX6 3 Lib.objectInit ∈ zTbl := zmem 77 rfl rfl
set_option maxRecDepth 20000 in
theorem kk_RX6_9 : Cond.classLink RX6 9 RX5 ∈ zTbl := zmem 80 rfl rfl
set_option maxRecDepth 20000 in
theorem kt_5 : Cond.instantiable RX5 4 ∈ zTbl := zmem 81 rfl rfl
set_option maxRecDepth 20000 in
theorem kq_5 : Cond.methodLink RX5 3 Lib.objectInit ∈ zTbl := zmem 85 rfl rfl
set_option maxRecDepth 20000 in
theorem kk_RX6_16 : Cond.classLink RX6 16 RX2 ∈ zTbl := zmem 100 rfl rfl
set_option maxRecDepth 20000 in
theorem kt_2 : Cond.instantiable RX2 1 ∈ zTbl := zmem 101 rfl rfl
set_option maxRecDepth 20000 in
theorem kq_2 : Cond.methodLink RX2 3 Lib.objectInit ∈ zTbl := zmem 105 rfl rfl
set_option maxRecDepth 20000 in
theorem kk_RX6_25 : Cond.classLink RX6 25 RX0 ∈ zTbl := zmem 110 rfl rfl
set_option maxRecDepth 20000 in
theorem kt_0 : Cond.instantiable RX0 3 ∈ zTbl := zmem 111 rfl rfl
set_option maxRecDepth 20000 in
theorem kq_0 : Cond.methodLink RX0 3 Lib.objectInit ∈ zTbl := zmem 115 rfl rfl
set_option maxRecDepth 20000 in
theorem kk_RX6_32 : Cond.classLink RX6 32 RX3 ∈ zTbl := zmem 126 rfl rfl
set_option maxRecDepth 20000 in
theorem kt_3 : Cond.instantiable RX3 6 ∈ zTbl := zmem 127 rfl rfl
set_option maxRecDepth 20000 in
theorem kq_3 : Cond.methodLink RX3 3 Lib.objectInit ∈ zTbl := zmem 131 rfl rfl
set_option maxRecDepth 20000 in
theorem kk_RX3_9 : Cond.classLink RX3 9 "[[I" ∈ zTbl := zmem 132 rfl rfl
set_option maxRecDepth 20000 in
theorem kk_RX6_42 : Cond.classLink RX6 42 RX4 ∈ zTbl := zmem 153 rfl rfl
set_option maxRecDepth 20000 in
theorem kt_4 : Cond.instantiable RX4 14 ∈ zTbl := zmem 154 rfl rfl
set_option maxRecDepth 20000 in
theorem kq_4 : Cond.methodLink RX4 3 Lib.objectInit ∈ zTbl := zmem 158 rfl rfl
set_option maxRecDepth 20000 in
theorem kk_RX4_9 : Cond.classLink RX4 9 RX1 ∈ zTbl := zmem 159 rfl rfl
set_option maxRecDepth 20000 in
theorem kt_1 : Cond.instantiable RX1 2 ∈ zTbl := zmem 161 rfl rfl
set_option maxRecDepth 20000 in
theorem kq_1 : Cond.methodLink RX1 3 Lib.objectInit ∈ zTbl := zmem 165 rfl rfl
set_option maxRecDepth 20000 in
theorem kk_RX1_9 : Cond.classLink RX1 9 "[[J" ∈ zTbl := zmem 166 rfl rfl
set_option maxRecDepth 20000 in
theorem kk_RX4_22 : Cond.classLink RX4 22 "[[J" ∈ zTbl := zmem 177 rfl rfl
set_option maxRecDepth 20000 in
theorem kk_RL_16 : Cond.classLink RL 16 RX7 ∈ zTbl := zmem 773 rfl rfl
set_option maxRecDepth 20000 in
theorem kt_7 : Cond.instantiable RX7 27 ∈ zTbl := zmem 774 rfl rfl
set_option maxRecDepth 20000 in
theorem kq_7 : Cond.methodLink RX7 3 Lib.objectInit ∈ zTbl := zmem 778 rfl rfl
set_option maxRecDepth 20000 in
theorem kq_in : Cond.instanceMethod Lib.objectInit ∈ zTbl := zmem 78 rfl rfl
set_option maxRecDepth 20000 in
theorem kq_co : Cond.code Lib.objectInit ⟨#[0xb1]⟩ 1 none ∈ zTbl := zmem 79 rfl rfl
set_option maxRecDepth 20000 in
theorem kb_long : Cond.arrayClass .long ∈ zTbl := zmem 175 rfl rfl
set_option maxRecDepth 20000 in
theorem kb_bool : Cond.arrayClass .boolean ∈ zTbl := zmem 176 rfl rfl
set_option maxRecDepth 20000 in
theorem kb_byte : Cond.arrayClass .byte ∈ zTbl := zmem 430 rfl rfl
theorem va_AOA.moved {t : FieldType} {u U : State} (hvm : u.vm.Alike U.vm) (h : va_AOA t u) : va_AOA t U := by
  obtain ⟨comp, c, k, h1, h2, h3, h4, h5⟩ := Jvm.Stand.arrayOver_specB h
  obtain ⟨k', hk', he⟩ := hvm.2.2 _ _ h3
  have hi : (U.vm.classes.findIdx? fun (x : Class) => match x.kind with | .array component _ => component == comp | _ => false) = some c := by
    have hbe : U.vm.bare = u.vm.bare := by first | exact hvm.bare_eq | exact hvm.bare_eq.symm
    have q1 := va_idx_bare U.vm comp
    have q2 := va_idx_bare u.vm comp
    rw [hbe] at q1
    exact q1.symm.trans (q2.trans h2)
  have hkind : k'.kind = .array comp (.array t) := by rw [he]; exact h4
  have f1 : U.vm.findClass (FieldType.array t).toString = some comp := by rw [hvm.findClass]; exact h1
  have f2 : U.vm.findClass ("[" ++ (FieldType.array t).toString) = some c := by rw [hvm.findClass]; exact h5
  unfold va_AOA Cond.before Cond.holds
  simp only [Cond.value]
  rw [f1, Option.bind_some]
  refine (congrArg (fun o : Option Nat => (o.bind (fun c => (U.vm.classes[c]?).map fun (k : Class) => match k.kind with | .array _ ty => decide (ty = FieldType.array t) && decide (U.vm.findClass ("[" ++ (FieldType.array t).toString) = some c) | _ => false) == some true)) hi).trans ?_
  simp [hk', hkind, f2]
/-- the constructors that are called by nest mates -/
def zNW : List (String × Nat × MethodName) := [(RX6, 11, yX5_init), (RX6, 27, yX0_init), (RX6, 34, yX3_init), (RX4, 17, yX1_init)]
theorem zNW_0 : (RX6, 11, yX5_init) ∈ zNW := List.mem_of_getElem? (i := 0) rfl
theorem zNW_1 : (RX6, 27, yX0_init) ∈ zNW := List.mem_of_getElem? (i := 1) rfl
theorem zNW_2 : (RX6, 34, yX3_init) ∈ zNW := List.mem_of_getElem? (i := 2) rfl
theorem zNW_3 : (RX4, 17, yX1_init) ∈ zNW := List.mem_of_getElem? (i := 3) rfl
/-- the classes of arrays of arrays and of objects are there; nest mates are linked -/
def zAO (U : State) : Prop := va_AO "TaleSums$Laws" U ∧ va_AOA .int U ∧ va_AOA .long U ∧ ∀ q ∈ zNW, va_Nw (.methodLinkNest q.1 q.2.1 q.2.2 "TaleSums") U
theorem zAO.warm {s U : State} (hW : s.WarmedH U.vm) (h : zAO s) : zAO U := ⟨va_AO.moved hW.alike h.1, va_AOA.moved hW.alike h.2.1, va_AOA.moved hW.alike h.2.2.1, fun q hq => va_Nw.warmM hW (h.2.2.2 q hq)⟩
theorem zAO.same {u U : State} (hv : u.vm = U.vm) (h : zAO u) : zAO U := ⟨va_AO.moved (by rw [hv]; exact Vm.Alike.refl _) h.1, va_AOA.moved (by rw [hv]; exact Vm.Alike.refl _) h.2.1, va_AOA.moved (by rw [hv]; exact Vm.Alike.refl _) h.2.2.1, fun q hq => va_Nw.same rfl hv (h.2.2.2 q hq)⟩
theorem zdf0 : ∀ j, j < 3 → defaultValue (zty 0 j) = vp_V (zf zZ 0 (zk 0) 0) j := by
  intro j hj
  rcases (show j = 0 ∨ j = 1 ∨ j = 2 by omega) with rfl | rfl | rfl <;> rfl
theorem zdf1 : ∀ j, j < 2 → defaultValue (zty 1 j) = vp_V (zf zZ 0 (zk 1) 0) j := by
  intro j hj
  rcases (show j = 0 ∨ j = 1 by omega) with rfl | rfl <;> rfl
theorem zdf2 : ∀ j, j < 1 → defaultValue (zty 2 j) = vp_V (zf zZ 0 (zk 2) 0) j := by
  intro j hj
  rcases (show j = 0 by omega) with rfl <;> rfl
theorem zdf3 : ∀ j, j < 6 → defaultValue (zty 3 j) = vp_V (zf zZ 0 (zk 3) 0) j := by
  intro j hj
  rcases (show j = 0 ∨ j = 1 ∨ j = 2 ∨ j = 3 ∨ j = 4 ∨ j = 5 by omega) with rfl | rfl | rfl | rfl | rfl | rfl <;> rfl
theorem zdf4 : ∀ j, j < 14 → defaultValue (zty 4 j) = vp_V (zf zZ 0 (zk 4) 0) j := by
  intro j hj
  rcases (show j = 0 ∨ j = 1 ∨ j = 2 ∨ j = 3 ∨ j = 4 ∨ j = 5 ∨ j = 6 ∨ j = 7 ∨ j = 8 ∨ j = 9 ∨ j = 10 ∨ j = 11 ∨ j = 12 ∨ j = 13 by omega) with rfl | rfl | rfl | rfl | rfl | rfl | rfl | rfl | rfl | rfl | rfl | rfl | rfl | rfl <;> rfl
theorem zdf5 : ∀ j, j < 4 → defaultValue (zty 5 j) = vp_V (zf zZ 0 (zk 5) 0) j := by
  intro j hj
  rcases (show j = 0 ∨ j = 1 ∨ j = 2 ∨ j = 3 by omega) with rfl | rfl | rfl | rfl <;> rfl
theorem zdf6 : ∀ j, j < 6 → defaultValue (zty 6 j) = vp_V (zf zZ 0 (zk 6) 0) j := by
  intro j hj
  rcases (show j = 0 ∨ j = 1 ∨ j = 2 ∨ j = 3 ∨ j = 4 ∨ j = 5 by omega) with rfl | rfl | rfl | rfl | rfl | rfl <;> rfl
theorem zdf7 : ∀ j, j < 27 → defaultValue (zty 7 j) = vp_V (zf zZ 0 (zk 7) 0) j := by
  intro j hj
  rcases (show j = 0 ∨ j = 1 ∨ j = 2 ∨ j = 3 ∨ j = 4 ∨ j = 5 ∨ j = 6 ∨ j = 7 ∨ j = 8 ∨ j = 9 ∨ j = 10 ∨ j = 11 ∨ j = 12 ∨ j = 13 ∨ j = 14 ∨ j = 15 ∨ j = 16 ∨ j = 17 ∨ j = 18 ∨ j = 19 ∨ j = 20 ∨ j = 21 ∨ j = 22 ∨ j = 23 ∨ j = 24 ∨ j = 25 ∨ j = 26 by omega) with rfl | rfl | rfl | rfl | rfl | rfl | rfl | rfl | rfl | rfl | rfl | rfl | rfl | rfl | rfl | rfl | rfl | rfl | rfl | rfl | rfl | rfl | rfl | rfl | rfl | rfl | rfl <;> rfl
section ZNEW2
variable {X : zC} {E : zE} {S : zS} {kc ks : Nat} {μ : zM} {I : Nat → Nat → Int32} {J : Nat → Nat → Int64} {R : Nat → Nat → Option Nat} {pc : Nat} {lv : List (Nat × Value)} {st st0 : List Value} {l : Launch} {cc : ByteArray} {own : String} {rm : Room} {nL : Nat} {C : String} {T : u_T} {N ci index a : Nat}
theorem z_new (h : zOK X E l cc own zTbl rm nL) (hN : zNul S μ) (hc : vwCl[ci]? = some (C, T, N)) (hin : ∀ w ∈ u_ws C T N, w ∈ zTbl) (hfs : ∀ j, j < N → defaultValue (zty ci j) = vp_V (zf zZ 0 (zk ci) 0) j) (hw1 : Cond.classLink own index C ∈ zTbl) (hw2 : Cond.instantiable C N ∈ zTbl) (hw3 : Cond.initialized C ∈ zTbl) (hkc : kc + 1 ≤ rm.cells) (hks : ks + N ≤ rm.slots) (hd : decode cc pc = .ok (.new index, 3))
    (k : ∀ (a : Nat) (S' : zS), a ∉ S.1 → zSub S S' → zO S' a ci → zNul S' μ → zV X E S' (kc + 1) (ks + N) μ (pc + 3) lv (.ref a :: st)) : zV X E S kc ks μ pc lv st := fun H locs ls hP hD hS hl => by
  have hR2 : X.2.2.2.1 = rm := h.2.2.2.2.2.2.2.2.2.1
  obtain ⟨h1, h2, h8⟩ := zcls hc
  refine va_new h.1 h.2.1 h.2.2.2.2.1 hin (zty ci) h1 h.2.2.2.1 (h.2.2.2.2.1 _ hw1) (h.2.2.2.2.1 _ hw2) (h.2.2.2.2.1 _ hw3) h.2.2.2.2.2.1 hP hD hS h.2.2.2.2.2.2.1 hc hfs (by rw [hR2]; exact hkc) (by rw [hR2]; exact hks) hd (fun a H1 hP1 hD1 hS1 => ?_)
  have ha : a ∉ S.1 := va_pl_fresh2 (X := []) hD1
  obtain ⟨n1, n2, n3⟩ := hN a ha
  have e := zW_k (E := E) (μ := μ) (k := ci) (n := 0) ha
  rw [zc_o rfl h8, zf_nul n1 n2 n3] at e
  exact k a _ ha (zSk_sub ha) ⟨zSk_a.1, zSk_a.2.1⟩ (zSk_nul hN) H1 locs ls (by rw [e]; exact hP1) (by rw [e]; exact hD1) hS1 hl
theorem z_narI (h : zOK X E l cc own zTbl rm nL) (hN : zNul S μ) {n : Nat} {v : Int32} (hn : n < 1000) (hv : v = nI n) (hc : kc + 1 ≤ rm.cells) (hs : ks + n ≤ rm.slots) (hd : decode cc pc = .ok (.newarray .int, 2))
    (k : ∀ (a : Nat) (S' : zS), a ∉ S.1 → zSub S S' → zA S' a 9 n → zNul S' μ → zV X E S' (kc + 1) (ks + n) μ (pc + 2) lv (.ref a :: st)) : zV X E S kc ks μ pc lv (.int v :: st) := fun H locs ls hP hD hS hl => by
  subst hv
  have hR2 : X.2.2.2.1 = rm := h.2.2.2.2.2.2.2.2.2.1
  have hK := h.2.2.2.2.2.1
  refine va_newa (atype := .int) h.1 h.2.1 (h.2.2.2.2.1 _ ka_int) (ty := .int) rfl hK hP hD hS h.2.2.2.2.2.2.1 (a0 := (n, .inl (fun _ => 0))) (N' := n) (fun cA => rfl) (nI_pos (by omega)) (nI_clamp (by omega)) (by show n * 4 ≤ _; omega) (by rw [hR2]; exact hc) (by rw [hR2]; exact hs) hd (fun a cA H1 hK1 hP1 hD1 hS1 => ?_)
  have ha : a ∉ S.1 := va_pl_fresh2 (X := []) hD1
  have e1 := (hK.2 1 (E.2.1 1, .int) rfl).2
  have e2 := (hK1.2 7 (cA, .int) rfl).2
  have e3 : cA = E.2.1 1 := Option.some.inj (e2.symm.trans e1)
  subst e3
  obtain ⟨n1, n2, n3⟩ := hN a ha
  have e := zW_k (E := E) (μ := μ) (k := 9) (n := n) ha
  rw [zc_i rfl rfl (by decide) (by decide) (by decide), n1] at e
  exact k a _ ha (zSk_sub ha) zSk_a (zSk_nul hN) H1 locs ls (by rw [e]; exact hP1) (by rw [e]; exact hD1) hS1 hl
theorem z_narJ (h : zOK X E l cc own zTbl rm nL) (hN : zNul S μ) {n : Nat} {v : Int32} (hn : n < 1000) (hv : v = nI n) (hc : kc + 1 ≤ rm.cells) (hs : ks + n ≤ rm.slots) (hd : decode cc pc = .ok (.newarray .long, 2))
    (k : ∀ (a : Nat) (S' : zS), a ∉ S.1 → zSub S S' → zA S' a 10 n → zNul S' μ → zV X E S' (kc + 1) (ks + n) μ (pc + 2) lv (.ref a :: st)) : zV X E S kc ks μ pc lv (.int v :: st) := fun H locs ls hP hD hS hl => by
  subst hv
  have hR2 : X.2.2.2.1 = rm := h.2.2.2.2.2.2.2.2.2.1
  have hK := h.2.2.2.2.2.1
  refine va_newa (atype := .long) h.1 h.2.1 (h.2.2.2.2.1 _ kb_long) (ty := .long) rfl hK hP hD hS h.2.2.2.2.2.2.1 (a0 := (n, .inr (.inl (fun _ => 0)))) (N' := n) (fun cA => rfl) (nI_pos (by omega)) (nI_clamp (by omega)) (by show n * 8 ≤ _; omega) (by rw [hR2]; exact hc) (by rw [hR2]; exact hs) hd (fun a cA H1 hK1 hP1 hD1 hS1 => ?_)
  have ha : a ∉ S.1 := va_pl_fresh2 (X := []) hD1
  have e1 := (hK.2 2 (E.2.1 2, .long) rfl).2
  have e2 := (hK1.2 7 (cA, .long) rfl).2
  have e3 : cA = E.2.1 2 := Option.some.inj (e2.symm.trans e1)
  subst e3
  obtain ⟨n1, n2, n3⟩ := hN a ha
  have e := zW_k (E := E) (μ := μ) (k := 10) (n := n) ha
  rw [zc_j rfl rfl, n2] at e
  exact k a _ ha (zSk_sub ha) zSk_a (zSk_nul hN) H1 locs ls (by rw [e]; exact hP1) (by rw [e]; exact hD1) hS1 hl
theorem z_narZ (h : zOK X E l cc own zTbl rm nL) (hN : zNul S μ) {n : Nat} {v : Int32} (hn : n < 1000) (hv : v = nI n) (hc : kc + 1 ≤ rm.cells) (hs : ks + n ≤ rm.slots) (hd : decode cc pc = .ok (.newarray .boolean, 2))
    (k : ∀ (a : Nat) (S' : zS), a ∉ S.1 → zSub S S' → zA S' a 11 n → zNul S' μ → zV X E S' (kc + 1) (ks + n) μ (pc + 2) lv (.ref a :: st)) : zV X E S kc ks μ pc lv (.int v :: st) := fun H locs ls hP hD hS hl => by
  subst hv
  have hR2 : X.2.2.2.1 = rm := h.2.2.2.2.2.2.2.2.2.1
  have hK := h.2.2.2.2.2.1
  refine va_newa (atype := .boolean) h.1 h.2.1 (h.2.2.2.2.1 _ kb_bool) (ty := .boolean) rfl hK hP hD hS h.2.2.2.2.2.2.1 (a0 := (n, .inl (fun _ => 0))) (N' := n) (fun cA => rfl) (nI_pos (by omega)) (nI_clamp (by omega)) (by show n * 1 ≤ _; omega) (by rw [hR2]; exact hc) (by rw [hR2]; exact hs) hd (fun a cA H1 hK1 hP1 hD1 hS1 => ?_)
  have ha : a ∉ S.1 := va_pl_fresh2 (X := []) hD1
  have e1 := (hK.2 3 (E.2.1 3, .boolean) rfl).2
  have e2 := (hK1.2 7 (cA, .boolean) rfl).2
  have e3 : cA = E.2.1 3 := Option.some.inj (e2.symm.trans e1)
  subst e3
  obtain ⟨n1, n2, n3⟩ := hN a ha
  have e := zW_k (E := E) (μ := μ) (k := 11) (n := n) ha
  rw [zc_i rfl rfl (by decide) (by decide) (by decide), n1] at e
  exact k a _ ha (zSk_sub ha) zSk_a (zSk_nul hN) H1 locs ls (by rw [e]; exact hP1) (by rw [e]; exact hD1) hS1 hl
theorem z_narB (h : zOK X E l cc own zTbl rm nL) (hN : zNul S μ) {n : Nat} {v : Int32} (hn : n < 1000) (hv : v = nI n) (hc : kc + 1 ≤ rm.cells) (hs : ks + n ≤ rm.slots) (hd : decode cc pc = .ok (.newarray .byte, 2))
    (k : ∀ (a : Nat) (S' : zS), a ∉ S.1 → zSub S S' → zA S' a 8 n → zNul S' μ → zV X E S' (kc + 1) (ks + n) μ (pc + 2) lv (.ref a :: st)) : zV X E S kc ks μ pc lv (.int v :: st) := fun H locs ls hP hD hS hl => by
  subst hv
  have hR2 : X.2.2.2.1 = rm := h.2.2.2.2.2.2.2.2.2.1
  have hK := h.2.2.2.2.2.1
  refine va_newa (atype := .byte) h.1 h.2.1 (h.2.2.2.2.1 _ kb_byte) (ty := .byte) rfl hK hP hD hS h.2.2.2.2.2.2.1 (a0 := (n, .inl (fun _ => 0))) (N' := n) (fun cA => rfl) (nI_pos (by omega)) (nI_clamp (by omega)) (by show n * 1 ≤ _; omega) (by rw [hR2]; exact hc) (by rw [hR2]; exact hs) hd (fun a cA H1 hK1 hP1 hD1 hS1 => ?_)
  have ha : a ∉ S.1 := va_pl_fresh2 (X := []) hD1
  have e1 := (hK.2 0 (E.2.1 0, .byte) rfl).2
  have e2 := (hK1.2 7 (cA, .byte) rfl).2
  have e3 : cA = E.2.1 0 := Option.some.inj (e2.symm.trans e1)
  subst e3
  obtain ⟨n1, n2, n3⟩ := hN a ha
  have e := zW_k (E := E) (μ := μ) (k := 8) (n := n) ha
  rw [zc_i rfl rfl (by decide) (by decide) (by decide), n1] at e
  exact k a _ ha (zSk_sub ha) zSk_a (zSk_nul hN) H1 locs ls (by rw [e]; exact hP1) (by rw [e]; exact hD1) hS1 hl
theorem z_narL (h : zOK X E l cc own zTbl rm nL) (hao : zAO X.2.2.2.2.1) (hN : zNul S μ) {n : Nat} {v : Int32} (hn : n < 1000) (hv : v = nI n) (hw : Cond.classLink own index RX1 ∈ zTbl) (hc : kc + 1 ≤ rm.cells) (hs : ks + n ≤ rm.slots) (hd : decode cc pc = .ok (.anewarray index, 3))
    (k : ∀ (a : Nat) (S' : zS), a ∉ S.1 → zSub S S' → zA S' a 12 n → zNul S' μ → zV X E S' (kc + 1) (ks + n) μ (pc + 3) lv (.ref a :: st)) : zV X E S kc ks μ pc lv (.int v :: st) := fun H locs ls hP hD hS hl => by
  subst hv
  have hR2 : X.2.2.2.1 = rm := h.2.2.2.2.2.2.2.2.2.1
  have hK := h.2.2.2.2.2.1
  refine va_newq (C := "TaleSums$Laws") h.1 h.2.1 h.2.2.2.1 (h.2.2.2.2.1 _ hw) hao.1 hK hP hD hS h.2.2.2.2.2.2.1 (N' := n) (nI_pos (by omega)) (nI_clamp (by omega)) (by omega) (by rw [hR2]; exact hc) (by rw [hR2]; exact hs) hd (fun a cA H1 hK1 hP1 hD1 hS1 => ?_)
  have ha : a ∉ S.1 := va_pl_fresh2 (X := []) hD1
  obtain ⟨_, _, -, -, -, e1⟩ := (hK.2 4 (E.2.1 4, .object "TaleSums$Laws") rfl).2
  obtain ⟨_, _, -, -, -, e2⟩ := (hK1.2 7 (cA, .object "TaleSums$Laws") rfl).2
  have e3 : cA = E.2.1 4 := Option.some.inj (e2.symm.trans e1)
  subst e3
  obtain ⟨n1, n2, n3⟩ := hN a ha
  have e := zW_k (E := E) (μ := μ) (k := 12) (n := n) ha
  rw [zc_r rfl rfl (by decide), n3] at e
  exact k a _ ha (zSk_sub ha) zSk_a (zSk_nul hN) H1 locs ls (by rw [e]; exact hP1) (by rw [e]; exact hD1) hS1 hl
/-- the shape with an array q of rows r i more -/
def zSm (S : zS) (q : Nat) (rows : List Nat) (kq nq kr nr : Nat) : zS := (q :: (S.1 ++ rows), fun b => if b = q then kq else if b ∈ rows then kr else S.2.1 b, fun b => if b = q then nq else if b ∈ rows then nr else S.2.2 b)
theorem zSm_q {S : zS} {q : Nat} {rows : List Nat} {kq nq kr nr : Nat} : (zSm S q rows kq nq kr nr).2.1 q = kq ∧ (zSm S q rows kq nq kr nr).2.2 q = nq := ⟨if_pos rfl, if_pos rfl⟩
theorem zSm_r {S : zS} {q b : Nat} {rows : List Nat} {kq nq kr nr : Nat} (hq : b ≠ q) (h : b ∈ rows) : (zSm S q rows kq nq kr nr).2.1 b = kr ∧ (zSm S q rows kq nq kr nr).2.2 b = nr := ⟨(if_neg hq).trans (if_pos h), (if_neg hq).trans (if_pos h)⟩
theorem zSm_o {S : zS} {q b : Nat} {rows : List Nat} {kq nq kr nr : Nat} (hq : b ≠ q) (h : b ∉ rows) : (zSm S q rows kq nq kr nr).2.1 b = S.2.1 b ∧ (zSm S q rows kq nq kr nr).2.2 b = S.2.2 b := ⟨(if_neg hq).trans (if_neg h), (if_neg hq).trans (if_neg h)⟩
theorem zV_cast {kc' ks' : Nat} (k : zV X E S kc ks μ pc lv st) (h1 : kc = kc') (h2 : ks = ks') : zV X E S kc' ks' μ pc lv st := h1 ▸ h2 ▸ k
theorem z_mnaI (h : zOK X E l cc own zTbl rm nL) (hao : zAO X.2.2.2.2.1) (hN : zNul S (I, J, R)) {n m : Nat} {v w : Int32} (hn : n < 1000) (hm : m < 1000) (hv : v = nI n) (hvw : w = nI m) (hw : Cond.classLink own index "[[I" ∈ zTbl) (hc : kc + (1 + n) ≤ rm.cells) (hs : ks + (n + n * m) ≤ rm.slots) (hd : decode cc pc = .ok (.multianewarray index 2, 4))
    (k : ∀ (q : Nat) (r : Nat → Nat) (S' : zS), q ∉ S.1 → (∀ i, i < n → r i ∉ S.1) → (∀ i j, i < n → j < n → r i = r j → i = j) → zSub S S' → zA S' q 13 n → (∀ i, i < n → zA S' (r i) 9 m) → zNul S' (I, J, zr R q (fun i => if i < n then some (r i) else none)) → zV X E S' (kc + (1 + n)) (ks + (n + n * m)) (I, J, zr R q (fun i => if i < n then some (r i) else none)) (pc + 4) lv (.ref q :: st)) : zV X E S kc ks (I, J, R) pc lv (.int w :: .int v :: st) := fun H locs ls hP hD hS hl => by
  subst hv
  subst hvw
  have hR2 : X.2.2.2.1 = rm := h.2.2.2.2.2.2.2.2.2.1
  have hK := h.2.2.2.2.2.1
  refine va_mna (X := []) (L := S.1) (f := zc E.2.1 S.2.1 S.2.2 (I, J, R)) (ty := .int) (cy := E.2.1 1) h.1 h.2.1 h.2.2.2.1 (h.2.2.2.2.1 _ hw) hao.2.1 (h.2.2.2.2.1 _ ka_int) (hK.2 1 (E.2.1 1, .int) rfl).2 hK hP hD hS h.2.2.2.2.2.2.1 (N' := n) (K' := m) (z := (m, .inl (fun _ => 0))) (nI_pos (by omega)) (nI_pos (by omega)) (nI_clamp (by omega)) (nI_clamp (by omega)) (by omega) (by show m * 4 ≤ _; omega) (by omega) rfl rfl (by rw [hR2]; exact hc) (by rw [hR2]; exact hs) (fun c => arrV_new c m _) hd (fun q r cA H1 hinj hnew hK1 hP1 hD1 hS1 => ?_)
  have e1 := (hK.2 5 (E.2.1 5, .array .int) rfl).2
  have e2 := (hK1.2 7 (cA, .array .int) rfl).2
  have e3 : cA = E.2.1 5 := Option.some.inj (e2.symm.trans e1)
  subst e3
  have hq := zD_head hD1
  have hqS : q ∉ S.1 := fun x => hq (List.mem_append_left _ x)
  have hqr : q ∉ (List.range n).map r := fun x => hq (List.mem_append_right _ x)
  have hrS : ∀ b, b ∈ (List.range n).map r → b ∉ S.1 := fun b hb => by
    obtain ⟨i, hi, rfl⟩ := List.mem_map.mp hb
    exact hnew i (List.mem_range.mp hi)
  have e : zW E (zSm S q ((List.range n).map r) 13 n 9 m) (I, J, zr R q (fun i => if i < n then some (r i) else none)) = ([] ++ [(q, .inl (E.2.1 5, n, .inr (.inr (.inr (.inr (fun i => if i < n then some (r i) else none))))))]) ++ va_pl (S.1 ++ (List.range n).map r) (vr_up (zc E.2.1 S.2.1 S.2.2 (I, J, R)) ((List.range n).map r) (.inl (E.2.1 1, (m, .inl (fun _ => 0))))) := by
    have eq0 : zc E.2.1 (zSm S q ((List.range n).map r) 13 n 9 m).2.1 (zSm S q ((List.range n).map r) 13 n 9 m).2.2 (I, J, zr R q (fun i => if i < n then some (r i) else none)) q = .inl (E.2.1 5, n, .inr (.inr (.inr (.inr (fun i => if i < n then some (r i) else none))))) := by
      refine (zc_r zSm_q.1 zSm_q.2 (by decide)).trans ?_
      show Sum.inl (E.2.1 5, n, Sum.inr (Sum.inr (Sum.inr (Sum.inr (zr R q _ q))))) = _
      rw [zr_s]
    show (q, zc E.2.1 (zSm S q ((List.range n).map r) 13 n 9 m).2.1 (zSm S q ((List.range n).map r) 13 n 9 m).2.2 (I, J, zr R q (fun i => if i < n then some (r i) else none)) q) :: List.map _ (S.1 ++ (List.range n).map r) = (q, _) :: List.map _ _
    rw [eq0]
    congr 1
    · refine List.map_congr_left fun b hb0 => ?_
      have hbq : b ≠ q := fun x => hq (x ▸ hb0)
      congr 1
      by_cases hb : b ∈ (List.range n).map r
      · rw [vr_up_in hb]
        obtain ⟨n1, n2, n3⟩ := hN b (hrS b hb)
        refine (zc_i (zSm_r hbq hb).1 (zSm_r hbq hb).2 (by decide) (by decide) (by decide)).trans ?_
        show Sum.inl (E.2.1 1, m, Sum.inl (I b)) = _
        rw [show I b = (fun _ => 0) from n1]
      · rw [vr_up_ne hb]
        exact zc_kn (zSm_o hbq hb).1 (zSm_o hbq hb).2 rfl rfl (zr_a hbq)
  refine zV_cast (k q r (zSm S q ((List.range n).map r) 13 n 9 m) hqS hnew hinj (fun b hb => ?_) ⟨List.mem_cons_self, if_pos rfl, if_pos rfl⟩ (fun i hi => ?_) (fun b hb => ?_)) ?_ ?_ H1 locs ls (by rw [e]; exact hP1) (by rw [e]; exact hD1) hS1 hl
  · have hbq : b ≠ q := fun x => hqS (x ▸ hb)
    have hbr : b ∉ (List.range n).map r := fun x => hrS b x hb
    exact ⟨List.mem_cons_of_mem _ (List.mem_append_left _ hb), zSm_o hbq hbr⟩
  · have hir : r i ∈ (List.range n).map r := List.mem_map.mpr ⟨i, List.mem_range.mpr hi, rfl⟩
    have hbq : r i ≠ q := fun x => hqr (x ▸ hir)
    exact ⟨List.mem_cons_of_mem _ (List.mem_append_right _ hir), zSm_r hbq hir⟩
  · have hbq : b ≠ q := fun x => hb (x ▸ List.mem_cons_self)
    have hbS : b ∉ S.1 := fun x => hb (List.mem_cons_of_mem _ (List.mem_append_left _ x))
    obtain ⟨n1, n2, n3⟩ := hN b hbS
    exact ⟨n1, n2, (zr_a hbq).trans n3⟩
  · omega
  · omega
theorem z_mnaJ (h : zOK X E l cc own zTbl rm nL) (hao : zAO X.2.2.2.2.1) (hN : zNul S (I, J, R)) {n m : Nat} {v w : Int32} (hn : n < 1000) (hm : m < 1000) (hv : v = nI n) (hvw : w = nI m) (hw : Cond.classLink own index "[[J" ∈ zTbl) (hc : kc + (1 + n) ≤ rm.cells) (hs : ks + (n + n * m) ≤ rm.slots) (hd : decode cc pc = .ok (.multianewarray index 2, 4))
    (k : ∀ (q : Nat) (r : Nat → Nat) (S' : zS), q ∉ S.1 → (∀ i, i < n → r i ∉ S.1) → (∀ i j, i < n → j < n → r i = r j → i = j) → zSub S S' → zA S' q 14 n → (∀ i, i < n → zA S' (r i) 10 m) → zNul S' (I, J, zr R q (fun i => if i < n then some (r i) else none)) → zV X E S' (kc + (1 + n)) (ks + (n + n * m)) (I, J, zr R q (fun i => if i < n then some (r i) else none)) (pc + 4) lv (.ref q :: st)) : zV X E S kc ks (I, J, R) pc lv (.int w :: .int v :: st) := fun H locs ls hP hD hS hl => by
  subst hv
  subst hvw
  have hR2 : X.2.2.2.1 = rm := h.2.2.2.2.2.2.2.2.2.1
  have hK := h.2.2.2.2.2.1
  refine va_mna (X := []) (L := S.1) (f := zc E.2.1 S.2.1 S.2.2 (I, J, R)) (ty := .long) (cy := E.2.1 2) h.1 h.2.1 h.2.2.2.1 (h.2.2.2.2.1 _ hw) hao.2.2.1 (h.2.2.2.2.1 _ kb_long) (hK.2 2 (E.2.1 2, .long) rfl).2 hK hP hD hS h.2.2.2.2.2.2.1 (N' := n) (K' := m) (z := (m, .inr (.inl (fun _ => 0)))) (nI_pos (by omega)) (nI_pos (by omega)) (nI_clamp (by omega)) (nI_clamp (by omega)) (by omega) (by show m * 8 ≤ _; omega) (by omega) rfl rfl (by rw [hR2]; exact hc) (by rw [hR2]; exact hs) (fun c => arrV_new c m _) hd (fun q r cA H1 hinj hnew hK1 hP1 hD1 hS1 => ?_)
  have e1 := (hK.2 6 (E.2.1 6, .array .long) rfl).2
  have e2 := (hK1.2 7 (cA, .array .long) rfl).2
  have e3 : cA = E.2.1 6 := Option.some.inj (e2.symm.trans e1)
  subst e3
  have hq := zD_head hD1
  have hqS : q ∉ S.1 := fun x => hq (List.mem_append_left _ x)
  have hqr : q ∉ (List.range n).map r := fun x => hq (List.mem_append_right _ x)
  have hrS : ∀ b, b ∈ (List.range n).map r → b ∉ S.1 := fun b hb => by
    obtain ⟨i, hi, rfl⟩ := List.mem_map.mp hb
    exact hnew i (List.mem_range.mp hi)
  have e : zW E (zSm S q ((List.range n).map r) 14 n 10 m) (I, J, zr R q (fun i => if i < n then some (r i) else none)) = ([] ++ [(q, .inl (E.2.1 6, n, .inr (.inr (.inr (.inr (fun i => if i < n then some (r i) else none))))))]) ++ va_pl (S.1 ++ (List.range n).map r) (vr_up (zc E.2.1 S.2.1 S.2.2 (I, J, R)) ((List.range n).map r) (.inl (E.2.1 2, (m, .inr (.inl (fun _ => 0)))))) := by
    have eq0 : zc E.2.1 (zSm S q ((List.range n).map r) 14 n 10 m).2.1 (zSm S q ((List.range n).map r) 14 n 10 m).2.2 (I, J, zr R q (fun i => if i < n then some (r i) else none)) q = .inl (E.2.1 6, n, .inr (.inr (.inr (.inr (fun i => if i < n then some (r i) else none))))) := by
      refine (zc_r zSm_q.1 zSm_q.2 (by decide)).trans ?_
      show Sum.inl (E.2.1 6, n, Sum.inr (Sum.inr (Sum.inr (Sum.inr (zr R q _ q))))) = _
      rw [zr_s]
    show (q, zc E.2.1 (zSm S q ((List.range n).map r) 14 n 10 m).2.1 (zSm S q ((List.range n).map r) 14 n 10 m).2.2 (I, J, zr R q (fun i => if i < n then some (r i) else none)) q) :: List.map _ (S.1 ++ (List.range n).map r) = (q, _) :: List.map _ _
    rw [eq0]
    congr 1
    · refine List.map_congr_left fun b hb0 => ?_
      have hbq : b ≠ q := fun x => hq (x ▸ hb0)
      congr 1
      by_cases hb : b ∈ (List.range n).map r
      · rw [vr_up_in hb]
        obtain ⟨n1, n2, n3⟩ := hN b (hrS b hb)
        refine (zc_j (zSm_r hbq hb).1 (zSm_r hbq hb).2).trans ?_
        show Sum.inl (E.2.1 2, m, Sum.inr (Sum.inl (J b))) = _
        rw [show J b = (fun _ => 0) from n2]
      · rw [vr_up_ne hb]
        exact zc_kn (zSm_o hbq hb).1 (zSm_o hbq hb).2 rfl rfl (zr_a hbq)
  refine zV_cast (k q r (zSm S q ((List.range n).map r) 14 n 10 m) hqS hnew hinj (fun b hb => ?_) ⟨List.mem_cons_self, if_pos rfl, if_pos rfl⟩ (fun i hi => ?_) (fun b hb => ?_)) ?_ ?_ H1 locs ls (by rw [e]; exact hP1) (by rw [e]; exact hD1) hS1 hl
  · have hbq : b ≠ q := fun x => hqS (x ▸ hb)
    have hbr : b ∉ (List.range n).map r := fun x => hrS b x hb
    exact ⟨List.mem_cons_of_mem _ (List.mem_append_left _ hb), zSm_o hbq hbr⟩
  · have hir : r i ∈ (List.range n).map r := List.mem_map.mpr ⟨i, List.mem_range.mpr hi, rfl⟩
    have hbq : r i ≠ q := fun x => hqr (x ▸ hir)
    exact ⟨List.mem_cons_of_mem _ (List.mem_append_right _ hir), zSm_r hbq hir⟩
  · have hbq : b ≠ q := fun x => hb (x ▸ List.mem_cons_self)
    have hbS : b ∉ S.1 := fun x => hb (List.mem_cons_of_mem _ (List.mem_append_left _ x))
    obtain ⟨n1, n2, n3⟩ := hN b hbS
    exact ⟨n1, n2, (zr_a hbq).trans n3⟩
  · omega
  · omega
theorem z_objInit (h : zOK X E l cc own zTbl rm nL) (hw : Cond.methodLink own index Lib.objectInit ∈ zTbl) (hf : 1 ≤ rm.frames) (hlo : 20 ≤ rm.locals) (hcat : (st.map fun v => v.category).sum ≤ 8) (hd : decode cc pc = .ok (.invokespecial index, 3)) (k : zV X E S kc ks μ (pc + 3) lv st) : zV X E S kc ks μ pc lv (.ref a :: st) := fun H locs ls hP hD hS hl => by
  have hR2 : X.2.2.2.1 = rm := h.2.2.2.2.2.2.2.2.2.1
  exact W.objInit h.1 h.2.1 h.2.2.2.1 (h.2.2.2.2.1 _ hw) (h.2.2.2.2.1 _ kq_in) (h.2.2.2.2.1 _ kq_co) rfl (hl.1.trans (h.2.2.2.2.2.2.2.2.2.2.trans h.2.2.1.symm)) rfl hd (by rw [hR2]; exact hf) (by rw [hR2]; show 2 * 0 + _ + 12 ≤ _; omega) (k H locs ls hP hD hS hl)
theorem z_putRF (h : zOK X E l cc own zTbl rm nL) (hin2 : X.2.2.2.2.2.2.2.2.1.name = "<init>") (ho : zO S a ci) (hc : vwCl[ci]? = some (C, T, N)) (hin : ∀ w ∈ u_ws C T N, w ∈ zTbl) (k : Nat) (hk : k < N) (ht : (zk ci)[k]? = some 2) (hfin : (T k).2.2.2 = true) (hdecl : (T k).1 = own) {b : Nat} (hn : narrow (zty ci k) (.ref b) = .ref b) (hfit : fits (zty ci k) (.ref b) = true) (hw : Cond.fieldLink own index (T k).1 (T k).2.1 (T k).2.2.1 ∈ zTbl) (hd : decode cc pc = .ok (.putfield index, 3))
    (kk : zV X E S kc ks (I, J, zu R a k (some b)) (pc + 3) lv st) : zV X E S kc ks (I, J, R) pc lv (.ref b :: .ref a :: st) := fun H locs ls hP hD hS hl => by
  obtain ⟨h1, h2, h8⟩ := zcls hc
  obtain ⟨q, hq, hq'⟩ := zW_at (E := E) (μ := (I, J, R)) ho.1 (zc_o ho.2 h8)
  refine va_putF h.1 h.2.1 h.2.2.2.2.1 hin (zty ci) h1 h2 h.2.2.2.1 h.2.2.2.2.2.1 hP hD hS q hq' hc k hk (h.2.2.2.2.1 _ hw) (fun _ h9 => h9) hfin hin2 hdecl (h1 k hk) hn hfit (by rw [zf_len]; exact (List.getElem?_eq_some_iff.mp ht).1) hd (fun H1 locs1 hP1 hD1 hS1 => ?_)
  have e := zW_set (ν := (I, J, zu R a k (some b))) hD ho.1 hq (zc_putR (μ := (I, J, R)) ho.2 h8 ht) (fun b hb => zc_congr rfl rfl (zu_o hb))
  rw [show va_rf (some b) = Value.ref b from rfl] at e
  rw [e] at hP1 hD1
  exact kk H1 locs1 ls hP1 hD1 hS1 hl
theorem zu_updR {f : Nat → Nat → Option Nat} {a j : Nat} {v : Option Nat} : zu f a j v a = va_up (f a) j v := funext fun q => by by_cases e : q = j <;> simp [zu, va_up, e]
theorem z_aastL (h : zOK X E l cc own zTbl rm nL) {n j b : Nat} {i : Int32} (ha : zA S a 12 n) (hb : zO S b 1) (hi : zix i j n) (hd : decode cc pc = .ok (.aastore, 1)) (kk : zV X E S kc ks (I, J, zu R a j (some b)) (pc + 1) lv st) : zV X E S kc ks (I, J, R) pc lv (.ref b :: .int i :: .ref a :: st) := fun H locs ls hP hD hS hl => by
  obtain ⟨q, hq, hq'⟩ := zW_at (E := E) (μ := (I, J, R)) ha.1 (zc_r ha.2.1 ha.2.2 (by decide))
  obtain ⟨q2, -, hq2⟩ := zW_at (E := E) (μ := (I, J, R)) hb.1 (zc_o hb.2 (by decide))
  refine va_astq h.1 h.2.1 h.2.2.2.2.2.1 hP hD hS q 4 q2 1 (r := (RX1, TX1, 2)) hq' rfl hq2 rfl hi.1 hd (fun H1 locs1 hP1 hD1 hS1 => ?_)
  have e := zW_set (ν := (I, J, zu R a j (some b))) hD ha.1 hq (zc_r ha.2.1 ha.2.2 (by decide)) (fun b hb => zc_congr rfl rfl (zu_o hb))
  rw [show (I, J, zu R a j (some b)).2.2 a = va_up (R a) j (some b) from zu_updR] at e
  rw [hi.2] at hP1 hD1
  rw [e] at hP1 hD1
  exact kk H1 locs1 ls hP1 hD1 hS1 hl
end ZNEW2
/-! CONSTRUCTORS: the shape grows -/
def zPA (E : zE) (S : zS) (μ : zM) (sz : Nat) (U : State) : Prop := zAO U ∧ zP E S μ sz U
theorem zPA_blind {av : List Value} {E : zE} {S : zS} {μ : zM} {sz : Nat} : FrameBlind (va_Pc av (zPA E S μ sz)) := fun a U g mk q => by
  obtain ⟨q0, qa, qp⟩ := q
  exact ⟨q0, zAO.same (u := U) (U := U.calling g mk a) rfl qa, (zP_blind (av := av) (E := E) (S := S) (μ := μ) (sz := sz) a U g mk ⟨q0, qp⟩).2⟩
def zNS (l : Launch) (y : MethodName) (ws : List Cond) (rm : Room) (E : zE) (S : zS) (av : List Value) (μ : zM) (post : zS → zM → Prop) (mc ms : Nat) : Prop :=
  ∀ sz, Met l y ws rm (va_Pc av (zPA E S μ sz)) (va_Qv (fun u : zS × zM => post u.1 u.2) (fun u t => zB E u.1 (va_A (zW E S μ) sz) u.2 t) (va_A (zW E S μ) sz)) mc ms (va_A (zW E S μ) sz)
theorem z_metNS {l : Launch} {y : MethodName} {ws : List Cond} {rm : Room} {E : zE} {S : zS} {av : List Value} {μ : zM} {cc : ByteArray} {maxL mc ms : Nat} {post : zS → zM → Prop} (hy : plainName y.cls = true) (hyn : y.name = "<init>") (hw : ws = Cond.code y cc maxL none :: zTbl) (hlen : (lg_sl av).length ≤ maxL)
    (body : ∀ X : zC, zOK X E l cc y.cls zTbl rm maxL → zAO X.2.2.2.2.1 → X.2.2.2.2.2.2.2.2.1.name = "<init>" → (∀ {pc : Nat} {lv : List (Nat × Value)} {S' : zS} {ν : zM}, post S' ν → decode cc pc = .ok (.return_, 1) → zV X E S' mc ms ν pc lv []) → zV X E S 0 0 μ 0 (lv_args 0 av) []) : zNS l y ws rm E S av μ post mc ms := by
  intro sz
  refine Met.ofW (cc := cc) (maxL := maxL) (ret := none) hy hw ?_
  intro p e s m args below meth c s₁ B hml hv
  obtain ⟨rfl, hao, hsz, hP, hK, hD0, hE⟩ := hv
  subst hsz
  have hD : va_D (va_A (zW E S μ) s.heap.size) (zW E S μ) := hD0.self (sz := s.heap.size)
  have hlocks := B.notSynchronized
  have hb := body (p, l, e, (headSpec ws rm).room, s, m, av.toArray, below, meth, c, MQ below (va_Qv (fun u : zS × zM => post u.1 u.2) (fun u t => zB E u.1 (va_A (zW E S μ) s.heap.size) u.2 t) (va_A (zW E S μ) s.heap.size)) av.toArray s mc ms (va_A (zW E S μ) s.heap.size), va_A (zW E S μ) s.heap.size, maxL)
    ⟨B.exec, B.bytes, hml, findClass_of_methodNamed B.named, fun w hw9 => atoms_spec (ws := ws) B.pre w (by rw [hw]; exact List.mem_cons_of_mem _ hw9), hK, fun q h => Or.inr h, hE, rfl, rfl, rfl⟩ hao
    ((name_of_methodNamed B.named B.method).1.trans hyn)
    (fun {pc lv S' ν} hp hd H locs ls hP hD hS hl => W.vret B.exec B.bytes B.returns (fun t ht hW => ⟨⟨(S', ν), rfl, hp, by rw [ht]; exact hP, va_K.moved hW.alike hK, hD⟩, hS.F ht⟩) hS.2.2 hd)
  rw [lg_entry_eq]
  exact hb s.heap [] _ hP hD va_S.rf (lv_entry av hlen)
theorem z_callNS {X : zC} {E : zE} {S : zS} {kc ks : Nat} {μ : zM} {pc : Nat} {lv : List (Nat × Value)} {st st0 : List Value} {l : Launch} {cc : ByteArray} {own : String} {rm : Room} {nL : Nat} {index b maxL mc ms : Nat} {y : MethodName} {bytes : ByteArray} {ws ws' : List Cond} {rc : Room} {As : List Value} {post : zS → zM → Prop} (h : zOK X E l cc own zTbl rm nL) (hao : zAO X.2.2.2.2.1) (hM : zNS l y ws rc E S (.ref b :: As) μ post mc ms) (hg : GoodIn zTbl ws) (hws : ws = Cond.code y bytes maxL none :: ws') (hrc : rc.cells = mc ∧ rc.slots = ms) (hw1 : Cond.initialized y.cls ∈ zTbl) (hw2 : Cond.methodLink own index y ∈ zTbl) (hw3 : Cond.instanceMethod y ∈ zTbl) (hy : y.name = "<init>") (n : Nat)
    (hd0 : y.cls ≠ "java/lang/invoke/MethodHandle" ∧ y.cls ≠ "java/lang/invoke/VarHandle" ∧ (parseMethodDescriptor y.desc).map (fun d => d.parameters.length) = some n) (hR : rc.frames + 1 ≤ rm.frames ∧ 8 + (maxL + 11) + rc.locals ≤ rm.locals) (hn : As.length = n) (hst : st0 = As.reverse ++ .ref b :: st) (hcat : (st.map fun v => v.category).sum ≤ 8) (hkc : kc + mc ≤ rm.cells ∧ ks + ms ≤ rm.slots) (hd : decode cc pc = .ok (.invokespecial index, 3))
    (k : ∀ (S' : zS) (ν : zM), post S' ν → zV X E S' (kc + mc) (ks + ms) ν (pc + 3) lv st) : zV X E S kc ks μ pc lv st0 := fun H locs ls hP hD hS hl => by
  subst hst
  have hF := zA_sub hD hS h.2.2.2.2.2.2.1
  have hl2 : X.2.1 = l := h.2.2.2.2.2.2.2.2.1
  have hR2 : X.2.2.2.1 = rm := h.2.2.2.2.2.2.2.2.2.1
  have hM2 := hM H.size
  rw [← hl2] at hM2
  refine va_callv (va_runI (As := As) (rest := st) ⟨h.1, h.2.1, h.2.2.1, h.2.2.2.1, h.2.2.2.2.1⟩ hM2 (cwI n h.2.2.2.2.1 hg hws hrc.1 hrc.2 (h.2.2.2.2.1 _ hw1) (h.2.2.2.2.1 _ hw2) (h.2.2.2.2.1 _ hw3) hy hd0 (by rw [hR2]; exact hR)) ⟨zPA_blind, fun U hU hW => ⟨rfl, hao.warm hW, (z_pre h hP hD hS (.ref b :: As) U hU hW).2⟩⟩ rfl hn (hl.1.trans h.2.2.2.2.2.2.2.2.2.2) rfl (lv_room hcat) hd (by rw [hR2]; exact hkc)) hS (fun q _ h => hF q h) hF (fun u t H1 locs1 ht hvm hw hB hz1 hk1 hS1 => ?_)
  obtain ⟨hP1, hK1, hD1⟩ := hB
  rw [ht] at hP1
  exact k u.1 u.2 hw H1 locs1 ls hP1 (hD1.weaken (fun _ _ _ q => hF _ q)) hS1 hl
theorem z_callNN {X : zC} {E : zE} {S : zS} {kc ks : Nat} {μ : zM} {pc : Nat} {lv : List (Nat × Value)} {st st0 : List Value} {l : Launch} {cc : ByteArray} {own : String} {rm : Room} {nL : Nat} {index b maxL mc ms : Nat} {y : MethodName} {bytes : ByteArray} {ws ws' : List Cond} {rc : Room} {As : List Value} {post : zS → zM → Prop} (h : zOK X E l cc own zTbl rm nL) (hao : zAO X.2.2.2.2.1) (hM : zNS l y ws rc E S (.ref b :: As) μ post mc ms) (hg : GoodIn zTbl ws) (hws : ws = Cond.code y bytes maxL none :: ws') (hrc : rc.cells = mc ∧ rc.slots = ms) (hw1 : Cond.initialized y.cls ∈ zTbl) (hq : (own, index, y) ∈ zNW) (hw3 : Cond.instanceMethod y ∈ zTbl) (hy : y.name = "<init>") (n : Nat)
    (hd0 : y.cls ≠ "java/lang/invoke/MethodHandle" ∧ y.cls ≠ "java/lang/invoke/VarHandle" ∧ (parseMethodDescriptor y.desc).map (fun d => d.parameters.length) = some n) (hR : rc.frames + 1 ≤ rm.frames ∧ 8 + (maxL + 11) + rc.locals ≤ rm.locals) (hn : As.length = n) (hst : st0 = As.reverse ++ .ref b :: st) (hcat : (st.map fun v => v.category).sum ≤ 8) (hkc : kc + mc ≤ rm.cells ∧ ks + ms ≤ rm.slots) (hd : decode cc pc = .ok (.invokespecial index, 3))
    (k : ∀ (S' : zS) (ν : zM), post S' ν → zV X E S' (kc + mc) (ks + ms) ν (pc + 3) lv st) : zV X E S kc ks μ pc lv st0 := fun H locs ls hP hD hS hl => by
  subst hst
  have hF := zA_sub hD hS h.2.2.2.2.2.2.1
  have hl2 : X.2.1 = l := h.2.2.2.2.2.2.2.2.1
  have hR2 : X.2.2.2.1 = rm := h.2.2.2.2.2.2.2.2.2.1
  have hM2 := hM H.size
  rw [← hl2] at hM2
  refine va_callv (va_runIN (host := "TaleSums") (As := As) (rest := st) ⟨h.1, h.2.1, h.2.2.1, h.2.2.2.1, h.2.2.2.2.1⟩ hM2 ⟨va_cnB n h.2.2.2.2.1 hg hws hrc.1 hrc.2 (hao.2.2.2 _ hq) (h.2.2.2.2.1 _ hw1) hd0 (by rw [hR2]; exact hR), hy, h.2.2.2.2.1 _ hw3⟩ ⟨zPA_blind, fun U hU hW => ⟨rfl, hao.warm hW, (z_pre h hP hD hS (.ref b :: As) U hU hW).2⟩⟩ rfl hn (hl.1.trans h.2.2.2.2.2.2.2.2.2.2) rfl (lv_room hcat) hd (by rw [hR2]; exact hkc)) hS (fun q _ h => hF q h) hF (fun u t H1 locs1 ht hvm hw hB hz1 hk1 hS1 => ?_)
  obtain ⟨hP1, hK1, hD1⟩ := hB
  rw [ht] at hP1
  exact k u.1 u.2 hw H1 locs1 ls hP1 (hD1.weaken (fun _ _ _ q => hF _ q)) hS1 hl
