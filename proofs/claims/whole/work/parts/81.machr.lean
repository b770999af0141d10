/-! CONTRACTS of methods that make arrays: mc cells and ms places -/
def zIR (l : Launch) (y : MethodName) (ws : List Cond) (rm : Room) (E : zE) (S : zS) (av : List Value) (μ : zM) (post : Int32 → zM → Prop) (mc ms : Nat) : Prop :=
  ∀ sz, Met l y ws rm (va_Pc av (zP E S μ sz)) (va_Qi post (zB E S (va_A (zW E S μ) sz)) (va_A (zW E S μ) sz)) mc ms (va_A (zW E S μ) sz)
theorem z_widen {X : zC} {E : zE} {S : zS} {kc ks kc' ks' : Nat} {μ : zM} {pc : Nat} {lv : List (Nat × Value)} {st : List Value} (h1 : kc ≤ kc') (h2 : ks ≤ ks') (k : zV X E S kc' ks' μ pc lv st) : zV X E S kc ks μ pc lv st := fun H locs ls hP hD hS hl => W.widen h1 h2 (k H locs ls hP hD hS hl)
section ZCR
variable {l : Launch} {y : MethodName} {ws ws' : List Cond} {rm : Room} {E : zE} {S : zS} {av : List Value} {μ : zM} {cc : ByteArray} {maxL mc ms : Nat}
theorem z_metIR {post : Int32 → zM → Prop} {ty : FieldType} (hy : plainName y.cls = true) (hw : ws = Cond.code y cc maxL (some ty) :: zTbl) (hlen : (lg_sl av).length ≤ maxL)
    (body : ∀ X : zC, zOK X E l cc y.cls zTbl rm maxL → (∀ {pc : Nat} {lv : List (Nat × Value)} {r : Int32} {ν : zM}, post r ν → decode cc pc = .ok (.ireturn, 1) → narrow ty (.int r) = .int r → zV X E S mc ms ν pc lv [.int r]) → zV X E S 0 0 μ 0 (lv_args 0 av) []) : zIR l y ws rm E S av μ post mc ms := by
  intro sz
  refine Met.ofW (cc := cc) (maxL := maxL) (ret := some ty) hy hw ?_
  intro p e s m args below meth c s₁ B hml hv
  obtain ⟨rfl, hsz, hP, hK, hD0, hE⟩ := hv
  subst hsz
  have hD : va_D (va_A (zW E S μ) s.heap.size) (zW E S μ) := hD0.self (sz := s.heap.size)
  have hlocks := B.notSynchronized
  have hb := body (p, l, e, (headSpec ws rm).room, s, m, av.toArray, below, meth, c, MQ below (va_Qi post (zB E S (va_A (zW E S μ) s.heap.size)) (va_A (zW E S μ) s.heap.size)) av.toArray s mc ms (va_A (zW E S μ) s.heap.size), va_A (zW E S μ) s.heap.size, maxL)
    ⟨B.exec, B.bytes, hml, findClass_of_methodNamed B.named, fun w hw9 => atoms_spec (ws := ws) B.pre w (by rw [hw]; exact List.mem_cons_of_mem _ hw9), hK, fun q h => Or.inr h, hE, rfl, rfl, rfl⟩
    (fun {pc lv r ν} hp hd hn H locs ls hP hD hS hl => W.zret (v := r) B.exec B.bytes B.returns hn (fun t ht hW => ⟨⟨r, ν, rfl, hp, by rw [ht]; exact hP, va_K.moved hW.alike hK, hD⟩, hS.F ht⟩) hS.2.2 hd)
  rw [lg_entry_eq]
  exact hb s.heap [] _ hP hD va_S.rf (lv_entry av hlen)
end ZCR
section ZCALLR
variable {X : zC} {E : zE} {S : zS} {kc ks : Nat} {μ ν : zM} {pc : Nat} {lv : List (Nat × Value)} {st st0 : List Value} {l : Launch} {cc : ByteArray} {own : String} {Ts : List Cond} {rm : Room} {nL : Nat}
variable {C : String} {T : u_T} {N ci index b n maxL mc ms : Nat} {y : MethodName} {bytes : ByteArray} {ret : Option FieldType} {ws ws' : List Cond} {rc : Room} {As : List Value}
theorem z_callVIR {post : Int32 → zM → Prop} (h : zOK X E l cc own Ts rm nL) (hM : zIR l y ws rc E S (.ref b :: As) μ post mc ms) (ho : zO S b ci) (hc : vwCl[ci]? = some (C, T, N)) (hg : GoodIn Ts (wsV own index C y ws)) (hws : ws = Cond.code y bytes maxL ret :: ws') (hrc : rc.cells = mc ∧ rc.slots = ms) (n : Nat)
    (hd0 : y.cls = C ∧ y.cls ≠ "java/lang/invoke/MethodHandle" ∧ y.cls ≠ "java/lang/invoke/VarHandle" ∧ (parseMethodDescriptor y.desc).map (fun d => d.parameters.length) = some n) (hR : rc.frames + 1 ≤ rm.frames ∧ 8 + (maxL + 11) + rc.locals ≤ rm.locals) (hn : As.length = n) (hst : st0 = As.reverse ++ .ref b :: st) (hcat : (st.map fun v => v.category).sum ≤ 8) (hkc : kc + mc ≤ rm.cells ∧ ks + ms ≤ rm.slots) (hd : decode cc pc = .ok (.invokevirtual index, 3))
    (k : ∀ (r : Int32) (ν : zM), post r ν → zV X E S (kc + mc) (ks + ms) ν (pc + 3) lv (.int r :: st)) : zV X E S kc ks μ pc lv st0 := fun H locs ls hP hD hS hl => by
  subst hst
  obtain ⟨q, hq, hq'⟩ := zW_at (E := E) (μ := μ) ho.1 (zc_o ho.2 (zcls hc).2.2)
  have hF := zA_sub hD hS h.2.2.2.2.2.2.1
  have hl2 : X.2.1 = l := h.2.2.2.2.2.2.2.2.1
  have hR2 : X.2.2.2.1 = rm := h.2.2.2.2.2.2.2.2.2.1
  have hM2 := hM H.size
  rw [← hl2] at hM2
  refine va_calli (va_runV (As := As) (rest := st) ⟨h.1, h.2.1, h.2.2.1, h.2.2.2.1, h.2.2.2.2.1⟩ hM2 (cwV n h.2.2.2.2.1 hg hws hrc.1 hrc.2 hd0 (by rw [hR2]; exact hR)) ⟨zP_blind, va_recv h.2.2.2.2.2.1 hP (q := (C, T, N)) (ci := ci) (q0 := q) hc hq', z_pre h hP hD hS _⟩ rfl hn (hl.1.trans h.2.2.2.2.2.2.2.2.2.2) rfl (lv_room hcat) hd (by rw [hR2]; exact hkc)) hS (fun q _ h => hF q h) hF (fun r2 u t H1 locs1 ht hvm hw hB hz1 hk1 hS1 => ?_)
  obtain ⟨hP1, hK1, hD1⟩ := hB
  rw [ht] at hP1
  exact k r2 u hw H1 locs1 ls hP1 (hD1.weaken (fun _ _ _ q => hF _ q)) hS1 hl
end ZCALLR
