/-! THE LAW's HELPER: it calls sentence(II) and catches what is thrown -/
theorem z_callXI {X : zC} {E : zE} {S : zS} {kc ks : Nat} {μ : zM} {pc : Nat} {lv : List (Nat × Value)} {st st0 : List Value} {l : Launch} {cc : ByteArray} {own : String} {rm : Room} {nL : Nat} {C : String} {T : u_T} {N ci index b maxL : Nat} {y : MethodName} {bytes : ByteArray} {ret : Option FieldType} {ws ws' : List Cond} {rc : Room} {As : List Value} {post : Int32 → zM → Prop} {px : Prop} {x0 : ExceptionTableEntry} {suf : List ExceptionTableEntry}
    (h : zOK X E l cc own zTbl rm nL) (hth : zTh X.2.2.2.2.2.2.2.2.2.2.2.1 X.2.2.2.2.1 X.2.2.2.2.1.heap) (hM : zXI l y ws rc E S (.ref b :: As) μ post px) (ho : zO S b ci) (hc : vwCl[ci]? = some (C, T, N)) (hg : GoodIn zTbl (wsV own index C y ws)) (hws : ws = Cond.code y bytes maxL ret :: ws') (hrc : rc.cells = 1 ∧ rc.slots = 6) (n : Nat)
    (hd0 : y.cls = C ∧ y.cls ≠ "java/lang/invoke/MethodHandle" ∧ y.cls ≠ "java/lang/invoke/VarHandle" ∧ (parseMethodDescriptor y.desc).map (fun d => d.parameters.length) = some n) (hR : rc.frames + 1 ≤ rm.frames ∧ 8 + (maxL + 11) + rc.locals ≤ rm.locals) (hn : As.length = n) (hst : st0 = As.reverse ++ .ref b :: st) (hcat : (st.map fun v => v.category).sum ≤ 8) (hkc : kc + 1 ≤ rm.cells ∧ ks + 6 ≤ rm.slots) (hd : decode cc pc = .ok (.invokevirtual index, 3))
    (htab : X.2.2.2.2.2.2.2.2.2.1.exceptionTable.toList = x0 :: suf) (hcov : covers x0 pc = true) (h0 : x0.catchType ≠ 0) (hlk : Cond.classLink own x0.catchType NSE ∈ zTbl)
    (kx : px → ∀ q : Nat, zV X E S (kc + 1) (ks + 6) μ x0.handlerPc lv [.ref q]) (k : ∀ (r : Int32) (ν : zM), post r ν → zV X E S (kc + 1) (ks + 6) ν (pc + 3) lv (.int r :: st)) : zV X E S kc ks μ pc lv st0 := fun H locs ls hP hD hS hl => by
  subst hst
  obtain ⟨q, hq, hq'⟩ := zW_at (E := E) (μ := μ) ho.1 (zc_o ho.2 (zcls hc).2.2)
  have hF := zA_sub hD hS h.2.2.2.2.2.2.1
  have hl2 : X.2.1 = l := h.2.2.2.2.2.2.2.2.1
  have hR2 : X.2.2.2.1 = rm := h.2.2.2.2.2.2.2.2.2.1
  have hM2 := hM H.size
  rw [← hl2] at hM2
  refine vx_calli (vx_runV (As := As) (rest := st) ⟨h.1, h.2.1, h.2.2.1, h.2.2.2.1, h.2.2.2.2.1⟩ hM2 (cwV n h.2.2.2.2.1 hg hws hrc.1 hrc.2 hd0 (by rw [hR2]; exact hR)) ⟨zPT_blind, va_recv h.2.2.2.2.2.1 hP (q := (C, T, N)) (ci := ci) (q0 := q) hc hq', fun U hU hW => ⟨rfl, hth.warm hW hU hS hF, (z_pre h hP hD hS (.ref b :: As) U hU hW).2⟩⟩ rfl hn (hl.1.trans h.2.2.2.2.2.2.2.2.2.2) rfl (lv_room hcat) hd (by rw [hR2]; exact hkc)) hS (fun q _ h => hF q h) hF (fun q _ h => hF q h)
    (fun E9 ce q9 u t H1 locs1 ht hvm hpu hB hz1 hk1 hS1 hce hcv hcl => ?_) (fun r2 u t H1 locs1 ht hvm hw hB hz1 hk1 hS1 => ?_)
  · obtain ⟨hpx, rfl⟩ := hpu
    obtain ⟨rfl, hP1, hK1, hD1⟩ := hB
    rw [ht] at hP1
    exact vx_catch h.2.2.2.1 [] x0 suf htab (fun z hz => nomatch hz) hcov h0 (h.2.2.2.2.1 _ hlk) (va_Nw.use rfl hth.1.2.2.2) hce hcv hcl (kx hpx q9 H1 locs1 ls hP1 (hD1.weaken (fun _ _ _ q => hF _ q)) hS1 hl)
  · obtain ⟨hP1, hK1, hD1⟩ := hB
    rw [ht] at hP1
    exact k r2 u hw H1 locs1 ls hP1 (hD1.weaken (fun _ _ _ q => hF _ q)) hS1 hl
def zSR (l : Launch) (y : MethodName) (ws : List Cond) (rm : Room) (E : zE) (S : zS) (av : List Value) (μ : zM) (post : Int32 → zM → Prop) (mc ms : Nat) : Prop :=
  ∀ sz, Met l y ws rm (va_Pc av (zPT E S μ sz)) (va_Qi post (zB E S (va_A (zW E S μ) sz)) (va_A (zW E S μ) sz)) mc ms (va_A (zW E S μ) sz)
theorem z_metSR {l : Launch} {y : MethodName} {ws : List Cond} {rm : Room} {E : zE} {S : zS} {av : List Value} {μ : zM} {cc : ByteArray} {maxL mc ms : Nat} {post : Int32 → zM → Prop} {ty : FieldType} {hh : List (Nat × Nat × Nat × Nat)} (hy : plainName y.cls = true) (hw : ws = Cond.codeWith y cc maxL (some ty) hh :: zTbl) (hlen : (lg_sl av).length ≤ maxL)
    (body : ∀ X : zC, zOK X E l cc y.cls zTbl rm maxL → zTh X.2.2.2.2.2.2.2.2.2.2.2.1 X.2.2.2.2.1 X.2.2.2.2.1.heap → X.2.2.2.2.2.2.2.2.2.1.exceptionTable.toList = tableOf hh → (∀ {pc : Nat} {lv : List (Nat × Value)} {r : Int32} {ν : zM}, post r ν → decode cc pc = .ok (.ireturn, 1) → narrow ty (.int r) = .int r → zV X E S mc ms ν pc lv [.int r]) → zV X E S 0 0 μ 0 (lv_args 0 av) []) : zSR l y ws rm E S av μ post mc ms := by
  intro sz
  refine va_MetW (cc := cc) (maxL := maxL) (ret := some ty) (hh := hh) hy hw ?_
  intro p e s m args below meth c s₁ B hml hv
  obtain ⟨rfl, hth, hsz, hP, hK, hD0, hE⟩ := hv
  subst hsz
  have hD : va_D (va_A (zW E S μ) s.heap.size) (zW E S μ) := hD0.self (sz := s.heap.size)
  have hlocks := B.notSynchronized
  have htab := vx_table (x := y) B (atoms_spec (ws := ws) B.pre (Cond.codeWith y cc maxL (some ty) hh) (by rw [hw]; exact List.mem_cons_self))
  have hb := body (p, l, e, (headSpec ws rm).room, s, m, av.toArray, below, meth, c, MQ below (va_Qi post (zB E S (va_A (zW E S μ) s.heap.size)) (va_A (zW E S μ) s.heap.size)) av.toArray s mc ms (va_A (zW E S μ) s.heap.size), va_A (zW E S μ) s.heap.size, maxL)
    ⟨B.exec, B.bytes, hml, findClass_of_methodNamed B.named, fun w hw9 => atoms_spec (ws := ws) B.pre w (by rw [hw]; exact List.mem_cons_of_mem _ hw9), hK, fun q h => Or.inr h, hE, rfl, rfl, rfl⟩ hth htab
    (fun {pc lv r ν} hp hd hn H locs ls hP hD hS hl => W.zret (v := r) B.exec B.bytes B.returns hn (fun t ht hW => ⟨⟨r, ν, rfl, hp, by rw [ht]; exact hP, va_K.moved hW.alike hK, hD⟩, hS.F ht⟩) hS.2.2 hd)
  rw [lg_entry_eq]
  exact hb s.heap [] _ hP hD va_S.rf (lv_entry av hlen)
theorem z_callSR {X : zC} {E : zE} {S : zS} {kc ks : Nat} {μ : zM} {pc : Nat} {lv : List (Nat × Value)} {st st0 : List Value} {l : Launch} {cc : ByteArray} {own : String} {rm : Room} {nL : Nat} {index maxL mc ms : Nat} {y : MethodName} {bytes : ByteArray} {ret : Option FieldType} {hh : List (Nat × Nat × Nat × Nat)} {ws ws' : List Cond} {rc : Room} {As : List Value} {post : Int32 → zM → Prop}
    (h : zOK X E l cc own zTbl rm nL) (hth : zTh X.2.2.2.2.2.2.2.2.2.2.2.1 X.2.2.2.2.1 X.2.2.2.2.1.heap) (hM : zSR l y ws rc E S As μ post mc ms) (hg : GoodIn zTbl (va_wsS own index y ws)) (hws : ws = Cond.codeWith y bytes maxL ret hh :: ws') (hrc : rc.cells = mc ∧ rc.slots = ms) (n : Nat)
    (hd0 : y.cls ≠ "java/lang/invoke/MethodHandle" ∧ y.cls ≠ "java/lang/invoke/VarHandle" ∧ (parseMethodDescriptor y.desc).map (fun d => d.parameters.length) = some n) (hR : rc.frames + 1 ≤ rm.frames ∧ 8 + (maxL + 11) + rc.locals ≤ rm.locals) (hn : As.length = n) (hst : st0 = As.reverse ++ st) (hcat : (st.map fun v => v.category).sum ≤ 8) (hkc : kc + mc ≤ rm.cells ∧ ks + ms ≤ rm.slots) (hd : decode cc pc = .ok (.invokestatic index, 3))
    (k : ∀ (r : Int32) (ν : zM), post r ν → zV X E S (kc + mc) (ks + ms) ν (pc + 3) lv (.int r :: st)) : zV X E S kc ks μ pc lv st0 := fun H locs ls hP hD hS hl => by
  subst hst
  have hF := zA_sub hD hS h.2.2.2.2.2.2.1
  have hl2 : X.2.1 = l := h.2.2.2.2.2.2.2.2.1
  have hR2 : X.2.2.2.1 = rm := h.2.2.2.2.2.2.2.2.2.1
  have hM2 := hM H.size
  rw [← hl2] at hM2
  refine va_calli (vx_runSW (hh := hh) (bytes := bytes) (maxL := maxL) (ret := ret) (As := As) (rest := st) ⟨h.1, h.2.1, h.2.2.1, h.2.2.2.1, h.2.2.2.2.1⟩ hM2 (vx_cwSW n h.2.2.2.2.1 hg hws hrc.1 hrc.2 hd0 (by rw [hR2]; exact hR)) ⟨zPT_blind, fun U hU hW => ⟨rfl, hth.warm hW hU hS hF, (z_pre h hP hD hS As U hU hW).2⟩⟩ rfl hn (hl.1.trans h.2.2.2.2.2.2.2.2.2.2) rfl (lv_room hcat) hd (by rw [hR2]; exact hkc)) hS (fun q _ h => hF q h) hF (fun r2 u t H1 locs1 ht hvm hw hB hz1 hk1 hS1 => ?_)
  obtain ⟨hP1, hK1, hD1⟩ := hB
  rw [ht] at hP1
  exact k r2 u hw H1 locs1 ls hP1 (hD1.weaken (fun _ _ _ q => hF _ q)) hS1 hl
abbrev wsL_sentence : List Cond := Cond.codeWith yL_sentence cL_sentence 5 (some .int) [(0, 10, 13, 13)] :: zTbl
theorem gm_RL_43 : GoodIn zTbl (va_wsS RL 43 yL_sentence wsL_sentence) := zg1 kx_ml (zg1 kx_st (zg1 kx_rl (zg1 kx_cw zgA)))
abbrev rmLs : Room := { frames := 7, cells := 1, slots := 6, locals := 122 }
set_option maxHeartbeats 4000000 in
set_option maxRecDepth 100000 in
theorem c_L_sentence (l : Launch) (hl : l.stackTraces = false) {E : zE} {S : zS} {I : Nat → Nat → Int32} {J : Nat → Nat → Int64} {R : Nat → Nat → Option Nat} {x st pa ak k out : Nat} {rw : Nat → Nat} (x1 : zO S x 6) (x2 : R x 4 = some st) (hY : SY S R st pa ak rw) (hn : I st 2 = nI k) (hk : k ≤ 10) (ho : zA S out 10 1) {i w : Int32} : zSR l yL_sentence wsL_sentence rmLs E S [.ref x, .int i, .int w, .ref out] (I, J, R) (fun r ν => (((0 ≤ i ∧ i < nI k) ∧ 0 ≤ w ∧ w < 7) ∧ r = 0 ∧ ν = (I, zu J out 0 (I (rw i.toNatClampNeg) w.toNatClampNeg).toInt64, R)) ∨ (¬ ((0 ≤ i ∧ i < nI k) ∧ 0 ≤ w ∧ w < 7) ∧ r = 1 ∧ ν = (I, J, R))) 1 6 := by
  refine z_metSR (cc := cL_sentence) (maxL := 5) (ty := .int) (hh := [(0, 10, 13, 13)]) (by decide) rfl (Nat.le_of_ble_eq_true rfl) (fun X h hth htab ret => ?_)
  show zV X E S 0 0 (I, J, R) 0 _ []
  refine z_aload_n h dL_sentence_0 rfl rfl ?_
  refine z_iconst (v := 0) h dL_sentence_1 (by decide) ?_
  refine z_aload_n h dL_sentence_2 rfl rfl ?_
  refine z_iload_n h dL_sentence_3 rfl rfl ?_
  refine z_iload_n h dL_sentence_4 rfl rfl ?_
  refine z_callXI (x0 := ⟨0, 10, 13, 13⟩) (suf := []) h hth (c_X6_sentence l hl x1 x2 hY hn hk) x1 rfl gm_RL_7 rfl ⟨rfl, rfl⟩ 2 (by decide +kernel) ⟨by decide, by decide⟩ rfl rfl (Nat.le_of_ble_eq_true rfl) ⟨by decide, by decide⟩ dL_sentence_5 htab (by decide) (by decide) kx_c2 (fun hpx q => ?_) (fun r ν hp => ?_)
  · refine z_astore h dL_sentence_13 (by decide) ?_
    refine z_iconst (v := 1) h dL_sentence_15 (by decide) ?_
    exact ret (Or.inr ⟨hpx, rfl, rfl⟩) dL_sentence_16 rfl
  · obtain ⟨h1, rfl, rfl⟩ := hp
    refine z_i2l h dL_sentence_8 rfl ?_
    refine z_last h ho (zix_e (j := 0) (by decide) (by decide) (by decide)) dL_sentence_9 ?_
    refine z_goto h 17 dL_sentence_10 (by decide) ?_
    refine z_iconst (v := 0) h dL_sentence_17 (by decide) ?_
    exact ret (Or.inl ⟨h1, rfl, rfl⟩) dL_sentence_18 rfl
