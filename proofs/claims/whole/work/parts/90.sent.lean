/-! THE METHOD THAT THROWS, and the one that catches -/
abbrev NSE : String := "java/util/NoSuchElementException"
abbrev nsN : List String := ["java/lang/RuntimeException", "java/lang/Exception"]
set_option maxRecDepth 20000 in
theorem kx_cl : Cond.classLink RX6 81 NSE ∈ zTbl := zmem 712 rfl rfl
set_option maxRecDepth 20000 in
theorem kx_in : Cond.initialized NSE ∈ zTbl := zmem 69 rfl rfl
set_option maxRecDepth 20000 in
theorem kx_c2 : Cond.classLink RL 13 NSE ∈ zTbl := zmem 706 rfl rfl
set_option maxRecDepth 20000 in
theorem kx_cw : Cond.codeWith yL_sentence cL_sentence 5 (some .int) [(0, 10, 13, 13)] ∈ zTbl := zmem 705 rfl rfl
set_option maxRecDepth 20000 in
theorem kx_ml : Cond.methodLink RL 43 yL_sentence ∈ zTbl := zmem 703 rfl rfl
set_option maxRecDepth 20000 in
theorem kx_st : Cond.static yL_sentence ∈ zTbl := zmem 704 rfl rfl
set_option maxRecDepth 20000 in
theorem kx_rl : Cond.initialized RL ∈ zTbl := zmem 51 rfl rfl
set_option maxRecDepth 100000 in
theorem vxat_in : ((vx_at0 RX6 83 NSE nsN).filter goodWord).all (fun w => decide (w ∈ lw_tbl)) = true := by decide +kernel
set_option maxRecDepth 100000 in
theorem vxat_ot : (Cond.classLink RX6 81 NSE :: Cond.initialized NSE :: vx_at0 RX6 83 NSE nsN).all vx_ot = true := by decide +kernel
def nsB : List Cond := [.declares ⟨"java/lang/RuntimeException", "<init>", "()V"⟩, .declares ⟨"java/lang/Exception", "<init>", "()V"⟩, .declares ⟨"java/lang/Throwable", "<init>", "()V"⟩, .castable NSE NSE]
set_option maxRecDepth 100000 in
theorem vxat_no : ((vx_at0 RX6 83 NSE nsN).filter (fun w => !goodWord w)).all (fun w => decide (w ∈ nsB)) = true := by decide +kernel
/-- what a throw needs of the machine beside the tables' good words -/
def zTh (A : Nat → Prop) (U : State) (H : Heap) : Prop := (va_Nw (.declares ⟨"java/lang/RuntimeException", "<init>", "()V"⟩) U ∧ va_Nw (.declares ⟨"java/lang/Exception", "<init>", "()V"⟩) U ∧ va_Nw (.declares ⟨"java/lang/Throwable", "<init>", "()V"⟩) U ∧ va_Nw (.castable NSE NSE) U) ∧ vx_Zq Bundle.tN "UNASSIGNED_STACK" Bundle.steD A U H ∧ vx_Zq Bundle.tN "SUPPRESSED_SENTINEL" Bundle.listD A U H
theorem zTh.warm {A B : Nat → Prop} {s U : State} {H : Heap} {locs : List Loc} (hW : s.WarmedH U.vm) (hU : U.heap = H) (hS : va_S A s.heap H locs) (hAB : ∀ q, B q → A q) (h : zTh A s s.heap) : zTh B U U.heap :=
  ⟨⟨va_Nw.warmD hW h.1.1, va_Nw.warmD hW h.1.2.1, va_Nw.warmD hW h.1.2.2.1, va_Nw.warmC hW h.1.2.2.2⟩, by rw [hU]; exact ((vx_Zq.moved hW.alike h.2.1).kept hS.2.1).narrow hAB, by rw [hU]; exact ((vx_Zq.moved hW.alike h.2.2).kept hS.2.1).narrow hAB⟩
theorem zTh.same {A : Nat → Prop} {u U : State} (hv : u.vm = U.vm) (hh : U.heap = u.heap) (h : zTh A u u.heap) : zTh A U U.heap :=
  ⟨⟨va_Nw.same rfl hv h.1.1, va_Nw.same rfl hv h.1.2.1, va_Nw.same rfl hv h.1.2.2.1, va_Nw.same rfl hv h.1.2.2.2⟩, by rw [hh]; exact vx_Zq.moved (by rw [hv]; exact Vm.Alike.refl _) h.2.1, by rw [hh]; exact vx_Zq.moved (by rw [hv]; exact Vm.Alike.refl _) h.2.2⟩
def zPT (E : zE) (S : zS) (μ : zM) (sz : Nat) (U : State) : Prop := zTh (va_A (zW E S μ) sz) U U.heap ∧ zP E S μ sz U
theorem zPT_blind {av : List Value} {E : zE} {S : zS} {μ : zM} {sz : Nat} : FrameBlind (va_Pc av (zPT E S μ sz)) := fun a U g mk q => by
  obtain ⟨q0, qa, qp⟩ := q
  exact ⟨q0, zTh.same (u := U) (U := U.calling g mk a) rfl rfl qa, (zP_blind (av := av) (E := E) (S := S) (μ := μ) (sz := sz) a U g mk ⟨q0, qp⟩).2⟩
/-- answers an int, or throws and leaves the memory as it was -/
def zXI (l : Launch) (y : MethodName) (ws : List Cond) (rm : Room) (E : zE) (S : zS) (av : List Value) (μ : zM) (post : Int32 → zM → Prop) (px : Prop) : Prop :=
  ∀ sz, vx_Met l y ws rm (va_Pc av (zPT E S μ sz)) (va_Qi post (zB E S (va_A (zW E S μ) sz)) (va_A (zW E S μ) sz)) (vx_X (fun u : zM => px ∧ u = μ) (fun cl u t => cl = NSE ∧ zB E S (va_A (zW E S μ) sz) u t) (va_A (zW E S μ) sz)) 1 6 (va_A (zW E S μ) sz)
theorem z_metXI {l : Launch} {y : MethodName} {ws : List Cond} {rm : Room} {E : zE} {S : zS} {av : List Value} {μ : zM} {cc : ByteArray} {maxL : Nat} {post : Int32 → zM → Prop} {px : Prop} {ty : FieldType} (hl : l.stackTraces = false) (hy : plainName y.cls = true) (hyc : y.cls = RX6) (hrc : 1 ≤ rm.cells ∧ 6 ≤ rm.slots ∧ 6 ≤ rm.frames ∧ 100 ≤ rm.locals) (hw : ws = Cond.code y cc maxL (some ty) :: zTbl) (hlen : (lg_sl av).length ≤ maxL)
    (body : ∀ X : zC, zOK X E l cc y.cls zTbl rm maxL → (∀ {pc : Nat} {lv : List (Nat × Value)} {r : Int32} {ν : zM}, post r ν → decode cc pc = .ok (.ireturn, 1) → narrow ty (.int r) = .int r → zV X E S 0 0 ν pc lv [.int r]) →
      (∀ {pc : Nat} {lv : List (Nat × Value)}, px → decode cc pc = .ok (.new 81, 3) → decode cc (pc + 3) = .ok (.dup, 1) → decode cc (pc + 4) = .ok (.invokespecial 83, 3) → decode cc (pc + 7) = .ok (.athrow, 1) → zV X E S 0 0 μ pc lv []) → zV X E S 0 0 μ 0 (lv_args 0 av) []) : zXI l y ws rm E S av μ post px := by
  intro sz
  refine vx_ofW (cc := cc) (maxL := maxL) (ret := some ty) hy hw ?_
  intro p e s m args below meth c s₁ B hml htab hv
  obtain ⟨rfl, hth, hsz, hP, hK, hD0, hE⟩ := hv
  subst hsz
  have hD : va_D (va_A (zW E S μ) s.heap.size) (zW E S μ) := hD0.self (sz := s.heap.size)
  have hlocks := B.notSynchronized
  have hts : ∀ w ∈ zTbl, w.before av.toArray s = true := fun w hw9 => atoms_spec (ws := ws) B.pre w (by rw [hw]; exact List.mem_cons_of_mem _ hw9)
  have hown : s.vm.findClass RX6 = some m.cls := by rw [← hyc]; exact findClass_of_methodNamed B.named
  have hat : ∀ w ∈ vx_at0 RX6 83 NSE nsN, w.before av.toArray s = true := vx_hat (B := nsB) (fun w hw9 => hts w (List.mem_filter.mpr ⟨of_decide_eq_true (List.all_eq_true.mp vxat_in w hw9), (List.mem_filter.mp hw9).2⟩)) (fun w hw9 => of_decide_eq_true (List.all_eq_true.mp vxat_no w hw9)) (vx_c (va_Nw.use rfl hth.1.1) (vx_c (va_Nw.use rfl hth.1.2.1) (vx_c (va_Nw.use rfl hth.1.2.2.1) (vx_c (va_Nw.use rfl hth.1.2.2.2) vx_n))))
  have hb := body (p, l, e, (headSpec ws rm).room, s, m, av.toArray, below, meth, c, vx_MQ below (va_Qi post (zB E S (va_A (zW E S μ) s.heap.size)) (va_A (zW E S μ) s.heap.size)) (vx_X (fun u : zM => px ∧ u = μ) (fun cl u t => cl = NSE ∧ zB E S (va_A (zW E S μ) s.heap.size) u t) (va_A (zW E S μ) s.heap.size)) av.toArray s 1 6 (va_A (zW E S μ) s.heap.size), va_A (zW E S μ) s.heap.size, maxL)
    ⟨B.exec, B.bytes, hml, findClass_of_methodNamed B.named, hts, hK, fun q h => Or.inr h, hE, rfl, rfl, rfl⟩
    (fun {pc lv r ν} hp hd hn H locs ls hP hD hS hl => vx_ret (W.widen (Nat.zero_le 1) (Nat.zero_le 6) (W.zret (v := r) B.exec B.bytes B.returns hn (fun t ht hW => ⟨⟨r, ν, rfl, hp, by rw [ht]; exact hP, va_K.moved hW.alike hK, hD⟩, hS.F ht⟩) hS.2.2 hd)))
    (fun {pc lv} hpx d0 d3 d4 d7 H locs ls hP hD hS hl9 => vx_throw0 (names := nsN) (A := va_A (zW E S μ) s.heap.size) (cls := NSE) B.exec B.bytes hl hown (by decide +kernel) (by decide +kernel) (hts _ kx_cl) (hts _ kx_in) hat (fun w hw9 => List.all_eq_true.mp vxat_ot w hw9) hth.2.1 hth.2.2 hS (hl9.1.trans hml.symm) d0 d3 d4 d7 (fun x hx => (htab x hx).elim) (by show 2 + 3 < rm.frames; omega) (by show 0 + (13 * (2 + 1) + 42) ≤ rm.locals; omega) (by show 0 + 1 ≤ rm.cells; omega) (by show 0 + 6 ≤ rm.slots; omega) hlocks
      (fun t hal h1 h2 => ⟨μ, ⟨hpx, rfl⟩, ⟨rfl, hP.kept (fun k x hx => h2 x.1 ((hP k x hx).lt)), va_K.moved hal hK, hD⟩, ⟨Nat.le_trans hS.1 h1, fun q g1 g2 => (h2 q (Nat.lt_of_lt_of_le g1 hS.1)).trans (hS.2.1 q g1 g2)⟩⟩) hS.2.2 (by omega) (by omega))
  rw [lg_entry_eq]
  exact hb s.heap [] _ hP hD va_S.rf (lv_entry av hlen)
abbrev rmX6s : Room := { frames := 6, cells := 1, slots := 6, locals := 100 }
set_option maxHeartbeats 4000000 in
set_option maxRecDepth 100000 in
theorem c_X6_sentence (l : Launch) (hl : l.stackTraces = false) {E : zE} {S : zS} {I : Nat → Nat → Int32} {J : Nat → Nat → Int64} {R : Nat → Nat → Option Nat} {x st pa ak k : Nat} {rw : Nat → Nat} (x1 : zO S x 6) (x2 : R x 4 = some st) (hY : SY S R st pa ak rw) (hn : I st 2 = nI k) (hk : k ≤ 10) {i w : Int32} : zXI l yX6_sentence wsX6_sentence rmX6s E S [.ref x, .int i, .int w] (I, J, R) (fun r ν => ((0 ≤ i ∧ i < nI k) ∧ 0 ≤ w ∧ w < 7) ∧ r = I (rw i.toNatClampNeg) w.toNatClampNeg ∧ ν = (I, J, R)) (¬ ((0 ≤ i ∧ i < nI k) ∧ 0 ≤ w ∧ w < 7)) := by
  refine z_metXI (cc := cX6_sentence) (maxL := 3) (ty := .int) hl (by decide) rfl (by decide) rfl (Nat.le_of_ble_eq_true rfl) (fun X h ret thr => ?_)
  show zV X E S 0 0 (I, J, R) 0 _ []
  have y1 : zO S st 3 := hY.1
  refine z_aload_n h dX6_sentence_0 rfl rfl ?_
  refine z_getR h (by assumption) rfl kw6 4 (by decide) rfl (by assumption) kf_RX6_35 dX6_sentence_1 ?_
  refine z_iload_n h dX6_sentence_4 rfl rfl ?_
  refine z_callVI h (c_X3_has l y1 hn hk) (by assumption) rfl gm_RX6_78 rfl ⟨rfl, rfl⟩ 1 (by decide +kernel) ⟨by decide, by decide⟩ rfl rfl (Nat.le_of_ble_eq_true rfl) ⟨Nat.zero_le _, Nat.zero_le _⟩ dX6_sentence_5 ?_
  refine z_if_eq h 21 dX6_sentence_8 (by decide) (fun c8 => ?_) (fun c8 => ?_)
  · exact thr (fun q => by rw [decide_eq_true q.1] at c8; exact absurd c8 (by decide)) dX6_sentence_21 dX6_sentence_24 dX6_sentence_25 dX6_sentence_28
  · have hi : 0 ≤ i ∧ i < nI k := Decidable.byContradiction fun q => c8 (by rw [decide_eq_false q]; rfl)
    refine z_iload_n h dX6_sentence_11 rfl rfl ?_
    refine z_if_lt h 21 dX6_sentence_12 (by decide) (fun c12 => ?_) (fun c12 => ?_)
    · exact thr (fun q => i32l.1.mp c12 |> fun z => absurd (i32l.2.1.mp q.2.1) (by omega)) dX6_sentence_21 dX6_sentence_24 dX6_sentence_25 dX6_sentence_28
    · refine z_iload_n h dX6_sentence_15 rfl rfl ?_
      refine z_bipush (v := 7) h dX6_sentence_16 (by decide) ?_
      refine z_icmp_lt h 29 dX6_sentence_18 (by decide) (fun c18 => ?_) (fun c18 => ?_)
      · refine z_aload_n h dX6_sentence_29 rfl rfl ?_
        refine z_getR h (by assumption) rfl kw6 4 (by decide) rfl (by assumption) kf_RX6_35 dX6_sentence_30 ?_
        refine z_iload_n h dX6_sentence_33 rfl rfl ?_
        refine z_iload_n h dX6_sentence_34 rfl rfl ?_
        refine z_callVI h (c_X3_part l hY hn hk) (by assumption) rfl gm_RX6_84 rfl ⟨rfl, rfl⟩ 2 (by decide +kernel) ⟨by decide, by decide⟩ rfl rfl (Nat.le_of_ble_eq_true rfl) ⟨Nat.zero_le _, Nat.zero_le _⟩ dX6_sentence_35 ?_
        have hw0 : (0 : Int32) ≤ w := by rw [i32l.2.1]; rw [i32l.1] at c12; omega
        exact ret ⟨⟨hi, hw0, c18⟩, if_pos ⟨hi.1, hi.2, hw0, c18⟩, rfl⟩ dX6_sentence_38 rfl
      · exact thr (fun q => c18 q.2.2) dX6_sentence_21 dX6_sentence_24 dX6_sentence_25 dX6_sentence_28

