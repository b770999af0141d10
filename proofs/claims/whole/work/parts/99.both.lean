/-! EACH CALL ON BOTH SIDES -/
theorem knd {S : zS} {a b i j : Nat} (h : S.2.1 a = i) (k : S.2.1 b = j) (hij : i ≠ j) : a ≠ b := kn h k hij
set_option maxHeartbeats 4000000 in
theorem b_sentences (l : Launch) {E : zE} {S : zS} {I : Nat → Nat → Int32} {J : Nat → Nat → Int64} {R : Nat → Nat → Option Nat} {lab : Nat → Nat} {x y : Nat} (hR : REL lab S I J R x y)  : ∃ P : Int32 → zM → Prop, zIP l yX6_sentences wsX6_sentences rmX6_sentences E S [.ref x] (I, J, R) P ∧ ∀ r ν, P r ν → ∃ I1 J1 R1, ν = (I1, J1, R1) ∧ ∃ Q : Int32 → zM → Prop, zIP l yX7_sentences wsX7_sentences rmX7_sentences E S [.ref y] (I1, J1, R1) Q ∧ ∀ r' ν', Q r' ν' → r' = r ∧ ∃ I2 J2 R2, ν' = (I2, J2, R2) ∧ REL lab S I2 J2 R2 x y := by
  obtain ⟨c, d, t, b, rd, ch, sa, na, su, lo, fl, st, pa, ak, dr, pa2, ak2, rw, rw2, lw, rs, le, g, tp, td, rm, ra, am, ks, kn, ro, ba, be, tg, n, m, p, tt, aq, k, cs, cn, u, qn, ob, hP, hL, hM, h1, h2, h3, h4, h5⟩ := hR
  have hm : m ≤ 10 := hP.2.2.1.1
  obtain ⟨⟨x1, x_0, x_1, x_2, x_3, x_4, x_5⟩, ⟨t1, t2, b1⟩, ⟨rd1, rd2⟩, ⟨ch1, ch2, ch3, sa1, na1, sana⟩, -⟩ := id hL
  obtain ⟨y1, ⟨y_1, tp1⟩, ⟨y_3, td1⟩, ⟨y_4, rm1⟩, ⟨y_5, am1⟩, ⟨y_6, ra1⟩, ⟨y_10, ks1⟩, ⟨y_11, kn1⟩, -, -, -, -, ⟨m1, m2, m3, m4, m5, m6, m7, m8, m9, m10, m11⟩⟩ := id hM
  have Y1 := CL_Y hL
  have Y2 := CL_Y2 hL
  have U1 := CL_U hL
  have su1 := U1.1
  have hMB := ML_MB hM
  obtain ⟨f, e, hT⟩ := h1.1
  have hPE := MD_PE h5
  have hW' : WT (tq I td) m := WT_c hPE hP.2.2.1
  have hTD := ML_TD hM h5 hm
  have hAK : I y 9 ≠ 0 → AK S R I y am qn ob := fun q => ML_AK hM h5 hP q
  refine ⟨_, c_X6_sentences l x1 x_4 Y1.1 (post := fun r ν => r = I st 2 ∧ ν = (I, J, R)) (c_X3_size l Y1.1), fun r ν hp => ⟨I, J, R, hp.2, fun r' ν' => r' = I y 7 ∧ ν' = (zu I y 0 0, J, R), c_X7_sentences l y1, fun r' ν' hq => ⟨?_, zu I y 0 0, J, R, hq.2, REL_fin hP hL hM h1 h2 h3 h4 (MD_0 hM h5)⟩⟩⟩
  rw [hq.1, hp.1, h5.2.2.1, h3.2.1]
set_option maxHeartbeats 4000000 in
theorem b_question (l : Launch) {E : zE} {S : zS} {I : Nat → Nat → Int32} {J : Nat → Nat → Int64} {R : Nat → Nat → Option Nat} {lab : Nat → Nat} {x y : Nat} (hR : REL lab S I J R x y) {w : Int32} : ∃ P : Int32 → zM → Prop, zIP l yX6_question wsX6_question rmX6_question E S [.ref x, .int w] (I, J, R) P ∧ ∀ r ν, P r ν → ∃ I1 J1 R1, ν = (I1, J1, R1) ∧ ∃ Q : Int32 → zM → Prop, zIP l yX7_question wsX7_question rmX7_question E S [.ref y, .int w] (I1, J1, R1) Q ∧ ∀ r' ν', Q r' ν' → r' = r ∧ ∃ I2 J2 R2, ν' = (I2, J2, R2) ∧ REL lab S I2 J2 R2 x y := by
  obtain ⟨c, d, t, b, rd, ch, sa, na, su, lo, fl, st, pa, ak, dr, pa2, ak2, rw, rw2, lw, rs, le, g, tp, td, rm, ra, am, ks, kn, ro, ba, be, tg, n, m, p, tt, aq, k, cs, cn, u, qn, ob, hP, hL, hM, h1, h2, h3, h4, h5⟩ := hR
  have hm : m ≤ 10 := hP.2.2.1.1
  obtain ⟨⟨x1, x_0, x_1, x_2, x_3, x_4, x_5⟩, ⟨t1, t2, b1⟩, ⟨rd1, rd2⟩, ⟨ch1, ch2, ch3, sa1, na1, sana⟩, -⟩ := id hL
  obtain ⟨y1, ⟨y_1, tp1⟩, ⟨y_3, td1⟩, ⟨y_4, rm1⟩, ⟨y_5, am1⟩, ⟨y_6, ra1⟩, ⟨y_10, ks1⟩, ⟨y_11, kn1⟩, -, -, -, -, ⟨m1, m2, m3, m4, m5, m6, m7, m8, m9, m10, m11⟩⟩ := id hM
  have Y1 := CL_Y hL
  have Y2 := CL_Y2 hL
  have U1 := CL_U hL
  have su1 := U1.1
  have hMB := ML_MB hM
  obtain ⟨f, e, hT⟩ := h1.1
  have hPE := MD_PE h5
  have hW' : WT (tq I td) m := WT_c hPE hP.2.2.1
  have hTD := ML_TD hM h5 hm
  have hAK : I y 9 ≠ 0 → AK S R I y am qn ob := fun q => ML_AK hM h5 hP q
  refine ⟨_, c_X6_question l x1 x_4 Y1.1 (post := fun r ν => r = (if I st 5 ≠ 0 ∧ 0 ≤ w ∧ w < 5 then I ak w.toNatClampNeg else -1) ∧ ν = (I, J, R)) (c_X3_asked l Y1), fun r ν hp => ⟨I, J, R, hp.2, fun r' ν' => r' = (if I y 9 ≠ 0 ∧ 0 ≤ w ∧ w ≤ 4 then I am w.toNatClampNeg else -1) ∧ ν' = (zu I y 0 0, J, R), c_X7_question l y1 y_5 am1, fun r' ν' hq => ⟨?_, zu I y 0 0, J, R, hq.2, REL_fin hP hL hM h1 h2 h3 h4 (MD_0 hM h5)⟩⟩⟩
  rw [hq.1, hp.1]
  exact e_question h3 h5
set_option maxHeartbeats 4000000 in
theorem b_quarrel (l : Launch) {E : zE} {S : zS} {I : Nat → Nat → Int32} {J : Nat → Nat → Int64} {R : Nat → Nat → Option Nat} {lab : Nat → Nat} {x y : Nat} (hR : REL lab S I J R x y)  : ∃ P : Int32 → zM → Prop, zIP l yX6_quarrel wsX6_quarrel rmX6_quarrel E S [.ref x] (I, J, R) P ∧ ∀ r ν, P r ν → ∃ I1 J1 R1, ν = (I1, J1, R1) ∧ ∃ Q : Int32 → zM → Prop, zIP l yX7_quarrel wsX7_quarrel rmX7_quarrel E S [.ref y] (I1, J1, R1) Q ∧ ∀ r' ν', Q r' ν' → r' = r ∧ ∃ I2 J2 R2, ν' = (I2, J2, R2) ∧ REL lab S I2 J2 R2 x y := by
  obtain ⟨c, d, t, b, rd, ch, sa, na, su, lo, fl, st, pa, ak, dr, pa2, ak2, rw, rw2, lw, rs, le, g, tp, td, rm, ra, am, ks, kn, ro, ba, be, tg, n, m, p, tt, aq, k, cs, cn, u, qn, ob, hP, hL, hM, h1, h2, h3, h4, h5⟩ := hR
  have hm : m ≤ 10 := hP.2.2.1.1
  obtain ⟨⟨x1, x_0, x_1, x_2, x_3, x_4, x_5⟩, ⟨t1, t2, b1⟩, ⟨rd1, rd2⟩, ⟨ch1, ch2, ch3, sa1, na1, sana⟩, -⟩ := id hL
  obtain ⟨y1, ⟨y_1, tp1⟩, ⟨y_3, td1⟩, ⟨y_4, rm1⟩, ⟨y_5, am1⟩, ⟨y_6, ra1⟩, ⟨y_10, ks1⟩, ⟨y_11, kn1⟩, -, -, -, -, ⟨m1, m2, m3, m4, m5, m6, m7, m8, m9, m10, m11⟩⟩ := id hM
  have Y1 := CL_Y hL
  have Y2 := CL_Y2 hL
  have U1 := CL_U hL
  have su1 := U1.1
  have hMB := ML_MB hM
  obtain ⟨f, e, hT⟩ := h1.1
  have hPE := MD_PE h5
  have hW' : WT (tq I td) m := WT_c hPE hP.2.2.1
  have hTD := ML_TD hM h5 hm
  have hAK : I y 9 ≠ 0 → AK S R I y am qn ob := fun q => ML_AK hM h5 hP q
  refine ⟨_, c_X6_quarrel l x1 x_3 su1 (post := fun r ν => r = I su 9 ∧ ν = (I, J, R)) (c_X4_quarrelAt l su1), fun r ν hp => ⟨I, J, R, hp.2, _, c_X7_quarrel l hMB hTD hW', fun r' ν' hq => ?_⟩⟩
  obtain ⟨I', J', e1, e2, hF⟩ := hq
  refine ⟨?_, I', J', R, e1, REL_fin hP hL hM h1 h2 h3 h4 (MD_FQ hM h5 hF)⟩
  rw [e2, hp.1]
  exact e_quarrel hP h4 h5
set_option maxHeartbeats 4000000 in
theorem b_answer (l : Launch) {E : zE} {S : zS} {I : Nat → Nat → Int32} {J : Nat → Nat → Int64} {R : Nat → Nat → Option Nat} {lab : Nat → Nat} {x y : Nat} (hR : REL lab S I J R x y) {w : Int32} : ∃ P : Int64 → zM → Prop, zLP l yX6_answer wsX6_answer rmX6_answer E S [.ref x, .int w] (I, J, R) P ∧ ∀ r ν, P r ν → ∃ I1 J1 R1, ν = (I1, J1, R1) ∧ ∃ Q : Int64 → zM → Prop, zLP l yX7_answer wsX7_answer rmX7_answer E S [.ref y, .int w] (I1, J1, R1) Q ∧ ∀ r' ν', Q r' ν' → r' = r ∧ ∃ I2 J2 R2, ν' = (I2, J2, R2) ∧ REL lab S I2 J2 R2 x y := by
  obtain ⟨c, d, t, b, rd, ch, sa, na, su, lo, fl, st, pa, ak, dr, pa2, ak2, rw, rw2, lw, rs, le, g, tp, td, rm, ra, am, ks, kn, ro, ba, be, tg, n, m, p, tt, aq, k, cs, cn, u, qn, ob, hP, hL, hM, h1, h2, h3, h4, h5⟩ := hR
  have hm : m ≤ 10 := hP.2.2.1.1
  obtain ⟨⟨x1, x_0, x_1, x_2, x_3, x_4, x_5⟩, ⟨t1, t2, b1⟩, ⟨rd1, rd2⟩, ⟨ch1, ch2, ch3, sa1, na1, sana⟩, -⟩ := id hL
  obtain ⟨y1, ⟨y_1, tp1⟩, ⟨y_3, td1⟩, ⟨y_4, rm1⟩, ⟨y_5, am1⟩, ⟨y_6, ra1⟩, ⟨y_10, ks1⟩, ⟨y_11, kn1⟩, -, -, -, -, ⟨m1, m2, m3, m4, m5, m6, m7, m8, m9, m10, m11⟩⟩ := id hM
  have Y1 := CL_Y hL
  have Y2 := CL_Y2 hL
  have U1 := CL_U hL
  have su1 := U1.1
  have hMB := ML_MB hM
  obtain ⟨f, e, hT⟩ := h1.1
  have hPE := MD_PE h5
  have hW' : WT (tq I td) m := WT_c hPE hP.2.2.1
  have hTD := ML_TD hM h5 hm
  have hAK : I y 9 ≠ 0 → AK S R I y am qn ob := fun q => ML_AK hM h5 hP q
  refine ⟨_, c_X6_answer l x1 x_3 su1 (post := fun r ν => r = apC (J su 10) (J su 11) w ∧ ν = (I, J, R)) (c_X4_answerPart l su1), fun r ν hp => ⟨I, J, R, hp.2, _, c_X7_answer l hMB hTD hW' hAK, fun r' ν' hq => ?_⟩⟩
  obtain ⟨I', J', e1, hF, e2⟩ := hq
  refine ⟨?_, I', J', R, e1, REL_fin hP hL hM h1 h2 h3 h4 (MD_FQ hM h5 hF)⟩
  rw [hp.1]
  exact e_answer hP h3 h4 h5 e2
set_option maxHeartbeats 4000000 in
theorem b_amount (l : Launch) {E : zE} {S : zS} {I : Nat → Nat → Int32} {J : Nat → Nat → Int64} {R : Nat → Nat → Option Nat} {lab : Nat → Nat} {x y : Nat} (hR : REL lab S I J R x y) {a1 a2 a3 w : Int32} : ∃ P : Int64 → zM → Prop, zLP l yX6_amount wsX6_amount rmX6_amount E S [.ref x, .int a1, .int a2, .int a3, .int w] (I, J, R) P ∧ ∀ r ν, P r ν → ∃ I1 J1 R1, ν = (I1, J1, R1) ∧ ∃ Q : Int64 → zM → Prop, zLP l yX7_amount wsX7_amount rmX7_amount E S [.ref y, .int a1, .int a2, .int a3, .int w] (I1, J1, R1) Q ∧ ∀ r' ν', Q r' ν' → r' = r ∧ ∃ I2 J2 R2, ν' = (I2, J2, R2) ∧ REL lab S I2 J2 R2 x y := by
  obtain ⟨c, d, t, b, rd, ch, sa, na, su, lo, fl, st, pa, ak, dr, pa2, ak2, rw, rw2, lw, rs, le, g, tp, td, rm, ra, am, ks, kn, ro, ba, be, tg, n, m, p, tt, aq, k, cs, cn, u, qn, ob, hP, hL, hM, h1, h2, h3, h4, h5⟩ := hR
  have hm : m ≤ 10 := hP.2.2.1.1
  obtain ⟨⟨x1, x_0, x_1, x_2, x_3, x_4, x_5⟩, ⟨t1, t2, b1⟩, ⟨rd1, rd2⟩, ⟨ch1, ch2, ch3, sa1, na1, sana⟩, -⟩ := id hL
  obtain ⟨y1, ⟨y_1, tp1⟩, ⟨y_3, td1⟩, ⟨y_4, rm1⟩, ⟨y_5, am1⟩, ⟨y_6, ra1⟩, ⟨y_10, ks1⟩, ⟨y_11, kn1⟩, -, -, -, -, ⟨m1, m2, m3, m4, m5, m6, m7, m8, m9, m10, m11⟩⟩ := id hM
  have Y1 := CL_Y hL
  have Y2 := CL_Y2 hL
  have U1 := CL_U hL
  have su1 := U1.1
  have hMB := ML_MB hM
  obtain ⟨f, e, hT⟩ := h1.1
  have hPE := MD_PE h5
  have hW' : WT (tq I td) m := WT_c hPE hP.2.2.1
  have hTD := ML_TD hM h5 hm
  have hAK : I y 9 ≠ 0 → AK S R I y am qn ob := fun q => ML_AK hM h5 hP q
  refine ⟨_, c_X6_amount l x1 x_3 su1 (post := fun r ν => r = _ ∧ ν = (I, J, R)) (c_X4_amountPart l Y1 U1 h3.2.1 hm), fun r ν hp => ⟨I, J, R, hp.2, _, c_X7_amount l hMB hTD hW', fun r' ν' hq => ?_⟩⟩
  obtain ⟨I', J', e1, hF, e2⟩ := hq
  refine ⟨?_, I', J', R, e1, REL_fin hP hL hM h1 h2 h3 h4 (MD_FQ hM h5 hF)⟩
  rw [hp.1]
  exact e_amount hP h3 h4 h5 (lne m1 m3 (by decide)) e2
set_option maxHeartbeats 4000000 in
theorem b_strange (l : Launch) {E : zE} {S : zS} {I : Nat → Nat → Int32} {J : Nat → Nat → Int64} {R : Nat → Nat → Option Nat} {lab : Nat → Nat} {x y : Nat} (hR : REL lab S I J R x y) {w : Int32} : ∃ P : Int32 → zM → Prop, zIP l yX6_strange wsX6_strange rmX6_strange E S [.ref x, .int w] (I, J, R) P ∧ ∀ r ν, P r ν → ∃ I1 J1 R1, ν = (I1, J1, R1) ∧ ∃ Q : Int32 → zM → Prop, zIP l yX7_strange wsX7_strange rmX7_strange E S [.ref y, .int w] (I1, J1, R1) Q ∧ ∀ r' ν', Q r' ν' → r' = r ∧ ∃ I2 J2 R2, ν' = (I2, J2, R2) ∧ REL lab S I2 J2 R2 x y := by
  obtain ⟨c, d, t, b, rd, ch, sa, na, su, lo, fl, st, pa, ak, dr, pa2, ak2, rw, rw2, lw, rs, le, g, tp, td, rm, ra, am, ks, kn, ro, ba, be, tg, n, m, p, tt, aq, k, cs, cn, u, qn, ob, hP, hL, hM, h1, h2, h3, h4, h5⟩ := hR
  have hm : m ≤ 10 := hP.2.2.1.1
  obtain ⟨⟨x1, x_0, x_1, x_2, x_3, x_4, x_5⟩, ⟨t1, t2, b1⟩, ⟨rd1, rd2⟩, ⟨ch1, ch2, ch3, sa1, na1, sana⟩, -⟩ := id hL
  obtain ⟨y1, ⟨y_1, tp1⟩, ⟨y_3, td1⟩, ⟨y_4, rm1⟩, ⟨y_5, am1⟩, ⟨y_6, ra1⟩, ⟨y_10, ks1⟩, ⟨y_11, kn1⟩, -, -, -, -, ⟨m1, m2, m3, m4, m5, m6, m7, m8, m9, m10, m11⟩⟩ := id hM
  have Y1 := CL_Y hL
  have Y2 := CL_Y2 hL
  have U1 := CL_U hL
  have su1 := U1.1
  have hMB := ML_MB hM
  obtain ⟨f, e, hT⟩ := h1.1
  have hPE := MD_PE h5
  have hW' : WT (tq I td) m := WT_c hPE hP.2.2.1
  have hTD := ML_TD hM h5 hm
  have hAK : I y 9 ≠ 0 → AK S R I y am qn ob := fun q => ML_AK hM h5 hP q
  obtain ⟨n1, n2, n3⟩ := ns_st hP h3
  refine ⟨_, c_X6_strange l x1 x_3 su1 (post := fun r ν => r = _ ∧ ν = (I, J, R)) (c_X4_strangePart l Y1 U1 h3.2.1 hm n1 n2), fun r ν hp => ⟨I, J, R, hp.2, _, c_X7_strange l hMB hTD hW', fun r' ν' hq => ?_⟩⟩
  obtain ⟨I', J', e1, hF, e2⟩ := hq
  refine ⟨?_, I', J', R, e1, REL_fin hP hL hM h1 h2 h3 h4 (MD_FQ hM h5 hF)⟩
  rw [hp.1, e2]
  exact e_strange hP h3 h4 h5
set_option maxHeartbeats 4000000 in
theorem b_count (l : Launch) {E : zE} {S : zS} {I : Nat → Nat → Int32} {J : Nat → Nat → Int64} {R : Nat → Nat → Option Nat} {lab : Nat → Nat} {x y : Nat} (hR : REL lab S I J R x y) {w : Int32} : ∃ P : Int32 → zM → Prop, zIP l yX6_count wsX6_count rmX6_count E S [.ref x, .int w] (I, J, R) P ∧ ∀ r ν, P r ν → ∃ I1 J1 R1, ν = (I1, J1, R1) ∧ ∃ Q : Int32 → zM → Prop, zIP l yX7_count wsX7_count rmX7_count E S [.ref y, .int w] (I1, J1, R1) Q ∧ ∀ r' ν', Q r' ν' → r' = r ∧ ∃ I2 J2 R2, ν' = (I2, J2, R2) ∧ REL lab S I2 J2 R2 x y := by
  obtain ⟨c, d, t, b, rd, ch, sa, na, su, lo, fl, st, pa, ak, dr, pa2, ak2, rw, rw2, lw, rs, le, g, tp, td, rm, ra, am, ks, kn, ro, ba, be, tg, n, m, p, tt, aq, k, cs, cn, u, qn, ob, hP, hL, hM, h1, h2, h3, h4, h5⟩ := hR
  have hm : m ≤ 10 := hP.2.2.1.1
  obtain ⟨⟨x1, x_0, x_1, x_2, x_3, x_4, x_5⟩, ⟨t1, t2, b1⟩, ⟨rd1, rd2⟩, ⟨ch1, ch2, ch3, sa1, na1, sana⟩, -⟩ := id hL
  obtain ⟨y1, ⟨y_1, tp1⟩, ⟨y_3, td1⟩, ⟨y_4, rm1⟩, ⟨y_5, am1⟩, ⟨y_6, ra1⟩, ⟨y_10, ks1⟩, ⟨y_11, kn1⟩, -, -, -, -, ⟨m1, m2, m3, m4, m5, m6, m7, m8, m9, m10, m11⟩⟩ := id hM
  have Y1 := CL_Y hL
  have Y2 := CL_Y2 hL
  have U1 := CL_U hL
  have su1 := U1.1
  have hMB := ML_MB hM
  obtain ⟨f, e, hT⟩ := h1.1
  have hPE := MD_PE h5
  have hW' : WT (tq I td) m := WT_c hPE hP.2.2.1
  have hTD := ML_TD hM h5 hm
  have hAK : I y 9 ≠ 0 → AK S R I y am qn ob := fun q => ML_AK hM h5 hP q
  refine ⟨fun r ν => r = _ ∧ ν = (I, J, R), c_X6_count l x1 x_0 x_2 x_3 x_4 t1 ch1 su1 Y1.1 (c_X4_settledAtFirst l U1), fun r ν hp => ⟨I, J, R, hp.2, _, c_X7_count l hMB hTD hW', fun r' ν' hq => ?_⟩⟩
  obtain ⟨I', J', e1, hF, e2⟩ := hq
  refine ⟨?_, I', J', R, e1, REL_fin hP hL hM h1 h2 h3 h4 (MD_FQ hM h5 hF)⟩
  rw [hp.1, e2]
  exact e_count hP h1 h2 h3 h4 h5
set_option maxHeartbeats 4000000 in
theorem b_idle (l : Launch) {E : zE} {S : zS} {I : Nat → Nat → Int32} {J : Nat → Nat → Int64} {R : Nat → Nat → Option Nat} {lab : Nat → Nat} {x y : Nat} (hR : REL lab S I J R x y)  : ∃ P : Int32 → zM → Prop, zIP l yX6_idle wsX6_idle rmX6_idle E S [.ref x] (I, J, R) P ∧ ∀ r ν, P r ν → ∃ I1 J1 R1, ν = (I1, J1, R1) ∧ ∃ Q : Int32 → zM → Prop, zIP l yX7_idle wsX7_idle rmX7_idle E S [.ref y] (I1, J1, R1) Q ∧ ∀ r' ν', Q r' ν' → r' = r ∧ ∃ I2 J2 R2, ν' = (I2, J2, R2) ∧ REL lab S I2 J2 R2 x y := by
  obtain ⟨c, d, t, b, rd, ch, sa, na, su, lo, fl, st, pa, ak, dr, pa2, ak2, rw, rw2, lw, rs, le, g, tp, td, rm, ra, am, ks, kn, ro, ba, be, tg, n, m, p, tt, aq, k, cs, cn, u, qn, ob, hP, hL, hM, h1, h2, h3, h4, h5⟩ := hR
  have hm : m ≤ 10 := hP.2.2.1.1
  obtain ⟨⟨x1, x_0, x_1, x_2, x_3, x_4, x_5⟩, ⟨t1, t2, b1⟩, ⟨rd1, rd2⟩, ⟨ch1, ch2, ch3, sa1, na1, sana⟩, -⟩ := id hL
  obtain ⟨y1, ⟨y_1, tp1⟩, ⟨y_3, td1⟩, ⟨y_4, rm1⟩, ⟨y_5, am1⟩, ⟨y_6, ra1⟩, ⟨y_10, ks1⟩, ⟨y_11, kn1⟩, -, -, -, -, ⟨m1, m2, m3, m4, m5, m6, m7, m8, m9, m10, m11⟩⟩ := id hM
  have Y1 := CL_Y hL
  have Y2 := CL_Y2 hL
  have U1 := CL_U hL
  have su1 := U1.1
  have hMB := ML_MB hM
  obtain ⟨f, e, hT⟩ := h1.1
  refine ⟨_, c_X6_idle l x1 x_3 su1 (c_X4_idleFacts l Y1 U1 ⟨(CL_A hL).1, fun i => (CL_A hL).2 i 4 (by decide)⟩ (SS_CX hP h3 h4) (fun z => (h4.2.2 z).1)), fun r ν hp => ?_⟩
  obtain ⟨I', J', e1, e2, f1, f2, f3, f5⟩ := hp
  obtain ⟨k1, k2, k3, k4, k5⟩ := k_query hm hL h1 h2 h3 h4 f1 (fun w a _ => f2 w a) f3 (Or.inl (f2 13 (by decide))) (fun q a _ b => f5 q a b)
  have h5' := MD_FC hM k5 h5
  have hPE := MD_PE h5'
  have hW' : WT (tq I' td) m := WT_c hPE hP.2.2.1
  have hTD := ML_TD hM h5' hm
  have hAK : I' y 9 ≠ 0 → AK S R I' y am qn ob := fun q => ML_AK hM h5' hP q
  refine ⟨I', J', R, e1, _, c_X7_idle l hMB hTD hW' hAK, fun r' ν' hq => ?_⟩
  obtain ⟨I2, J2, e3, hF, e4⟩ := hq
  refine ⟨?_, I2, J2, R, e3, REL_fin hP hL hM k1 k2 k3 k4 (MD_FQ hM h5' hF)⟩
  rw [e4, e2]
  exact e_idle hP h3 h4 h5'
set_option maxHeartbeats 4000000 in
theorem b_enough (l : Launch) {E : zE} {S : zS} {I : Nat → Nat → Int32} {J : Nat → Nat → Int64} {R : Nat → Nat → Option Nat} {lab : Nat → Nat} {x y : Nat} (hR : REL lab S I J R x y)  : ∃ P : Int32 → zM → Prop, zIP l yX6_enough wsX6_enough rmX6_enough E S [.ref x] (I, J, R) P ∧ ∀ r ν, P r ν → ∃ I1 J1 R1, ν = (I1, J1, R1) ∧ ∃ Q : Int32 → zM → Prop, zIP l yX7_enough wsX7_enough rmX7_enough E S [.ref y] (I1, J1, R1) Q ∧ ∀ r' ν', Q r' ν' → r' = r ∧ ∃ I2 J2 R2, ν' = (I2, J2, R2) ∧ REL lab S I2 J2 R2 x y := by
  obtain ⟨c, d, t, b, rd, ch, sa, na, su, lo, fl, st, pa, ak, dr, pa2, ak2, rw, rw2, lw, rs, le, g, tp, td, rm, ra, am, ks, kn, ro, ba, be, tg, n, m, p, tt, aq, k, cs, cn, u, qn, ob, hP, hL, hM, h1, h2, h3, h4, h5⟩ := hR
  have hm : m ≤ 10 := hP.2.2.1.1
  obtain ⟨⟨x1, x_0, x_1, x_2, x_3, x_4, x_5⟩, ⟨t1, t2, b1⟩, ⟨rd1, rd2⟩, ⟨ch1, ch2, ch3, sa1, na1, sana⟩, -⟩ := id hL
  obtain ⟨y1, ⟨y_1, tp1⟩, ⟨y_3, td1⟩, ⟨y_4, rm1⟩, ⟨y_5, am1⟩, ⟨y_6, ra1⟩, ⟨y_10, ks1⟩, ⟨y_11, kn1⟩, -, -, -, -, ⟨m1, m2, m3, m4, m5, m6, m7, m8, m9, m10, m11⟩⟩ := id hM
  have Y1 := CL_Y hL
  have Y2 := CL_Y2 hL
  have U1 := CL_U hL
  have su1 := U1.1
  have hMB := ML_MB hM
  obtain ⟨f, e, hT⟩ := h1.1
  refine ⟨_, c_X6_enough l x1 x_3 su1 (c_X4_fewestFacts l Y1 U1 ⟨(CL_A hL).1, fun i => (CL_A hL).2 i 4 (by decide)⟩ (SS_CX hP h3 h4) (fun z => (h4.2.2 z).1) (fun z => (h4.2.2 z).2)), fun r ν hp => ?_⟩
  obtain ⟨I', J', e1, e2, f1, f2, f3, f4, f5⟩ := hp
  obtain ⟨k1, k2, k3, k4, k5⟩ := k_query hm hL h1 h2 h3 h4 f1 f2 f3 f4 (fun q a _ b => f5 q a b)
  have h5' := MD_FC hM k5 h5
  have hPE := MD_PE h5'
  have hW' : WT (tq I' td) m := WT_c hPE hP.2.2.1
  have hTD := ML_TD hM h5' hm
  have hAK : I' y 9 ≠ 0 → AK S R I' y am qn ob := fun q => ML_AK hM h5' hP q
  refine ⟨I', J', R, e1, _, c_X7_enough l hMB hTD hW' hAK, fun r' ν' hq => ?_⟩
  obtain ⟨I2, J2, e3, hF, e4⟩ := hq
  refine ⟨?_, I2, J2, R, e3, REL_fin hP hL hM k1 k2 k3 k4 (MD_FQ hM h5' hF)⟩
  rw [e4, e2]
  exact e_enough hP h3 h4 h5'
set_option maxHeartbeats 4000000 in
theorem b_lacking (l : Launch) {E : zE} {S : zS} {I : Nat → Nat → Int32} {J : Nat → Nat → Int64} {R : Nat → Nat → Option Nat} {lab : Nat → Nat} {x y : Nat} (hR : REL lab S I J R x y)  : ∃ P : Int32 → zM → Prop, zIP l yX6_lacking wsX6_lacking rmX6_lacking E S [.ref x] (I, J, R) P ∧ ∀ r ν, P r ν → ∃ I1 J1 R1, ν = (I1, J1, R1) ∧ ∃ Q : Int32 → zM → Prop, zIP l yX7_lacking wsX7_lacking rmX7_lacking E S [.ref y] (I1, J1, R1) Q ∧ ∀ r' ν', Q r' ν' → r' = r ∧ ∃ I2 J2 R2, ν' = (I2, J2, R2) ∧ REL lab S I2 J2 R2 x y := by
  obtain ⟨c, d, t, b, rd, ch, sa, na, su, lo, fl, st, pa, ak, dr, pa2, ak2, rw, rw2, lw, rs, le, g, tp, td, rm, ra, am, ks, kn, ro, ba, be, tg, n, m, p, tt, aq, k, cs, cn, u, qn, ob, hP, hL, hM, h1, h2, h3, h4, h5⟩ := hR
  have hm : m ≤ 10 := hP.2.2.1.1
  obtain ⟨⟨x1, x_0, x_1, x_2, x_3, x_4, x_5⟩, ⟨t1, t2, b1⟩, ⟨rd1, rd2⟩, ⟨ch1, ch2, ch3, sa1, na1, sana⟩, -⟩ := id hL
  obtain ⟨y1, ⟨y_1, tp1⟩, ⟨y_3, td1⟩, ⟨y_4, rm1⟩, ⟨y_5, am1⟩, ⟨y_6, ra1⟩, ⟨y_10, ks1⟩, ⟨y_11, kn1⟩, -, -, -, -, ⟨m1, m2, m3, m4, m5, m6, m7, m8, m9, m10, m11⟩⟩ := id hM
  have Y1 := CL_Y hL
  have Y2 := CL_Y2 hL
  have U1 := CL_U hL
  have su1 := U1.1
  have hMB := ML_MB hM
  obtain ⟨f, e, hT⟩ := h1.1
  have hPE := MD_PE h5
  have hW' : WT (tq I td) m := WT_c hPE hP.2.2.1
  have hTD := ML_TD hM h5 hm
  have hAK : I y 9 ≠ 0 → AK S R I y am qn ob := fun q => ML_AK hM h5 hP q
  refine ⟨_, c_X6_lacking l x1 x_3 su1 (c_X4_lackingName l Y1 U1 (SS_LX hP h3 h4)), fun r ν hp => ?_⟩
  obtain ⟨J', e1, e2, f5⟩ := hp
  obtain ⟨k1, k2, k3, k4, k5⟩ := k_query (I' := I) (J' := J') hm hL h1 h2 h3 h4 (fun _ _ _ => rfl) (fun _ _ _ => rfl) (Or.inl rfl) (Or.inl rfl) (fun q a b _ => f5 q a b)
  refine ⟨I, J', R, e1, _, c_X7_lacking l hMB hTD hW' hAK, fun r' ν' hq => ?_⟩
  obtain ⟨I2, J2, e3, hF, e4⟩ := hq
  refine ⟨?_, I2, J2, R, e3, REL_fin hP hL hM k1 k2 k3 k4 (MD_FQ hM h5 hF)⟩
  rw [e4, e2]
  exact e_lacking hP h3 h4 h5
set_option maxHeartbeats 4000000 in
theorem b_feed (l : Launch) {E : zE} {S : zS} {I : Nat → Nat → Int32} {J : Nat → Nat → Int64} {R : Nat → Nat → Option Nat} {lab : Nat → Nat} {x y : Nat} (hR : REL lab S I J R x y) {v0 v1 v2 v3 v4 : Int32} : ∃ P : Int32 → zM → Prop, zIP l yX6_feed wsX6_feed rmX6_feed E S [.ref x, .int v0, .int v1, .int v2, .int v3, .int v4] (I, J, R) P ∧ ∀ r ν, P r ν → ∃ I1 J1 R1, ν = (I1, J1, R1) ∧ ∃ Q : Int32 → zM → Prop, zIP l yX7_feed wsX7_feed rmX7_feed E S [.ref y, .int v0, .int v1, .int v2, .int v3, .int v4] (I1, J1, R1) Q ∧ ∀ r' ν', Q r' ν' → r' = r ∧ ∃ I2 J2 R2, ν' = (I2, J2, R2) ∧ REL lab S I2 J2 R2 x y := by
  obtain ⟨c, d, t, b, rd, ch, sa, na, su, lo, fl, st, pa, ak, dr, pa2, ak2, rw, rw2, lw, rs, le, g, tp, td, rm, ra, am, ks, kn, ro, ba, be, tg, n, m, p, tt, aq, k, cs, cn, u, qn, ob, hP, hL, hM, h1, h2, h3, h4, h5⟩ := hR
  have hm : m ≤ 10 := hP.2.2.1.1
  obtain ⟨⟨x1, x_0, x_1, x_2, x_3, x_4, x_5⟩, ⟨t1, t2, b1⟩, ⟨rd1, rd2⟩, ⟨ch1, ch2, ch3, sa1, na1, sana⟩, -⟩ := id hL
  obtain ⟨y1, ⟨y_1, tp1⟩, ⟨y_3, td1⟩, ⟨y_4, rm1⟩, ⟨y_5, am1⟩, ⟨y_6, ra1⟩, ⟨y_10, ks1⟩, ⟨y_11, kn1⟩, -, -, -, -, ⟨m1, m2, m3, m4, m5, m6, m7, m8, m9, m10, m11⟩⟩ := id hM
  have Y1 := CL_Y hL
  have Y2 := CL_Y2 hL
  have U1 := CL_U hL
  have su1 := U1.1
  have hMB := ML_MB hM
  obtain ⟨f, e, hT⟩ := h1.1
  refine ⟨_, c_X6_feed l x1 x_0 t1 t2 b1 hT.2.2.2.1 hP.2.1, fun r ν hp => ?_⟩
  have hn : I t 1 = nI n := hT.2.2.2.1
  have q4 := fbN_4
  have esum : (I t 1 + (fbC v0 + fbC v1 + fbC v2 + fbC v3 + fbC v4) ≤ 400) ↔ n + (fbN v0 + fbN v1 + fbN v2 + fbN v3 + fbN v4) ≤ 400 := by
    have a0 := q4 v0
    have a1 := q4 v1
    have a2 := q4 v2
    have a3 := q4 v3
    have a4 := q4 v4
    have hn4 := hP.2.1
    rw [hn, fbC_fbN, fbC_fbN, fbC_fbN, fbC_fbN, fbC_fbN, nI_add, nI_add, nI_add, nI_add, nI_add, show (400 : Int32) = nI 400 from rfl, nI_leI (by omega) (by decide)]
  rcases hp with ⟨q, e1, e2⟩ | ⟨q, e1, e2⟩
  · have q := esum.mp q
    have hTA : TBA (I b, n) (I tp, n) := ⟨rfl, fun j => by show I tp j = tB (I b j); rw [h1.2]; exact h5.2.1 j, fun j => by show BY (I b j); rw [h1.2]; exact hP.1 j⟩
    obtain ⟨hT2, hs⟩ := fd_ta hTA (v0 := v0) (v1 := v1) (v2 := v2) (v3 := v3) (v4 := v4) q
    have hs : (fd5 v0 v1 v2 v3 v4 (I b, n)).2 = n + (fbN v0 + fbN v1 + fbN v2 + fbN v3 + fbN v4) := hs
    generalize hsg : fd5 v0 v1 v2 v3 v4 (I b, n) = s at hT2 hs e1 e2
    obtain ⟨hP', h1', hfr⟩ := k_feed hP hL h1 (s := s) (by omega) (by omega) hT2.2.2
    obtain ⟨k2, k3, k4, k5⟩ := k_tape hm hL h2 h3 h4 hfr
    have h5' := MD_FC hM k5 h5
    have etp : fdI I t b s tp = I tp := k5 tp (by omega)
    refine ⟨fdI I t b s, J, R, e2, _, c_X7_feed l y1 y_1 tp1 h5'.1 hP.2.1, fun r' ν' hq => ?_⟩
    rcases hq with ⟨z, e3, e4⟩ | ⟨z, e3, e4⟩
    · rw [etp] at e3 e4
      generalize hsm : fdM5 v0 v1 v2 v3 v4 (I tp, n) = sm at hT2 e3 e4
      refine ⟨by rw [e3, e1, hT2.1], _, J, R, e4, REL_fin hP' hL hM h1' k2 k3 k4 (k_mtape hM h5' (fun a ha hb => ?_) (fun w h0 h2 => ?_) ?_ (fun j => ?_))⟩
      · unfold fdM; rw [zu_o ha, zr_a hb, zu_o ha]
      · unfold fdM; rw [zu_k h2, zr_ak (lne m1 m2 (by decide)), zu_k h0]
      · unfold fdM; rw [zu_s, hT2.1]
      · unfold fdM; rw [zu_a (lne m2 m1 (by decide)), zr_sk]; exact hT2.2.1 j
    · omega
  · have q : ¬ n + (fbN v0 + fbN v1 + fbN v2 + fbN v3 + fbN v4) ≤ 400 := fun z => q (esum.mpr z)
    refine ⟨I, J, R, e2, _, c_X7_feed l y1 y_1 tp1 h5.1 hP.2.1, fun r' ν' hq => ?_⟩
    rcases hq with ⟨z, e3, e4⟩ | ⟨z, e3, e4⟩
    · exact absurd z q
    · exact ⟨by rw [e3, e1], _, J, R, e4, REL_fin hP hL hM h1 h2 h3 h4 (MD_0 hM h5)⟩
set_option maxHeartbeats 4000000 in
theorem b_end (l : Launch) {E : zE} {S : zS} {I : Nat → Nat → Int32} {J : Nat → Nat → Int64} {R : Nat → Nat → Option Nat} {lab : Nat → Nat} {x y : Nat} (hR : REL lab S I J R x y) {w : Int32} : ∃ P : Int32 → zM → Prop, zIP l yX6_end wsX6_end rmX6_end E S [.ref x, .int w] (I, J, R) P ∧ ∀ r ν, P r ν → ∃ I1 J1 R1, ν = (I1, J1, R1) ∧ ∃ Q : Int32 → zM → Prop, zIP l yX7_end wsX7_end rmX7_end E S [.ref y, .int w] (I1, J1, R1) Q ∧ ∀ r' ν', Q r' ν' → r' = r ∧ ∃ I2 J2 R2, ν' = (I2, J2, R2) ∧ REL lab S I2 J2 R2 x y := by
  obtain ⟨c, d, t, b, rd, ch, sa, na, su, lo, fl, st, pa, ak, dr, pa2, ak2, rw, rw2, lw, rs, le, g, tp, td, rm, ra, am, ks, kn, ro, ba, be, tg, n, m, p, tt, aq, k, cs, cn, u, qn, ob, hP, hL, hM, h1, h2, h3, h4, h5⟩ := hR
  have hm : m ≤ 10 := hP.2.2.1.1
  obtain ⟨⟨x1, x_0, x_1, x_2, x_3, x_4, x_5⟩, ⟨t1, t2, b1⟩, ⟨rd1, rd2⟩, ⟨ch1, ch2, ch3, sa1, na1, sana⟩, -⟩ := id hL
  obtain ⟨y1, ⟨y_1, tp1⟩, ⟨y_3, td1⟩, ⟨y_4, rm1⟩, ⟨y_5, am1⟩, ⟨y_6, ra1⟩, ⟨y_10, ks1⟩, ⟨y_11, kn1⟩, -, -, -, -, ⟨m1, m2, m3, m4, m5, m6, m7, m8, m9, m10, m11⟩⟩ := id hM
  have Y1 := CL_Y hL
  have Y2 := CL_Y2 hL
  have U1 := CL_U hL
  have su1 := U1.1
  have hMB := ML_MB hM
  obtain ⟨f, e, hT⟩ := h1.1
  refine ⟨_, c_X6_end l x1 x_0 t1 (fun {r ν} q => by rcases q with ⟨z, _⟩ | ⟨z, _⟩ <;> simp [z]) (c_X5_cut l hT), fun r ν hp => ?_⟩
  have hbt : b ≠ t := hT.ne
  rcases hp with ⟨e1, q, e2⟩ | ⟨e1, q, eq, hq, I', e2, hT', hfr⟩
  · refine ⟨I, J, R, e2, fun r' ν' => r' = _ ∧ ν' = _, c_X7_end l y1, fun r' ν' hq => ?_⟩
    have hn : ¬ (0 ≤ w ∧ w ≤ I y 2) := fun z => by
      rw [h5.1] at z
      rcases q with q | q
      · rw [i32l.1] at q; have := i32l.2.1.mp z.1; omega
      · exact q z.2
    obtain ⟨e3, e4⟩ := hq
    rw [if_neg hn] at e4
    rw [decide_eq_false hn] at e3
    exact ⟨by rw [e3, e1]; rfl, _, J, R, e4, REL_fin hP hL hM h1 h2 h3 h4 (MD_0 hM h5)⟩
  · have hf : ∀ a, a ≠ t → a ≠ b → I' a = I a := fun a ha _ => hfr a (fun z => ha (List.mem_singleton.mp z))
    obtain ⟨k2, k3, k4, k5⟩ := k_tape hm hL h2 h3 h4 hf
    have h5' := MD_FC hM k5 h5
    have h1' : TY S R I' t b q tg := ⟨⟨_, _, hT'⟩, (hfr b (fun z => hbt (List.mem_singleton.mp z))).trans h1.2⟩
    have hn4 := hP.2.1
    have hP' : PU tg q m p tt aq k cs cn u qn ob := ⟨hP.1, by omega, hP.2.2⟩
    refine ⟨I', J, R, e2, fun r' ν' => r' = _ ∧ ν' = _, c_X7_end l y1, fun r' ν' hq2 => ?_⟩
    have hy : 0 ≤ w ∧ w ≤ I' y 2 := by
      rw [eq, h5'.1]
      exact ⟨nI_pos' (by omega), nI_le hq (by omega)⟩
    obtain ⟨e3, e4⟩ := hq2
    rw [if_pos hy] at e4
    rw [decide_eq_true hy] at e3
    refine ⟨by rw [e3, e1]; rfl, _, J, R, e4, REL_fin hP' hL hM h1' k2 k3 k4 (k_mtape hM h5' (fun a ha hb => ?_) (fun w h0 h2 => ?_) ?_ (fun j => ?_))⟩
    · rw [zu_o ha, zu_o ha]
    · rw [zu_k h2, zu_k h0]
    · rw [zu_s, eq]
    · rw [zu_a (lne m2 m1 (by decide)), zu_a (lne m2 m1 (by decide))]; exact h5'.2.1 j
set_option maxHeartbeats 4000000 in
theorem b_fault (l : Launch) {E : zE} {S : zS} {I : Nat → Nat → Int32} {J : Nat → Nat → Int64} {R : Nat → Nat → Option Nat} {lab : Nat → Nat} {x y : Nat} (hR : REL lab S I J R x y)  : ∃ P : Int32 → zM → Prop, zIP l yX6_fault wsX6_fault rmX6_fault E S [.ref x] (I, J, R) P ∧ ∀ r ν, P r ν → ∃ I1 J1 R1, ν = (I1, J1, R1) ∧ ∃ Q : Int32 → zM → Prop, zIR l yX7_fault wsX7_fault rmF7 E S [.ref y] (I1, J1, R1) Q 10 70 ∧ ∀ r' ν', Q r' ν' → r' = r ∧ ∃ I2 J2 R2, ν' = (I2, J2, R2) ∧ REL lab S I2 J2 R2 x y := by
  obtain ⟨c, d, t, b, rd, ch, sa, na, su, lo, fl, st, pa, ak, dr, pa2, ak2, rw, rw2, lw, rs, le, g, tp, td, rm, ra, am, ks, kn, ro, ba, be, tg, n, m, p, tt, aq, k, cs, cn, u, qn, ob, hP, hL, hM, h1, h2, h3, h4, h5⟩ := hR
  have hm : m ≤ 10 := hP.2.2.1.1
  obtain ⟨⟨x1, x_0, x_1, x_2, x_3, x_4, x_5⟩, ⟨t1, t2, b1⟩, ⟨rd1, rd2⟩, ⟨ch1, ch2, ch3, sa1, na1, sana⟩, -⟩ := id hL
  obtain ⟨y1, ⟨y_1, tp1⟩, ⟨y_3, td1⟩, ⟨y_4, rm1⟩, ⟨y_5, am1⟩, ⟨y_6, ra1⟩, ⟨y_10, ks1⟩, ⟨y_11, kn1⟩, -, -, -, -, ⟨m1, m2, m3, m4, m5, m6, m7, m8, m9, m10, m11⟩⟩ := id hM
  have Y1 := CL_Y hL
  have Y2 := CL_Y2 hL
  have U1 := CL_U hL
  have su1 := U1.1
  have hMB := ML_MB hM
  obtain ⟨f, e, hT⟩ := h1.1
  refine ⟨_, c_X6_fault l x1 x_1 rd1 x_5 (c_X2_read l rd1 rd2 t1 t2 b1 hT.2.2.2.1 hP.2.1 Y2), fun r ν hp => ?_⟩
  obtain ⟨I', e1, hT', hb, hfs, hmt⟩ := hp
  rw [h1.2] at hmt hb
  obtain ⟨k2, k3, k4, k5⟩ := k_read hm hL h2 h3 h4 hfs
  have h5' := MD_FC hM k5 h5
  refine ⟨I', J, R, e1, _, c_X7_fault l y1 y_1 tp1 h5'.1 hP.2.1 y_4 rm1 y_6 ra1 (lne m4 m6 (by decide)), fun r' ν' hq => ?_⟩
  obtain ⟨I2, e3, -, f3, f1, f2, hmt2⟩ := hq
  refine ⟨?_, I2, J, R, e3, REL_fin hP hL hM ⟨hT', hb⟩ k2 k3 k4 (k_mread hM h5' f1 f2 f3)⟩
  rw [show zu I' y 0 0 tp = I' tp from zu_o (lne m2 m1 (by decide)), tp_prs hP h5'] at hmt2
  rcases hq : prs0 tg n with z | ⟨k0, p0, v⟩
  · rw [hq] at hmt hmt2
    rw [hmt.1, hmt2.1]
  · rw [hq] at hmt hmt2
    rw [hmt.1, hmt2.1]
set_option maxHeartbeats 4000000 in
theorem b_put (l : Launch) {E : zE} {S : zS} {I : Nat → Nat → Int32} {J : Nat → Nat → Int64} {R : Nat → Nat → Option Nat} {lab : Nat → Nat} {x y : Nat} (hR : REL lab S I J R x y) {s v : Int32} : ∃ P : Int32 → zM → Prop, zIP l yX6_put wsX6_put rmX6_put E S [.ref x, .int s, .int v] (I, J, R) P ∧ ∀ r ν, P r ν → ∃ I1 J1 R1, ν = (I1, J1, R1) ∧ ∃ Q : Int32 → zM → Prop, zIP l yX7_put wsX7_put rmX7_put E S [.ref y, .int s, .int v] (I1, J1, R1) Q ∧ ∀ r' ν', Q r' ν' → r' = r ∧ ∃ I2 J2 R2, ν' = (I2, J2, R2) ∧ REL lab S I2 J2 R2 x y := by
  obtain ⟨c, d, t, b, rd, ch, sa, na, su, lo, fl, st, pa, ak, dr, pa2, ak2, rw, rw2, lw, rs, le, g, tp, td, rm, ra, am, ks, kn, ro, ba, be, tg, n, m, p, tt, aq, k, cs, cn, u, qn, ob, hP, hL, hM, h1, h2, h3, h4, h5⟩ := hR
  have hm : m ≤ 10 := hP.2.2.1.1
  obtain ⟨⟨x1, x_0, x_1, x_2, x_3, x_4, x_5⟩, ⟨t1, t2, b1⟩, ⟨rd1, rd2⟩, ⟨ch1, ch2, ch3, sa1, na1, sana⟩, -⟩ := id hL
  obtain ⟨y1, ⟨y_1, tp1⟩, ⟨y_3, td1⟩, ⟨y_4, rm1⟩, ⟨y_5, am1⟩, ⟨y_6, ra1⟩, ⟨y_10, ks1⟩, ⟨y_11, kn1⟩, -, -, -, -, ⟨m1, m2, m3, m4, m5, m6, m7, m8, m9, m10, m11⟩⟩ := id hM
  have Y1 := CL_Y hL
  have Y2 := CL_Y2 hL
  have U1 := CL_U hL
  have su1 := U1.1
  have hMB := ML_MB hM
  obtain ⟨f, e, hT⟩ := h1.1
  have hAL := AL_eq hP h3 h5 (s := s) (v := v)
  refine ⟨_, c_X6_put l Y1 x1 x_2 x_3 x_4 su1 (CL_CH hL h2 hP.2.2.2.2.1) h3.2.1 hm (s := s) (v := v) (post := fun ν => ∃ I' J' p' i0 vn, ν = (I', J', R) ∧ s = nI i0 ∧ v = nI vn ∧ i0 < m ∧ NW p p' m i0 vn ∧ PU tg n m p' tt aq (kN k) (csN k cs (nI i0)) (csN k cn (p i0 4)) u qn ob ∧ TY S R I' t b n tg ∧ CG I' ch sa na (kN k) (csN k cs (nI i0)) (csN k cn (p i0 4)) ∧ ST I' st ak rw m p' tt aq ∧ SS I' J' st su ak le g p' m u qn ob ∧ FC lab I I') (fun hal I1 hKP => ?_), fun r ν hp => ?_⟩
  · obtain ⟨i0, vn, rfl, hi, rfl, hv, h33⟩ := hAL.2 hal
    have ec : (nI i0).toNatClampNeg = i0 := nI_clamp (by omega)
    rw [ec, h3.1 i0 4] at hKP
    rw [ec]
    have hCG : CG I1 ch sa na (kN k) (csN k cs (nI i0)) (csN k cn (p i0 4)) := KP_N h2.2 hKP.2
    obtain ⟨p', hN, a1, a2, a3, a4⟩ := k_num (I' := I1) hP hL h1 h3 (fun a q1 q2 q3 => hKP.1 a (by simp [q1, q2, q3])) (vn := vn) hi hCG
    have hP' := PU_put hP hi hN hv h33
    refine zNP_mono (c_X4_solve l Y1 U1 (ST_CS hP' a3) (CL_A hL).1 (CL_A hL).2) (fun ν hν => ?_)
    obtain ⟨I', J', e1, f1, f2, f3, f4, f5, f6⟩ := hν
    obtain ⟨k1, k2, k3, k4, k5⟩ := k_solve hL a1 a2 a3 f1 f3 f4 f6
    exact ⟨I', J', p', i0, vn, e1, rfl, rfl, hi, hN, hP', k1, k2, k3, k4, fun a ha => (k5 a ha).trans (a4 a ha)⟩
  · rcases hp with ⟨q, e1, e2⟩ | ⟨q, e1, I', J', p', i0, vn, e2, es, ev_, hi, hN, hP', k1, k2, k3, k4, k5⟩
    · refine ⟨I, J, R, e2, _, c_X7_put l ⟨ML_TD hM h5 hm, y_10, y_11, ks1, kn1, lne m7 m8 (by decide), lne m7 m3 (by decide), lne m8 m3 (by decide), h5.2.2.2.2.2.1, hP.2.2.2.2.1⟩ (s := s) (v := v), fun r' ν' hq => ?_⟩
      rcases hq with ⟨z, e3, e4⟩ | ⟨z, -⟩
      · exact ⟨by rw [e3, e1], _, J, R, e4, REL_fin hP hL hM h1 h2 h3 h4 (MD_0 hM h5)⟩
      · have := hAL.1.mpr z
        rw [q] at this
        cases this
    · have h5' := MD_FC hM k5 h5
      refine ⟨I', J', R, e2, _, c_X7_put l ⟨ML_TD hM h5' hm, y_10, y_11, ks1, kn1, lne m7 m8 (by decide), lne m7 m3 (by decide), lne m8 m3 (by decide), h5'.2.2.2.2.2.1, hP.2.2.2.2.1⟩ (s := s) (v := v), fun r' ν' hq => ?_⟩
      rcases hq with ⟨z, e3, e4⟩ | ⟨z, e3, I2, e4, g1, g2, g3, g4, g5⟩
      · exact absurd ((AL_eq hP h3 h5' (s := s) (v := v)).1.mp q) z
      · subst es
        subst ev_
        have ec : (nI i0).toNatClampNeg = i0 := nI_clamp (by omega)
        rw [ec] at g2 g5
        have g5 := KP_N h5'.2.2.2.2.2.2.1 g5
        rw [show tdP I' td i0 4 = p i0 4 from h5'.2.2.2.1 i0 hi 4 (by omega)] at g5
        exact ⟨by rw [e3, e1], I2, J', R, e4, REL_fin hP' hL hM k1 k2 k3 k4 (k_mput hM h5' hi hN (fun a q1 q2 q3 q4 => g1 a (by simp [q1, q2, q3, q4])) g2 g3 g5)⟩
set_option maxHeartbeats 4000000 in
theorem b_undo (l : Launch) {E : zE} {S : zS} {I : Nat → Nat → Int32} {J : Nat → Nat → Int64} {R : Nat → Nat → Option Nat} {lab : Nat → Nat} {x y : Nat} (hR : REL lab S I J R x y)  : ∃ P : Int32 → zM → Prop, zIP l yX6_undo wsX6_undo rmX6_undo E S [.ref x] (I, J, R) P ∧ ∀ r ν, P r ν → ∃ I1 J1 R1, ν = (I1, J1, R1) ∧ ∃ Q : Int32 → zM → Prop, zIP l yX7_undo wsX7_undo rmX7_undo E S [.ref y] (I1, J1, R1) Q ∧ ∀ r' ν', Q r' ν' → r' = r ∧ ∃ I2 J2 R2, ν' = (I2, J2, R2) ∧ REL lab S I2 J2 R2 x y := by
  obtain ⟨c, d, t, b, rd, ch, sa, na, su, lo, fl, st, pa, ak, dr, pa2, ak2, rw, rw2, lw, rs, le, g, tp, td, rm, ra, am, ks, kn, ro, ba, be, tg, n, m, p, tt, aq, k, cs, cn, u, qn, ob, hP, hL, hM, h1, h2, h3, h4, h5⟩ := hR
  have hm : m ≤ 10 := hP.2.2.1.1
  obtain ⟨⟨x1, x_0, x_1, x_2, x_3, x_4, x_5⟩, ⟨t1, t2, b1⟩, ⟨rd1, rd2⟩, ⟨ch1, ch2, ch3, sa1, na1, sana⟩, -⟩ := id hL
  obtain ⟨y1, ⟨y_1, tp1⟩, ⟨y_3, td1⟩, ⟨y_4, rm1⟩, ⟨y_5, am1⟩, ⟨y_6, ra1⟩, ⟨y_10, ks1⟩, ⟨y_11, kn1⟩, -, -, -, -, ⟨m1, m2, m3, m4, m5, m6, m7, m8, m9, m10, m11⟩⟩ := id hM
  have Y1 := CL_Y hL
  have Y2 := CL_Y2 hL
  have U1 := CL_U hL
  have su1 := U1.1
  have hMB := ML_MB hM
  obtain ⟨f, e, hT⟩ := h1.1
  have hCH := CL_CH hL h2 hP.2.2.2.2.1
  by_cases hk : k = 0
  · refine ⟨_, c_X6_undo l Y1 x1 x_2 x_3 x_4 su1 hCH h3.2.1 hm (post := fun _ => True) (fun z => absurd z (by omega)), fun r ν hp => ?_⟩
    rcases hp with ⟨-, e1, e2⟩ | ⟨z, -⟩
    · refine ⟨I, J, R, e2, _, c_X7_undo l (i := 0) ⟨ML_TD hM h5 hm, y_10, y_11, ks1, kn1, lne m7 m8 (by decide), lne m7 m3 (by decide), lne m8 m3 (by decide), h5.2.2.2.2.2.1, hP.2.2.2.2.1⟩ (fun z => absurd z (by omega)), fun r' ν' hq => ?_⟩
      rcases hq with ⟨-, e3, e4⟩ | ⟨z, -⟩
      · exact ⟨by rw [e3, e1], _, J, R, e4, REL_fin hP hL hM h1 h2 h3 h4 (MD_0 hM h5)⟩
      · omega
    · omega
  · obtain ⟨i0, vn, ei, hi, ev_, hv, h33⟩ := hP.2.2.2.2.2.1 (k - 1) (by omega)
    have esa : I sa (k - 1) = nI i0 := (h2.2 (k - 1) (by omega)).1.trans ei
    have ena : I na (k - 1) = nI vn := (h2.2 (k - 1) (by omega)).2.trans ev_
    have ec : (nI i0).toNatClampNeg = i0 := nI_clamp (by omega)
    have hcond : 0 ≤ nI i0 ∧ nI i0 < nI m := ⟨nI_pos' (by omega), nI_lt hi (by omega)⟩
    have hCG : CG (zu I ch 2 (nI (k - 1))) ch sa na (k - 1) cs cn := ⟨zu_s, fun j hj => by
      rw [zu_a (knd sa1.2.1 ch1.2 (by decide)), zu_a (knd na1.2.1 ch1.2 (by decide))]
      exact h2.2 j (by omega)⟩
    obtain ⟨p', hN, a1, a2, a3, a4⟩ := k_num (I' := zu I ch 2 (nI (k - 1))) hP hL h1 h3 (fun a _ _ q3 => zu_o q3) (vn := vn) hi hCG
    have hP' := PU_undo hP hN hv h33
    have emem : zu (zu I (rw i0) 4 (nI vn)) ch 2 (nI (k - 1)) = zu (zu I ch 2 (nI (k - 1))) (rw i0) 4 (nI vn) := zu_cm (by decide)
    refine ⟨_, c_X6_undo l Y1 x1 x_2 x_3 x_4 su1 hCH h3.2.1 hm (post := fun ν => ∃ I' J', ν = (I', J', R) ∧ TY S R I' t b n tg ∧ CG I' ch sa na (k - 1) cs cn ∧ ST I' st ak rw m p' tt aq ∧ SS I' J' st su ak le g p' m u qn ob ∧ FC lab I I') (fun _ => ?_), fun r ν hp => ?_⟩
    · rw [esa, ena, if_pos hcond, ec, emem]
      refine zNP_mono (c_X4_solve l Y1 U1 (ST_CS hP' a3) (CL_A hL).1 (CL_A hL).2) (fun ν hν => ?_)
      obtain ⟨I', J', e1, f1, f2, f3, f4, f5, f6⟩ := hν
      obtain ⟨k1, k2, k3, k4, k5⟩ := k_solve hL a1 a2 a3 f1 f3 f4 f6
      exact ⟨I', J', e1, k1, k2, k3, k4, fun a ha => (k5 a ha).trans (a4 a ha)⟩
    · rcases hp with ⟨z, -⟩ | ⟨-, e1, I', J', e2, k1, k2, k3, k4, k5⟩
      · exact absurd z hk
      · have h5' := MD_FC hM k5 h5
        have eks : I' ks (k - 1) = nI i0 ∧ I' kn (k - 1) = nI vn := ⟨(h5'.2.2.2.2.2.2.1 (k - 1) (by omega)).1.trans ei, (h5'.2.2.2.2.2.2.1 (k - 1) (by omega)).2.trans ev_⟩
        refine ⟨I', J', R, e2, _, c_X7_undo l (i := i0) ⟨ML_TD hM h5' hm, y_10, y_11, ks1, kn1, lne m7 m8 (by decide), lne m7 m3 (by decide), lne m8 m3 (by decide), h5'.2.2.2.2.2.1, hP.2.2.2.2.1⟩ (fun _ => ⟨eks.1, by omega⟩), fun r' ν' hq => ?_⟩
        rcases hq with ⟨z, -⟩ | ⟨-, e3, e4⟩
        · exact absurd z hk
        · rw [eks.2] at e4
          refine ⟨by rw [e3, e1, esa], _, J', R, e4, REL_fin hP' hL hM k1 k2 k3 k4 (k_mput hM h5' hi hN (fun a q1 q2 q3 q4 => ?_) ?_ (fun j q0 q12 => ?_) ⟨?_, fun j hj => ?_⟩)⟩
          · rw [zu_o q4, zu_o q1, zu_o q1]
          · rw [zu_row]
            funext j
            show (if j = 7 * i0 + 4 then nI vn else zu (zu I' y 0 0) y 12 (nI (k - 1)) td j) = _
            rw [zu_a (lne m3 m1 (by decide)), zu_a (lne m3 m1 (by decide))]
          · rw [zu_a (lne m1 m3 (by decide)), zu_k q12, zu_k q0]
          · rw [zu_a (lne m1 m3 (by decide))]; exact zu_s
          · rw [zu_a (lne m7 m3 (by decide)), zu_a (lne m7 m1 (by decide)), zu_a (lne m7 m1 (by decide)), zu_a (lne m8 m3 (by decide)), zu_a (lne m8 m1 (by decide)), zu_a (lne m8 m1 (by decide))]
            exact h5'.2.2.2.2.2.2.1 j (by omega)
set_option maxHeartbeats 4000000 in
theorem b_tale (l : Launch) {E : zE} {S : zS} {I : Nat → Nat → Int32} {J : Nat → Nat → Int64} {R : Nat → Nat → Option Nat} {lab : Nat → Nat} {x y : Nat} (hR : REL lab S I J R x y)  : ∃ P : Int32 → zM → Prop, zIP l yX6_tale wsX6_tale rmX6_tale E S [.ref x] (I, J, R) P ∧ ∀ r ν, P r ν → ∃ I1 J1 R1, ν = (I1, J1, R1) ∧ ∃ Q : Int32 → zM → Prop, zIR l yX7_tale wsX7_tale rmF7 E S [.ref y] (I1, J1, R1) Q 10 70 ∧ ∀ r' ν', Q r' ν' → r' = r ∧ ∃ I2 J2 R2, ν' = (I2, J2, R2) ∧ REL lab S I2 J2 R2 x y := by
  obtain ⟨c, d, t, b, rd, ch, sa, na, su, lo, fl, st, pa, ak, dr, pa2, ak2, rw, rw2, lw, rs, le, g, tp, td, rm, ra, am, ks, kn, ro, ba, be, tg, n, m, p, tt, aq, k, cs, cn, u, qn, ob, hP, hL, hM, h1, h2, h3, h4, h5⟩ := hR
  have hm : m ≤ 10 := hP.2.2.1.1
  obtain ⟨⟨x1, x_0, x_1, x_2, x_3, x_4, x_5⟩, ⟨t1, t2, b1⟩, ⟨rd1, rd2⟩, ⟨ch1, ch2, ch3, sa1, na1, sana⟩, -⟩ := id hL
  obtain ⟨y1, ⟨y_1, tp1⟩, ⟨y_3, td1⟩, ⟨y_4, rm1⟩, ⟨y_5, am1⟩, ⟨y_6, ra1⟩, ⟨y_10, ks1⟩, ⟨y_11, kn1⟩, -, -, -, -, ⟨m1, m2, m3, m4, m5, m6, m7, m8, m9, m10, m11⟩⟩ := id hM
  have Y1 := CL_Y hL
  have Y2 := CL_Y2 hL
  have U1 := CL_U hL
  have su1 := U1.1
  have hMB := ML_MB hM
  obtain ⟨f, e, hT⟩ := h1.1
  have hRd := c_X2_read l (E := E) (J := J) rd1 rd2 t1 t2 b1 hT.2.2.2.1 hP.2.1 Y2
  have hL' : CL lab d c S (Rsw R x su st dr) x t b rd ch sa na su lo fl dr pa2 ak2 st pa ak rw2 rw lw rs le g := CL_sw hL rfl
  have hM' : ML lab S (Rsw R x su st dr) y tp td rm ra am ks kn ro ba be := ML_R hM (Rsw_o (knd y1.2 x1.2 (by decide)) (knd y1.2 su1.2 (by decide)))
  refine ⟨_, c_X6_tale l x1 x_0 x_1 x_2 x_3 x_4 x_5 t1 rd1 ch1 su1 Y2.1 hRd (fun {r ν} q => by obtain ⟨I1, e1, ⟨f1, e2, hTT⟩, -⟩ := q; exact ⟨I1, f1, e2, e1, hTT⟩) (post := fun ν => ∃ I' J' k0 p0 v p' aq' u' qn' ob', ν = (I', J', Rsw R x su st dr) ∧ prs0 tg n = .inr (k0, p0, v) ∧ RDS k0 p0 p' v aq' ∧ PU tg 0 k0 p' 1 aq' 0 cs cn u' qn' ob' ∧ TY S (Rsw R x su st dr) I' t b 0 tg ∧ CG I' ch sa na 0 cs cn ∧ ST I' dr ak2 rw2 k0 p' 1 aq' ∧ SS I' J' dr su ak2 le g p' k0 u' qn' ob' ∧ FC lab I I') (fun I1 I2 f2 e2 hr hTT hfr => ?_), fun r ν hp => ?_⟩
  · obtain ⟨k0, p0, v, p', aq', u', qn', ob', g1, g2, hP', a1, a2, a3, a4⟩ := k_told hP hL h1 hr hTT hfr rfl
    refine zNP_mono (c_X4_solve l (CL_Y hL') (CL_U hL') (ST_CS hP' a3) (CL_A hL').1 (CL_A hL').2) (fun ν hν => ?_)
    obtain ⟨I', J', e1, f1, f2, f3, f4, f5, f6⟩ := hν
    obtain ⟨k1, k2, k3, k4, k5⟩ := k_solve hL' a1 a2 a3 f1 f3 f4 f6
    exact ⟨I', J', k0, p0, v, p', aq', u', qn', ob', e1, g1, g2, hP', k1, k2, k3, k4, fun a ha => (k5 a ha).trans (a4 a ha)⟩
  · rcases hp with ⟨r1, hr1, ⟨I', e1, hT', hb, hfs, hmt⟩, e2⟩ | ⟨e1, I', J', k0, p0, v, p', aq', u', qn', ob', e2, g1, g2, hP', k1, k2, k3, k4, k5⟩
    · rw [h1.2] at hmt hb
      obtain ⟨k2, k3, k4, k5⟩ := k_read hm hL h2 h3 h4 hfs
      have h5' := MD_FC hM k5 h5
      refine ⟨I', J, R, e1, _, c_X7_tale l y1 y_1 tp1 h5'.1 hP.2.1 y_4 rm1 y_6 ra1 (lne m4 m6 (by decide)) y_3 td1 y_5 am1 (lne m3 m4 (by decide)) (lne m3 m6 (by decide)) (lne m5 m4 (by decide)) (lne m5 m6 (by decide)) (lne m5 m3 (by decide)), fun r' ν' hq => ?_⟩
      rcases hq with ⟨r2, hr2, ⟨I2, e3, -, f3, f1, f2, hmt2⟩, e4⟩ | ⟨e3, k0, p0, v, I2, g1, -⟩
      · exact ⟨by rw [e4, e2], I2, J, R, e3, REL_fin hP hL hM ⟨hT', hb⟩ k2 k3 k4 (k_mread hM h5' f1 f2 f3)⟩
      · rw [tp_prs hP h5'] at g1
        rw [g1] at hmt
        exact absurd hmt.1 hr1
    · have h5' := MD_FC hM k5 h5
      have yR : ∀ j, Rsw R x su st dr y j = R y j := fun j => by rw [Rsw_o (knd y1.2 x1.2 (by decide)) (knd y1.2 su1.2 (by decide))]
      refine ⟨I', J', _, e2, _, c_X7_tale l y1 ((yR 1).trans y_1) tp1 h5'.1 hP.2.1 ((yR 4).trans y_4) rm1 ((yR 6).trans y_6) ra1 (lne m4 m6 (by decide)) ((yR 3).trans y_3) td1 ((yR 5).trans y_5) am1 (lne m3 m4 (by decide)) (lne m3 m6 (by decide)) (lne m5 m4 (by decide)) (lne m5 m6 (by decide)) (lne m5 m3 (by decide)), fun r' ν' hq => ?_⟩
      rcases hq with ⟨r2, hr2, ⟨I2, e3, -, f3, f1, f2, hmt2⟩, e4⟩ | ⟨e3, k1', p1, v1, I2, g3, e4, -, q1, q2, q3, q4, q5, q6, q7, q8, q9, q10, -, q11⟩
      · rw [show zu I' y 0 0 tp = I' tp from zu_o (lne m2 m1 (by decide)), tp_prs hP h5', g1] at hmt2
        exact absurd hmt2.1 hr2
      · rw [tp_prs hP h5', g1] at g3
        cases g3
        exact ⟨by rw [e3, e1], I2, J', _, e4, REL_fin hP' hL' hM' k1 k2 k3 k4 (k_mtold hM' h5' g2 q1 q2 ⟨q3, q4, q5, q6, q7⟩ ⟨q8, q9, q10⟩ q11)⟩
