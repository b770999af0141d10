/-! A TALE IS TOLD on both sides: the class swaps its stories -/
theorem SU_8 {S : zS} {R : Nat → Nat → Option Nat} {su st lo fl dr : Nat} {lw rs le g : Nat → Nat} (h : SU S R su st lo fl lw rs le g) : SU S (zu R su 8 (some dr)) su dr lo fl lw rs le g := by
  obtain ⟨u1, u2, u3, u4, u5, u6, u7, u8, u9, u10, u11, u12, u13, u14, u15, u16, u17, u18, u19, u20⟩ := h
  have e2 : zu R su 8 (some dr) lo = R lo := zu_o (kn u11.2.1 u1.2 (by decide))
  have e3 : zu R su 8 (some dr) fl = R fl := zu_o (kn u14.2.1 u1.2 (by decide))
  have k : ∀ j, j ≠ 8 → zu R su 8 (some dr) su j = R su j := fun j hj => zu_k hj
  refine ⟨u1, (k 0 (by decide)).trans u2, (k 1 (by decide)).trans u3, (k 2 (by decide)).trans u4, (k 3 (by decide)).trans u5, (k 4 (by decide)).trans u6, (k 5 (by decide)).trans u7, (k 6 (by decide)).trans u8, (k 7 (by decide)).trans u9, zu_s, u11, fun u hu => ?_, fun u hu => ?_, u14, fun i hi => ?_, u16, u17, u18, u19, u20⟩
  · rw [e2]; exact u12 u hu
  · have L := u13 u hu
    exact L.mv zSub.refl (zu_o (kn L.1.2 u1.2 (by decide))) (zu_o (kn L.2.2.2.1.2.1 u1.2 (by decide)))
  · rw [e3]; exact u15 i hi
/-- the references once the stories are swapped -/
def Rsw (R : Nat → Nat → Option Nat) (x su st dr : Nat) : Nat → Nat → Option Nat := zu (zu (zu R x 4 (some dr)) x 5 (some st)) su 8 (some dr)
section TOLD
variable {lab : Nat → Nat} {c d : Nat} {S : zS} {I I' : Nat → Nat → Int32} {J J' : Nat → Nat → Int64} {R R' : Nat → Nat → Option Nat} {x t b rd ch sa na su lo fl st pa ak dr pa2 ak2 : Nat} {rw rw2 lw rs le g : Nat → Nat} {y tp td rm ra am ks kn ro ba be : Nat}
variable {tg aq cs cn : Nat → Int32} {n m k u qn : Nat} {p : Nat → Nat → Int32} {tt : Int32} {ob : Option Nat}
theorem Rsw_o {a : Nat} (h1 : a ≠ x) (h2 : a ≠ su) : Rsw R x su st dr a = R a := by
  unfold Rsw
  rw [zu_o h2, zu_o h1, zu_o h1]
theorem CL_sw (hL : CL lab c d S R x t b rd ch sa na su lo fl st pa ak dr pa2 ak2 rw rw2 lw rs le g) (hR : R' = Rsw R x su st dr) : CL lab d c S R' x t b rd ch sa na su lo fl dr pa2 ak2 st pa ak rw2 rw lw rs le g := by
  obtain ⟨⟨x1, x2, x3, x4, x5, x6, x7⟩, ⟨t1, t2, t3⟩, ⟨r1, r2⟩, ⟨c1, c2, c3, c4, c5, c6⟩, Y1, Y2, U, l1, l2, l3, l4, l5, hcd, e1, e2⟩ := hL
  have hxs : x ≠ su := kn x1.2 U.1.2 (by decide)
  have o : ∀ a i, S.2.1 a = i → i ≠ 6 → i ≠ 4 → R' a = R a := fun a i ha h6 h4 => by
    rw [hR]; exact Rsw_o (kn ha x1.2 h6) (kn ha U.1.2 h4)
  have ex : ∀ j, j ≠ 4 → j ≠ 5 → R' x j = R x j := fun j h4 h5 => by
    rw [hR]; unfold Rsw; rw [zu_o hxs, zu_k h5, zu_k h4]
  refine ⟨⟨x1, (ex 0 (by decide) (by decide)).trans x2, (ex 1 (by decide) (by decide)).trans x3, (ex 2 (by decide) (by decide)).trans x4, (ex 3 (by decide) (by decide)).trans x5, ?_, ?_⟩, ⟨t1, by rw [o t 5 t1.2 (by decide) (by decide)]; exact t2, t3⟩, ⟨r1, by rw [o rd 2 r1.2 (by decide) (by decide)]; exact r2⟩, ⟨c1, by rw [o ch 0 c1.2 (by decide) (by decide)]; exact c2, by rw [o ch 0 c1.2 (by decide) (by decide)]; exact c3, c4, c5, c6⟩, Y2.mv zSub.refl (o dr 3 Y2.1.2 (by decide) (by decide)) (o pa2 13 Y2.2.2.2.1.2.1 (by decide) (by decide)), Y1.mv zSub.refl (o st 3 Y1.1.2 (by decide) (by decide)) (o pa 13 Y1.2.2.2.1.2.1 (by decide) (by decide)), ?_, l1, l3, l2, l4, l5, by omega, e2, e1⟩
  · rw [hR]; unfold Rsw; rw [zu_o hxs, zu_k (by decide)]; exact zu_s
  · rw [hR]; unfold Rsw; rw [zu_o hxs]; exact zu_s
  · rw [hR]
    exact SU_8 (U.mv (R' := zu (zu R x 4 (some dr)) x 5 (some st)) zSub.refl (fun b _ h6 => by
      have hbx : b ≠ x := fun q => h6 (q ▸ x1.2)
      rw [zu_o hbx, zu_o hbx]))
theorem ML_R (hL : ML lab S R y tp td rm ra am ks kn ro ba be) (e : R' y = R y) : ML lab S R' y tp td rm ra am ks kn ro ba be := by
  unfold ML at hL ⊢
  rw [e]; exact hL
/-- what the parser read, as both sides hold it -/
def RDS (k : Nat) (p p' : Nat → Nat → Int32) (v : zR) (aq : Nat → Int32) : Prop := (∀ i, i < k → ∀ w, w < 7 → p' i w = p i w) ∧ aq 0 = v.1 ∧ aq 1 = v.2.1 ∧ aq 2 = v.2.2.1 ∧ aq 3 = v.2.2.2 ∧ aq 4 = (if v.1 = 2 then 0 else stF p k)
/-- the class's side once the draft is read, ahead of the sums -/
theorem k_told (hP : PU tg n m p tt aq k cs cn u qn ob) (hL : CL lab c d S R x t b rd ch sa na su lo fl st pa ak dr pa2 ak2 rw rw2 lw rs le g) (h1 : TY S R I t b n tg) {I1 I2 : Nat → Nat → Int32} {f e : Nat} (hr : readP S J R I t b n dr ak2 rw2 (-1) (I1, J, R)) (hT : TP S (zu (zu R x 4 (some dr)) x 5 (some st)) I2 t b 0 f e) (hfr : fr [t] I1 I2) (hR : R' = Rsw R x su st dr) :
    ∃ k0 p0 v p' aq' u' qn' ob', prs0 tg n = .inr (k0, p0, v) ∧ RDS k0 p0 p' v aq' ∧ PU tg 0 k0 p' 1 aq' 0 cs cn u' qn' ob' ∧ TY S R' (zu I2 ch 2 0) t b 0 tg ∧ CG (zu I2 ch 2 0) ch sa na 0 cs cn ∧ ST (zu I2 ch 2 0) dr ak2 rw2 k0 p' 1 aq' ∧ FC lab I (zu I2 ch 2 0) := by
  obtain ⟨I1', eν, -, hb, hfs, hm⟩ := hr
  have eI : I1 = I1' := congrArg Prod.fst eν
  subst eI
  rw [h1.2] at hb hm
  have hL0 := hL
  obtain ⟨⟨x1, -⟩, ⟨t1, t2, b1⟩, -, ⟨c1, -⟩, Y1, Y2, U, ⟨l1, l2, l3, l4, l5, l6, l7, l8⟩, ⟨l9, l10, l11⟩, ⟨l14, l15, l16⟩, l12, l13, hcd, e1, e2⟩ := hL
  rcases hq : prs0 tg n with z | ⟨k0, p0, v⟩
  · rw [hq] at hm
    exact absurd hm.1.symm (nI_m1 (by have := hm.2; have := hP.2.1; omega))
  · rw [hq] at hm
    obtain ⟨-, ⟨s1, s2, s3, s4, s5⟩, d5, a0, a1, a2, a3, a4⟩ := hm
    obtain ⟨hW, ⟨na', u', w1, w2, w3, w4, w5⟩⟩ := prs0_ok hq
    -- memory at the end
    have G : ∀ a i, lab a = i → i ≠ 5 → zu I2 ch 2 0 a = I1 a := fun a i ha hi => (zu_o (lne ha l5 hi)).trans (hfr a (fun q => by rw [List.mem_singleton] at q; exact lne ha l2 hi q))
    have hd : d ≠ 5 := by omega
    have gdr := G dr d l14 hd
    have gak := G ak2 d l15 hd
    have grw := fun i => G (rw2 i) d (l16 i) hd
    have hrow : ∀ i, i < k0 → ∀ w, w < 7 → zu I2 ch 2 0 (rw2 i) w = p0 i w := fun i hi w hw => by rw [grw i]; exact s5 i hi w hw
    have hPE : PE p0 (fun i w => zu I2 ch 2 0 (rw2 i) w) k0 := fun i hi w hw => (hrow i hi w (by omega)).symm
    have hW' : WT (fun i w => zu I2 ch 2 0 (rw2 i) w) k0 := WT_c hPE hW
    obtain ⟨ob', hob⟩ : ∃ ob' : Option Nat, (v.2.2.1 = -1 ∧ ob' = none) ∨ ∃ nb, nb < 8 ∧ v.2.2.1 = nI nb ∧ ob' = some nb ∧ nb ≠ na' := by
      rcases w5 with w5 | ⟨nb, b1, b2, b3⟩
      · exact ⟨none, Or.inl ⟨w5, rfl⟩⟩
      · exact ⟨some nb, Or.inr ⟨nb, b2, b1, rfl, b3⟩⟩
    have gt : ∀ j, j ≠ 2 → zu I2 ch 2 0 t j = I2 t j := fun j _ => zu_a (kn t1.2 c1.2 (by decide))
    refine ⟨k0, p0, v, fun i w => zu I2 ch 2 0 (rw2 i) w, zu I2 ch 2 0 ak2, u', na', ob', rfl, ⟨hrow, ?_, ?_, ?_, ?_, ?_⟩, ⟨hP.1, by omega, hW', fun w => absurd w (by decide), by omega, fun j hj => absurd hj (by omega), fun _ => ⟨?_, w2, ?_, ?_, w4⟩, Or.inr rfl⟩, ⟨⟨f, e, ?_⟩, ?_⟩, ⟨zu_s, fun j hj => absurd hj (by omega)⟩, ⟨fun i w => rfl, ?_, ?_, ?_, ?_, fun _ j _ => rfl⟩, fun a ha => ?_⟩
    · rw [gak]; exact a0
    · rw [gak]; exact a1
    · rw [gak]; exact a2
    · rw [gak]; exact a3
    · rw [gak]; exact a4
    · rw [gak, a1]; exact w1
    · rw [gak, a2]; exact hob
    · rw [gak, a3]; exact w3
    · have hT0 := hT
      obtain ⟨q1, q2, q3, q4, q5, q6, q7, q8, q9⟩ := hT0
      have et : zu I2 ch 2 0 t = I2 t := zu_o (kn t1.2 c1.2 (by decide))
      refine ⟨q1, ?_, q3, by rw [et]; exact q4, by rw [et]; exact q5, by rw [et]; exact q6, q7, q8, q9⟩
      rw [hR, Rsw_o (kn t1.2 x1.2 (by decide)) (kn t1.2 U.1.2 (by decide))]
      exact t2
    · rw [G b 1 l3 (by decide)]; exact hb
    · rw [gdr]; exact s2
    · rw [gdr, s3, stF_ev, ev_c0 k0 (fun i hi => hrow i hi 0 (by omega))]
    · rw [gdr, s4, fbF_fcP, fcP_c0 k0 (fun i hi => hrow i hi 0 (by omega))]
    · rw [gdr]; exact d5
    · have h5 : lab a ≠ 5 := by omega
      rw [G a _ rfl h5]
      exact hfs a (lne rfl l2 h5) (lne rfl l15 (by omega)) (lne rfl l14 (by omega)) (fun i _ => lne rfl (l16 i) (by omega))
/-- the reference's side -/
theorem k_mtold {k0 : Nat} {p0 p' : Nat → Nat → Int32} {v : zR} {aq' : Nat → Int32} (hL : ML lab S R y tp td rm ra am ks kn ro ba be) (h5 : MD I y tp td am ks kn tg n m p tt aq k cs cn) (hr : RDS k0 p0 p' v aq') (f1 : I' y 7 = nI k0) (f2 : ∀ i, i < k0 → ∀ j, j < 7 → I' td (7 * i + j) = p0 i j) (f3 : I' am 0 = v.1 ∧ I' am 1 = v.2.1 ∧ I' am 2 = v.2.2.1 ∧ I' am 3 = v.2.2.2 ∧ I' am 4 = (if v.1 = 2 then 0 else stF p0 k0)) (f4 : I' y 9 = 1 ∧ I' y 12 = 0 ∧ I' y 2 = 0) (f5 : fr [y, rm, ra, td, am] I I') : MD I' y tp td am ks kn tg 0 k0 p' 1 aq' 0 cs cn ∧ FM lab I I' J J := by
  obtain ⟨-, -, -, -, -, -, -, -, -, -, -, -, ⟨l1, l2, l3, l4, l5, l6, l7, l8, l9, l10, l11⟩⟩ := hL
  have F : ∀ a i, lab a = i → i ≠ 109 → i ≠ 102 → i ≠ 104 → i ≠ 101 → i ≠ 103 → I' a = I a := fun a i ha h1 h2 h3 h4 h5 => f5 a (fun q => by
    simp only [List.mem_cons, List.not_mem_nil, or_false] at q
    rcases q with q | q | q | q | q
    · exact lne ha l1 h1 q
    · exact lne ha l4 h2 q
    · exact lne ha l6 h3 q
    · exact lne ha l3 h4 q
    · exact lne ha l5 h5 q)
  obtain ⟨r1, r2, r3, r4, r5, r6⟩ := hr
  refine ⟨⟨f4.2.2, fun j => ?_, f1, fun i hi w hw => ?_, f4.1, f4.2.1, fun j hj => absurd hj (by omega), fun _ j hj => ?_⟩, fun a ha => ⟨F a _ rfl (by omega) (by omega) (by omega) (by omega) (by omega), rfl⟩⟩
  · rw [F tp 100 l2 (by decide) (by decide) (by decide) (by decide) (by decide)]; exact h5.2.1 j
  · rw [f2 i hi w hw, r1 i hi w hw]
  · rcases (show j = 0 ∨ j = 1 ∨ j = 2 ∨ j = 3 ∨ j = 4 by omega) with rfl | rfl | rfl | rfl | rfl
    · exact f3.1.trans r2.symm
    · exact f3.2.1.trans r3.symm
    · exact f3.2.2.1.trans r4.symm
    · exact f3.2.2.2.1.trans r5.symm
    · exact f3.2.2.2.2.trans r6.symm
/-- the reference reads: its fields keep what is told -/
theorem k_mread (hL : ML lab S R y tp td rm ra am ks kn ro ba be) (h5 : MD I y tp td am ks kn tg n m p tt aq k cs cn) (f1 : fr [y, rm, ra] (zu I y 0 0) I') (f2 : ∀ j, (j < 8 ∨ (8 < j ∧ j < 13) ∨ 20 < j) → I' y j = zu I y 0 0 y j) (f3 : I' tp = zu I y 0 0 tp) : MD I' y tp td am ks kn tg n m p tt aq k cs cn ∧ FM lab I I' J J := by
  obtain ⟨-, -, -, -, -, -, -, -, -, -, -, -, ⟨l1, l2, l3, l4, l5, l6, l7, l8, l9, l10, l11⟩⟩ := hL
  have F : ∀ a i, lab a = i → i ≠ 109 → i ≠ 102 → i ≠ 104 → I' a = I a := fun a i ha h1 h2 h3 => (f1 a (fun q => by
    simp only [List.mem_cons, List.not_mem_nil, or_false] at q
    rcases q with q | q | q
    · exact lne ha l1 h1 q
    · exact lne ha l4 h2 q
    · exact lne ha l6 h3 q)).trans (zu_o (lne ha l1 h1))
  have hy : ∀ j, j ≠ 0 → (j < 8 ∨ (8 < j ∧ j < 13) ∨ 20 < j) → I' y j = I y j := fun j h0 hj => (f2 j hj).trans (zu_k h0)
  refine ⟨MD_c4 (aq' := aq) h5 ((hy 2 (by decide) (by omega)).trans h5.1) ⟨hy 7 (by decide) (by omega), hy 9 (by decide) (by omega), hy 12 (by decide) (by omega)⟩ (fun j => ?_) (F td 101 l3 (by decide) (by decide) (by decide)) (F am 103 l5 (by decide) (by decide) (by decide)) (F ks 105 l7 (by decide) (by decide) (by decide)) (F kn 106 l8 (by decide) (by decide) (by decide)), fun a ha => ⟨F a _ rfl (by omega) (by omega) (by omega), rfl⟩⟩
  rw [F tp 100 l2 (by decide) (by decide) (by decide)]; exact h5.2.1 j
theorem tp_prs (hP : PU tg n m p tt aq k cs cn u qn ob) (h5 : MD I y tp td am ks kn tg n m p tt aq k cs cn) : prs0 (I tp) n = prs0 tg n := by
  rw [show I tp = fun j => tB (tg j) from funext h5.2.1]
  exact tb_prs0 hP.1 n
end TOLD
