/-! THE LAW: its rows, and what holds at its loop -/
def SCR (X : zC) (b0 L : Nat) (xs : Nat → Int32) : Prop := va_X b0 L xs X.2.2.2.2.1 X.2.2.2.2.1.heap ∧ b0 < X.2.2.2.2.1.heap.size ∧ ¬ X.2.2.2.2.2.2.2.2.2.2.2.1 b0
section ZLAW
variable {X : zC} {E : zE} {S : zS} {kc ks : Nat} {μ : zM} {pc : Nat} {lv : List (Nat × Value)} {st : List Value} {l : Launch} {cc : ByteArray} {own : String} {Ts : List Cond} {rm : Room} {nL b0 L : Nat} {xs : Nat → Int32}
theorem z_slen (h : zOK X E l cc own Ts rm nL) (hX : SCR X b0 L xs) (hd : decode cc pc = .ok (.arraylength, 1)) (k : zV X E S kc ks μ (pc + 1) lv (.int (nI L) :: st)) : zV X E S kc ks μ pc lv (.ref b0 :: st) := fun H locs ls hP hD hS hl => va_slen h.1 h.2.1 hX.1 hX.2.1 hX.2.2 hS hd (k H locs ls hP hD hS hl)
theorem z_sld (h : zOK X E l cc own Ts rm nL) (hX : SCR X b0 L xs) {i : Int32} {j : Nat} (hi : zix i j L) (hd : decode cc pc = .ok (.iaload, 1)) (k : zV X E S kc ks μ (pc + 1) lv (.int (xs j) :: st)) : zV X E S kc ks μ pc lv (.int i :: .ref b0 :: st) := fun H locs ls hP hD hS hl => va_sld h.1 h.2.1 hX.1 hX.2.1 hX.2.2 hS hi.1 hd (by rw [hi.2]; exact k H locs ls hP hD hS hl)
theorem z_tabOut (h : zOK X E l cc own Ts rm nL) {dflt lo hi : Int} {offs : Array Int} {len : Nat} {v : Int32} (tgt : Nat) (hd : decode cc pc = .ok (.tableswitch dflt lo hi offs, len)) (hv : v.toInt < lo ∨ hi < v.toInt) (ht : (pc : Int) + dflt = (tgt : Int)) (k : zV X E S kc ks μ tgt lv st) : zV X E S kc ks μ pc lv (.int v :: st) := fun H locs ls hP hD hS hl => lv_tableOut h.1 h.2.1 hd hv ht (k H locs ls hP hD hS hl)
theorem z_tabIn (h : zOK X E l cc own Ts rm nL) {dflt lo hi : Int} {offs : Array Int} {len : Nat} {v : Int32} {off : Int} (tgt : Nat) (hd : decode cc pc = .ok (.tableswitch dflt lo hi offs, len)) (h1 : ¬ v.toInt < lo) (h2 : ¬ hi < v.toInt) (ho : offs[(v.toInt - lo).toNat]? = some off) (ht : (pc : Int) + off = (tgt : Int)) (k : zV X E S kc ks μ tgt lv st) : zV X E S kc ks μ pc lv (.int v :: st) := fun H locs ls hP hD hS hl => lv_tableIn h.1 h.2.1 hd h1 h2 ho ht (k H locs ls hP hD hS hl)
end ZLAW
/-- both sides say the same and go on saying it -/
def REL (lab : Nat → Nat) (S : zS) (I : Nat → Nat → Int32) (J : Nat → Nat → Int64) (R : Nat → Nat → Option Nat) (x y : Nat) : Prop :=
  ∃ (c d t b rd ch sa na su lo fl st pa ak dr pa2 ak2 : Nat) (rw rw2 lw rs le g : Nat → Nat) (tp td rm ra am ks kn ro ba be : Nat) (tg : Nat → Int32) (n m : Nat) (p : Nat → Nat → Int32) (tt : Int32) (aq : Nat → Int32) (k : Nat) (cs cn : Nat → Int32) (u qn : Nat) (ob : Option Nat),
    PU tg n m p tt aq k cs cn u qn ob ∧ CL lab c d S R x t b rd ch sa na su lo fl st pa ak dr pa2 ak2 rw rw2 lw rs le g ∧ ML lab S R y tp td rm ra am ks kn ro ba be ∧ TY S R I t b n tg ∧ CG I ch sa na k cs cn ∧ ST I st ak rw m p tt aq ∧ SS I J st su ak le g p m u qn ob ∧ MD I y tp td am ks kn tg n m p tt aq k cs cn
section RELM
variable {lab : Nat → Nat} {c d : Nat} {S : zS} {I I' : Nat → Nat → Int32} {J J' : Nat → Nat → Int64} {R R' : Nat → Nat → Option Nat} {x t b rd ch sa na su lo fl st pa ak dr pa2 ak2 : Nat} {rw rw2 lw rs le g : Nat → Nat} {y tp td rm ra am ks kn ro ba be : Nat}
variable {tg aq cs cn : Nat → Int32} {n m k u qn : Nat} {p : Nat → Nat → Int32} {tt : Int32} {ob : Option Nat}
theorem REL_mk (hP : PU tg n m p tt aq k cs cn u qn ob) (hL : CL lab c d S R x t b rd ch sa na su lo fl st pa ak dr pa2 ak2 rw rw2 lw rs le g) (hM : ML lab S R y tp td rm ra am ks kn ro ba be) (h1 : TY S R I t b n tg) (h2 : CG I ch sa na k cs cn) (h3 : ST I st ak rw m p tt aq) (h4 : SS I J st su ak le g p m u qn ob) (h5 : MD I y tp td am ks kn tg n m p tt aq k cs cn) : REL lab S I J R x y :=
  ⟨c, d, t, b, rd, ch, sa, na, su, lo, fl, st, pa, ak, dr, pa2, ak2, rw, rw2, lw, rs, le, g, tp, td, rm, ra, am, ks, kn, ro, ba, be, tg, n, m, p, tt, aq, k, cs, cn, u, qn, ob, hP, hL, hM, h1, h2, h3, h4, h5⟩
theorem REL_fin (hP : PU tg n m p tt aq k cs cn u qn ob) (hL : CL lab c d S R x t b rd ch sa na su lo fl st pa ak dr pa2 ak2 rw rw2 lw rs le g) (hM : ML lab S R y tp td rm ra am ks kn ro ba be) (h1 : TY S R I t b n tg) (h2 : CG I ch sa na k cs cn) (h3 : ST I st ak rw m p tt aq) (h4 : SS I J st su ak le g p m u qn ob) (h5 : MD I' y tp td am ks kn tg n m p tt aq k cs cn ∧ FM lab I I' J J') : REL lab S I' J' R x y := by
  obtain ⟨a1, a2, a3, a4⟩ := CR_FM hL h5.2 hP.2.2.1.1 h1 h2 h3 h4
  exact REL_mk hP hL hM a1 a2 a3 a4 h5.1
end RELM
