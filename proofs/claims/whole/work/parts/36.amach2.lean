/-! Math.abs of a long, System.arraycopy of longs -/
section ZX2
variable {X : zC} {E : zE} {S : zS} {kc ks : Nat} {μ : zM} {I : Nat → Nat → Int32} {J : Nat → Nat → Int64} {R : Nat → Nat → Option Nat} {pc : Nat} {lv : List (Nat × Value)} {st : List Value} {l : Launch} {cc : ByteArray} {own : String} {Ts : List Cond} {rm : Room} {nL : Nat}
theorem z_mabs (h : zOK X E l cc own Ts rm nL) {x : Int64} {index : Nat} (h1 : Cond.methodLink own index Lib.MathLoose.abs_long.x ∈ Ts) (h2 : Cond.static Lib.MathLoose.abs_long.x ∈ Ts) (h3 : Cond.initialized "java/lang/Math" ∈ Ts) (h4 : Cond.code Lib.MathLoose.abs_long.x Lib.MathLoose.abs_long.code 2 (some .long) ∈ Ts)
    (hf : 1 ≤ rm.frames) (hlo : (st.map fun v => v.category).sum + 13 ≤ rm.locals) (hkc : kc ≤ rm.cells ∧ ks ≤ rm.slots) (hd : decode cc pc = .ok (.invokestatic index, 3)) (k : zV X E S kc ks μ (pc + 3) lv (.long (if 0 < x then x else -x) :: st)) : zV X E S kc ks μ pc lv (.long x :: st) := fun H locs ls hP hD hS hl => by
  have hR2 : X.2.2.2.1 = rm := h.2.2.2.2.2.2.2.2.2.1
  exact va_mabs_long h.1 h.2.1 (h.2.2.1.trans (hl.1.trans h.2.2.2.2.2.2.2.2.2.2).symm) h.2.2.2.1 (h.2.2.2.2.1 _ h1) (h.2.2.2.2.1 _ h2) (h.2.2.2.2.1 _ h3) (h.2.2.2.2.1 _ h4) (by rw [hR2]; exact hf) (by rw [hR2]; exact hlo) (by rw [hR2]; exact hkc.1) (by rw [hR2]; exact hkc.2) hd (k H locs ls hP hD hS hl)
theorem z_copyl (h : zOK X E l cc own Ts rm nL) {index a0 a n0 n1 N : Nat} {n : Int32} (h1 : Cond.methodLink own index arraycopyName ∈ Ts) (h2 : Cond.static arraycopyName ∈ Ts) (h3 : Cond.initialized "java/lang/System" ∈ Ts) (h4 : Cond.native arraycopyName ∈ Ts)
    (ha0 : zA S a0 10 n0) (ha1 : zA S a 10 n1) (hn : n = nI N) (hN : N < 2 ^ 31) (g0 : N ≤ n0) (g1 : N ≤ n1) (hf : 1 ≤ rm.frames) (hlo : (st.map fun v => v.category).sum + 18 ≤ rm.locals) (hd : decode cc pc = .ok (.invokestatic index, 3))
    (k : zV X E S kc ks (I, zr J a (fun j => if j < N then J a0 j else J a j), R) (pc + 3) lv st) : zV X E S kc ks (I, J, R) pc lv (.int n :: .int 0 :: .ref a :: .int 0 :: .ref a0 :: st) := fun H locs ls hP hD hS hl => by
  have hR2 : X.2.2.2.1 = rm := h.2.2.2.2.2.2.2.2.2.1
  obtain ⟨q0, hq0, hq0'⟩ := zW_at (E := E) (μ := (I, J, R)) ha0.1 (zc_j ha0.2.1 ha0.2.2)
  obtain ⟨q1, hq1, hq1'⟩ := zW_at (E := E) (μ := (I, J, R)) ha1.1 (zc_j ha1.2.1 ha1.2.2)
  have hcl : n.toNatClampNeg = N := by rw [hn]; exact nI_clamp hN
  have hc0 : (0 : Int32).toNatClampNeg = 0 := by decide
  refine va_copyl h.1 h.2.1 (h.2.2.1.trans (hl.1.trans h.2.2.2.2.2.2.2.2.2.2).symm) h.2.2.2.1 (h.2.2.2.2.1 _ h1) (h.2.2.2.2.1 _ h4) (h.2.2.2.2.1 _ h2) (h.2.2.2.2.1 _ h3) h.2.2.2.2.2.1 hP hD hS q0 q1 2 2 hq0' hq1' rfl rfl rfl (by decide) (by decide) (by rw [hn]; exact nI_pos hN) (by rw [hcl, hc0]; omega) (by rw [hcl, hc0]; omega) (fun _ _ => rfl) (by rw [hR2]; exact hf) (by rw [hR2]; exact hlo) hd (fun H1 locs1 hP1 hD1 hS1 => ?_)
  have e := zW_set (ν := (I, zr J a (fun j => if j < N then J a0 j else J a j), R)) hD ha1.1 hq1 (zc_j ha1.2.1 ha1.2.2) (fun b hb => zc_congr rfl (zr_a hb) rfl)
  rw [show (I, zr J a (fun j => if j < N then J a0 j else J a j), R).2.1 a = va_cpy (J a0) (J a) 0 0 N from by
    show zr J a _ a = _
    rw [zr_s]
    funext j
    unfold va_cpy
    simp] at e
  rw [hcl, hc0] at hP1 hD1
  rw [e] at hP1 hD1
  exact k H1 locs1 ls hP1 hD1 hS1 hl
end ZX2
set_option maxRecDepth 100000 in
theorem kar_1 : Cond.methodLink RX1 35 arraycopyName ∈ zTbl := zmem 529 rfl rfl
set_option maxRecDepth 100000 in
theorem kar_4 : Cond.methodLink RX4 124 arraycopyName ∈ zTbl := zmem 506 rfl rfl
set_option maxRecDepth 100000 in
theorem kar_s : Cond.static arraycopyName ∈ zTbl := zmem 507 rfl rfl
set_option maxRecDepth 100000 in
theorem kar_n : Cond.native arraycopyName ∈ zTbl := zmem 508 rfl rfl
set_option maxRecDepth 100000 in
theorem kar_i : Cond.initialized "java/lang/System" ∈ zTbl := zmem 65 rfl rfl
theorem kab_l : Cond.methodLink RX7 217 Lib.MathLoose.abs_long.x ∈ zTbl := km_RX7_217
theorem kab_s : Cond.static Lib.MathLoose.abs_long.x ∈ zTbl := ks_J9_abs_067f4
theorem kab_i : Cond.initialized "java/lang/Math" ∈ zTbl := kn_RJ9
theorem kab_c : Cond.code Lib.MathLoose.abs_long.x Lib.MathLoose.abs_long.code 2 (some .long) ∈ zTbl := kc_J9_abs_067f4
