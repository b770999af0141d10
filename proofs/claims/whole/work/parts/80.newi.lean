/-! AN ARRAY OF ints IS MADE: the pool grows by one; what is no more used is dropped from it -/
set_option maxRecDepth 20000 in
theorem ka_int : Cond.arrayClass .int ∈ zTbl := zmem 99 rfl rfl
/-- the shape with one array of ints more -/
def zSi (S : zS) (a n : Nat) : zS := (S.1 ++ [a], fun b => if b = a then 9 else S.2.1 b, fun b => if b = a then n else S.2.2 b)
theorem zSi_O {S : zS} {a n b ci : Nat} (ha : a ∉ S.1) (h : zO S b ci) : zO (zSi S a n) b ci := ⟨List.mem_append_left _ h.1, by
  show (if b = a then 9 else S.2.1 b) = ci
  rw [if_neg (show ¬ b = a from fun q => ha (q ▸ h.1))]; exact h.2⟩
theorem zSi_A {S : zS} {a n b k m : Nat} (ha : a ∉ S.1) (h : zA S b k m) : zA (zSi S a n) b k m := ⟨List.mem_append_left _ h.1, by
  show (if b = a then 9 else S.2.1 b) = k
  rw [if_neg (show ¬ b = a from fun q => ha (q ▸ h.1))]; exact h.2.1, by
  show (if b = a then n else S.2.2 b) = m
  rw [if_neg (show ¬ b = a from fun q => ha (q ▸ h.1))]; exact h.2.2⟩
theorem zSi_a {S : zS} {a n : Nat} : zA (zSi S a n) a 9 n := ⟨List.mem_append_right _ (List.mem_singleton.mpr rfl), if_pos rfl, if_pos rfl⟩
theorem va_plm {L : List Nat} {f g : Nat → va_E} (h : ∀ a ∈ L, f a = g a) : va_pl L f = va_pl L g := List.map_congr_left fun a ha => by rw [h a ha]
theorem zc_kn {Y : Nat → ClassId} {K K' N N' : Nat → Nat} {μ ν : zM} {b : Nat} (h1 : K b = K' b) (h2 : N b = N' b) (h3 : μ.1 b = ν.1 b) (h4 : μ.2.1 b = ν.2.1 b) (h5 : μ.2.2 b = ν.2.2 b) : zc Y K N μ b = zc Y K' N' ν b := by
  rw [zc_congr h3 h4 h5]
  unfold zc
  rw [h1, h2]
theorem zW_i {E : zE} {S : zS} {I : Nat → Nat → Int32} {J : Nat → Nat → Int64} {R : Nat → Nat → Option Nat} {a n : Nat} (ha : a ∉ S.1) : zW E (zSi S a n) (zr I a (fun _ => 0), J, R) = zW E S (I, J, R) ++ [(a, .inl (E.2.1 1, n, .inl (fun _ => 0)))] := by
  unfold zW zSi
  show va_pl (S.1 ++ [a]) _ = va_pl S.1 _ ++ _
  unfold va_pl
  rw [List.map_append]
  congr 1
  · refine List.map_congr_left fun b hb => ?_
    have hba : b ≠ a := fun q => ha (q ▸ hb)
    congr 1
    exact zc_kn (if_neg hba) (if_neg hba) (zr_a hba) rfl rfl
  · show [(a, zc E.2.1 _ _ _ a)] = _
    congr 2
    refine (zc_i (Y := E.2.1) (K := fun b => if b = a then 9 else S.2.1 b) (N := fun b => if b = a then n else S.2.2 b) (μ := (zr I a (fun _ => 0), J, R)) (a := a) (k := 9) (n := n) (if_pos rfl) (if_pos rfl) (by decide) (by decide) (by decide)).trans ?_
    show Sum.inl (E.2.1 1, n, Sum.inl (zr I a (fun _ => 0) a)) = _
    rw [zr_s]
section ZNEW
variable {X : zC} {E : zE} {S : zS} {kc ks : Nat} {I : Nat → Nat → Int32} {J : Nat → Nat → Int64} {R : Nat → Nat → Option Nat} {pc : Nat} {lv : List (Nat × Value)} {st : List Value} {l : Launch} {cc : ByteArray} {own : String} {rm : Room} {nL : Nat}
theorem z_newI (h : zOK X E l cc own zTbl rm nL) {n : Nat} (hn : n < 1000) (hc : kc + 1 ≤ rm.cells) (hs : ks + n ≤ rm.slots) (hd : decode cc pc = .ok (.newarray .int, 2))
    (k : ∀ a, a ∉ S.1 → zV X E (zSi S a n) (kc + 1) (ks + n) (zr I a (fun _ => 0), J, R) (pc + 2) lv (.ref a :: st)) : zV X E S kc ks (I, J, R) pc lv (.int (nI n) :: st) := fun H locs ls hP hD hS hl => by
  have hR2 : X.2.2.2.1 = rm := h.2.2.2.2.2.2.2.2.2.1
  have hK := h.2.2.2.2.2.1
  refine va_newa (atype := .int) h.1 h.2.1 (h.2.2.2.2.1 _ ka_int) (ty := .int) rfl hK hP hD hS h.2.2.2.2.2.2.1 (a0 := (n, .inl (fun _ => 0))) (N' := n) (fun cA => rfl) (nI_pos (by omega)) (nI_clamp (by omega)) (by show n * 4 ≤ _; omega) (by rw [hR2]; exact hc) (by rw [hR2]; exact hs) hd (fun a cA H1 hK1 hP1 hD1 hS1 => ?_)
  have ha : a ∉ S.1 := va_pl_fresh2 (X := []) hD1
  have e1 := (hK.2 1 (E.2.1 1, .int) rfl).2
  have e2 := (hK1.2 7 (cA, .int) rfl).2
  have e3 : cA = E.2.1 1 := Option.some.inj (e2.symm.trans e1)
  subst e3
  have e := zW_i (E := E) (I := I) (J := J) (R := R) (n := n) ha
  exact k a ha H1 locs ls (by rw [e]; exact hP1) (by rw [e]; exact hD1) hS1 hl
theorem z_drop {a n : Nat} (ha : a ∉ S.1) {μ : zM} (k : zV X E S kc ks μ pc lv st) : zV X E (zSi S a n) kc ks μ pc lv st := fun H locs ls hP hD hS hl => by
  have e : zW E (zSi S a n) μ = zW E S μ ++ [(a, zc E.2.1 (zSi S a n).2.1 (zSi S a n).2.2 μ a)] := by
    unfold zW zSi
    show va_pl (S.1 ++ [a]) _ = va_pl S.1 _ ++ _
    unfold va_pl
    rw [List.map_append]
    congr 1
    refine List.map_congr_left fun b hb => ?_
    have hba : b ≠ a := fun q => ha (q ▸ hb)
    congr 1
    exact zc_kn (if_neg hba) (if_neg hba) rfl rfl rfl
  rw [e] at hP hD
  have hlt : ∀ (i : Nat) (q : Nat × va_E), (zW E S μ)[i]? = some q → (zW E S μ ++ [(a, zc E.2.1 (zSi S a n).2.1 (zSi S a n).2.2 μ a)])[i]? = some q := fun i q hq => by
    rw [List.getElem?_append_left (List.getElem?_eq_some_iff.mp hq).1]; exact hq
  exact k H locs ls (fun i q hq => hP i q (hlt i q hq)) ⟨fun i j p q hp hq => hD.1 i j p q (hlt i p hp) (hlt j q hq), fun i q hq => hD.2 i q (hlt i q hq)⟩ hS hl
end ZNEW
