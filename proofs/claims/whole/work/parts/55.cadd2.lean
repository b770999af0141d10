/-! what add of the class does, as rows of whole numbers -/
theorem ci_nil {T : Nat → Nat → Int64} {L : Nat → Int32} (h : ∀ j, j < 8 → L j = 0) : CI [] T L := ⟨fun j hj => ⟨fun w => absurd (h j hj) w, fun ⟨q, hq, _⟩ => absurd hq List.not_mem_nil⟩, fun j hj w => absurd (h j hj) w⟩
theorem ci_congr {es : List (Nat × (Nat → Int))} {T T' : Nat → Nat → Int64} {L L' : Nat → Int32} (hC : CI es T L) (hT : ∀ j, j < 8 → e10 (T' j) = e10 (T j)) (hL : ∀ j, j < 8 → L' j = L j) : CI es T' L' := by
  refine ⟨fun j hj => by rw [hL j hj]; exact hC.1 j hj, fun j hj w => ?_⟩
  rw [hL j hj] at w
  obtain ⟨p1, p2, p3, p4, p5⟩ := hC.2 j hj w
  rw [hT j hj]
  exact ⟨p1, p2, p3, fun i hi hne hLi => p4 i hi hne (by rw [← hL i hi]; exact hLi), p5⟩
section CADD2
variable {k : Int} {es : List (Nat × (Nat → Int))} {T : Nat → Nat → Int64} {L : Nat → Int32}
theorem el_pos {r b : Nat → Int} {l j : Nat} (hj : j < 10) (hr : 0 < r j) (hb : b j = 0) (hbl : 0 < b l) : 0 < el r b l j := by
  unfold el
  split
  · exact hr
  · obtain ⟨s, hs, he⟩ := nrm_mul (m := 10) (e := fun i => r i * b l - b i * r l)
    have h1 := he j hj
    have h2 : 0 < r j * b l - b j * r l := by rw [hb, Int.zero_mul, Int.sub_zero]; exact Int.mul_pos hr hbl
    rw [h1] at h2
    exact Int.pos_of_mul_pos_right h2 (by omega)
/-- the row that add puts there -/
theorem ci_add (hk : 0 ≤ k) (hk2 : k ≤ 99900) (h : RI k es) (hC : CI es T L) {a b : Nat} {β γ : Int} (hf : Fct k a b β γ) {f : Nat} (hf8 : f < 8) {r2 : Nat → Int64} (hr2 : (∀ i, i < 10 → e10 r2 i = redu es (gr a b 1 β 0 γ) i) ∨ (∀ i, i < 10 → e10 r2 i = - redu es (gr a b 1 β 0 γ) i)) (hpos : 0 < e10 r2 f) {T' : Nat → Nat → Int64} {L' : Nat → Int32} (hT1 : ∀ j, j < 8 → j ≠ f → T' j = if L j ≠ 0 then elc (T j) r2 f else T j) (hT2 : e10 (T' f) = e10 r2) (hL1 : ∀ j, j < 8 → j ≠ f → L' j = L j) (hL2 : L' f ≠ 0) : CI (es ++ [(f, redu es (gr a b 1 β 0 γ))]) T' L' := by
  have hab : a ≠ b ∨ β = 0 := by
    rcases hf.2.2.1 with w | w
    · exact Or.inl w.1
    · exact Or.inr w.2
  have hpr := gr_prim (γ := γ) (σ := 0) hf.1 (α := 1) rfl hab
  have hl8 : ∀ q ∈ es, q.1 < 8 := fun q hq => (h.2.1 q hq).1
  obtain ⟨t, z, C, D, M, e, hp, p1, p2, p3, p4, μ, ν, p5, p6, p7⟩ := ri_pot h hpr (Nat.le_refl _)
  rw [List.take_length] at hp p1 p2 p3 p4 p7
  generalize hρ : redu es (gr a b 1 β 0 γ) = ρ at *
  have hρ8 : ρ 8 = 0 := by rw [← hρ]; exact redu_8 (fun q hq => (h.2.1 q hq).2.2) (gr_8 hf.1 hf.2.1)
  have hz : ∀ i, i < 10 → (e10 r2 i = 0 ↔ ρ i = 0) := fun i hi => by rcases hr2 with w | w <;> rw [w i hi] <;> omega
  have habs : ∀ i, i < 10 → ab (e10 r2 i) = ab (ρ i) := fun i hi => by rcases hr2 with w | w <;> rw [w i hi]; exact ab_neg _
  have hρf : ρ f ≠ 0 := fun w => by have := (hz f (by omega)).mpr w; omega
  have hr28 : e10 r2 8 = 0 := (hz 8 (by decide)).mpr hρ8
  have hoff2 : ∀ q ∈ es, e10 r2 q.1 = 0 := fun q hq => (hz q.1 (by have := hl8 q hq; omega)).mpr (p3 q hq)
  have hdt : ∀ x, Sol 10 (es ++ [(f, ρ)]) x → Sol 10 es x ∧ dt (e10 r2) x 10 = 0 := fun x hx => by
    obtain ⟨s1, s2⟩ := sol_snoc.mp hx
    refine ⟨s1, ?_⟩
    have s2 : dt ρ x 10 = 0 := s2
    rcases hr2 with w | w
    · rw [dt_eq w (fun _ _ => rfl)]; exact s2
    · rw [dt_sc (q := ρ) (t := -1) (fun i hi => by rw [w i hi]; omega), s2]; rfl
  have hfn : ∀ q ∈ es, q.1 ≠ f := fun q hq w => hρf (by rw [← w]; exact p3 q hq)
  have hLf : L f = 0 := by
    by_cases w : L f = 0
    · exact w
    · obtain ⟨q, hq, e⟩ := (hC.1 f hf8).mp w
      exact absurd e (hfn q hq)
  have hs := red_size hp p1 p2 hk hf p3 p4 p5 p6 p7 hf8 hρf
  have hB2 : ∃ B : Int, 0 ≤ B ∧ B ≤ 90 ^ 4 ∧ BR k B (e10 r2) := by
    have key : ∃ B : Int, 0 ≤ B ∧ B ≤ 90 ^ 4 ∧ BR k B ρ := by
      rcases hs with ⟨B, b1, b2, b3⟩ | b
      · have : (9 : Int) ^ 7 ≤ 90 ^ 4 := by decide
        exact ⟨B, b1, by omega, b3⟩
      · exact SzB_le b
    obtain ⟨B, b1, b2, b3⟩ := key
    exact ⟨B, b1, b2, BR_le hk (fun i hi => by rw [habs i hi]; omega) b3⟩
  obtain ⟨B2, b1, b2, b3⟩ := hB2
  -- a row that was there
  have hel : ∀ j, j < 8 → L j ≠ 0 → e10 (elc (T j) r2 f) = el (e10 (T j)) (e10 r2) f := by
    intro j hj hLj
    by_cases w : e10 (T j) f = 0
    · exact e10_elc0 (by omega) w
    · obtain ⟨c, hc, hR⟩ := ci_row hp p1 p2 hk hC hj hLj
      have htj := lead_t hp hC hj hLj
      have hjf : j ≠ f := fun v => hLj (by rw [v]; exact hLf)
      have hRf : Rw t z C D e j f ≠ 0 := by rw [hR f (by omega)]; exact Int.mul_ne_zero hc w
      have htf : t j = f := by
        by_cases v : f = t j
        · exact v.symm
        · exact absurd (Rw_off hf8 (Ne.symm hjf) v) hRf
      have hpBj : pB t M j ≤ 9 ^ 7 := by
        unfold pB
        rw [if_neg (by omega)]
        have c2 := cn_le2 (t := t) (show t j ≠ t j + 1 by omega) 8
        exact p9_mono (by omega)
      have hBj : BR k (pB t M j) (e10 (T j)) := BR_le hk (fun i hi => ab_1 hc (hR i hi)) (Rw_BR hp hk hj htj)
      have hpp := pB_pos hp (u := j)
      obtain ⟨n1, n2⟩ := num1 hk hk2 (show 0 ≤ pB t M j by omega) hpBj b1 b2
      have hall := bre_all hk hBj b3 hf8 n1 n2
      have hm1 : ab (e10 (T j) f) < 2 ^ 63 := by
        have := hBj.1 f (by omega)
        have : (9 : Int) ^ 7 < 2 ^ 63 := by decide
        omega
      have hm2 : ab (e10 r2 f) < 2 ^ 63 := by
        have := b3.1 f (by omega)
        have : (90 : Int) ^ 4 < 2 ^ 63 := by decide
        omega
      refine e10_elc (by omega) w hpos ⟨hm1, hm2⟩ (fun i hi => ?_)
      have hg0 : 0 < Int.gcd (e10 r2 f) (e10 (T j) f) := Int.gcd_pos_of_ne_zero_left _ (by omega)
      have d1 : (Int.gcd (e10 r2 f) (e10 (T j) f) : Int) * (e10 r2 f / (Int.gcd (e10 r2 f) (e10 (T j) f) : Int)) = e10 r2 f := Int.mul_ediv_cancel' (Int.gcd_dvd_left ..)
      have d2 : (Int.gcd (e10 r2 f) (e10 (T j) f) : Int) * (e10 (T j) f / (Int.gcd (e10 r2 f) (e10 (T j) f) : Int)) = e10 (T j) f := Int.mul_ediv_cancel' (Int.gcd_dvd_right ..)
      have := ab_1 (x := e10 (T j) i * e10 r2 f - e10 r2 i * e10 (T j) f) (y := e10 (T j) i * (e10 r2 f / (Int.gcd (e10 r2 f) (e10 (T j) f) : Int)) - e10 r2 i * (e10 (T j) f / (Int.gcd (e10 r2 f) (e10 (T j) f) : Int))) (ν := (Int.gcd (e10 r2 f) (e10 (T j) f) : Int)) (by omega) (by
        generalize e10 r2 f / (Int.gcd (e10 r2 f) (e10 (T j) f) : Int) = u at *
        generalize e10 (T j) f / (Int.gcd (e10 r2 f) (e10 (T j) f) : Int) = w2 at *
        generalize (Int.gcd (e10 r2 f) (e10 (T j) f) : Int) = g at *
        clear hall hoff2 hdt hz habs
        grind)
      have := hall i hi
      omega
  have hprim2 : prim 10 (e10 r2) := by
    have : gv (e10 r2) 10 = gv ρ 10 := gv_congr (fun i hi => by have := habs i hi; unfold ab at this; omega)
    unfold prim
    rw [this]
    exact p4
  refine ⟨fun j hj => ?_, fun j hj hLj => ?_⟩
  · rw [lead_snoc]
    by_cases w : j = f
    · subst w; exact ⟨fun _ => Or.inr rfl, fun _ => hL2⟩
    · rw [hL1 j hj w, hC.1 j hj]
      exact ⟨Or.inl, fun v => v.resolve_right (Ne.symm w)⟩
  · by_cases w : j = f
    · subst w
      rw [hT2]
      refine ⟨hprim2, hpos, hr28, fun i hi hne hLi => ?_, fun x hx => (hdt x hx).2⟩
      rw [hL1 i hi hne] at hLi
      obtain ⟨q, hq, e⟩ := (hC.1 i hi).mp hLi
      rw [← e]; exact hoff2 q hq
    · rw [hL1 j hj w] at hLj
      obtain ⟨t1, t2, t3, t4, t5⟩ := hC.2 j hj hLj
      rw [hT1 j hj w, if_pos hLj, hel j hj hLj]
      have hrj : e10 r2 j = 0 := by
        obtain ⟨q, hq, e⟩ := (hC.1 j hj).mp hLj
        rw [← e]; exact hoff2 q hq
      refine ⟨el_prim t1, el_pos (by omega) t2 hrj hpos, el_zero t3 hr28, fun i hi hne hLi => ?_, fun x hx => ?_⟩
      · by_cases v : i = f
        · rw [v]; exact el_at
        · rw [hL1 i hi v] at hLi
          refine el_zero (t4 i hi hne hLi) ?_
          obtain ⟨q, hq, e⟩ := (hC.1 i hi).mp hLi
          rw [← e]; exact hoff2 q hq
      · obtain ⟨s1, s2⟩ := hdt x hx
        obtain ⟨μ', ν', c1, c2, c3⟩ := el_mul (r := e10 (T j)) (b := e10 r2) (l := f) (by omega)
        have := c3 x s2
        rw [t5 x s1, Int.mul_zero] at this
        exact (Int.mul_eq_zero.mp this).resolve_left c1
theorem c_fact (hk : 0 ≤ k) (hk2 : k ≤ 99900) (h : RI k es) (hC : CI es T L) {a b : Nat} {β γ : Int} (hf : Fct k a b β γ) {r : Nat → Int64} (hr : e10 r = gr a b 1 β 0 γ) : (∀ i, i < 10 → e10 (rdC T L r 8) i = redu es (gr a b 1 β 0 γ) i) ∨ (∀ i, i < 10 → e10 (rdC T L r 8) i = - redu es (gr a b 1 β 0 γ) i) := by
  have hab : a ≠ b ∨ β = 0 := by
    rcases hf.2.2.1 with w | w
    · exact Or.inl w.1
    · exact Or.inr w.2
  have hpr := gr_prim (γ := γ) (σ := 0) hf.1 (α := 1) rfl hab
  have hl8 : ∀ q ∈ es, q.1 < 8 := fun q hq => (h.2.1 q hq).1
  obtain ⟨t, z, C, D, M, e, hp, p1, p2, -⟩ := ri_pot h hpr (Nat.le_refl _)
  rw [List.take_length] at hp p1 p2
  have hγ := hf.2.2.2
  obtain ⟨c1, c2, -⟩ := c_red hk hk2 hp p1 p2 hC hf.1 hf.2.1 (by rcases hf.2.2.1 with w | w; exact Or.inl ⟨w.1, w.2.1⟩; exact Or.inr w) (by decide) (by decide) (by rcases hf.2.2.1 with w | w; exact w.2.2; rw [w.2, ab_z]; decide) (by decide) (by omega) hpr hr 8 (Nat.le_refl _)
  rw [c1]
  exact c_pm h.1 hl8 hC hpr c2
theorem ng_e10 {r : Nat → Int64} (h : ∀ i, i < 10 → ab (e10 r i) < 2 ^ 63) : ∀ i, i < 10 → e10 (ng r) i = - e10 r i := fun i hi => by
  have := h i hi
  rw [e10_n hi] at this ⊢
  rw [e10_n hi]
  unfold ng
  rw [if_pos hi]
  exact i64_neg this
end CADD2
/-- add, over the memory -/
theorem add_es {k : Int} {S : zS} {I : Nat → Nat → Int32} {J : Nat → Nat → Int64} {R : Nat → Nat → Option Nat} {la rs le a : Nat} {ro : Nat → Nat} (hL : LA S R la rs le ro) (hao : ∀ j, j < 8 → a ≠ ro j) {es : List (Nat × (Nat → Int))} (hk : 0 ≤ k) (hk2 : k ≤ 99900) (h : RI k es) (hC : CI es (fun j k => J (ro j) k) (I le)) {u v : Nat} {β γ : Int} (hf : Fct k u v β γ) (hr : e10 (J a) = gr u v 1 β 0 γ) {r : Int32} {ν : zM}
    (hpost : (fsN (rdC (fun j k => J (ro j) k) (I le) (J a) 8) 8 0 = 8 ∧ r = b2i (decide (rdC (fun j k => J (ro j) k) (I le) (J a) 8 9 = 0)) ∧ ν = (I, zr J a (rdC (fun j k => J (ro j) k) (I le) (J a) 8), R)) ∨ (fsN (rdC (fun j k => J (ro j) k) (I le) (J a) 8) 8 0 < 8 ∧ r = 1 ∧ ∃ J', ν = (zu I le (fsN (rdC (fun j k => J (ro j) k) (I le) (J a) 8) 8 0) 1, J', R) ∧ J' a = (if 0 ≤ rdC (fun j k => J (ro j) k) (I le) (J a) 8 (fsN (rdC (fun j k => J (ro j) k) (I le) (J a) 8) 8 0) then rdC (fun j k => J (ro j) k) (I le) (J a) 8 else ng (rdC (fun j k => J (ro j) k) (I le) (J a) 8)) ∧ (∀ j, j < 8 → j ≠ fsN (rdC (fun j k => J (ro j) k) (I le) (J a) 8) 8 0 → J' (ro j) = if I le j ≠ 0 then elc (J (ro j)) (if 0 ≤ rdC (fun j k => J (ro j) k) (I le) (J a) 8 (fsN (rdC (fun j k => J (ro j) k) (I le) (J a) 8) 8 0) then rdC (fun j k => J (ro j) k) (I le) (J a) 8 else ng (rdC (fun j k => J (ro j) k) (I le) (J a) 8)) (fsN (rdC (fun j k => J (ro j) k) (I le) (J a) 8) 8 0) else J (ro j)) ∧ (∀ k, k < 10 → J' (ro (fsN (rdC (fun j k => J (ro j) k) (I le) (J a) 8) 8 0)) k = (if 0 ≤ rdC (fun j k => J (ro j) k) (I le) (J a) 8 (fsN (rdC (fun j k => J (ro j) k) (I le) (J a) 8) 8 0) then rdC (fun j k => J (ro j) k) (I le) (J a) 8 else ng (rdC (fun j k => J (ro j) k) (I le) (J a) 8)) k) ∧ ∀ q, q ≠ a → (∀ j, j < 8 → q ≠ ro j) → J' q = J q)) :
    ∃ (I' : Nat → Nat → Int32) (J' : Nat → Nat → Int64), ν = (I', J', R) ∧ r = b2i (ad es (gr u v 1 β 0 γ)).2 ∧ (∀ q, q ≠ le → I' q = I q) ∧ (∀ q, q ≠ a → (∀ j, j < 8 → q ≠ ro j) → J' q = J q) ∧ CI (ad es (gr u v 1 β 0 γ)).1 (fun j k => J' (ro j) k) (I' le) := by
  have hpm := c_fact hk hk2 h hC hf hr
  generalize hr1 : rdC (fun j k => J (ro j) k) (I le) (J a) 8 = r1 at *
  generalize hρ : redu es (gr u v 1 β 0 γ) = ρ at *
  have hz : ∀ i, i < 10 → (r1 i = 0 ↔ ρ i = 0) := fun i hi => by
    rw [i64_0, ← e10_n hi]
    rcases hpm with w | w <;> rw [w i hi] <;> omega
  have hfs := fs_fi (fun i hi => hz i (by omega)) 8 0 rfl
  have h9 := hz 9 (by decide)
  rcases hpost with ⟨p1, p2, p3⟩ | ⟨p1, p2, J', p3, p4, p5, p6, p7⟩
  · refine ⟨I, _, p3, ?_, fun _ _ => rfl, fun q hq _ => zr_a hq, ?_⟩
    · rw [p2]
      unfold ad
      rw [hρ, if_pos (by rw [← hfs]; exact p1)]
      congr 1
      exact decide_eq_decide.mpr h9
    · unfold ad
      rw [hρ, if_pos (by rw [← hfs]; exact p1)]
      exact ci_congr hC (fun j hj => by show e10 (zr J a r1 (ro j)) = e10 (J (ro j)); rw [zr_a (Ne.symm (hao j hj))]) (fun _ _ => rfl)
  · have hne : ¬ fiN ρ 8 0 = 8 := by rw [← hfs]; omega
    generalize hf0 : fsN r1 8 0 = f at *
    have hρf : ρ f ≠ 0 := by rw [hfs]; exact fi_ne ρ 8 0 (by omega)
    have hl8 : ∀ q ∈ es, q.1 < 8 := fun q hq => (h.2.1 q hq).1
    have hbig : ∀ i, i < 10 → ab (e10 r1 i) < 2 ^ 62 := by
      have hab : u ≠ v ∨ β = 0 := by
        rcases hf.2.2.1 with w | w
        · exact Or.inl w.1
        · exact Or.inr w.2
      have hpr := gr_prim (γ := γ) (σ := 0) hf.1 (α := 1) rfl hab
      obtain ⟨t, z, C, D, M, e, hp, q1, q2, q3, q4, μ, ν', q5, q6, q7⟩ := ri_pot h hpr (Nat.le_refl _)
      rw [List.take_length] at hp q1 q2 q3 q4 q7
      have hs := red_size hp q1 q2 hk hf q3 q4 q5 q6 q7 p1 (by rw [hρ]; exact hρf)
      rw [hρ] at hs
      have key : ∃ B : Int, 0 ≤ B ∧ B ≤ 90 ^ 4 ∧ BR k B ρ := by
        rcases hs with ⟨B, b1, b2, b3⟩ | b
        · have : (9 : Int) ^ 7 ≤ 90 ^ 4 := by decide
          exact ⟨B, b1, by omega, b3⟩
        · exact SzB_le b
      obtain ⟨B, b1, b2, b3⟩ := key
      have q4' : (90 : Int) ^ 4 = 65610000 := by decide
      intro i hi
      have e1 : ab (e10 r1 i) = ab (ρ i) := by rcases hpm with w | w <;> rw [w i hi]; exact ab_neg _
      rw [e1]
      by_cases w : i = 9
      · subst w
        have h1 := b3.2 0 (by decide)
        have h0 := ab_0 (ρ 0)
        have h2 : k * (2 * B - ab (ρ 0)) ≤ 99900 * (2 * 65610000) := by
          by_cases v : 0 ≤ 2 * B - ab (ρ 0)
          · exact mle hk2 (by omega) v (by omega)
          · have := m0 hk (show 0 ≤ -(2 * B - ab (ρ 0)) by omega)
            grind
        omega
      · have := b3.1 i (by omega)
        omega
    have hr2 : ∀ r2 : Nat → Int64, r2 = (if 0 ≤ r1 f then r1 else ng r1) → ((∀ i, i < 10 → e10 r2 i = ρ i) ∨ (∀ i, i < 10 → e10 r2 i = - ρ i)) ∧ 0 < e10 r2 f := by
      intro r2 e
      have hn := ng_e10 (r := r1) (fun i hi => by have := hbig i hi; omega)
      have hr1f : e10 r1 f ≠ 0 := fun w => hρf ((hz f (by omega)).mp (i64_0.mpr (by rw [← e10_n (show f < 10 by omega)]; exact w)))
      have hle : (0 ≤ r1 f) ↔ 0 ≤ e10 r1 f := by rw [e10_n (show f < 10 by omega)]; exact Int64.le_iff_toInt_le
      by_cases w : 0 ≤ r1 f
      · rw [if_pos w] at e
        subst e
        exact ⟨hpm, by have := hle.mp w; omega⟩
      · rw [if_neg w] at e
        subst e
        refine ⟨?_, by rw [hn f (by omega)]; have := mt hle.mpr w; omega⟩
        rcases hpm with v | v
        · right; intro i hi; rw [hn i hi, v i hi]
        · left; intro i hi; rw [hn i hi, v i hi]; omega
    obtain ⟨g1, g2⟩ := hr2 _ rfl
    generalize (if 0 ≤ r1 f then r1 else ng r1) = r2 at *
    refine ⟨_, J', p3, ?_, fun q hq => zu_o hq, p7, ?_⟩
    · rw [p2]
      unfold ad
      rw [hρ, if_neg hne]
      rfl
    · unfold ad
      rw [hρ, if_neg hne, ← hfs, ← hρ]
      refine ci_add hk hk2 h hC hf p1 (by rw [hρ]; exact g1) g2 (fun j hj hjf => ?_) ?_ (fun j hj hjf => zu_k hjf) (by rw [zu_s]; decide)
      · exact p5 j hj hjf
      · funext i
        by_cases w : i < 10
        · rw [e10_n w, e10_n w, p6 i w]
        · rw [e10_o w, e10_o w]
