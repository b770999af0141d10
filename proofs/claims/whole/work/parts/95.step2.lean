/-! THE TAPE on both sides -/
theorem zNP_mono {l : Launch} {y : MethodName} {ws : List Cond} {rm : Room} {E : zE} {S : zS} {av : List Value} {μ : zM} {post post' : zM → Prop} (h : zNP l y ws rm E S av μ post) (hp : ∀ ν, post ν → post' ν) : zNP l y ws rm E S av μ post' := fun sz => MetFree.mono (h sz) (fun _ _ q => q) (fun _ _ _ _ _ _ => trivial) (fun a s o t _ q => by
  obtain ⟨⟨⟨u, q1, q2, q3⟩, q4⟩, q5⟩ := q
  exact ⟨⟨⟨u, q1, hp u q2, q3⟩, q4⟩, q5⟩)
theorem BY_and (x : Int32) : BY (x &&& 255) := ⟨(x &&& 255).toBitVec.toNat, by
  rw [Int32.toBitVec_and, BitVec.toNat_and]
  exact Nat.lt_of_le_of_lt Nat.and_le_right (by decide), Int32.toBitVec_inj.mp (by show _ = BitVec.ofNat 32 _; simp)⟩
theorem BY_0 : BY 0 := ⟨0, by decide, rfl⟩
/-- both tapes hold the same everywhere -/
def TBA (s r : (Nat → Int32) × Nat) : Prop := s.2 = r.2 ∧ (∀ j, r.1 j = tB (s.1 j)) ∧ ∀ j, BY (s.1 j)
theorem ap1_ta {s r : (Nat → Int32) × Nat} (h : TBA s r) {x : Int32} (hx : BY x) (hs : s.2 + nzN x ≤ 400) : TBA (ap1 s x) (ap1M r x) := by
  unfold ap1 ap1M
  by_cases q : x = 0
  · rw [if_pos q, if_pos q]; exact h
  · have : nzN x = 1 := if_neg q
    rw [if_neg q, if_neg q, if_neg (by omega)]
    refine ⟨by rw [show s.2 = r.2 from h.1], fun j => ?_, fun j => ?_⟩
    · show (if j = r.2 then tB x else r.1 j) = tB (if j = s.2 then x else s.1 j)
      rw [← h.1]
      by_cases w : j = s.2
      · rw [if_pos w, if_pos w]
      · rw [if_neg w, if_neg w]
        exact h.2.1 j
    · show BY (if j = s.2 then x else s.1 j)
      split
      · exact hx
      · exact h.2.2 j
theorem apB_ta {s r : (Nat → Int32) × Nat} (h : TBA s r) {v : Int32} (hs : s.2 + fbN v ≤ 400) : TBA (apB v s) (apM v r) ∧ (apB v s).2 = s.2 + fbN v := by
  unfold fbN at hs
  have a1 := ap1_2 (s := s) (x := byt v 24) (by omega)
  have a2 := ap1_2 (s := ap1 s (byt v 24)) (x := byt v 16) (by omega)
  have a3 := ap1_2 (s := ap1 (ap1 s (byt v 24)) (byt v 16)) (x := byt v 8) (by omega)
  have a4 := ap1_2 (s := ap1 (ap1 (ap1 s (byt v 24)) (byt v 16)) (byt v 8)) (x := byt v 0) (by omega)
  have b1 := ap1_ta h (x := byt v 24) (BY_and _) (by omega)
  have b2 := ap1_ta b1 (x := byt v 16) (BY_and _) (by omega)
  have b3 := ap1_ta b2 (x := byt v 8) (BY_and _) (by omega)
  have b4 := ap1_ta b3 (x := byt v 0) (BY_and _) (by omega)
  refine ⟨b4, ?_⟩
  unfold apB fbN
  omega
theorem fd_ta {s r : (Nat → Int32) × Nat} (h : TBA s r) {v0 v1 v2 v3 v4 : Int32} (hs : s.2 + (fbN v0 + fbN v1 + fbN v2 + fbN v3 + fbN v4) ≤ 400) : TBA (fd5 v0 v1 v2 v3 v4 s) (fdM5 v0 v1 v2 v3 v4 r) ∧ (fd5 v0 v1 v2 v3 v4 s).2 = s.2 + (fbN v0 + fbN v1 + fbN v2 + fbN v3 + fbN v4) := by
  obtain ⟨a1, e1⟩ := apB_ta h (v := v0) (by omega)
  obtain ⟨a2, e2⟩ := apB_ta a1 (v := v1) (by omega)
  obtain ⟨a3, e3⟩ := apB_ta a2 (v := v2) (by omega)
  obtain ⟨a4, e4⟩ := apB_ta a3 (v := v3) (by omega)
  obtain ⟨a5, e5⟩ := apB_ta a4 (v := v4) (by omega)
  refine ⟨a5, ?_⟩
  unfold fd5
  omega
section TAPE
variable {lab : Nat → Nat} {c d : Nat} {S : zS} {I I' : Nat → Nat → Int32} {J J' : Nat → Nat → Int64} {R R' : Nat → Nat → Option Nat} {x t b rd ch sa na su lo fl st pa ak dr pa2 ak2 : Nat} {rw rw2 lw rs le g : Nat → Nat} {y tp td rm ra am ks kn ro ba be : Nat}
variable {tg aq cs cn : Nat → Int32} {n m k u qn : Nat} {p : Nat → Nat → Int32} {tt : Int32} {ob : Option Nat}
theorem k_tape (hm : m ≤ 10) (hL : CL lab c d S R x t b rd ch sa na su lo fl st pa ak dr pa2 ak2 rw rw2 lw rs le g) (h2 : CG I ch sa na k cs cn) (h3 : ST I st ak rw m p tt aq) (h4 : SS I J st su ak le g p m u qn ob) (f : ∀ a, a ≠ t → a ≠ b → I' a = I a) :
    CG I' ch sa na k cs cn ∧ ST I' st ak rw m p tt aq ∧ SS I' J st su ak le g p m u qn ob ∧ FC lab I I' := by
  obtain ⟨-, ⟨t1, -, b1⟩, -, ⟨c1, -, -, s1, n1, -⟩, Y1, -, U, ⟨l1, l2, l3, l4, l5, l6, l7, l8⟩, ⟨l9, l10, l11⟩, -, l12, l13, hcd, -⟩ := hL
  have est := f st (lne l9 l2 (by omega)) (lne l9 l3 (by omega))
  have eak := f ak (lne l10 l2 (by omega)) (lne l10 l3 (by omega))
  exact ⟨CG_c h2 (f ch (kn c1.2 t1.2 (by decide)) (lne l5 l3 (by decide))) (f sa (lne l6 l2 (by decide)) (lne l6 l3 (by decide))) (f na (lne l7 l2 (by decide)) (lne l7 l3 (by decide))), ST_c h3 est eak (fun i => f _ (lne (l11 i) l2 (by omega)) (lne (l11 i) l3 (by omega))), SS_c h4 (f su (kn U.1.2 t1.2 (by decide)) (lne l8 l3 (by decide))) est eak (fun v hv => f _ (lne (l12 v (by omega)) l2 (by decide)) (lne (l12 v (by omega)) l3 (by decide))) rfl (fun _ _ _ _ _ => rfl) hm, fun a ha => f a (fun q => by rw [q, l2] at ha; omega) (fun q => by rw [q, l3] at ha; omega)⟩
theorem k_read (hm : m ≤ 10) (hL : CL lab c d S R x t b rd ch sa na su lo fl st pa ak dr pa2 ak2 rw rw2 lw rs le g) (h2 : CG I ch sa na k cs cn) (h3 : ST I st ak rw m p tt aq) (h4 : SS I J st su ak le g p m u qn ob) (f : frS t ak2 dr rw2 I I') :
    CG I' ch sa na k cs cn ∧ ST I' st ak rw m p tt aq ∧ SS I' J st su ak le g p m u qn ob ∧ FC lab I I' := by
  obtain ⟨-, ⟨t1, -, b1⟩, -, ⟨c1, -, -, s1, n1, -⟩, Y1, -, U, ⟨l1, l2, l3, l4, l5, l6, l7, l8⟩, ⟨l9, l10, l11⟩, ⟨l14, l15, l16⟩, l12, l13, hcd, -⟩ := hL
  have F : ∀ a i, lab a = i → i ≠ d → a ≠ t → I' a = I a := fun a i ha hi hat => f a hat (lne ha l15 hi) (lne ha l14 hi) (fun j _ => lne ha (l16 j) hi)
  have est := F st c l9 (by omega) (lne l9 l2 (by omega))
  have eak := F ak c l10 (by omega) (lne l10 l2 (by omega))
  exact ⟨CG_c h2 (F ch 5 l5 (by omega) (kn c1.2 t1.2 (by decide))) (F sa 2 l6 (by omega) (lne l6 l2 (by decide))) (F na 3 l7 (by omega) (lne l7 l2 (by decide))), ST_c h3 est eak (fun i => F _ c (l11 i) (by omega) (lne (l11 i) l2 (by omega))), SS_c h4 (F su 5 l8 (by omega) (kn U.1.2 t1.2 (by decide))) est eak (fun v hv => F _ 6 (l12 v (by omega)) (by omega) (lne (l12 v (by omega)) l2 (by decide))) rfl (fun _ _ _ _ _ => rfl) hm, fun a ha => F a _ rfl (by omega) (fun q => by rw [q, l2] at ha; omega)⟩
theorem MD_c4 {tg' aq' : Nat → Int32} {n' : Nat} (h : MD I y tp td am ks kn tg n m p tt aq k cs cn) (h0 : I' y 2 = nI n') (h1 : I' y 7 = I y 7 ∧ I' y 9 = I y 9 ∧ I' y 12 = I y 12) (h2 : ∀ j, I' tp j = tB (tg' j)) (h3 : I' td = I td) (h4 : I' am = I am) (h5 : I' ks = I ks) (h6 : I' kn = I kn) : MD I' y tp td am ks kn tg' n' m p tt aq k cs cn := by
  unfold MD at h ⊢
  rw [h1.1, h1.2.1, h1.2.2, h3, h4, h5, h6]
  exact ⟨h0, h2, h.2.2⟩
theorem k_mtape {tg' : Nat → Int32} {n' : Nat} (hL : ML lab S R y tp td rm ra am ks kn ro ba be) (h : MD I y tp td am ks kn tg n m p tt aq k cs cn) (f1 : ∀ a, a ≠ y → a ≠ tp → I' a = I a) (f2 : ∀ w, w ≠ 0 → w ≠ 2 → I' y w = I y w) (f3 : I' y 2 = nI n') (f4 : ∀ j, I' tp j = tB (tg' j)) : MD I' y tp td am ks kn tg' n' m p tt aq k cs cn ∧ FM lab I I' J J := by
  obtain ⟨-, -, -, -, -, -, -, -, -, -, -, -, ⟨l1, l2, l3, l4, l5, l6, l7, l8, l9, l10, l11⟩⟩ := hL
  refine ⟨MD_c4 (aq' := aq) h f3 ⟨f2 7 (by decide) (by decide), f2 9 (by decide) (by decide), f2 12 (by decide) (by decide)⟩ f4 (f1 _ (lne l3 l1 (by decide)) (lne l3 l2 (by decide))) (f1 _ (lne l5 l1 (by decide)) (lne l5 l2 (by decide))) (f1 _ (lne l7 l1 (by decide)) (lne l7 l2 (by decide))) (f1 _ (lne l8 l1 (by decide)) (lne l8 l2 (by decide))), fun a ha => ⟨f1 a (fun q => by rw [q, l1] at ha; omega) (fun q => by rw [q, l2] at ha; omega), rfl⟩⟩
/-- feed: the class's side -/
theorem k_feed (hP : PU tg n m p tt aq k cs cn u qn ob) (hL : CL lab c d S R x t b rd ch sa na su lo fl st pa ak dr pa2 ak2 rw rw2 lw rs le g) (h1 : TY S R I t b n tg) {s : (Nat → Int32) × Nat} (hs : n ≤ s.2) (hs4 : s.2 ≤ 400) (hb : ∀ j, BY (s.1 j)) : PU s.1 s.2 m p tt aq k cs cn u qn ob ∧ TY S R (fdI I t b s) t b s.2 s.1 ∧ ∀ a, a ≠ t → a ≠ b → fdI I t b s a = I a := by
  obtain ⟨⟨f, e, hT⟩, hg⟩ := h1
  have hbt : b ≠ t := hT.ne
  obtain ⟨q1, q2, q3, q4, q5, q6, q7, q8, q9⟩ := hT
  refine ⟨⟨hb, hs4, hP.2.2⟩, ⟨⟨f, e, q1, q2, q3, zu_s, ?_, ?_, hs4, q8, by omega⟩, ?_⟩, fun a h1 h2 => ?_⟩
  · unfold fdI; rw [zu_k (by decide), zr_ak hbt.symm]; exact q5
  · unfold fdI; rw [zu_k (by decide), zr_ak hbt.symm]; exact q6
  · unfold fdI; rw [zu_o hbt, zr_s]
  · unfold fdI; rw [zu_o h1, zr_a h2]
end TAPE
