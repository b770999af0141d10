/-! THE START: what the constructors leave is related; THE LOOP -/
section RSTART
variable {lab : Nat → Nat} {c d : Nat} {S : zS} {I I' : Nat → Nat → Int32} {J J' : Nat → Nat → Int64} {R R' : Nat → Nat → Option Nat} {x t b rd ch sa na su lo fl st pa ak dr pa2 ak2 : Nat} {rw rw2 lw rs le g : Nat → Nat} {y tp td rm ra am ks kn ro ba be : Nat}
variable {tg aq cs cn : Nat → Int32} {n m k u qn : Nat} {p : Nat → Nat → Int32} {tt : Int32} {ob : Option Nat}
theorem CL_mv {lab' : Nat → Nat} {S' : zS} (hL : CL lab c d S R x t b rd ch sa na su lo fl st pa ak dr pa2 ak2 rw rw2 lw rs le g) (hs : zSub S S') (hR : ∀ a, a ∈ S.1 → R' a = R a) (hl : ∀ a, a ∈ S.1 → lab' a = lab a) : CL lab' c d S' R' x t b rd ch sa na su lo fl st pa ak dr pa2 ak2 rw rw2 lw rs le g := by
  obtain ⟨⟨x1, x2, x3, x4, x5, x6, x7⟩, ⟨t1, t2, t3⟩, ⟨r1, r2⟩, ⟨c1, c2, c3, c4, c5, c6⟩, Y1, Y2, U, ⟨l1, l2, l3, l4, l5, l6, l7, l8⟩, ⟨l9, l10, l11⟩, ⟨l14, l15, l16⟩, l12, l13, hcd, e1, e2⟩ := hL
  have ex := hR x x1.1
  have mrw : ∀ i, rw i ∈ S.1 := fun i => by
    by_cases w : i < 10
    · exact (Y1.2.2.2.2.2.1 i w).2.1
    · rw [e1 i (by omega)]; exact (Y1.2.2.2.2.2.1 0 (by omega)).2.1
  have mrw2 : ∀ i, rw2 i ∈ S.1 := fun i => by
    by_cases w : i < 10
    · exact (Y2.2.2.2.2.2.1 i w).2.1
    · rw [e2 i (by omega)]; exact (Y2.2.2.2.2.2.1 0 (by omega)).2.1
  have mg : ∀ i, i < 55 → g i ∈ S.1 := fun i hi => by
    by_cases w : i < 53
    · exact (U.A10 w).1
    · rcases (show i = 53 ∨ i = 54 by omega) with rfl | rfl
      · exact U.2.2.2.2.2.2.2.2.2.2.2.2.2.2.2.2.1.1
      · exact U.2.2.2.2.2.2.2.2.2.2.2.2.2.2.2.2.2.1.1
  refine ⟨⟨hs.O x1, ?_⟩, ⟨hs.O t1, by rw [hR t t1.1]; exact t2, hs.A t3⟩, ⟨hs.O r1, by rw [hR rd r1.1]; exact r2⟩, ⟨hs.O c1, by rw [hR ch c1.1]; exact c2, by rw [hR ch c1.1]; exact c3, hs.A c4, hs.A c5, c6⟩, Y1.mv hs (hR st Y1.1.1) (hR pa Y1.2.2.2.1.1), Y2.mv hs (hR dr Y2.1.1) (hR pa2 Y2.2.2.2.1.1), U.mv hs (fun b hb _ => hR b hb), ⟨(hl x x1.1).trans l1, (hl t t1.1).trans l2, (hl b t3.1).trans l3, (hl rd r1.1).trans l4, (hl ch c1.1).trans l5, (hl sa c4.1).trans l6, (hl na c5.1).trans l7, (hl su U.1.1).trans l8⟩, ⟨(hl st Y1.1.1).trans l9, (hl ak Y1.2.2.2.2.1.1).trans l10, fun i => (hl _ (mrw i)).trans (l11 i)⟩, ⟨(hl dr Y2.1.1).trans l14, (hl ak2 Y2.2.2.2.2.1.1).trans l15, fun i => (hl _ (mrw2 i)).trans (l16 i)⟩, fun v hv => (hl _ (U.2.2.2.2.2.2.2.2.2.2.2.2.1 v hv).2.2.2.2.1.1).trans (l12 v hv), fun i hi => (hl _ (mg i hi)).trans (l13 i hi), hcd, e1, e2⟩
  rw [ex]; exact ⟨x2, x3, x4, x5, x6, x7⟩
theorem ML_mv {lab' : Nat → Nat} {S' : zS} (hM : ML lab S R y tp td rm ra am ks kn ro ba be) (hs : zSub S S') (hR : R' y = R y) (hl : ∀ a, a ∈ S.1 → (lab a ≠ 109 ∨ a = y) → lab' a = lab a) : ML lab' S' R' y tp td rm ra am ks kn ro ba be := by
  obtain ⟨y1, ⟨a1, b1⟩, ⟨a2, b2⟩, ⟨a3, b3⟩, ⟨a4, b4⟩, ⟨a5, b5⟩, ⟨a6, b6⟩, ⟨a7, b7⟩, ⟨a8, b8⟩, ⟨a9, b9⟩, ⟨a10, b10⟩, e, ⟨m1, m2, m3, m4, m5, m6, m7, m8, m9, m10, m11⟩⟩ := hM
  rw [← hR] at a1 a2 a3 a4 a5 a6 a7 a8 a9 a10
  exact ⟨hs.O y1, ⟨a1, hs.A b1⟩, ⟨a2, hs.A b2⟩, ⟨a3, hs.A b3⟩, ⟨a4, hs.A b4⟩, ⟨a5, hs.A b5⟩, ⟨a6, hs.A b6⟩, ⟨a7, hs.A b7⟩, ⟨a8, hs.A b8⟩, ⟨a9, hs.A b9⟩, ⟨a10, hs.A b10⟩, e, ⟨(hl y y1.1 (Or.inr rfl)).trans m1, (hl _ b1.1 (Or.inl (by omega))).trans m2, (hl _ b2.1 (Or.inl (by omega))).trans m3, (hl _ b3.1 (Or.inl (by omega))).trans m4, (hl _ b4.1 (Or.inl (by omega))).trans m5, (hl _ b5.1 (Or.inl (by omega))).trans m6, (hl _ b6.1 (Or.inl (by omega))).trans m7, (hl _ b7.1 (Or.inl (by omega))).trans m8, (hl _ b8.1 (Or.inl (by omega))).trans m9, (hl _ b9.1 (Or.inl (by omega))).trans m10, (hl _ b10.1 (Or.inl (by omega))).trans m11⟩⟩
theorem REL_0 (hL : CL lab c d S R x t b rd ch sa na su lo fl st pa ak dr pa2 ak2 rw rw2 lw rs le g) (hM : ML lab S R y tp td rm ra am ks kn ro ba be) (hI : I = zu (zu (zu (fun _ _ => 0) su 9 (-1)) su 12 (-1)) su 13 (-1)) (hJ : J = fun _ _ => 0) : REL lab S I J R x y := by
  obtain ⟨⟨a1, a2, a3, a4, a5, a6, a7, a8⟩, hle, hls⟩ := CL_ne hL
  have z : ∀ a, a ≠ su → I a = fun _ => 0 := fun a h => by rw [hI, zu_o h, zu_o h, zu_o h]
  have s9 : I su 9 = -1 := by rw [hI, zu_k (by decide), zu_k (by decide)]; exact zu_s
  have s13 : I su 13 = -1 := by rw [hI]; exact zu_s
  have zJ : ∀ a k, J a k = 0 := fun a k => by rw [hJ]
  have ym : ∀ a, 100 ≤ lab a → I a = fun _ => 0 := fun a ha => z a (fun q => by have := (CL_5 hL).1; rw [q] at ha; omega)
  obtain ⟨y1, ⟨-, b1⟩, ⟨-, b2⟩, -, ⟨-, b4⟩, -, ⟨-, b6⟩, ⟨-, b7⟩, -, -, -, -, ⟨m1, m2, m3, m4, m5, m6, m7, m8, m9, m10, m11⟩⟩ := id hM
  have hst := z st a6
  have hW0 : WT (fun _ _ => (0 : Int32)) 0 := ⟨by omega, fun i hi => absurd hi (Nat.not_lt_zero _)⟩
  refine REL_mk (tg := fun _ => 0) (n := 0) (m := 0) (p := fun _ _ => 0) (tt := 0) (aq := fun _ => 0) (k := 0) (cs := fun _ => 0) (cn := fun _ => 0) (u := 0) (qn := 0) (ob := none) ⟨fun _ => BY_0, by omega, hW0, fun _ => rfl, by omega, fun j hj => absurd hj (Nat.not_lt_zero _), fun w => absurd rfl w, Or.inl rfl⟩ hL hM ⟨⟨0, 0, hL.2.1.1, hL.2.1.2.1, hL.2.1.2.2, ?_, ?_, ?_, by omega, Nat.le_refl _, Nat.le_refl _⟩, z b a2⟩ ⟨?_, fun j hj => absurd hj (Nat.not_lt_zero _)⟩ ⟨fun i w => ?_, ?_, ?_, ?_, ?_, fun w => absurd rfl w⟩ ⟨⟨s9, fun _ v hv => ⟨fun j hj => ?_, fun j hj hne => ?_⟩, fun v k hv hk => ⟨fun w => ?_, fun _ => zJ _ _⟩, ⟨fun w => ?_, fun _ => zJ _ _⟩, fun i hi => absurd hi (Nat.not_lt_zero _), fun w => ?_⟩, fun _ => s13, fun w => absurd (zJ _ _) w⟩ ⟨?_, fun j => ?_, ?_, fun i hi => absurd hi (Nat.not_lt_zero _), ?_, ?_, fun j hj => absurd hj (Nat.not_lt_zero _), fun w => absurd rfl w⟩
  · rw [z t a1]; rfl
  · rw [z t a1]; rfl
  · rw [z t a1]; rfl
  · rw [z ch a3]; rfl
  · rw [z _ (a8 i)]
  · rw [hst]; rfl
  · rw [hst]; rfl
  · rw [hst]; rfl
  · rw [hst]
  · rw [z _ (hls v (by omega))]
    exact ⟨fun w => absurd rfl w, fun ⟨q, hq, _⟩ => absurd hq List.not_mem_nil⟩
  · rw [z _ (hls v (by omega))] at hne
    exact absurd rfl hne
  · have hz : sd (rhoA (fun _ _ => 0) 0 v k) = false := by
      show sd (qrow k none) = false
      exact qrow_nz (ob := none) hk (fun nb e => by cases e)
    rw [hz] at w
    exact absurd w.2 (by decide)
  · rw [hst] at w
    exact absurd rfl w.1
  · rw [hst] at w
    exact absurd rfl w
  · rw [ym y (by omega)]; rfl
  · rw [ym tp (by omega)]; rfl
  · rw [ym y (by omega)]; rfl
  · rw [ym y (by omega)]
  · rw [ym y (by omega)]; rfl
end RSTART
theorem and31 (v : Int32) : ∃ q, q < 32 ∧ v &&& 31 = nI q := ⟨(v &&& 31).toBitVec.toNat, by
  rw [Int32.toBitVec_and, BitVec.toNat_and]
  exact Nat.lt_of_le_of_lt Nat.and_le_right (by decide), Int32.toBitVec_inj.mp (by show _ = BitVec.ofNat 32 _; simp)⟩
section LAWL
variable {X : zC} {E : zE} {S : zS} {kc ks : Nat} {I : Nat → Nat → Int32} {J : Nat → Nat → Int64} {R : Nat → Nat → Option Nat} {l : Launch} {b0 L : Nat} {xs : Nat → Int32} {lab : Nat → Nat} {x y out j : Nat}
set_option maxHeartbeats 4000000 in
set_option maxRecDepth 100000 in
theorem l_switch (hl : l.stackTraces = false) (hth : zTh X.2.2.2.2.2.2.2.2.2.2.2.1 X.2.2.2.2.1 X.2.2.2.2.1.heap) (ho : zA S out 10 1) (hlo : lab out = 200) (h : zOK X E l cL_law RL zTbl room_1 7) (hX : SCR X b0 L xs) (hj : 6 * j + 6 ≤ L) (hL7 : L ≤ 3072) (hk : kc + 10 ≤ room_1.cells ∧ ks + 70 ≤ room_1.slots) (hR : REL lab S I J R x y) (k : ∀ I' J' R', REL lab S I' J' R' x y → zV X E S (kc + 10) (ks + 70) (I', J', R') 594 (LV j out y x b0) []) {q : Nat} (hq : q < 32) : zV X E S kc ks (I, J, R) 40 (LV j out y x b0) [.int (nI q)] := by
  by_cases h17 : q < 17
  · rcases (show q = 0 ∨ q = 1 ∨ q = 2 ∨ q = 3 ∨ q = 4 ∨ q = 5 ∨ q = 6 ∨ q = 7 ∨ q = 8 ∨ q = 9 ∨ q = 10 ∨ q = 11 ∨ q = 12 ∨ q = 13 ∨ q = 14 ∨ q = 15 ∨ q = 16 by omega) with rfl | rfl | rfl | rfl | rfl | rfl | rfl | rfl | rfl | rfl | rfl | rfl | rfl | rfl | rfl | rfl | rfl
    · refine z_tabIn (off := 84) h 124 dL_law_40 (by decide) (by decide) (by decide) (by decide) ?_
      exact l_feed h hX hj hL7 hk hR k
    · refine z_tabIn (off := 157) h 197 dL_law_40 (by decide) (by decide) (by decide) (by decide) ?_
      exact l_end h hX hj hL7 hk hR k
    · refine z_tabIn (off := 182) h 222 dL_law_40 (by decide) (by decide) (by decide) (by decide) ?_
      exact l_fault h hX hj hL7 hk hR k
    · refine z_tabIn (off := 195) h 235 dL_law_40 (by decide) (by decide) (by decide) (by decide) ?_
      exact l_tale h hX hj hL7 hk hR k
    · refine z_tabIn (off := 208) h 248 dL_law_40 (by decide) (by decide) (by decide) (by decide) ?_
      exact l_sentences h hX hj hL7 hk hR k
    · refine z_tabIn (off := 221) h 261 dL_law_40 (by decide) (by decide) (by decide) (by decide) ?_
      exact l_sentence hl hth ho hlo h hX hj hL7 hk hR k
    · refine z_tabIn (off := 289) h 329 dL_law_40 (by decide) (by decide) (by decide) (by decide) ?_
      exact l_question h hX hj hL7 hk hR k
    · refine z_tabIn (off := 314) h 354 dL_law_40 (by decide) (by decide) (by decide) (by decide) ?_
      exact l_quarrel h hX hj hL7 hk hR k
    · refine z_tabIn (off := 327) h 367 dL_law_40 (by decide) (by decide) (by decide) (by decide) ?_
      exact l_answer h hX hj hL7 hk hR k
    · refine z_tabIn (off := 353) h 393 dL_law_40 (by decide) (by decide) (by decide) (by decide) ?_
      exact l_amount h hX hj hL7 hk hR k
    · refine z_tabIn (off := 415) h 455 dL_law_40 (by decide) (by decide) (by decide) (by decide) ?_
      exact l_idle h hX hj hL7 hk hR k
    · refine z_tabIn (off := 428) h 468 dL_law_40 (by decide) (by decide) (by decide) (by decide) ?_
      exact l_enough h hX hj hL7 hk hR k
    · refine z_tabIn (off := 441) h 481 dL_law_40 (by decide) (by decide) (by decide) (by decide) ?_
      exact l_lacking h hX hj hL7 hk hR k
    · refine z_tabIn (off := 454) h 494 dL_law_40 (by decide) (by decide) (by decide) (by decide) ?_
      exact l_strange h hX hj hL7 hk hR k
    · refine z_tabIn (off := 479) h 519 dL_law_40 (by decide) (by decide) (by decide) (by decide) ?_
      exact l_put h hX hj hL7 hk hR k
    · refine z_tabIn (off := 516) h 556 dL_law_40 (by decide) (by decide) (by decide) (by decide) ?_
      exact l_undo h hX hj hL7 hk hR k
    · refine z_tabIn (off := 529) h 569 dL_law_40 (by decide) (by decide) (by decide) (by decide) ?_
      exact l_count h hX hj hL7 hk hR k
  · refine z_tabOut h 594 dL_law_40 (Or.inr (by rw [nI_toInt (by omega)]; omega)) (by decide) ?_
    exact z_widen (by omega) (by omega) (k I J R hR)
theorem sub6 {L j : Nat} (hL : L ≤ 3072) (hj : j ≤ 513) (h : ¬ nI L - 6 < nI (6 * j)) : 6 * j + 6 ≤ L := by
  by_cases q : 6 ≤ L
  · have e : nI L - 6 = nI (L - 6) := by
      rw [show L = (L - 6) + 6 by omega, ← nI_add]
      show nI (L - 6) + 6 - 6 = nI (L - 6 + 6 - 6)
      rw [Int32.add_sub_cancel, show L - 6 + 6 - 6 = L - 6 by omega]
    rw [e, nI_ltI (by omega) (by omega)] at h
    omega
  · exfalso
    apply h
    rw [i32l.1, nI_toInt (n := 6 * j) (by omega)]
    have : (nI L - 6).toInt < 0 := by
      rcases (show L = 0 ∨ L = 1 ∨ L = 2 ∨ L = 3 ∨ L = 4 ∨ L = 5 by omega) with rfl | rfl | rfl | rfl | rfl | rfl <;> decide
    omega
set_option maxHeartbeats 4000000 in
set_option maxRecDepth 100000 in
theorem l_loop (hl : l.stackTraces = false) (hth : zTh X.2.2.2.2.2.2.2.2.2.2.2.1 X.2.2.2.2.1 X.2.2.2.2.1.heap) (ho : zA S out 10 1) (hlo : lab out = 200) (h : zOK X E l cL_law RL zTbl room_1 7) (hX : SCR X b0 L xs) (hL7 : L ≤ 3072) (fin : ∀ {kc ks : Nat} {μ : zM} {lv : List (Nat × Value)}, kc ≤ 601024 → ks ≤ 7293034 → zV X E S kc ks μ 601 lv [.int 1]) : ∀ (d j : Nat) (I : Nat → Nat → Int32) (J : Nat → Nat → Int64) (R : Nat → Nat → Option Nat), j + d = 513 → REL lab S I J R x y → zV X E S (118 + 10 * j) (2175 + 70 * j) (I, J, R) 23 (LV j out y x b0) [] := by
  have head : ∀ (j : Nat) (I : Nat → Nat → Int32) (J : Nat → Nat → Int64) (R : Nat → Nat → Option Nat), j ≤ 513 → (6 * j + 6 ≤ L → zV X E S (118 + 10 * j) (2175 + 70 * j) (I, J, R) 33 (LV j out y x b0) []) → zV X E S (118 + 10 * j) (2175 + 70 * j) (I, J, R) 23 (LV j out y x b0) [] := by
    intro j I J R hj k
    refine z_iload h dL_law_23 rfl ?_
    refine z_aload_n h dL_law_25 rfl rfl ?_
    refine z_slen h hX dL_law_26 ?_
    refine z_bipush (v := 6) h dL_law_27 (by decide) ?_
    refine z_isub h dL_law_29 ?_
    refine z_icmp_gt h 600 dL_law_30 (by decide) (fun _ => ?_) (fun c => k (sub6 hL7 hj c))
    refine z_iconst (v := 1) h dL_law_600 (by decide) ?_
    exact fin (by omega) (by omega)
  intro d
  induction d with
  | zero => intro j I J R hj hR; exact head j I J R (by omega) (fun w => absurd w (by omega))
  | succ d ih =>
    intro j I J R hj hR
    refine head j I J R (by omega) (fun hj6 => ?_)
    refine z_aload_n h dL_law_33 rfl rfl ?_
    refine z_iload h dL_law_34 rfl ?_
    refine z_sld h hX (zix_e (j := 6 * j) rfl (by omega) (by omega)) dL_law_36 ?_
    refine z_bipush (v := 31) h dL_law_37 (by decide) ?_
    refine z_iand h dL_law_39 ?_
    obtain ⟨q, hq, e⟩ := and31 (xs (6 * j))
    rw [e]
    have hk : 118 + 10 * j + 10 ≤ room_1.cells ∧ 2175 + 70 * j + 70 ≤ room_1.slots := by
      show 118 + 10 * j + 10 ≤ 601024 ∧ 2175 + 70 * j + 70 ≤ 7293034
      omega
    refine l_switch hl hth ho hlo h hX hj6 hL7 hk hR (fun I' J' R' hR' => ?_) hq
    refine z_iinc (v := nI (6 * (j + 1))) h dL_law_594 rfl (by show nI (6 * j) + nI 6 = _; rw [nI_add]; exact congrArg nI (by omega)) (by decide) ?_
    refine z_goto h 23 dL_law_597 (by decide) ?_
    exact zV_cast (z_lk (ih (j + 1) I' J' R' (by omega) hR') ⟨rfl, rfl, rfl, rfl, rfl, trivial⟩) (by omega) (by omega)
end LAWL
set_option maxHeartbeats 4000000 in
set_option maxRecDepth 100000 in
/-- the law's body -/
theorem l_body {X : zC} {E : zE} {l : Launch} {b0 L : Nat} {xs : Nat → Int32} (hl : l.stackTraces = false) (hth : zTh X.2.2.2.2.2.2.2.2.2.2.2.1 X.2.2.2.2.1 X.2.2.2.2.1.heap) (hao : zAO X.2.2.2.2.1) (h : zOK X E l cL_law RL zTbl room_1 7) (hX : SCR X b0 L xs) (hL7 : L ≤ 3072) (fin : ∀ {S : zS} {kc ks : Nat} {μ : zM} {lv : List (Nat × Value)}, kc ≤ 601024 → ks ≤ 7293034 → zV X E S kc ks μ 601 lv [.int 1]) : zV X E ([], fun _ => 0, fun _ => 0) 0 0 (fun _ _ => 0, fun _ _ => 0, fun _ _ => none) 0 [(0, .ref b0)] [] := by
  have hN0 : zNul ([], fun _ => 0, fun _ => 0) (fun _ _ => 0, fun _ _ => 0, fun _ _ => none) := fun _ _ => ⟨rfl, rfl, rfl⟩
  refine z_new (ci := 6) h hN0 rfl kw6 zdf6 kk_RL_8 kt_6 kn_RX6 (by decide) (by decide) dL_law_0 (fun x S1 hx hs1 xO hN1 => ?_)
  refine z_dup h dL_law_3 rfl ?_
  refine z_callNS h hao (c_X6_init l xO hN1) gm_RL_15 rfl ⟨rfl, rfl⟩ kn_RX6 km_RL_15 ki_X6_init rfl 0 (by decide +kernel) ⟨by decide, by decide⟩ rfl rfl (Nat.le_of_ble_eq_true rfl) ⟨by decide, by decide⟩ dL_law_4 (fun S2 ν hp => ?_)
  obtain ⟨labC, t, b, rd, ch, sa, na, su, lo, fl, st, pa, ak, dr, pa2, ak2, rw, rw2, lw, rs, le, g, R2, rfl, G2, hN2, hL⟩ := hp
  refine z_astore_n h dL_law_7 rfl (by decide) ?_
  refine z_new (ci := 7) h hN2 rfl kw7 zdf7 kk_RL_16 kt_7 kn_RX7 (by decide) (by decide) dL_law_8 (fun y S3 hy hs3 yO hN3 => ?_)
  refine z_dup h dL_law_11 rfl ?_
  refine z_callNS h hao (c_X7_init l yO hN3) gm_RL_18 rfl ⟨rfl, rfl⟩ kn_RX7 km_RL_18 ki_X7_init rfl 0 (by decide +kernel) ⟨by decide, by decide⟩ rfl rfl (Nat.le_of_ble_eq_true rfl) ⟨by decide, by decide⟩ dL_law_12 (fun S4 ν hp => ?_)
  obtain ⟨labM, tp, td, rm, ra, am, ks, kn, ro, ba, be, R4, rfl, G4, hN4, hM, hM9⟩ := hp
  refine z_astore_n h dL_law_15 rfl (by decide) ?_
  refine z_iconst (v := 1) h dL_law_16 (by decide) ?_
  refine z_narJ h hN4 (n := 1) (by decide) (by decide) (by decide) (by decide) dL_law_17 (fun out S5 hout hs5 outA hN5 => ?_)
  refine z_astore_n h dL_law_19 rfl (by decide) ?_
  refine z_iconst (v := 0) h dL_law_20 (by decide) ?_
  refine z_istore h dL_law_21 (by decide) ?_
  have s25 : zSub S2 S5 := hs3.trans (G4.1.trans hs5)
  have hyS : ∀ a, a ∈ S2.1 → a ≠ y := fun a ha => ne_in ha hy
  obtain ⟨lab, hlab⟩ : ∃ lab : Nat → Nat, lab = fun a => if a ∈ S2.1 then labC a else if a ∈ S4.1 then labM a else 200 := ⟨_, rfl⟩
  have hL' : CL lab 10 20 S5 R4 x t b rd ch sa na su lo fl st pa ak dr pa2 ak2 rw rw2 lw rs le g := CL_mv hL s25 (fun a ha => G4.2 a (hs3 a ha).1 (hyS a ha)) (fun a ha => by rw [hlab]; exact if_pos ha)
  have hM' : ML lab S5 R4 y tp td rm ra am ks kn ro ba be := ML_mv hM hs5 rfl (fun a ha hc => by
    have ha2 : a ∉ S2.1 := fun q => by
      rcases hc with hc | hc
      · exact hc (hM9 a (hs3 a q).1)
      · exact hyS a q hc
    rw [hlab]
    exact (if_neg ha2).trans (if_pos ha))
  have hlo : lab out = 200 := by
    rw [hlab]
    exact (if_neg ((hs3.trans G4.1).no hout)).trans (if_neg hout)
  have hR := REL_0 hL' hM' rfl (J := fun _ _ => 0) rfl
  exact zV_cast (z_lk (l_loop hl hth outA hlo h hX hL7 fin 513 0 _ _ _ rfl hR) ⟨rfl, rfl, rfl, rfl, rfl, trivial⟩) rfl rfl
