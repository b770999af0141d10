/-! BOTH SIDES SAY THE SAME: the fewest facts -/
section EQ5
variable {p : Nat → Nat → Int32} {m u na : Nat} {ob : Option Nat}
theorem hi_fc (hm : m ≤ 10) (i : Nat) (h : 10 ≤ i) : gb (fcP p m) i = false := by rw [gb_fcP hm, decide_eq_false (by omega)]
theorem hi_al (hm : m ≤ 10) (i : Nat) (h : 10 ≤ i) : gb (al m) i = false := by
  by_cases w : i < 32
  · rw [gb_al m (by omega) i w, decide_eq_false (by omega)]
  · exact gb_32 (by omega)
theorem hi_and {x y : Int32} (h : ∀ i, 10 ≤ i → gb x i = false) (i : Nat) (hi : 10 ≤ i) : gb (x &&& y) i = false := by rw [gb_and, h i hi, Bool.false_and]
theorem ch_al (hm : m ≤ 10) {un : Int32} (y : Int32) {i : Nat} (hi : i < 10) : chB p m un (fcP p m &&& y) i = chB p m un (al m &&& y) i := by
  unfold chB
  rw [gb_and, gb_and, gb_and, gb_and, gb_foP hm, gb_fcP hm, gb_al m (by omega) i (by omega)]
  by_cases w : i < m ∧ p i 0 < 5 ∧ p i 3 = un
  · rw [decide_eq_true w, decide_eq_true w.1, decide_eq_true ⟨w.1, w.2.1⟩]
  · rw [decide_eq_false w, Bool.and_false, Bool.and_false]
/-- idle facts: the same on both sides -/
theorem id_eq {un : Int32} (hW : WT p m) (hq : QC p m = -1) : idM p (fun st => AB p m un (bt st) na ob) (al m) m = idM p (SBc p m un na ob) (fcP p m) m := by
  have hm := hW.1
  refine idM_congr (fun i hi _ => ?_)
  show AB p m un (bt _) na ob = _
  rw [AB_SBc hW hq (bt_gbL (hi_and (hi_al hm)))]
  exact SBc_congr hm (fun j hj => (ch_al hm _ hj).symm)
theorem sb_all (hW : WT p m) (hq : QC p m = -1) (h : sd (rhoQ p m u na ob) = true) : SBc p m (nI u) na ob (fcP p m) = true := by
  have hm := hW.1
  rw [← AB_rhoQ hW hq, AB_SBc hW hq (bt_gbL (hi_al hm))] at h
  rw [← h]
  refine SBc_congr hm (fun j hj => ?_)
  have := ch_al (p := p) hm (un := nI u) (-1) hj
  rw [show fcP p m &&& -1 = fcP p m from gb_ext (fun i hi => by rw [gb_and, show gb (-1) i = true by { unfold gb; rw [show (-1 : Int32).toBitVec = BitVec.allOnes 32 from rfl, BitVec.getLsbD_allOnes, decide_eq_true hi] }, Bool.and_true]), show al m &&& -1 = al m from gb_ext (fun i hi => by rw [gb_and, show gb (-1) i = true by { unfold gb; rw [show (-1 : Int32).toBitVec = BitVec.allOnes 32 from rfl, BitVec.getLsbD_allOnes, decide_eq_true hi] }, Bool.and_true])] at this
  exact this
theorem sb_none (hm : m ≤ 10) (hna : na < 8) (hob : ∀ nb, ob = some nb → nb < 8 ∧ nb ≠ na) {un s : Int32} (h : ∀ i, i < 10 → gb s i = false) : SBc p m un na ob s = false := by
  unfold SBc
  rw [gtS_more (i := 0) (j := 10) (by omega) (fun n _ hn => by unfold chB; rw [gb_and, h n hn, Bool.false_and])]
  exact qrow_nz hna hob
theorem fw_eq (hW : WT p m) (hq : QC p m = -1) (hna : na < 8) (hob : ∀ nb, ob = some nb → nb < 8 ∧ nb ≠ na) (h : sd (rhoQ p m u na ob) = true) : enL (fcP p m) (fun st => AB p m (nI u) (bt st) na ob) (2 ^ m) (fcP p m) = fwV p m (nI u) na ob (fcP p m) := by
  have hm := hW.1
  have hM : 2 ^ m ≤ 1024 := Nat.pow_le_pow_right (n := 2) (by decide) hm
  have hSn : ∀ s, s < 1024 → AB p m (nI u) (bt (nI s)) na ob = SBc p m (nI u) na ob (nI s) := fun s hs => AB_SBc hW hq (bt_gb10 s hs)
  obtain ⟨fN, hfN, hfc⟩ := gb_lt (x := fcP p m) (hi_fc hm)
  have hgood : GSn (fcP p m) (fun st => AB p m (nI u) (bt st) na ob) fN := ⟨hfN, fun i hi => by rw [hfc]; exact hi, by
    show AB p m (nI u) (bt (nI fN)) na ob = true
    rw [hSn fN hfN, ← hfc]; exact sb_all hW hq h⟩
  obtain ⟨v, hv, hg, hmin⟩ := enL_min (fc := fcP p m) (q := fun st => AB p m (nI u) (bt st) na ob) hM (2 ^ m) (Nat.le_refl _) fN hgood (fun s h1 h2 => absurd h2 (by omega))
  have hlt : ∀ s, GSn (fcP p m) (fun st => AB p m (nI u) (bt st) na ob) s → s < 2 ^ m := fun s hs => Nat.lt_pow_two_of_testBit s (fun i hi => by
    cases q : s.testBit i with
    | false => rfl
    | true =>
      have hi32 : i < 32 := by
        refine Nat.not_le.mp (fun w => ?_)
        have : s.testBit i = false := Nat.testBit_lt_two_pow (Nat.lt_of_lt_of_le hs.1 (Nat.le_trans (show 1024 ≤ 2 ^ 32 by decide) (Nat.pow_le_pow_right (by decide) w)))
        rw [this] at q; exact Bool.noConfusion q
      have := hs.2.1 i (by rw [gb_nI, decide_eq_true hi32, q]; rfl)
      rw [gb_fcP hm] at this
      have := (of_decide_eq_true this).1
      omega)
  have hqv : SBc p m (nI u) na ob (nI v) = true := by rw [← hSn v hg.1]; exact hg.2.2
  obtain ⟨hus, husN⟩ := foP_nI (p := p) (un := nI u) hm
  have hlow : ∀ {s : Nat}, s < 1024 → ∀ i, gb (nI s) i = true → i < 10 := by
    intro s hs i hi
    refine Nat.not_le.mp (fun w => ?_)
    rw [gb_nI, Nat.testBit_lt_two_pow (Nat.lt_of_lt_of_le hs (Nat.le_trans (show 1024 ≤ 2 ^ 10 by decide) (Nat.pow_le_pow_right (by decide) w))), Bool.and_false] at hi
    exact Bool.noConfusion hi
  -- it holds only facts of the unit
  have hvu : ∀ i, gb (nI v) i = true → gb (foP p (nI u) m) i = true := by
    intro i hi
    cases hh : gb (foP p (nI u) m) i with
    | true => rfl
    | false =>
      exfalso
      have hgb : ∀ j, gb (nI (v &&& (foP p (nI u) m).toNatClampNeg)) j = (gb (nI v) j && gb (foP p (nI u) m) j) := by
        intro j
        rw [hus, nI_clamp (by omega), gb_nI, gb_nI, gb_nI, Nat.testBit_and]
        cases decide (j < 32) <;> simp
      have hlt2 : v &&& (foP p (nI u) m).toNatClampNeg < 1024 := Nat.lt_of_le_of_lt Nat.and_le_left hg.1
      have hg2 : GSn (fcP p m) (fun st => AB p m (nI u) (bt st) na ob) (v &&& (foP p (nI u) m).toNatClampNeg) := ⟨hlt2, fun j hj => by
        rw [hgb, Bool.and_eq_true] at hj
        exact hg.2.1 j hj.1, by
        show AB p m (nI u) (bt (nI (v &&& (foP p (nI u) m).toNatClampNeg))) na ob = true
        rw [hSn _ hlt2, ← hqv]
        refine SBc_congr hm (fun j hj => ?_)
        unfold chB
        rw [gb_and, gb_and, hgb, Bool.and_assoc, Bool.and_self]⟩
      have hL := hmin _ (hlt _ hg2) hg2
      have : pcN (v &&& (foP p (nI u) m).toNatClampNeg) < pcN v := cN_lt (j := i) (fun j _ hj => by
        have hj : gb (nI (v &&& (foP p (nI u) m).toNatClampNeg)) j = true := hj
        rw [hgb, Bool.and_eq_true] at hj
        exact hj.1) (hlow hg.1 i hi) (by
        show gb (nI (v &&& (foP p (nI u) m).toNatClampNeg)) i = false
        rw [hgb, hh, Bool.and_false]) hi
      unfold LSn at hL
      omega
  -- it holds every fact that is not idle
  have hvn : ∀ i, gb (fcP p m &&& (idM p (SBc p m (nI u) na ob) (fcP p m) m ^^^ -1)) i = true → gb (nI v) i = true := by
    intro i hi
    by_cases hi32 : i < 32
    · rw [gb_and, gb_not hi32, gb_fcP hm, gb_idM hm, Bool.and_eq_true, decide_eq_true_eq] at hi
      rw [decide_eq_true hi.1.1, decide_eq_true hi.1.2, Bool.true_and, Bool.true_and, Bool.not_eq_true'] at hi
      cases hh : gb (nI v) i with
      | true => rfl
      | false =>
        exfalso
        have := SBc_sub hW hq hna hob (un := nI u) (s := nI v) (s' := fcP p m &&& ((1 : Int32) <<< (nI i &&& 31) ^^^ -1)) (bt_gb10 v hg.1) (bt_gbL (hi_and (hi_fc hm))) (fun j hj h1 h2 h3 => by
          rw [gb_and, gb_fcP hm, gb_not (by omega), gb_1 (by omega), decide_eq_true ⟨hj, h1⟩, Bool.true_and]
          have : j ≠ i := fun w => by rw [w, hh] at h3; exact Bool.noConfusion h3
          rw [decide_eq_false this]; rfl) hqv
        rw [hi.2] at this
        exact Bool.noConfusion this
    · rw [gb_32 (by omega)] at hi; exact Bool.noConfusion hi
  have hp1 : 1 ≤ pcN v := by
    refine Nat.pos_of_ne_zero (fun w => ?_)
    have := sb_none (p := p) hm hna hob (un := nI u) (s := nI v) (cN_0 w)
    rw [hqv] at this
    exact Bool.noConfusion this
  have hpm : pcN v ≤ m := by
    rw [← pcN_m m (by omega)]
    refine cN_le (fun i hi hb => ?_)
    have := hg.2.1 i hb
    rw [gb_fcP hm] at this
    exact decide_eq_true (of_decide_eq_true this).1
  have hv1 : 1 ≤ v := by
    refine Nat.pos_of_ne_zero (fun w => ?_)
    rw [w] at hp1
    exact absurd hp1 (by decide)
  have hvz : v ≤ (foP p (nI u) m).toNatClampNeg := sub_le (fun i hi => by rw [← hus]; exact hvu i hi) hg.1
  have hc : ∀ k s, s ≤ (foP p (nI u) m).toNatClampNeg → k ≤ 10 → ∀ w, skC (SBc p m (nI u) na ob) (fcP p m &&& (idM p (SBc p m (nI u) na ob) (fcP p m) m ^^^ -1)) (foP p (nI u) m) k s = some w → pcN s = k ∧ GSn (fcP p m) (fun st => AB p m (nI u) (bt st) na ob) s := by
    intro k s hs hk w hw
    unfold skC at hw
    by_cases c : bcJ (nI s) = nI k ∧ nI s &&& (fcP p m &&& (idM p (SBc p m (nI u) na ob) (fcP p m) m ^^^ -1)) = (fcP p m &&& (idM p (SBc p m (nI u) na ob) (fcP p m) m ^^^ -1)) ∧ nI s &&& (foP p (nI u) m ^^^ -1) = 0 ∧ SBc p m (nI u) na ob (nI s) = true
    · have hs2 : s < 1024 := by omega
      have a := pcN_10 s
      refine ⟨nI_inj (by omega) (by omega) ((pcN_bc s hs2).symm.trans c.1), hs2, fun i hi => ?_, ?_⟩
      · have := gb_sub.mp c.2.2.1 i hi
        rw [gb_foP hm] at this
        have := of_decide_eq_true this
        rw [gb_fcP hm]
        exact decide_eq_true ⟨this.1, this.2.1⟩
      · show AB p m (nI u) (bt (nI s)) na ob = true
        rw [hSn s hs2]; exact c.2.2.2
    · rw [if_neg c] at hw
      cases hw
  have hcv : skC (SBc p m (nI u) na ob) (fcP p m &&& (idM p (SBc p m (nI u) na ob) (fcP p m) m ^^^ -1)) (foP p (nI u) m) (pcN v) v = some v := if_pos ⟨pcN_bc v hg.1, gb_sup.mpr hvn, gb_sub.mpr hvu, hqv⟩
  have hno : ∀ {o : Option Nat}, (∀ w, o ≠ some w) → o = none := fun {o} w => by
    cases o with
    | none => rfl
    | some x => exact absurd rfl (w x)
  rw [hfc] at hv
  rw [hfc]
  rw [hv, ← hfc]
  have hin : skS (SBc p m (nI u) na ob) (fcP p m &&& (idM p (SBc p m (nI u) na ob) (fcP p m) m ^^^ -1)) (foP p (nI u) m) (foP p (nI u) m).toNatClampNeg (pcN v) = some v := by
    unfold skS
    exact sFn_some (j := v) hv1 (by omega) hcv (fun n h1 h2 => hno (fun w hw => by
      obtain ⟨e1, e2⟩ := hc (pcN v) n (by omega) (pcN_10 v) w hw
      have := hmin n (hlt n e2) e2
      unfold LSn at this
      omega))
  have hout : ∀ n, 1 ≤ n → n < pcN v → skS (SBc p m (nI u) na ob) (fcP p m &&& (idM p (SBc p m (nI u) na ob) (fcP p m) m ^^^ -1)) (foP p (nI u) m) (foP p (nI u) m).toNatClampNeg n = none := by
    intro n h1 h2
    unfold skS
    exact sFn_none (fun s h3 h4 => hno (fun w hw => by
      obtain ⟨e1, e2⟩ := hc n s (by omega) (by omega) w hw
      have := hmin s (hlt s e2) e2
      unfold LSn at this
      omega))
  unfold fwV
  rw [sFn_some (j := pcN v) hp1 (by omega) hin hout]
  rfl
end EQ5
