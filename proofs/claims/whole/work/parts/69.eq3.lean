/-! BOTH SIDES SAY THE SAME: sets of facts by bits -/
theorem bt_gb10 : ∀ n : Nat, n < 1024 → ∀ i, i < 10 → bt (nI n) i = gb (nI n) i := by decide +kernel
section EQ3
variable {p : Nat → Nat → Int32} {m : Nat} {un : Int32} {st st' : Nat → Bool} {na : Nat} {ob : Option Nat}
theorem SBc_congr {s s' : Int32} (hm : m ≤ 10) (h : ∀ i, i < 10 → (chB p m un s i = chB p m un s' i)) : SBc p m un na ob s = SBc p m un na ob s' := by
  unfold SBc
  have : ∀ i, i ≤ 10 → gtS p m (chB p m un s) i = gtS p m (chB p m un s') i := by
    intro i
    induction i with
    | zero => intro _; rfl
    | succ i ih =>
      intro hi
      unfold gtS
      rw [h i (by omega), ih (by omega)]
  rw [this 10 (Nat.le_refl _)]
theorem AB_SBc (hW : WT p m) (hq : QC p m = -1) {s : Int32} (hs : ∀ i, i < 10 → bt s i = gb s i) : AB p m un (bt s) na ob = SBc p m un na ob s := by
  have hm := hW.1
  have hok : ∀ i, i ≤ m → (gth p m un (bt s) i).2 = true := fun i hi => gth_sub hW hi hi (QC_ok hW hq un i hi) (fun j hj h => ⟨hj, by
    unfold sel aT
    unfold sel at h
    rw [Bool.and_eq_true, Bool.and_eq_true] at h
    rw [h.1.2, h.2]; rfl⟩)
  unfold AB SBc
  rw [hok m (Nat.le_refl _), Bool.true_and, gth_gtS (s2 := chB p m un s) (fun j hj => by
    unfold chB sel
    rw [gb_and, gb_foP hm, hs j (by omega), Bool.and_assoc]
    congr 1
    rw [Bool.eq_iff_iff]
    simp only [decide_eq_true_eq, Bool.and_eq_true]
    exact ⟨fun w => w.2, fun w => ⟨hj, w⟩⟩) hok, gtS_more (i := m) (j := 10) hm (fun n h1 _ => by
    cases hh : chB p m un s n with
    | false => rfl
    | true => have := (chB_ok hm hh).1; omega)]
theorem AB_all (hm : m ≤ 10) : AB p m un (bt (al m)) na ob = AB p m un aT na ob := by
  unfold AB
  rw [gth_all hm]
/-- a question that is settled -/
theorem HA_hasC {t : Int32} {u : Nat} (hW : WT p m) : (HA t p m (nI u) na ob = true) ↔ hasC t p m u na ob := by
  have hm := hW.1
  unfold HA hasC rhoQ
  rw [AB_all hm]
  unfold AB
  simp only [Bool.and_eq_true, decide_eq_true_eq, QA_QC hm]
  exact ⟨fun h => ⟨h.1.1, h.1.2, h.2.2⟩, fun h => ⟨⟨h.1, h.2.1⟩, QC_ok hW h.2.1 (nI u) m (Nat.le_refl _), h.2.2⟩⟩
theorem AB_rhoQ {u : Nat} (hW : WT p m) (hq : QC p m = -1) : AB p m (nI u) (bt (al m)) na ob = sd (rhoQ p m u na ob) := by
  have hm := hW.1
  rw [AB_all hm]
  unfold AB rhoQ
  rw [QC_ok hW hq (nI u) m (Nat.le_refl _), Bool.true_and]
theorem lkq_lcq {u n : Nat} (hW : WT p m) (hna : na < 8) (hob : ∀ nb, ob = some nb → nb < 8 ∧ nb ≠ na) (hn : n < 8) (hu : sd (rhoQ p m u na ob) = false) : lkq p m (nI u) na ob n = lcq p m u na ob n := by
  have hm := hW.1
  unfold lkq lcq
  rw [gth_all hm]
  exact lk_eq (gth_ri hW (nI u) aT m (Nat.le_refl _)).1 (kc_le (kk_KC (p := p) hm)).1 hna hob hn hu
/-- more facts settle more -/
theorem SBc_sub (hW : WT p m) (hq : QC p m = -1) (hna : na < 8) (hob : ∀ nb, ob = some nb → nb < 8 ∧ nb ≠ na) {s s' : Int32} (hs : ∀ i, i < 10 → bt s i = gb s i) (hs' : ∀ i, i < 10 → bt s' i = gb s' i) (hsub : ∀ i, i < m → p i 0 < 5 → p i 3 = un → gb s i = true → gb s' i = true) (h : SBc p m un na ob s = true) : SBc p m un na ob s' = true := by
  have hm := hW.1
  rw [← AB_SBc hW hq hs] at h
  rw [← AB_SBc hW hq hs']
  have hok : ∀ s, (gth p m un (bt s) m).2 = true := fun s => gth_sub hW (Nat.le_refl _) (Nat.le_refl _) (QC_ok hW hq un m (Nat.le_refl _)) (fun j hj h => ⟨hj, by
    unfold sel aT
    unfold sel at h
    rw [Bool.and_eq_true, Bool.and_eq_true] at h
    rw [h.1.2, h.2]; rfl⟩)
  unfold AB at h ⊢
  rw [hok, Bool.true_and] at h ⊢
  refine sd_mono (gth_ri hW un (bt s) m (Nat.le_refl _)).1 (gth_ri hW un (bt s') m (Nat.le_refl _)).1 (qrow_prim hna hob) (fun x hx => ?_) h
  rw [(gth_sem hW m (Nat.le_refl _)).1 (hok s) x]
  rw [(gth_sem hW m (Nat.le_refl _)).1 (hok s') x] at hx
  intro j hj hsj
  refine hx j hj ?_
  unfold sel at hsj ⊢
  simp only [Bool.and_eq_true, decide_eq_true_eq] at hsj ⊢
  rw [hs j (by omega)] at hsj
  exact ⟨⟨by rw [hs' j (by omega)]; exact hsub j hj hsj.1.2 hsj.2 hsj.1.1, hsj.1.2⟩, hsj.2⟩
theorem qrow_nz (hna : na < 8) (hob : ∀ nb, ob = some nb → nb < 8 ∧ nb ≠ na) : sd (qrow na ob) = false := by
  cases h : sd (qrow na ob) with
  | false => rfl
  | true =>
    have := sd_iff.mp h na hna
    cases ob with
    | none => rw [show qrow na none = gr na na (-1) 0 1 0 from rfl, gr_a hna (Or.inr rfl)] at this; exact absurd this (by decide)
    | some nb =>
      have hb := hob nb rfl
      rw [show qrow na (some nb) = gr na nb (-1) (-1) 1 0 from rfl, gr_a hna (Or.inl (Ne.symm hb.2))] at this; exact absurd this (by decide)
end EQ3
