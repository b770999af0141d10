/-! A WHOLE TAPE -/
/-- the stage, the facts' bits behind the first i sentences -/
def stF (p : Nat → Nat → Int32) : Nat → Int32
  | 0 => 0
  | i + 1 => if p i 0 ≤ 4 then stF p i else stF p i + 1
def fbF (p : Nat → Nat → Int32) : Nat → Int32
  | 0 => 0
  | i + 1 => if p i 0 ≤ 4 then fbF p i ||| (1 : Int32) <<< (nI i &&& 31) else fbF p i
def rec7 (v : Int32 × zR) (s : Int32) (b : Nat) : Nat → Int32
  | 0 => v.2.1
  | 1 => v.1
  | 2 => v.2.2.1
  | 3 => v.2.2.2.1
  | 4 => v.2.2.2.2
  | 5 => s
  | _ => nI b
def pset (p : Nat → Nat → Int32) (k : Nat) (r : Nat → Int32) : Nat → Nat → Int32 := fun i => if i = k then r else p i
theorem stF_congr {p p' : Nat → Nat → Int32} : ∀ {k : Nat}, (∀ i, i < k → p' i 0 = p i 0) → stF p' k = stF p k
  | 0, _ => rfl
  | k + 1, h => by
    unfold stF
    rw [h k (by omega), stF_congr (fun i hi => h i (by omega))]
theorem fbF_congr {p p' : Nat → Nat → Int32} : ∀ {k : Nat}, (∀ i, i < k → p' i 0 = p i 0) → fbF p' k = fbF p k
  | 0, _ => rfl
  | k + 1, h => by
    unfold fbF
    rw [h k (by omega), fbF_congr (fun i hi => h i (by omega))]
/-- what is behind 'how' -/
def prA (g : Nat → Int32) (n k : Nat) (p : Nat → Nat → Int32) (o : Option zR × zQ) : Nat ⊕ (Nat × (Nat → Nat → Int32) × zR) := match o.1 with
  | some v => if n ≤ o.2.1 then .inr (k, p, v) else .inl o.2.1
  | none => .inl o.2.1
/-- the fault's place, or the sentences and what is asked; d sentences may come yet -/
def prs (g : Nat → Int32) (n : Nat) : Nat → Nat → zQ → (Nat → Nat → Int32) → Nat ⊕ (Nat × (Nat → Nat → Int32) × zR)
  | 0, k, q, p => if mW g q.1 q.2 w_how = true then prA g n k p (sAsk g n (nx g n q)) else .inl q.1
  | d + 1, k, q, p => if mW g q.1 q.2 w_how = true then prA g n k p (sAsk g n (nx g n q)) else match sSen g n q with
    | (some v, q') => prs g n d (k + 1) q' (pset p k (rec7 v (stF p k) q.1))
    | (none, q') => .inl q'.1
def prs0 (g : Nat → Int32) (n : Nat) : Nat ⊕ (Nat × (Nat → Nat → Int32) × zR) := prs g n 10 0 (skp g n 0, wnd g n (skp g n 0)) (fun _ _ => 0)
/-- the story st holds k sentences p -/
def STY (I : Nat → Nat → Int32) (st : Nat) (rw : Nat → Nat) (k : Nat) (p : Nat → Nat → Int32) : Prop := k ≤ 10 ∧ I st 2 = nI k ∧ I st 3 = stF p k ∧ I st 4 = fbF p k ∧ ∀ i, i < k → ∀ j, j < 7 → I (rw i) j = p i j
/-- nothing but the tape's fields and the story has changed -/
def frS (t ak st : Nat) (rw : Nat → Nat) (I I' : Nat → Nat → Int32) : Prop := ∀ a, a ≠ t → a ≠ ak → a ≠ st → (∀ i, i < 10 → a ≠ rw i) → I' a = I a
def readP (S : zS) (J : Nat → Nat → Int64) (R : Nat → Nat → Option Nat) (I : Nat → Nat → Int32) (t b n st ak : Nat) (rw : Nat → Nat) (r : Int32) (ν : zM) : Prop := ∃ I', ν = (I', J, R) ∧ (∃ f e, TP S R I' t b n f e) ∧ I' b = I b ∧ frS t ak st rw I I' ∧ match prs0 (I b) n with
  | .inl x => r = nI x ∧ x ≤ n
  | .inr (k, p, v) => r = -1 ∧ STY I' st rw k p ∧ I' st 5 = 1 ∧ I' ak 0 = v.1 ∧ I' ak 1 = v.2.1 ∧ I' ak 2 = v.2.2.1 ∧ I' ak 3 = v.2.2.2 ∧ I' ak 4 = (if v.1 = 2 then 0 else stF p k)

set_option maxHeartbeats 4000000 in
set_option maxRecDepth 100000 in
theorem c_X2_read (l : Launch) {E : zE} {S : zS} {I : Nat → Nat → Int32} {J : Nat → Nat → Int64} {R : Nat → Nat → Option Nat} {rd t b n st pa ak : Nat} {rw : Nat → Nat} (f1 : zO S rd 2) (f2 : R rd 0 = some t) (h1 : zO S t 5) (h2 : R t 0 = some b) (h3 : zA S b 9 400) (h4 : I t 1 = nI n) (h7 : n ≤ 400) (hY : SY S R st pa ak rw) : zIP l yX2_read wsX2_read rmX2_read E S [.ref rd, .ref st] (I, J, R) (readP S J R I t b n st ak rw) := by
  refine z_metIP (cc := cX2_read) (maxL := 4) (ty := .int) (by decide) rfl (Nat.le_of_ble_eq_true rfl) (fun X h ret => ?_)
  show zV X E S 0 0 (I, J, R) 0 _ []
  obtain ⟨y1, y2, y3, y4, y5, y6, y7, y8⟩ := id hY
  have n2 := hY.n2
  have n3 : st ≠ t := fun q => absurd (y1.2.symm.trans (q ▸ h1.2)) (by decide)
  have n4 : ak ≠ t := fun q => absurd (y5.2.1.symm.trans (q ▸ h1.2)) (by decide)
  have n5 : ak ≠ b := fun q => absurd (y5.2.2.symm.trans (q ▸ h3.2.2)) (by decide)
  have n6 : st ≠ b := fun q => absurd (y1.2.symm.trans (q ▸ h3.2.1)) (by decide)
  have hbt : b ≠ t := fun q => absurd (h3.2.1.symm.trans (q ▸ h1.2)) (by decide)
  have nr : ∀ i, i < 10 → rw i ≠ t ∧ rw i ≠ b ∧ rw i ≠ st := fun i hi => by
    have r := (y6 i hi).2
    refine ⟨fun q => ?_, fun q => ?_, fun q => ?_⟩
    · exact absurd (r.2.1.symm.trans (q ▸ h1.2)) (by decide)
    · exact absurd (r.2.2.symm.trans (q ▸ h3.2.2)) (by decide)
    · exact absurd (r.2.1.symm.trans (q ▸ y1.2)) (by decide)
  obtain ⟨g, hg⟩ : ∃ g, g = I b := ⟨_, rfl⟩
  have L13 : ∀ (d k : Nat) (q : zQ) (p : Nat → Nat → Int32) (I1 : Nat → Nat → Int32), k + d = 10 → TP S R I1 t b n q.1 q.2 → I1 b = g → STY I1 st rw k p → I1 st 5 = 0 → frS t ak st rw I I1 → prs0 g n = prs g n d k q p → zV X E S 0 0 (I1, J, R) 13 [(0, .ref rd), (1, .ref st), (2, .int (nI k))] [] := by
    have END : ∀ (k : Nat) (q : zQ) (p : Nat → Nat → Int32) (I1 : Nat → Nat → Int32) (x : Nat), k ≤ 10 → TP S R I1 t b n q.1 q.2 → I1 b = g → frS t ak st rw I I1 → prs0 g n = .inl q.1 → zV X E S 0 0 (I1, J, R) 94 [(0, .ref rd), (1, .ref st), (2, .int (nI k))] [] := by
      intro k q p I1 x hk hT hb hf hpr
      refine z_aload_n h dX2_read_94 rfl rfl ?_
      refine z_getR h (by assumption) rfl kw2 0 (by decide) rfl (by assumption) kf_RX2_9 dX2_read_95 ?_
      refine z_callVI h (c_X5_start l h1) (by assumption) rfl gm_RX2_39 rfl ⟨rfl, rfl⟩ 0 (by decide +kernel) ⟨by decide, by decide⟩ rfl rfl (Nat.le_of_ble_eq_true rfl) ⟨Nat.zero_le _, Nat.zero_le _⟩ dX2_read_98 ?_
      rw [hT.2.2.2.2.1]
      refine ret (r := nI q.1) ⟨I1, rfl, ⟨_, _, hT⟩, hb.trans hg, hf, ?_⟩ dX2_read_101 rfl
      rw [← hg, hpr]
      exact ⟨rfl, Nat.le_trans hT.2.2.2.2.2.2.2.1 hT.2.2.2.2.2.2.2.2⟩
    have HOW : ∀ (k : Nat) (q : zQ) (p : Nat → Nat → Int32) (I1 : Nat → Nat → Int32), k ≤ 10 → TP S R I1 t b n q.1 q.2 → I1 b = g → STY I1 st rw k p → I1 st 5 = 0 → frS t ak st rw I I1 → prs0 g n = prA g n k p (sAsk g n q) → zV X E S 0 0 (I1, J, R) 31 [(0, .ref rd), (1, .ref st), (2, .int (nI k))] [] := by
      intro k q p I1 hk hT hb hST h50 hf hpr
      refine z_aload_n h dX2_read_31 rfl rfl ?_
      refine z_aload_n h dX2_read_32 rfl rfl ?_
      refine z_callVIP h (c_X2_question l (I := I1) ⟨hT, hb, fr_rf⟩ f1 f2 h1 hY) (by assumption) rfl gm_RX2_31 rfl ⟨rfl, rfl⟩ 1 (by decide +kernel) ⟨by decide, by decide⟩ rfl rfl (Nat.le_of_ble_eq_true rfl) ⟨Nat.zero_le _, Nat.zero_le _⟩ dX2_read_33 (fun r ν hν => ?_)
      obtain ⟨I2, rfl, hT2, hb2, hfr2, hm⟩ := hν
      have hf2 : frS t ak st rw I I2 := fun a a1 a2 a3 a4 => (hfr2 a (by simp [a1, a2, a3])).trans (hf a a1 a2 a3 a4)
      have FL : ∀ lv, prs0 g n = .inl (sAsk g n q).2.1 → lvg lv 0 = some (.ref rd) → zV X E S 0 0 (I2, J, R) 63 lv [] := by
        intro lv hpr h0
        refine z_aload_n h dX2_read_63 rfl h0 ?_
        refine z_getR h (by assumption) rfl kw2 0 (by decide) rfl (by assumption) kf_RX2_9 dX2_read_64 ?_
        refine z_callVI h (c_X5_start l h1) (by assumption) rfl gm_RX2_39 rfl ⟨rfl, rfl⟩ 0 (by decide +kernel) ⟨by decide, by decide⟩ rfl rfl (Nat.le_of_ble_eq_true rfl) ⟨Nat.zero_le _, Nat.zero_le _⟩ dX2_read_67 ?_
        rw [hT2.2.2.2.2.1]
        refine ret ⟨I2, rfl, ⟨_, _, hT2⟩, hb2.trans hg, hf2, ?_⟩ dX2_read_70 rfl
        rw [← hg, hpr]
        exact ⟨rfl, Nat.le_trans hT2.2.2.2.2.2.2.2.1 hT2.2.2.2.2.2.2.2.2⟩
      rcases hv : (sAsk g n q).1 with _ | v
      · rw [hv] at hm
        have hr0 : r = 0 := hm.1
        subst hr0
        refine z_if_eq h 53 dX2_read_36 (by decide) (fun _ => ?_) (fun c => absurd rfl c)
        refine z_iconst (v := 0) h dX2_read_53 (by decide) ?_
        refine z_istore_n h dX2_read_54 rfl (by decide) ?_
        refine z_iload_n h dX2_read_55 rfl rfl ?_
        refine z_if_eq h 63 dX2_read_56 (by decide) (fun _ => ?_) (fun c => absurd rfl c)
        refine FL _ ?_ rfl
        rw [hpr]; unfold prA; rw [hv]
      · rw [hv] at hm
        obtain ⟨hr1, a0, a1, a2, a3, a4, a5, a6⟩ := hm
        subst hr1
        refine z_if_eq h 53 dX2_read_36 (by decide) (fun c => absurd c (by decide)) (fun _ => ?_)
        refine z_aload_n h dX2_read_39 rfl rfl ?_
        refine z_getR h (by assumption) rfl kw2 0 (by decide) rfl (by assumption) kf_RX2_9 dX2_read_40 ?_
        refine z_callVI h (c_X5_isOver l h1) (by assumption) rfl gm_RX2_35 rfl ⟨rfl, rfl⟩ 0 (by decide +kernel) ⟨by decide, by decide⟩ rfl rfl (Nat.le_of_ble_eq_true rfl) ⟨Nat.zero_le _, Nat.zero_le _⟩ dX2_read_43 ?_
        rw [hT2.2.2.2.1, hT2.2.2.2.2.1]
        refine z_if_eq h 53 dX2_read_46 (by decide) (fun c46 => ?_) (fun c46 => ?_)
        · have c46 := of_decide_eq_false (b2i_0.mp c46)
          have lt : (sAsk g n q).2.1 < n := Nat.not_le.mp fun w => c46 (nI_le w (by have := hT2.2.2.2.2.2.2.2; omega))
          refine z_iconst (v := 0) h dX2_read_53 (by decide) ?_
          refine z_istore_n h dX2_read_54 rfl (by decide) ?_
          refine z_iload_n h dX2_read_55 rfl rfl ?_
          refine z_if_eq h 63 dX2_read_56 (by decide) (fun _ => ?_) (fun c => absurd rfl c)
          refine FL _ ?_ rfl
          rw [hpr]; unfold prA; rw [hv]
          show (if n ≤ (sAsk g n q).2.1 then _ else _) = _
          rw [if_neg (Nat.not_le.mpr lt)]
        · have c46 := of_decide_eq_true (b2i_n0.mp c46)
          have ge : n ≤ (sAsk g n q).2.1 := nle (by omega) (by have := hT2.2.2.2.2.2.2.2; omega) c46
          refine z_iconst (v := 1) h dX2_read_49 (by decide) ?_
          refine z_goto h 54 dX2_read_50 (by decide) ?_
          refine z_istore_n h dX2_read_54 rfl (by decide) ?_
          refine z_iload_n h dX2_read_55 rfl rfl ?_
          refine z_if_eq h 63 dX2_read_56 (by decide) (fun c => absurd c (by decide)) (fun _ => ?_)
          refine z_iconst (v := -1) h dX2_read_59 (by decide) ?_
          refine z_goto h 70 dX2_read_60 (by decide) ?_
          have hpr2 : prs0 g n = .inr (k, p, v) := by
            rw [hpr]; unfold prA; rw [hv]
            show (if n ≤ (sAsk g n q).2.1 then _ else _) = _
            rw [if_pos ge]
          refine ret (r := -1) ⟨I2, rfl, ⟨_, _, hT2⟩, hb2.trans hg, hf2, ?_⟩ dX2_read_70 rfl
          rw [← hg, hpr2]
          obtain ⟨s1, s2, s3, s4, s5⟩ := hST
          refine ⟨rfl, ⟨s1, ?_, ?_, ?_, fun i hi j hj => ?_⟩, a5, a0, a1, a2, a3, ?_⟩
          · rw [a6 2 (by decide)]; exact s2
          · rw [a6 3 (by decide)]; exact s3
          · rw [a6 4 (by decide)]; exact s4
          · have w := nr i (by omega)
            rw [hfr2 (rw i) (by simp [w.1, w.2.2, y8 i (by omega)])]; exact s5 i hi j hj
          · rw [a4, s3]
    intro d
    induction d with
    | zero =>
      intro k q p I1 hd hT hb hST h50 hf hpr
      have hk : k = 10 := by omega
      subst hk
      unfold prs at hpr
      refine z_iload_n h dX2_read_13 rfl rfl ?_
      refine z_bipush (v := 10) h dX2_read_14 (by decide) ?_
      rw [show (10 : Int32) = nI 10 from rfl]
      refine z_icmp_gt h 94 dX2_read_16 (by decide) (fun c16 => ?_) (fun c16 => ?_)
      · exact absurd (nlt (by decide) (by decide) c16) (by omega)
      · refine z_aload_n h dX2_read_19 rfl rfl ?_
        refine z_getR h (by assumption) rfl kw2 0 (by decide) rfl (by assumption) kf_RX2_9 dX2_read_20 ?_
        refine z_ldcS h 0 (by decide) rfl rfl dX2_read_23 ?_
        refine z_callVIP h (zIP_w (c_X5_take l hT (i := 0) (by decide)) (fun r ν hν => hν)) (by assumption) rfl gm_RX2_27 rfl ⟨rfl, rfl⟩ 1 (by decide +kernel) ⟨by decide, by decide⟩ rfl rfl (Nat.le_of_ble_eq_true rfl) ⟨Nat.zero_le _, Nat.zero_le _⟩ dX2_read_25 (fun r ν hν => ?_)
        obtain ⟨rfl, I2, rfl, hT2, hfr⟩ := hν
        rw [hb]
        rw [hb] at hT2
        have hb2 : I2 b = g := (hfr b (by simpa using hbt)).trans hb
        have hst2 : I2 st = I1 st := hfr st (by simpa using n3)
        have hf2 : frS t ak st rw I I2 := fun a a1 a2 a3 a4 => (hfr a (by simpa using a1)).trans (hf a a1 a2 a3 a4)
        have hST2 : STY I2 st rw 10 p := ⟨hST.1, by rw [hst2]; exact hST.2.1, by rw [hst2]; exact hST.2.2.1, by rw [hst2]; exact hST.2.2.2.1, fun i hi j hj => by rw [hfr (rw i) (by simpa using (nr i (by have := hST.1; omega)).1)]; exact hST.2.2.2.2 i hi j hj⟩
        have h52 : I2 st 5 = 0 := by rw [hst2]; exact h50
        refine z_if_eq h 71 dX2_read_28 (by decide) (fun c28 => ?_) (fun c28 => ?_)
        · have m := b2i_0.mp c28
          rw [if_neg (by rw [m]; decide), if_neg (by rw [m]; decide)] at hT2
          rw [if_neg (by rw [m]; decide)] at hpr
          refine z_iload_n h dX2_read_71 rfl rfl ?_
          refine z_bipush (v := 10) h dX2_read_72 (by decide) ?_
          refine z_icmp_eq h 94 dX2_read_74 (by decide) (fun _ => ?_) (fun c => absurd rfl c)
          exact z_lk (END 10 q p I2 0 (by omega) hT2 hb2 hf2 hpr) ⟨rfl, rfl, rfl, trivial⟩
        · have m := b2i_n0.mp c28
          rw [if_pos m, if_pos m] at hT2
          rw [if_pos m] at hpr
          exact z_lk (HOW 10 (nx g n q) p I2 (by omega) hT2 hb2 hST2 h52 hf2 hpr) ⟨rfl, rfl, rfl, trivial⟩
    | succ d ih =>
      intro k q p I1 hd hT hb hST h50 hf hpr
      unfold prs at hpr
      refine z_iload_n h dX2_read_13 rfl rfl ?_
      refine z_bipush (v := 10) h dX2_read_14 (by decide) ?_
      rw [show (10 : Int32) = nI 10 from rfl]
      refine z_icmp_gt h 94 dX2_read_16 (by decide) (fun c16 => ?_) (fun c16 => ?_)
      · exact absurd (nlt (by decide) (by omega) c16) (by omega)
      · refine z_aload_n h dX2_read_19 rfl rfl ?_
        refine z_getR h (by assumption) rfl kw2 0 (by decide) rfl (by assumption) kf_RX2_9 dX2_read_20 ?_
        refine z_ldcS h 0 (by decide) rfl rfl dX2_read_23 ?_
        refine z_callVIP h (zIP_w (c_X5_take l hT (i := 0) (by decide)) (fun r ν hν => hν)) (by assumption) rfl gm_RX2_27 rfl ⟨rfl, rfl⟩ 1 (by decide +kernel) ⟨by decide, by decide⟩ rfl rfl (Nat.le_of_ble_eq_true rfl) ⟨Nat.zero_le _, Nat.zero_le _⟩ dX2_read_25 (fun r ν hν => ?_)
        obtain ⟨rfl, I2, rfl, hT2, hfr⟩ := hν
        rw [hb]
        rw [hb] at hT2
        have hb2 : I2 b = g := (hfr b (by simpa using hbt)).trans hb
        have hst2 : I2 st = I1 st := hfr st (by simpa using n3)
        have hf2 : frS t ak st rw I I2 := fun a a1 a2 a3 a4 => (hfr a (by simpa using a1)).trans (hf a a1 a2 a3 a4)
        have hST2 : STY I2 st rw k p := ⟨hST.1, by rw [hst2]; exact hST.2.1, by rw [hst2]; exact hST.2.2.1, by rw [hst2]; exact hST.2.2.2.1, fun i hi j hj => by rw [hfr (rw i) (by simpa using (nr i (by have := hST.1; omega)).1)]; exact hST.2.2.2.2 i hi j hj⟩
        have h52 : I2 st 5 = 0 := by rw [hst2]; exact h50
        refine z_if_eq h 71 dX2_read_28 (by decide) (fun c28 => ?_) (fun c28 => ?_)
        · have m := b2i_0.mp c28
          rw [if_neg (by rw [m]; decide), if_neg (by rw [m]; decide)] at hT2
          rw [if_neg (by rw [m]; decide)] at hpr
          refine z_iload_n h dX2_read_71 rfl rfl ?_
          refine z_bipush (v := nI 10) h dX2_read_72 (by decide) ?_
          refine z_icmp_eq h 94 dX2_read_74 (by decide) (fun c => absurd ((nI_eq (by omega) (by decide)).mp c) (by omega)) (fun _ => ?_)
          refine z_aload_n h dX2_read_77 rfl rfl ?_
          refine z_aload_n h dX2_read_78 rfl rfl ?_
          refine z_callVIP h (c_X2_sentence l (I := I2) (ρ := I2 (rw k)) (k := k) ⟨f1, f2, h1, h3, hY, by omega⟩ ⟨hT2, hb2, hST2.2.1, rfl, fr_rf⟩) (by assumption) rfl gm_RX2_43 rfl ⟨rfl, rfl⟩ 1 (by decide +kernel) ⟨by decide, by decide⟩ rfl rfl (Nat.le_of_ble_eq_true rfl) ⟨Nat.zero_le _, Nat.zero_le _⟩ dX2_read_79 (fun r ν hν => ?_)
          obtain ⟨I3, rfl, hT3, hb3, hfr3, hm⟩ := hν
          have hf3 : frS t ak st rw I I3 := fun a a1 a2 a3 a4 => (hfr3 a (by simp [a1, a3, a4 k (by omega)])).trans (hf2 a a1 a2 a3 a4)
          rcases hv : sSen g n q with ⟨_ | v, q2⟩
          · rw [hv] at hm hT3 hpr
            have hr0 : r = 0 := hm.1
            subst hr0
            refine z_if_ne h 88 dX2_read_82 (by decide) (fun c => absurd rfl c) (fun _ => ?_)
            refine z_goto h 94 dX2_read_85 (by decide) ?_
            exact z_lk (END k q2 p I3 0 (by omega) hT3 hb3 hf3 hpr) ⟨rfl, rfl, rfl, trivial⟩
          · rw [hv] at hm hT3 hpr
            obtain ⟨hr1, ⟨w0, w1, w2, w3, w4, w5, w6⟩, z2, z3, z4, z5⟩ := hm
            subst hr1
            refine z_if_ne h 88 dX2_read_82 (by decide) (fun _ => ?_) (fun c => absurd c (by decide))
            refine z_iinc h dX2_read_88 rfl (nI_1 k) (by decide) ?_
            refine z_goto h 13 dX2_read_91 (by decide) ?_
            have ep : ∀ i, i < k → pset p k (rec7 v (stF p k) q.1) i = p i := fun i hi => if_neg (by omega)
            have ek : pset p k (rec7 v (stF p k) q.1) k = rec7 v (stF p k) q.1 := if_pos rfl
            refine z_lk (ih (k + 1) q2 (pset p k (rec7 v (stF p k) q.1)) I3 (by omega) hT3 hb3 ⟨by omega, z2, ?_, ?_, fun i hi j hj => ?_⟩ (z5.trans h52) hf3 hpr) ⟨rfl, rfl, rfl, trivial⟩
            · rw [z3]
              unfold stF
              rw [ek, stF_congr (p := p) (p' := pset p k (rec7 v (stF p k) q.1)) (fun i hi => congrFun (ep i hi) 0), hST2.2.2.1]
              rfl
            · rw [z4]
              unfold fbF
              rw [ek, fbF_congr (p := p) (p' := pset p k (rec7 v (stF p k) q.1)) (fun i hi => congrFun (ep i hi) 0), hST2.2.2.2.1]
              rfl
            · by_cases e : i = k
              · subst e
                rw [ek]
                rcases (show j = 0 ∨ j = 1 ∨ j = 2 ∨ j = 3 ∨ j = 4 ∨ j = 5 ∨ j = 6 by omega) with rfl | rfl | rfl | rfl | rfl | rfl | rfl
                · exact w0
                · exact w1
                · exact w2
                · exact w3
                · exact w4
                · exact w5.trans hST2.2.2.1
                · exact w6
              · have hik : i < k := by omega
                have e2 : rw i ≠ rw k := fun w => e (y7 i k (by omega) (by omega) w)
                rw [ep i hik, hfr3 (rw i) (by simp [(nr i (by omega)).1, (nr i (by omega)).2.2, e2])]
                exact hST2.2.2.2.2 i hik j hj
        · have m := b2i_n0.mp c28
          rw [if_pos m, if_pos m] at hT2
          rw [if_pos m] at hpr
          exact z_lk (HOW k (nx g n q) p I2 (by omega) hT2 hb2 hST2 h52 hf2 hpr) ⟨rfl, rfl, rfl, trivial⟩
  refine z_aload_n h dX2_read_0 rfl rfl ?_
  refine z_callVN h (c_X3_clear l y1) (by assumption) rfl gm_RX2_15 rfl ⟨rfl, rfl⟩ 0 (by decide +kernel) ⟨by decide, by decide⟩ rfl rfl (Nat.le_of_ble_eq_true rfl) ⟨Nat.zero_le _, Nat.zero_le _⟩ dX2_read_1 ?_
  refine z_aload_n h dX2_read_4 rfl rfl ?_
  refine z_getR h (by assumption) rfl kw2 0 (by decide) rfl (by assumption) kf_RX2_9 dX2_read_5 ?_
  refine z_callVNP h (c_X5_rewind2 l (n := n) (b := b) h1 h2 h3 (I := zu (zu (zu (zu I st 2 0) st 3 0) st 4 0) st 5 0) (by rw [zu_a (Ne.symm n3), zu_a (Ne.symm n3), zu_a (Ne.symm n3), zu_a (Ne.symm n3)]; exact h4) h7) (by assumption) rfl gm_RX2_20 rfl ⟨rfl, rfl⟩ 0 (by decide +kernel) ⟨by decide, by decide⟩ rfl rfl (Nat.le_of_ble_eq_true rfl) ⟨Nat.zero_le _, Nat.zero_le _⟩ dX2_read_8 (fun ν hν => ?_)
  obtain ⟨I1, rfl, hT, hfr⟩ := hν
  refine z_iconst (v := 0) h dX2_read_11 (by decide) ?_
  refine z_istore_n h dX2_read_12 rfl (by decide) ?_
  have eb : zu (zu (zu (zu I st 2 (0 : Int32)) st 3 0) st 4 0) st 5 0 b = g := by rw [zu_o (Ne.symm n6), zu_o (Ne.symm n6), zu_o (Ne.symm n6), zu_o (Ne.symm n6)]; exact hg.symm
  rw [eb] at hT
  have es : I1 st = zu (zu (zu (zu I st 2 (0 : Int32)) st 3 0) st 4 0) st 5 0 st := hfr st (by simpa using n3)
  refine z_lk (L13 10 0 (skp g n 0, wnd g n (skp g n 0)) (fun _ _ => 0) I1 rfl hT ((hfr b (by simpa using hbt)).trans eb) ⟨by omega, ?_, ?_, ?_, fun i hi => absurd hi (by omega)⟩ ?_ (fun a a1 a2 a3 a4 => ?_) rfl) ⟨rfl, rfl, rfl, trivial⟩
  · rw [es, zu_k (by decide), zu_k (by decide), zu_k (by decide)]; exact zu_s
  · rw [es, zu_k (by decide), zu_k (by decide)]; exact zu_s
  · rw [es, zu_k (by decide)]; exact zu_s
  · rw [es]; exact zu_s
  · rw [hfr a (by simpa using a1), zu_o a3, zu_o a3, zu_o a3, zu_o a3]
