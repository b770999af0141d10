/-! reads of the reference: the same parser as the class's -/
abbrev rmR7 : Room := { frames := 10, cells := 10, slots := 70, locals := 252 }
def readM (S : zS) (J : Nat → Nat → Int64) (R : Nat → Nat → Option Nat) (I : Nat → Nat → Int32) (x tp rd ra n : Nat) (r : Int32) (ν : zM) : Prop := ∃ I', ν = (I', J, R) ∧ (∃ f e, MP S R I' x tp n f e) ∧ I' tp = I tp ∧ fr [x, rd, ra] I I' ∧ (∀ j, (j < 8 ∨ (8 < j ∧ j < 13) ∨ 20 < j) → I' x j = I x j) ∧ match prs0 (I tp) n with
  | .inl y => r = nI y ∧ y ≤ n
  | .inr (k, p, v) => r = -1 ∧ k ≤ 10 ∧ I' x 8 = nI k ∧ (∀ i, i < k → ∀ j, j < 7 → I' rd (7 * i + j) = p i j) ∧ I' ra 0 = v.1 ∧ I' ra 1 = v.2.1 ∧ I' ra 2 = v.2.2.1 ∧ I' ra 3 = v.2.2.2 ∧ I' ra 4 = (if v.1 = 2 then 0 else stF p k)
def cp7 (f w : Nat → Int32) (k j : Nat) : Nat → Int32 := fun i => if 7 * k ≤ i ∧ i < 7 * k + j then w (i - 7 * k) else f i
theorem cp7_s {f w : Nat → Int32} {k j : Nat} : (fun i => if i = 7 * k + j then w j else cp7 f w k j i) = cp7 f w k (j + 1) := by
  funext i
  unfold cp7
  by_cases e : i = 7 * k + j
  · rw [if_pos e, if_pos ⟨by omega, by omega⟩, show i - 7 * k = j by omega]
  · rw [if_neg e]
    by_cases c : 7 * k ≤ i ∧ i < 7 * k + j
    · rw [if_pos c, if_pos ⟨c.1, by omega⟩]
    · rw [if_neg c, if_neg (fun q => c ⟨q.1, by omega⟩)]
theorem z_dropM {X : zC} {E : zE} {S : zS} {kc ks : Nat} {I I' : Nat → Nat → Int32} {J : Nat → Nat → Int64} {R : Nat → Nat → Option Nat} {pc : Nat} {lv : List (Nat × Value)} {st : List Value} {a n : Nat} (ha : a ∉ S.1) (hI : ∀ b, b ∈ S.1 → I b = I' b) (k : zV X E S kc ks (I', J, R) pc lv st) : zV X E (zSi S a n) kc ks (I, J, R) pc lv st := by
  refine z_drop ha (fun H locs ls hP hD hS hl => ?_)
  have e : zW E S (I, J, R) = zW E S (I', J, R) := va_plm (fun b hb => zc_congr (hI b hb) rfl rfl)
  rw [e] at hP hD
  exact k H locs ls hP hD hS hl
theorem lt5_le4 {x : Int32} : x < 5 ↔ x ≤ 4 := by
  rw [Int32.lt_iff_toInt_lt, Int32.le_iff_toInt_le]
  show x.toInt < 5 ↔ x.toInt ≤ 4
  omega
theorem stP_s {p : Nat → Nat → Int32} {k b : Nat} {w : Int32 × zR} {s : Int32} : stF (pset p k (rec7 w s b)) (k + 1) = if w.2.1 ≤ 4 then stF p k else stF p k + 1 := by
  show (if pset p k (rec7 w s b) k 0 ≤ 4 then _ else _) = _
  rw [show pset p k (rec7 w s b) k 0 = w.2.1 from by unfold pset; rw [if_pos rfl]; rfl, stF_congr (p := p) (fun i hi => by unfold pset; rw [if_neg (by omega)])]
/-- what holds at the head of the loop -/
def RdI (S : zS) (R : Nat → Nat → Option Nat) (g : Nat → Int32) (I I1 : Nat → Nat → Int32) (x tp rd n d k : Nat) (q : zQ) (p : Nat → Nat → Int32) : Prop := MP S R I1 x tp n q.1 q.2 ∧ I1 tp = g ∧ (q.1 < n → q.1 < q.2) ∧ I1 x 8 = nI k ∧ I1 x 20 = stF p k ∧ (∀ i, i < k → ∀ j, j < 7 → I1 rd (7 * i + j) = p i j) ∧ fr [x, rd] I I1 ∧ (∀ j, (j < 8 ∨ (8 < j ∧ j < 13) ∨ 20 < j) → I1 x j = I x j) ∧ prs g n d k q p = prs0 g n
theorem sen_no {g : Nat → Int32} {n : Nat} {q : zQ} (h : nmF g q = -1) : sSen g n q = (none, q) := by
  unfold sSen tkN
  rw [if_neg (fun w => w.1 h)]

set_option maxHeartbeats 4000000 in
set_option maxRecDepth 100000 in
theorem c_X7_reads (l : Launch) {E : zE} {S : zS} {I : Nat → Nat → Int32} {J : Nat → Nat → Int64} {R : Nat → Nat → Option Nat} {x tp rd ra n : Nat} (d1 : zO S x 7) (d2 : R x 1 = some tp) (d3 : zA S tp 8 400) (hn : I x 2 = nI n) (h4 : n ≤ 400) (hrd1 : R x 4 = some rd) (hrd2 : zA S rd 9 70) (hra : R x 6 = some ra) (hra2 : zA S ra 9 5) (nra : rd ≠ ra) : zIR l yX7_reads wsX7_reads rmR7 E S [.ref x] (I, J, R) (readM S J R I x tp rd ra n) 10 70 := by
  refine z_metIR (cc := cX7_reads) (maxL := 4) (ty := .int) (by decide) rfl (Nat.le_of_ble_eq_true rfl) (fun X h ret => ?_)
  show zV X E S 0 0 (I, J, R) 0 _ []
  have nrx : rd ≠ x := fun q => absurd (d1.2.symm.trans (q ▸ hrd2.2.1)) (by decide)
  have ntx : tp ≠ x := fun q => absurd (d1.2.symm.trans (q ▸ d3.2.1)) (by decide)
  have ntr : tp ≠ rd := fun q => absurd (hrd2.2.1.symm.trans (q ▸ d3.2.1)) (by decide)
  obtain ⟨g, hg⟩ : ∃ g, I tp = g := ⟨_, rfl⟩
  have LL : ∀ (d k : Nat) (q : zQ) (p : Nat → Nat → Int32) (I1 : Nat → Nat → Int32), k + d = 10 → RdI S R g I I1 x tp rd n d k q p → zV X E S k (7 * k) (I1, J, R) 19 [(0, .ref x)] [] := by
    intro d
    induction d with
    | zero =>
      intro k q p I1 hkd hI
      obtain ⟨hM, ht, hq, h8, h20, hrd, hf, hx, hp⟩ := id hI
      have d1 := hM.1
      have hMS : MS S R g I1 I1 x tp n q (I1 x) := ⟨hM, ht, hq, fr_rf, fun _ _ _ => rfl⟩
      have hq1 : q.1 ≤ n := Nat.le_trans hM.2.2.2.2.2.2.2.1 hM.2.2.2.2.2.2.2.2
      refine z_aload_n h dX7_reads_19 rfl rfl ?_
      refine z_ldcS h 45 (by decide) rfl rfl dX7_reads_20 ?_
      refine z_callVI h (cM_is l hMS (i := 45) (by decide)) (by assumption) rfl gm_RX7_79 rfl ⟨rfl, rfl⟩ 1 (by decide +kernel) ⟨by decide, by decide⟩ rfl rfl (Nat.le_of_ble_eq_true rfl) ⟨by show _ ≤ 10; omega, by show _ ≤ 70; omega⟩ dX7_reads_22 ?_
      refine z_if_ne h 185 dX7_reads_25 (by decide) (fun c25 => ?_) (fun c25 => ?_)
      · have c25 : mW g q.1 q.2 w_how = true := b2i_n0.mp c25
        refine z_aload_n h dX7_reads_185 rfl rfl ?_
        refine z_callVIP h (cM_asks l (ra := ra) hMS hra hra2 c25) (by assumption) rfl gm_RX7_199 rfl ⟨rfl, rfl⟩ 0 (by decide +kernel) ⟨by decide, by decide⟩ rfl rfl (Nat.le_of_ble_eq_true rfl) ⟨by show _ ≤ 10; omega, by show _ ≤ 70; omega⟩ dX7_reads_186 (fun r ν hν => ?_)
        obtain ⟨I2, rfl, m1, m2, m3, m4, m5⟩ := hν
        have hpA : prA g n k p (sAsk g n (nx g n q)) = prs0 g n := by
          rw [← hp]
          unfold prs
          rw [if_pos c25]
        generalize sAsk g n (nx g n q) = o at *
        obtain ⟨o1, o2⟩ := o
        have ho2 : o2.1 ≤ n := Nat.le_trans m1.2.2.2.2.2.2.2.1 m1.2.2.2.2.2.2.2.2
        cases o1 with
        | none =>
          have m5 : r = 0 := m5
          subst m5
          refine z_if_eq h 196 dX7_reads_189 (by decide) (fun _ => ?_) (fun c => absurd rfl c)
          refine z_aload_n h dX7_reads_196 rfl rfl ?_
          refine z_getI h (by assumption) rfl kw7 13 (by decide) rfl kf_RX7_60 dX7_reads_197 ?_
          rw [m1.2.2.2.2.1]
          refine z_widen (kc' := 10) (ks' := 70) (by omega) (by omega) (ret ⟨I2, rfl, ⟨_, _, m1⟩, m2.trans hg.symm, fr_tr (fr_mono hf (by simp)) (fr_mono m3 (by simp)), (fun j hj => by rw [m4 j (by omega)]; exact hx j hj), ?_⟩ dX7_reads_200 rfl)
          rw [hg, ← hpA]
          show nI o2.1 = nI o2.1 ∧ o2.1 ≤ n
          exact ⟨rfl, ho2⟩
        | some w =>
          obtain ⟨w0, w1, w2, w3, w4, w5⟩ := m5
          have hpB : (if n ≤ o2.1 then Sum.inr (k, p, w) else Sum.inl o2.1) = prs0 g n := hpA
          by_cases e : o2.1 = n
          · rw [show decide (o2.1 = n) = true from decide_eq_true e] at w0
            subst w0
            refine z_if_eq h 196 dX7_reads_189 (by decide) (fun c => absurd c (by decide)) (fun _ => ?_)
            refine z_iconst (v := -1) h dX7_reads_192 (by decide) ?_
            refine z_goto h 200 dX7_reads_193 (by decide) ?_
            refine z_widen (kc' := 10) (ks' := 70) (by omega) (by omega) (ret ⟨I2, rfl, ⟨_, _, m1⟩, m2.trans hg.symm, fr_tr (fr_mono hf (by simp)) (fr_mono m3 (by simp)), (fun j hj => by rw [m4 j (by omega)]; exact hx j hj), ?_⟩ dX7_reads_200 rfl)
            rw [if_pos (by omega)] at hpB
            rw [hg, ← hpB]
            refine ⟨rfl, by omega, by rw [m4 8 (by omega)]; exact h8, fun i hi j hj => ?_, w1, w2, w3, w4, ?_⟩
            · rw [m3 rd (by simp [nrx, nra])]; exact hrd i hi j hj
            · rw [w5, h20]
          · rw [show decide (o2.1 = n) = false from decide_eq_false e] at w0
            subst w0
            rw [if_neg (by omega)] at hpB
            have hpA := hpB
            refine z_if_eq h 196 dX7_reads_189 (by decide) (fun _ => ?_) (fun c => absurd rfl c)
            refine z_aload_n h dX7_reads_196 rfl rfl ?_
            refine z_getI h (by assumption) rfl kw7 13 (by decide) rfl kf_RX7_60 dX7_reads_197 ?_
            rw [m1.2.2.2.2.1]
            refine z_widen (kc' := 10) (ks' := 70) (by omega) (by omega) (ret ⟨I2, rfl, ⟨_, _, m1⟩, m2.trans hg.symm, fr_tr (fr_mono hf (by simp)) (fr_mono m3 (by simp)), (fun j hj => by rw [m4 j (by omega)]; exact hx j hj), ?_⟩ dX7_reads_200 rfl)
            rw [hg, ← hpA]
            show nI o2.1 = nI o2.1 ∧ o2.1 ≤ n
            exact ⟨rfl, ho2⟩
        
      · have c25 : mW g q.1 q.2 w_how = false := b2i_0.mp c25
        have hpN : Sum.inl q.1 = prs0 g n := by
          rw [← hp]
          unfold prs
          rw [if_neg (by rw [c25]; decide)]
        refine z_aload_n h dX7_reads_28 rfl rfl ?_
        refine z_callVI h (cM_name l hMS) (by assumption) rfl gm_RX7_114 rfl ⟨rfl, rfl⟩ 0 (by decide +kernel) ⟨by decide, by decide⟩ rfl rfl (Nat.le_of_ble_eq_true rfl) ⟨by show _ ≤ 10; omega, by show _ ≤ 70; omega⟩ dX7_reads_29 ?_
        refine z_iconst (v := -1) h dX7_reads_32 (by decide) ?_
        refine z_icmp_eq h 45 dX7_reads_33 (by decide) (fun c33 => ?_) (fun c33 => ?_)
        · refine z_aload_n h dX7_reads_45 rfl rfl ?_
          refine z_getI h (by assumption) rfl kw7 13 (by decide) rfl kf_RX7_60 dX7_reads_46 ?_
          rw [hM.2.2.2.2.1]
          refine z_widen (kc' := 10) (ks' := 70) (by omega) (by omega) (ret ⟨I1, rfl, ⟨_, _, hM⟩, ht.trans hg.symm, fr_mono hf (by simp), hx, ?_⟩ dX7_reads_49 rfl)
          rw [hg, ← hpN]
          exact ⟨rfl, hq1⟩
        · refine z_aload_n h dX7_reads_36 rfl rfl ?_
          refine z_getI h (by assumption) rfl kw7 8 (by decide) rfl kf_RX7_193 dX7_reads_37 ?_
          rw [h8, show k = 10 by omega]
          refine z_bipush (v := 10) h dX7_reads_40 (by decide) ?_
          refine z_icmp_ne h 50 dX7_reads_42 (by decide) (fun c42 => ?_) (fun c42 => ?_)
          · exact absurd rfl c42
          · refine z_aload_n h dX7_reads_45 rfl rfl ?_
            refine z_getI h (by assumption) rfl kw7 13 (by decide) rfl kf_RX7_60 dX7_reads_46 ?_
            rw [hM.2.2.2.2.1]
            refine z_widen (kc' := 10) (ks' := 70) (by omega) (by omega) (ret ⟨I1, rfl, ⟨_, _, hM⟩, ht.trans hg.symm, fr_mono hf (by simp), hx, ?_⟩ dX7_reads_49 rfl)
            rw [hg, ← hpN]
            exact ⟨rfl, hq1⟩
    | succ d ih =>
      intro k q p I1 hkd hI
      obtain ⟨hM, ht, hq, h8, h20, hrd, hf, hx, hp⟩ := id hI
      have d1 := hM.1
      have hMS : MS S R g I1 I1 x tp n q (I1 x) := ⟨hM, ht, hq, fr_rf, fun _ _ _ => rfl⟩
      have hq1 : q.1 ≤ n := Nat.le_trans hM.2.2.2.2.2.2.2.1 hM.2.2.2.2.2.2.2.2
      refine z_aload_n h dX7_reads_19 rfl rfl ?_
      refine z_ldcS h 45 (by decide) rfl rfl dX7_reads_20 ?_
      refine z_callVI h (cM_is l hMS (i := 45) (by decide)) (by assumption) rfl gm_RX7_79 rfl ⟨rfl, rfl⟩ 1 (by decide +kernel) ⟨by decide, by decide⟩ rfl rfl (Nat.le_of_ble_eq_true rfl) ⟨by show _ ≤ 10; omega, by show _ ≤ 70; omega⟩ dX7_reads_22 ?_
      refine z_if_ne h 185 dX7_reads_25 (by decide) (fun c25 => ?_) (fun c25 => ?_)
      · have c25 : mW g q.1 q.2 w_how = true := b2i_n0.mp c25
        refine z_aload_n h dX7_reads_185 rfl rfl ?_
        refine z_callVIP h (cM_asks l (ra := ra) hMS hra hra2 c25) (by assumption) rfl gm_RX7_199 rfl ⟨rfl, rfl⟩ 0 (by decide +kernel) ⟨by decide, by decide⟩ rfl rfl (Nat.le_of_ble_eq_true rfl) ⟨by show _ ≤ 10; omega, by show _ ≤ 70; omega⟩ dX7_reads_186 (fun r ν hν => ?_)
        obtain ⟨I2, rfl, m1, m2, m3, m4, m5⟩ := hν
        have hpA : prA g n k p (sAsk g n (nx g n q)) = prs0 g n := by
          rw [← hp]
          unfold prs
          rw [if_pos c25]
        generalize sAsk g n (nx g n q) = o at *
        obtain ⟨o1, o2⟩ := o
        have ho2 : o2.1 ≤ n := Nat.le_trans m1.2.2.2.2.2.2.2.1 m1.2.2.2.2.2.2.2.2
        cases o1 with
        | none =>
          have m5 : r = 0 := m5
          subst m5
          refine z_if_eq h 196 dX7_reads_189 (by decide) (fun _ => ?_) (fun c => absurd rfl c)
          refine z_aload_n h dX7_reads_196 rfl rfl ?_
          refine z_getI h (by assumption) rfl kw7 13 (by decide) rfl kf_RX7_60 dX7_reads_197 ?_
          rw [m1.2.2.2.2.1]
          refine z_widen (kc' := 10) (ks' := 70) (by omega) (by omega) (ret ⟨I2, rfl, ⟨_, _, m1⟩, m2.trans hg.symm, fr_tr (fr_mono hf (by simp)) (fr_mono m3 (by simp)), (fun j hj => by rw [m4 j (by omega)]; exact hx j hj), ?_⟩ dX7_reads_200 rfl)
          rw [hg, ← hpA]
          show nI o2.1 = nI o2.1 ∧ o2.1 ≤ n
          exact ⟨rfl, ho2⟩
        | some w =>
          obtain ⟨w0, w1, w2, w3, w4, w5⟩ := m5
          have hpB : (if n ≤ o2.1 then Sum.inr (k, p, w) else Sum.inl o2.1) = prs0 g n := hpA
          by_cases e : o2.1 = n
          · rw [show decide (o2.1 = n) = true from decide_eq_true e] at w0
            subst w0
            refine z_if_eq h 196 dX7_reads_189 (by decide) (fun c => absurd c (by decide)) (fun _ => ?_)
            refine z_iconst (v := -1) h dX7_reads_192 (by decide) ?_
            refine z_goto h 200 dX7_reads_193 (by decide) ?_
            refine z_widen (kc' := 10) (ks' := 70) (by omega) (by omega) (ret ⟨I2, rfl, ⟨_, _, m1⟩, m2.trans hg.symm, fr_tr (fr_mono hf (by simp)) (fr_mono m3 (by simp)), (fun j hj => by rw [m4 j (by omega)]; exact hx j hj), ?_⟩ dX7_reads_200 rfl)
            rw [if_pos (by omega)] at hpB
            rw [hg, ← hpB]
            refine ⟨rfl, by omega, by rw [m4 8 (by omega)]; exact h8, fun i hi j hj => ?_, w1, w2, w3, w4, ?_⟩
            · rw [m3 rd (by simp [nrx, nra])]; exact hrd i hi j hj
            · rw [w5, h20]
          · rw [show decide (o2.1 = n) = false from decide_eq_false e] at w0
            subst w0
            rw [if_neg (by omega)] at hpB
            have hpA := hpB
            refine z_if_eq h 196 dX7_reads_189 (by decide) (fun _ => ?_) (fun c => absurd rfl c)
            refine z_aload_n h dX7_reads_196 rfl rfl ?_
            refine z_getI h (by assumption) rfl kw7 13 (by decide) rfl kf_RX7_60 dX7_reads_197 ?_
            rw [m1.2.2.2.2.1]
            refine z_widen (kc' := 10) (ks' := 70) (by omega) (by omega) (ret ⟨I2, rfl, ⟨_, _, m1⟩, m2.trans hg.symm, fr_tr (fr_mono hf (by simp)) (fr_mono m3 (by simp)), (fun j hj => by rw [m4 j (by omega)]; exact hx j hj), ?_⟩ dX7_reads_200 rfl)
            rw [hg, ← hpA]
            show nI o2.1 = nI o2.1 ∧ o2.1 ≤ n
            exact ⟨rfl, ho2⟩
        
      · have c25 : mW g q.1 q.2 w_how = false := b2i_0.mp c25
        refine z_aload_n h dX7_reads_28 rfl rfl ?_
        refine z_callVI h (cM_name l hMS) (by assumption) rfl gm_RX7_114 rfl ⟨rfl, rfl⟩ 0 (by decide +kernel) ⟨by decide, by decide⟩ rfl rfl (Nat.le_of_ble_eq_true rfl) ⟨by show _ ≤ 10; omega, by show _ ≤ 70; omega⟩ dX7_reads_29 ?_
        refine z_iconst (v := -1) h dX7_reads_32 (by decide) ?_
        refine z_icmp_eq h 45 dX7_reads_33 (by decide) (fun c33 => ?_) (fun c33 => ?_)
        · have hpN : Sum.inl q.1 = prs0 g n := by
            rw [← hp]
            unfold prs
            rw [if_neg (by rw [c25]; decide), sen_no c33]
          refine z_aload_n h dX7_reads_45 rfl rfl ?_
          refine z_getI h (by assumption) rfl kw7 13 (by decide) rfl kf_RX7_60 dX7_reads_46 ?_
          rw [hM.2.2.2.2.1]
          refine z_widen (kc' := 10) (ks' := 70) (by omega) (by omega) (ret ⟨I1, rfl, ⟨_, _, hM⟩, ht.trans hg.symm, fr_mono hf (by simp), hx, ?_⟩ dX7_reads_49 rfl)
          rw [hg, ← hpN]
          exact ⟨rfl, hq1⟩
        · refine z_aload_n h dX7_reads_36 rfl rfl ?_
          refine z_getI h (by assumption) rfl kw7 8 (by decide) rfl kf_RX7_193 dX7_reads_37 ?_
          rw [h8]
          refine z_bipush (v := 10) h dX7_reads_40 (by decide) ?_
          rw [show (10 : Int32) = nI 10 from rfl]
          refine z_icmp_ne h 50 dX7_reads_42 (by decide) (fun c42 => ?_) (fun c42 => ?_)
          · refine z_aload_n h dX7_reads_50 rfl rfl ?_
            refine z_getI h (by assumption) rfl kw7 13 (by decide) rfl kf_RX7_60 dX7_reads_51 ?_
            rw [hM.2.2.2.2.1]
            refine z_istore_n h dX7_reads_54 rfl (by decide) ?_
            refine z_aload_n h dX7_reads_55 rfl rfl ?_
            refine z_callVIP h (cM_sentence l hMS) (by assumption) rfl gm_RX7_196 rfl ⟨rfl, rfl⟩ 0 (by decide +kernel) ⟨by decide, by decide⟩ rfl rfl (Nat.le_of_ble_eq_true rfl) ⟨by show _ ≤ 10; omega, by show _ ≤ 70; omega⟩ dX7_reads_56 (fun r ν hν => ?_)
            obtain ⟨I2, v2, rfl, s1, s2, s3⟩ := hν
            obtain ⟨s1a, s1b, s1c, s1d, s1e⟩ := id s1
            have hpS : (match sSen g n q with
                | (some v, q') => prs g n d (k + 1) q' (pset p k (rec7 v (stF p k) q.1))
                | (none, q') => .inl q'.1) = prs0 g n := by
              rw [← hp]
              conv => rhs; unfold prs
              rw [if_neg (show ¬ mW g q.1 q.2 w_how = true by rw [c25]; decide)]
              rcases sSen g n q with ⟨_ | v, q'⟩ <;> rfl
            rw [sen_eq] at hpS
            generalize mSen g n q = o at *
            obtain ⟨o1, o2⟩ := o
            have ho2 : o2.1 ≤ n := Nat.le_trans s1a.2.2.2.2.2.2.2.1 s1a.2.2.2.2.2.2.2.2
            have i2x : ∀ j, j < 13 ∨ 19 < j → I2 x j = I1 x j := fun j hj => by rw [s1e j (by omega) (by omega), s2 j (by omega)]
            cases o1 with
            | none =>
              have s3 : r = 0 := s3
              subst s3
              refine z_if_ne h 67 dX7_reads_59 (by decide) (fun c => absurd rfl c) (fun _ => ?_)
              refine z_aload_n h dX7_reads_62 rfl rfl ?_
              refine z_getI h (by assumption) rfl kw7 13 (by decide) rfl kf_RX7_60 dX7_reads_63 ?_
              rw [s1a.2.2.2.2.1]
              refine z_widen (kc' := 10) (ks' := 70) (by omega) (by omega) (ret ⟨I2, rfl, ⟨_, _, s1a⟩, s1b.trans hg.symm, fr_tr (fr_mono hf (by simp)) (fr_mono s1d (by simp)), (fun j hj => by rw [i2x j (by omega)]; exact hx j hj), ?_⟩ dX7_reads_66 rfl)
              have hpS : Sum.inl o2.1 = prs0 g n := hpS
              rw [hg, ← hpS]
              exact ⟨rfl, ho2⟩
            | some w =>
              obtain ⟨w0, w1, w2, w3, w4, w5⟩ := s3
              subst w0
              have hpS : prs g n d (k + 1) o2 (pset p k (rec7 w (stF p k) q.1)) = prs0 g n := hpS
              have g15 : I2 x 15 = w.2.1 := (s1e 15 (by decide) (by decide)).trans w1
              have g16 : I2 x 16 = w.1 := (s1e 16 (by decide) (by decide)).trans w2
              have g17 : I2 x 17 = w.2.2.1 := (s1e 17 (by decide) (by decide)).trans w3
              have g18 : I2 x 18 = w.2.2.2.1 := (s1e 18 (by decide) (by decide)).trans w4
              have g19 : I2 x 19 = w.2.2.2.2 := (s1e 19 (by decide) (by decide)).trans w5
              have g20 : I2 x 20 = stF p k := (i2x 20 (by decide)).trans h20
              have g8 : I2 x 8 = nI k := (i2x 8 (by decide)).trans h8
              refine z_if_ne h 67 dX7_reads_59 (by decide) (fun _ => ?_) (fun c => absurd c (by decide))
              refine z_bipush (v := 7) h dX7_reads_67 (by decide) ?_
              rw [show (7 : Int32) = nI 7 from rfl]
              refine z_newI h (by decide) (by show _ ≤ 10; omega) (by show _ ≤ 70; omega) dX7_reads_69 (fun a ha => ?_)
              have nax : x ≠ a := fun e => ha (e ▸ d1.1)
              have nard : rd ≠ a := fun e => ha (e ▸ hrd2.1)
              have natp : tp ≠ a := fun e => ha (e ▸ hM.2.2.1.1)
              have e1 : zO (zSi S a 7) x 7 := zSi_O ha d1
              have e2 : zA (zSi S a 7) rd 9 70 := zSi_A ha hrd2
              have e3 : zA (zSi S a 7) a 9 7 := zSi_a
              refine z_dup h dX7_reads_71 rfl ?_
              refine z_iconst (v := 0) h dX7_reads_72 (by decide) ?_
              refine z_aload_n h dX7_reads_73 rfl rfl ?_
              refine z_getI h (by assumption) rfl kw7 15 (by decide) rfl kf_RX7_144 dX7_reads_74 ?_
              rw [zr_a nax, g15]
              refine z_iast h (by assumption) (zix_c _ (j := 0) rfl (by decide) (by decide)) dX7_reads_77 ?_
              rw [zu_zr]
              refine z_dup h dX7_reads_78 rfl ?_
              refine z_iconst (v := 1) h dX7_reads_79 (by decide) ?_
              refine z_aload_n h dX7_reads_80 rfl rfl ?_
              refine z_getI h (by assumption) rfl kw7 16 (by decide) rfl kf_RX7_117 dX7_reads_81 ?_
              rw [zr_a nax, g16]
              refine z_iast h (by assumption) (zix_c _ (j := 1) rfl (by decide) (by decide)) dX7_reads_84 ?_
              rw [zu_zr]
              refine z_dup h dX7_reads_85 rfl ?_
              refine z_iconst (v := 2) h dX7_reads_86 (by decide) ?_
              refine z_aload_n h dX7_reads_87 rfl rfl ?_
              refine z_getI h (by assumption) rfl kw7 17 (by decide) rfl kf_RX7_120 dX7_reads_88 ?_
              rw [zr_a nax, g17]
              refine z_iast h (by assumption) (zix_c _ (j := 2) rfl (by decide) (by decide)) dX7_reads_91 ?_
              rw [zu_zr]
              refine z_dup h dX7_reads_92 rfl ?_
              refine z_iconst (v := 3) h dX7_reads_93 (by decide) ?_
              refine z_aload_n h dX7_reads_94 rfl rfl ?_
              refine z_getI h (by assumption) rfl kw7 18 (by decide) rfl kf_RX7_126 dX7_reads_95 ?_
              rw [zr_a nax, g18]
              refine z_iast h (by assumption) (zix_c _ (j := 3) rfl (by decide) (by decide)) dX7_reads_98 ?_
              rw [zu_zr]
              refine z_dup h dX7_reads_99 rfl ?_
              refine z_iconst (v := 4) h dX7_reads_100 (by decide) ?_
              refine z_aload_n h dX7_reads_101 rfl rfl ?_
              refine z_getI h (by assumption) rfl kw7 19 (by decide) rfl kf_RX7_132 dX7_reads_102 ?_
              rw [zr_a nax, g19]
              refine z_iast h (by assumption) (zix_c _ (j := 4) rfl (by decide) (by decide)) dX7_reads_105 ?_
              rw [zu_zr]
              refine z_dup h dX7_reads_106 rfl ?_
              refine z_iconst (v := 5) h dX7_reads_107 (by decide) ?_
              refine z_aload_n h dX7_reads_108 rfl rfl ?_
              refine z_getI h (by assumption) rfl kw7 20 (by decide) rfl kf_RX7_190 dX7_reads_109 ?_
              rw [zr_a nax, g20]
              refine z_iast h (by assumption) (zix_c _ (j := 5) rfl (by decide) (by decide)) dX7_reads_112 ?_
              rw [zu_zr]
              refine z_dup h dX7_reads_113 rfl ?_
              refine z_bipush (v := 6) h dX7_reads_114 (by decide) ?_
              refine z_iload_n h dX7_reads_116 rfl rfl ?_
              refine z_iast h (by assumption) (zix_c _ (j := 6) rfl (by decide) (by decide)) dX7_reads_117 ?_
              rw [zu_zr]
              refine z_astore_n h dX7_reads_118 rfl (by decide) ?_
              generalize hw7 : (fun j => if j = 6 then nI q.1 else if j = 5 then stF p k else if j = 4 then w.2.2.2.2 else if j = 3 then w.2.2.2.1 else if j = 2 then w.2.2.1 else if j = 1 then w.1 else if j = 0 then w.2.1 else 0) = w7 at *
              have hw7e : ∀ j, j < 7 → w7 j = rec7 w (stF p k) q.1 j := by
                intro j hj
                rw [← hw7]
                rcases (show j = 0 ∨ j = 1 ∨ j = 2 ∨ j = 3 ∨ j = 4 ∨ j = 5 ∨ j = 6 by omega) with e | e | e | e | e | e | e <;> subst e <;> rfl
              have LC : ∀ (d7 j : Nat), j + d7 = 7 → zV X E (zSi S a 7) (k + 1) (7 * k + 7) (zr (zr I2 a w7) rd (cp7 (I2 rd) w7 k j), J, R) 121 [(0, .ref x), (1, .int (nI q.1)), (2, .ref a), (3, .int (nI j))] [] := by
                intro d7
                induction d7 with
                | zero =>
                  intro j hj
                  have hj7 : j = 7 := by omega
                  subst hj7
                  refine z_iload_n h dX7_reads_121 rfl rfl ?_
                  refine z_bipush (v := 7) h dX7_reads_122 (by decide) ?_
                  rw [show (7 : Int32) = nI 7 from rfl]
                  refine z_icmp_ge h 150 dX7_reads_124 (by decide) (fun c124 => ?_) (fun c124 => ?_)
                  · refine z_aload_n h dX7_reads_150 rfl rfl ?_
                    refine z_dup h dX7_reads_151 rfl ?_
                    refine z_getI h (by assumption) rfl kw7 8 (by decide) rfl kf_RX7_193 dX7_reads_152 ?_
                    rw [zr_a (Ne.symm nrx), zr_a nax, g8]
                    refine z_iconst (v := 1) h dX7_reads_155 (by decide) ?_
                    refine z_iadd h dX7_reads_156 ?_
                    rw [nI_1]
                    refine z_putI h (by assumption) rfl kw7 8 (by decide) rfl rfl (rfl) (rfl) kf_RX7_193 dX7_reads_157 ?_
                    refine z_aload_n h dX7_reads_160 rfl rfl ?_
                    refine z_dup h dX7_reads_161 rfl ?_
                    refine z_getI h (by assumption) rfl kw7 20 (by decide) rfl kf_RX7_190 dX7_reads_162 ?_
                    rw [zu_k (by decide), zr_a (Ne.symm nrx), zr_a nax, g20]
                    refine z_aload_n h dX7_reads_165 rfl rfl ?_
                    refine z_getI h (by assumption) rfl kw7 15 (by decide) rfl kf_RX7_144 dX7_reads_166 ?_
                    rw [zu_k (by decide), zr_a (Ne.symm nrx), zr_a nax, g15]
                    refine z_iconst (v := 5) h dX7_reads_169 (by decide) ?_
                    refine z_icmp_lt h 177 dX7_reads_170 (by decide) (fun c170 => ?_) (fun c170 => ?_)
                    · have est : stF p k + 0 = stF (pset p k (rec7 w (stF p k) q.1)) (k + 1) := by
                        rw [stP_s, if_pos (lt5_le4.mp c170), Int32.add_zero]
                      refine z_iconst (v := 0) h dX7_reads_177 (by decide) ?_
                      refine z_iadd h dX7_reads_178 ?_
                      rw [est]
                      refine z_putI h (by assumption) rfl kw7 20 (by decide) rfl rfl (rfl) (rfl) kf_RX7_190 dX7_reads_179 ?_
                      refine z_goto h 19 dX7_reads_182 (by decide) ?_
                      refine z_dropM (I' := zu (zu (zr I2 rd (cp7 (I2 rd) w7 k 7)) x 8 (nI (k + 1))) x 20 (stF (pset p k (rec7 w (stF p k) q.1)) (k + 1))) ha (fun b hb => ?_) (z_lk (ih (k + 1) o2 (pset p k (rec7 w (stF p k) q.1)) _ (by omega) ?_) ⟨rfl, trivial⟩)
                      · have hba : b ≠ a := fun e => ha (e ▸ hb)
                        funext i
                        by_cases b1 : b = x
                        · subst b1
                          by_cases i1 : i = 20
                          · subst i1; rw [zu_s, zu_s]
                          · rw [zu_k i1, zu_k i1]
                            by_cases i2 : i = 8
                            · subst i2; rw [zu_s, zu_s]
                            · rw [zu_k i2, zu_k i2, zr_a (Ne.symm nrx), zr_a (Ne.symm nrx), zr_a hba]
                        · rw [zu_a b1, zu_a b1, zu_a b1, zu_a b1]
                          by_cases b2 : b = rd
                          · subst b2; rw [zr_s, zr_s]
                          · rw [zr_a b2, zr_a b2, zr_a hba]
                      have ex : ∀ j, j ≠ 8 → j ≠ 20 → zu (zu (zr I2 rd (cp7 (I2 rd) w7 k 7)) x 8 (nI (k + 1))) x 20 (stF (pset p k (rec7 w (stF p k) q.1)) (k + 1)) x j = I2 x j := fun j j1 j2 => by rw [zu_k j2, zu_k j1, zr_a (Ne.symm nrx)]
                      refine ⟨⟨d1, hM.2.1, hM.2.2.1, ?_, ?_, ?_, s1a.2.2.2.2.2.2⟩, ?_, s1c, ?_, zu_s, ?_, ?_, ?_, hpS⟩
                      · rw [ex 2 (by decide) (by decide)]; exact s1a.2.2.2.1
                      · rw [ex 13 (by decide) (by decide)]; exact s1a.2.2.2.2.1
                      · rw [ex 14 (by decide) (by decide)]; exact s1a.2.2.2.2.2.1
                      · rw [zu_o ntx, zu_o ntx, show zr I2 rd (cp7 (I2 rd) w7 k 7) tp = I2 tp from by funext i; rw [zr_a ntr]]; exact s1b
                      · rw [zu_k (by decide), zu_s]
                      · intro i hi j hj
                        rw [zu_o nrx, zu_o nrx, zr_s]
                        unfold cp7
                        by_cases e : i = k
                        · subst e
                          rw [if_pos ⟨by omega, by omega⟩, show 7 * i + j - 7 * i = j by omega, hw7e j hj]
                          unfold pset
                          rw [if_pos rfl]
                        · rw [if_neg (fun c => by omega), s1d rd (by simp [nrx])]
                          unfold pset
                          rw [if_neg e]
                          exact hrd i (by omega) j hj
                      · intro b hb
                        simp only [List.mem_cons, List.not_mem_nil, or_false, not_or] at hb
                        rw [zu_o hb.1, zu_o hb.1, show zr I2 rd (cp7 (I2 rd) w7 k 7) b = I2 b from by funext i; rw [zr_a hb.2], s1d b (by simp [hb.1]), hf b (by simp [hb.1, hb.2])]
                      · intro j hj
                        rw [ex j (by omega) (by omega), i2x j (by omega)]
                        exact hx j hj
                    · have est : stF p k + 1 = stF (pset p k (rec7 w (stF p k) q.1)) (k + 1) := by
                        rw [stP_s, if_neg (fun q => c170 (lt5_le4.mpr q))]
                      refine z_iconst (v := 1) h dX7_reads_173 (by decide) ?_
                      refine z_goto h 178 dX7_reads_174 (by decide) ?_
                      refine z_iadd h dX7_reads_178 ?_
                      rw [est]
                      refine z_putI h (by assumption) rfl kw7 20 (by decide) rfl rfl (rfl) (rfl) kf_RX7_190 dX7_reads_179 ?_
                      refine z_goto h 19 dX7_reads_182 (by decide) ?_
                      refine z_dropM (I' := zu (zu (zr I2 rd (cp7 (I2 rd) w7 k 7)) x 8 (nI (k + 1))) x 20 (stF (pset p k (rec7 w (stF p k) q.1)) (k + 1))) ha (fun b hb => ?_) (z_lk (ih (k + 1) o2 (pset p k (rec7 w (stF p k) q.1)) _ (by omega) ?_) ⟨rfl, trivial⟩)
                      · have hba : b ≠ a := fun e => ha (e ▸ hb)
                        funext i
                        by_cases b1 : b = x
                        · subst b1
                          by_cases i1 : i = 20
                          · subst i1; rw [zu_s, zu_s]
                          · rw [zu_k i1, zu_k i1]
                            by_cases i2 : i = 8
                            · subst i2; rw [zu_s, zu_s]
                            · rw [zu_k i2, zu_k i2, zr_a (Ne.symm nrx), zr_a (Ne.symm nrx), zr_a hba]
                        · rw [zu_a b1, zu_a b1, zu_a b1, zu_a b1]
                          by_cases b2 : b = rd
                          · subst b2; rw [zr_s, zr_s]
                          · rw [zr_a b2, zr_a b2, zr_a hba]
                      have ex : ∀ j, j ≠ 8 → j ≠ 20 → zu (zu (zr I2 rd (cp7 (I2 rd) w7 k 7)) x 8 (nI (k + 1))) x 20 (stF (pset p k (rec7 w (stF p k) q.1)) (k + 1)) x j = I2 x j := fun j j1 j2 => by rw [zu_k j2, zu_k j1, zr_a (Ne.symm nrx)]
                      refine ⟨⟨d1, hM.2.1, hM.2.2.1, ?_, ?_, ?_, s1a.2.2.2.2.2.2⟩, ?_, s1c, ?_, zu_s, ?_, ?_, ?_, hpS⟩
                      · rw [ex 2 (by decide) (by decide)]; exact s1a.2.2.2.1
                      · rw [ex 13 (by decide) (by decide)]; exact s1a.2.2.2.2.1
                      · rw [ex 14 (by decide) (by decide)]; exact s1a.2.2.2.2.2.1
                      · rw [zu_o ntx, zu_o ntx, show zr I2 rd (cp7 (I2 rd) w7 k 7) tp = I2 tp from by funext i; rw [zr_a ntr]]; exact s1b
                      · rw [zu_k (by decide), zu_s]
                      · intro i hi j hj
                        rw [zu_o nrx, zu_o nrx, zr_s]
                        unfold cp7
                        by_cases e : i = k
                        · subst e
                          rw [if_pos ⟨by omega, by omega⟩, show 7 * i + j - 7 * i = j by omega, hw7e j hj]
                          unfold pset
                          rw [if_pos rfl]
                        · rw [if_neg (fun c => by omega), s1d rd (by simp [nrx])]
                          unfold pset
                          rw [if_neg e]
                          exact hrd i (by omega) j hj
                      · intro b hb
                        simp only [List.mem_cons, List.not_mem_nil, or_false, not_or] at hb
                        rw [zu_o hb.1, zu_o hb.1, show zr I2 rd (cp7 (I2 rd) w7 k 7) b = I2 b from by funext i; rw [zr_a hb.2], s1d b (by simp [hb.1]), hf b (by simp [hb.1, hb.2])]
                      · intro j hj
                        rw [ex j (by omega) (by omega), i2x j (by omega)]
                        exact hx j hj
                  · exact absurd (nI_le (by decide) (by decide)) c124
                | succ d7 ih7 =>
                  intro j hj
                  refine z_iload_n h dX7_reads_121 rfl rfl ?_
                  refine z_bipush (v := 7) h dX7_reads_122 (by decide) ?_
                  rw [show (7 : Int32) = nI 7 from rfl]
                  refine z_icmp_ge h 150 dX7_reads_124 (by decide) (fun c124 => ?_) (fun c124 => ?_)
                  · exact absurd (nle (by decide) (by omega) c124) (by omega)
                  · refine z_aload_n h dX7_reads_127 rfl rfl ?_
                    refine z_getR h (by assumption) rfl kw7 4 (by decide) rfl (by assumption) kf_RX7_17 dX7_reads_128 ?_
                    
                    refine z_bipush (v := 7) h dX7_reads_131 (by decide) ?_
                    refine z_aload_n h dX7_reads_133 rfl rfl ?_
                    refine z_getI h (by assumption) rfl kw7 8 (by decide) rfl kf_RX7_193 dX7_reads_134 ?_
                    rw [zr_a (Ne.symm nrx), zr_a nax, g8, show (7 : Int32) = nI 7 from rfl]
                    refine z_imul h dX7_reads_137 ?_
                    rw [pk_mul]
                    refine z_iload_n h dX7_reads_138 rfl rfl ?_
                    refine z_iadd h dX7_reads_139 ?_
                    rw [nI_add]
                    refine z_aload_n h dX7_reads_140 rfl rfl ?_
                    refine z_iload_n h dX7_reads_141 rfl rfl ?_
                    refine z_iald h (by assumption) (zix_nI (by omega) (by decide)) dX7_reads_142 ?_
                    rw [zr_a (Ne.symm nard), zr_s]
                    refine z_iast h (by assumption) (zix_nI (by omega) (by decide)) dX7_reads_143 ?_
                    rw [zu_zr, cp7_s]
                    refine z_iinc h dX7_reads_144 rfl (nI_1 j) (by decide) ?_
                    refine z_goto h 121 dX7_reads_147 (by decide) ?_
                    exact z_lk (ih7 (j + 1) (by omega)) ⟨rfl, rfl, rfl, rfl, trivial⟩
              have e0 : zr (zr I2 a w7) rd (cp7 (I2 rd) w7 k 0) = zr I2 a w7 := by
                rw [show cp7 (I2 rd) w7 k 0 = (zr I2 a w7) rd from by
                  rw [show (zr I2 a w7) rd = I2 rd from by funext i; rw [zr_a nard]]
                  funext i
                  exact if_neg (fun q => by omega)]
                exact zr_id
              refine z_iconst (v := 0) h dX7_reads_119 (by decide) ?_
              refine z_istore_n h dX7_reads_120 rfl (by decide) ?_
              rw [← e0]
              exact z_lk (LC 7 0 rfl) ⟨rfl, rfl, rfl, rfl, trivial⟩
            
          · exact absurd (nI_inj (a := k) (b := 10) (by omega) (by decide) c42) (by omega)
  refine z_aload_n h dX7_reads_0 rfl rfl ?_
  refine z_iconst (v := 0) h dX7_reads_1 (by decide) ?_
  refine z_putI h (by assumption) rfl kw7 14 (by decide) rfl rfl (rfl) (rfl) kf_RX7_57 dX7_reads_2 ?_
  refine z_aload_n h dX7_reads_5 rfl rfl ?_
  refine z_iconst (v := 0) h dX7_reads_6 (by decide) ?_
  refine z_putI h (by assumption) rfl kw7 8 (by decide) rfl rfl (rfl) (rfl) kf_RX7_193 dX7_reads_7 ?_
  refine z_aload_n h dX7_reads_10 rfl rfl ?_
  refine z_iconst (v := 0) h dX7_reads_11 (by decide) ?_
  refine z_putI h (by assumption) rfl kw7 20 (by decide) rfl rfl (rfl) (rfl) kf_RX7_190 dX7_reads_12 ?_
  refine z_aload_n h dX7_reads_15 rfl rfl ?_
  refine z_callVNP h (c_X7_next l d1 d2 d3 (p := 0) (by rw [zu_k (by decide), zu_k (by decide), zu_k (by decide)]; exact hn) h4 (by rw [zu_k (by decide), zu_k (by decide), zu_s]; rfl) (Nat.zero_le _)) (by assumption) rfl gm_RX7_83 rfl ⟨rfl, rfl⟩ 0 (by decide +kernel) ⟨by decide, by decide⟩ rfl rfl (Nat.le_of_ble_eq_true rfl) ⟨Nat.zero_le _, Nat.zero_le _⟩ dX7_reads_16 (fun ν hν => ?_)
  obtain ⟨I1, rfl, hM, hf, ho⟩ := hν
  rw [zu_o ntx, zu_o ntx, zu_o ntx, hg] at hM
  exact z_lk (LL 10 0 (skp g n 0, wnd g n (skp g n 0)) (fun _ _ => 0) I1 rfl ⟨hM, by rw [hf tp (by simp [ntx]), zu_o ntx, zu_o ntx, zu_o ntx]; exact hg, (wnd_le g (skp_le g (Nat.zero_le _)).2).2.2, by rw [ho 8 (by decide) (by decide), zu_k (by decide), zu_s]; rfl, by rw [ho 20 (by decide) (by decide), zu_s]; rfl, fun i hi => absurd hi (by omega), fun b hb => by
    simp only [List.mem_cons, List.not_mem_nil, or_false, not_or] at hb
    rw [hf b (by simp [hb.1]), zu_o hb.1, zu_o hb.1, zu_o hb.1], fun j hj => by rw [ho j (by omega) (by omega), zu_k (by omega), zu_k (by omega), zu_k (by omega)], rfl⟩) ⟨rfl, trivial⟩
  
