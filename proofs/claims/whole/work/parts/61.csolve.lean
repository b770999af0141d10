/-! solve: what the class's sums hold of a story -/
/-- the story as it is asked: p its sentences, m of them; what is asked (if it is told) -/
def CS (I : Nat → Nat → Int32) (st ak : Nat) (rw : Nat → Nat) (p : Nat → Nat → Int32) (m u na : Nat) (ob : Option Nat) : Prop := (fun i w => I (rw i) w) = p ∧ I st 2 = nI m ∧ WT p m ∧ (∀ i, i < m → (!decide (I st 4 &&& (1 : Int32) <<< (nI i &&& 31) = 0)) = decide (p i 0 < 5)) ∧ (I st 5 ≠ 0 → I ak 1 = nI na ∧ na < 8 ∧ ((I ak 2 = -1 ∧ ob = none) ∨ ∃ nb, nb < 8 ∧ I ak 2 = nI nb ∧ ob = some nb ∧ nb ≠ na) ∧ I ak 3 = nI u ∧ u < 4)
def csG (I : Nat → Nat → Int32) (ak : Nat) (p : Nat → Nat → Int32) (m : Nat) : Int := gA p m (I ak 1) (I ak 2) (I ak 3) (I ak 4)
theorem CS.ob {I : Nat → Nat → Int32} {st ak : Nat} {rw : Nat → Nat} {p : Nat → Nat → Int32} {m u na : Nat} {ob : Option Nat} (h : CS I st ak rw p m u na ob) (ht : I st 5 ≠ 0) : ∀ nb, ob = some nb → nb < 8 ∧ nb ≠ na := by
  intro nb e
  rcases (h.2.2.2.2 ht).2.2.1 with ⟨_, w⟩ | ⟨n, h1, _, h3, h4⟩
  · rw [w] at e; cases e
  · rw [h3] at e; injection e with e; subst e; exact ⟨h1, h4⟩
theorem CS.congr {I I' : Nat → Nat → Int32} {st ak : Nat} {rw : Nat → Nat} {p : Nat → Nat → Int32} {m u na : Nat} {ob : Option Nat} (h : CS I st ak rw p m u na ob) (h1 : ∀ i, I' (rw i) = I (rw i)) (h2 : I' st = I st) (h3 : I' ak = I ak) : CS I' st ak rw p m u na ob := by
  unfold CS at *
  rw [h2, h3]
  refine ⟨?_, h.2⟩
  rw [← h.1]
  funext i w
  rw [h1 i]
def rhoQ (p : Nat → Nat → Int32) (m u na : Nat) (ob : Option Nat) : Nat → Int := redu (gth p m (nI u) aT m).1 (qrow na ob)
def hasC (t : Int32) (p : Nat → Nat → Int32) (m u na : Nat) (ob : Option Nat) : Prop := t ≠ 0 ∧ QC p m = -1 ∧ sd (rhoQ p m u na ob) = true
def SV (I : Nat → Nat → Int32) (J : Nat → Nat → Int64) (st su ak : Nat) (le g : Nat → Nat) (p : Nat → Nat → Int32) (m u na : Nat) (ob : Option Nat) : Prop :=
  I su 9 = QC p m ∧ (QC p m = -1 → ∀ u, u < 4 → CI (gth p m (nI u) aT m).1 (fun j k => J (g (8 * u + j)) k) (I (le u))) ∧
  (∀ v k, v < 4 → k < 8 → ((QC p m = -1 ∧ sd (rhoA p m v k) = true → (J (g 53) (8 * v + k)).toInt = val 0 (rhoA p m v k) 0 ∧ (J (g 54) (8 * v + k)).toInt = val 1 (rhoA p m v k) 0) ∧ (¬ (QC p m = -1 ∧ sd (rhoA p m v k) = true) → J (g 54) (8 * v + k) = 0))) ∧
  ((hasC (I st 5) p m u na ob → (J su 10).toInt = val 0 (rhoQ p m u na ob) (csG I ak p m) ∧ (J su 11).toInt = val 1 (rhoQ p m u na ob) (csG I ak p m)) ∧ (¬ hasC (I st 5) p m u na ob → J su 11 = 0)) ∧
  (∀ i, i < m → p i 0 < 5 → e10 (J (g (40 + i))) = fct p m i) ∧ (I st 5 ≠ 0 → e10 (J (g 50)) = sft (qrow na ob) (csG I ak p m))

set_option maxHeartbeats 4000000 in
set_option maxRecDepth 100000 in
theorem c_X4_solve (l : Launch) {E : zE} {S : zS} {I : Nat → Nat → Int32} {J : Nat → Nat → Int64} {R : Nat → Nat → Option Nat} {st pa ak : Nat} {rw : Nat → Nat} (hY : SY S R st pa ak rw) {su lo fl : Nat} {lw rs le g : Nat → Nat} (hU : SU S R su st lo fl lw rs le g) {p : Nat → Nat → Int32} {m u na : Nat} {ob : Option Nat} (hS : CS I st ak rw p m u na ob) (hrwA : ∀ i, rw i ≠ su) (hlerwA : ∀ i v, v < 5 → rw i ≠ le v) : zNP l yX4_solve wsX4_solve rmX4_solve E S [.ref su] (I, J, R) (fun ν => ∃ I' J', ν = (I', J', R) ∧ (∀ q, (∀ v, v < 4 → q ≠ le v) → q ≠ su → I' q = I q) ∧ (∀ w, w ≠ 9 → w ≠ 12 → w ≠ 13 → I' su w = I su w) ∧ I' su 12 = -1 ∧ I' su 13 = -1 ∧ (∀ q, (∀ j, j < 55 → q ≠ g j) → q ≠ su → J' q = J q) ∧ SV I' J' st su ak le g p m u na ob) := by
  refine z_metNP (cc := cX4_solve) (maxL := 1) (by decide) rfl (Nat.le_of_ble_eq_true rfl) (fun X h ret => ?_)
  show zV X E S 0 0 (I, J, R) 0 _ []
  obtain ⟨u1, u2, u3, u4, u5, u6, u7, u8, u9, u10, u11, u12, u13, u14, u15, u16, u17, u18, u19, u20⟩ := id hU
  obtain ⟨y1, y2, y3, y4, y5, y6, y7, y8⟩ := id hY
  obtain ⟨c1, c2, c3, c4, c5⟩ := id hS
  have ksu : ∀ a n k, zA S a n k → n ≠ 4 → a ≠ su := fun a n k ha hn w => by
    have h1 := ha.2.1
    rw [w, u1.2] at h1
    exact hn h1.symm
  have hstsu : st ≠ su := fun w => by have h1 := y1.2; rw [w, u1.2] at h1; exact absurd h1 (by decide)
  have haksu : ak ≠ su := ksu ak 9 5 y5 (by decide)
  have hrwsu : ∀ i, i < 10 → rw i ≠ su := fun i hi => ksu (rw i) 9 7 (y6 i hi).2 (by decide)
  have hle : ∀ v, v < 5 → le v ≠ su := fun v hv => ksu (le v) 11 8 (u13 v hv).2.2.2.2.1 (by decide)
  have hlest : ∀ v, v < 5 → st ≠ le v := fun v hv w => by have h1 := (u13 v hv).2.2.2.2.1.2.1; rw [← w, y1.2] at h1; exact absurd h1 (by decide)
  have hleak : ∀ v, v < 5 → ak ≠ le v := fun v hv w => by have h1 := (u13 v hv).2.2.2.2.1.2.1; rw [← w, y5.2.1] at h1; exact absurd h1 (by decide)
  have hlerw : ∀ v i, v < 5 → i < 10 → rw i ≠ le v := fun v i hv hi w => by have h1 := (u13 v hv).2.2.2.2.1.2.1; rw [← w, (y6 i hi).2.2.1] at h1; exact absurd h1 (by decide)
  have hK := kk_KC (p := p) c3.1
  have hG : ab (csG I ak p m) ≤ 1000000 := by have := gA_b c3 (I ak 1) (I ak 2) (I ak 3) (I ak 4); unfold csG; omega
  -- the rows of a story beyond its tenth are not there: what is said of them is said of no sentence
  have hPm : ∀ (I' : Nat → Nat → Int32), (∀ i, i < 10 → I' (rw i) = I (rw i)) → ∀ i w, i < 10 → I' (rw i) w = p i w := fun I' h1 i w hi => by rw [h1 i hi, ← c1]
  refine z_aload_n h dX4_solve_0 rfl rfl ?_
  refine z_iconst (v := -1) h dX4_solve_1 (by decide) ?_
  refine z_putI h (by assumption) rfl kw4 9 (by decide) rfl rfl (rfl) (rfl) kf_RX4_43 dX4_solve_2 ?_
  refine z_aload_n h dX4_solve_5 rfl rfl ?_
  refine z_lconst (v := 0) h dX4_solve_6 (by decide) ?_
  refine z_putJ h (by assumption) rfl kw4 10 (by decide) rfl rfl (rfl) (rfl) kf_RX4_47 dX4_solve_7 ?_
  refine z_aload_n h dX4_solve_10 rfl rfl ?_
  refine z_lconst (v := 0) h dX4_solve_11 (by decide) ?_
  refine z_putJ h (by assumption) rfl kw4 11 (by decide) rfl rfl (rfl) (rfl) kf_RX4_51 dX4_solve_12 ?_
  refine z_aload_n h dX4_solve_15 rfl rfl ?_
  refine z_iconst (v := -1) h dX4_solve_16 (by decide) ?_
  refine z_putI h (by assumption) rfl kw4 12 (by decide) rfl rfl (rfl) (rfl) kf_RX4_54 dX4_solve_17 ?_
  refine z_aload_n h dX4_solve_20 rfl rfl ?_
  refine z_iconst (v := -1) h dX4_solve_21 (by decide) ?_
  refine z_putI h (by assumption) rfl kw4 13 (by decide) rfl rfl (rfl) (rfl) kf_RX4_57 dX4_solve_22 ?_
  have hI1 : ∀ q, q ≠ su → (zu (zu (zu I su 9 (-1)) su 12 (-1)) su 13 (-1)) q = I q := fun q hq => by rw [zu_o hq, zu_o hq, zu_o hq]
  have hI1w : ∀ w, w ≠ 9 → w ≠ 12 → w ≠ 13 → (zu (zu (zu I su 9 (-1)) su 12 (-1)) su 13 (-1)) su w = I su w := fun w h1 h2 h3 => by rw [zu_k h3, zu_k h2, zu_k h1]
  have hI19 : (zu (zu (zu I su 9 (-1)) su 12 (-1)) su 13 (-1)) su 9 = -1 := by rw [zu_k (by decide), zu_k (by decide), zu_s]
  have hI112 : (zu (zu (zu I su 9 (-1)) su 12 (-1)) su 13 (-1)) su 12 = -1 := by rw [zu_k (by decide), zu_s]
  have hI113 : (zu (zu (zu I su 9 (-1)) su 12 (-1)) su 13 (-1)) su 13 = -1 := zu_s
  generalize zu (zu (zu I su 9 (-1)) su 12 (-1)) su 13 (-1) = I1 at *
  have hJ1 : ∀ q, q ≠ su → (zu (zu J su 10 0) su 11 0) q = J q := fun q hq => by rw [zu_o hq, zu_o hq]
  have hJ10 : (zu (zu J su 10 0) su 11 0) su 10 = 0 := by rw [zu_k (by decide), zu_s]
  have hJ11 : (zu (zu J su 10 0) su 11 0) su 11 = 0 := zu_s
  generalize zu (zu J su 10 0) su 11 0 = J1 at *
  have hCS1 : CS I1 st ak rw p m u na ob := hS.congr (fun i => ?HH) (hI1 st hstsu) (hI1 ak haksu)
  case HH => exact hI1 _ (hrwA i)
  have hG1 : csG I1 ak p m = csG I ak p m := by unfold csG; rw [hI1 ak haksu]
  refine z_aload_n h dX4_solve_25 rfl rfl ?_
  refine z_getR h (by assumption) rfl kw4 7 (by decide) rfl (by assumption) kf_RX4_40 dX4_solve_26 ?_
  refine z_lconst (v := 0) h dX4_solve_29 (by decide) ?_
  refine z_callSN h (c_J7_fill l u18 (by decide)) (va_cwS 2 h.2.2.2.2.1 gm_RX4_67 rfl rfl rfl (by decide +kernel) ⟨by decide, by decide⟩) rfl rfl (Nat.le_of_ble_eq_true rfl) ⟨Nat.zero_le _, Nat.zero_le _⟩ dX4_solve_30 ?_
  have hJ2 : ∀ q, q ≠ g 54 → zr J1 (g 54) (fun k => if k < 32 then 0 else J1 (g 54) k) q = J1 q := fun q hq => zr_a hq
  have hJ2z : ∀ k, k < 32 → zr J1 (g 54) (fun k => if k < 32 then 0 else J1 (g 54) k) (g 54) k = 0 := fun k hk => by rw [zr_sk, if_pos hk]
  generalize zr J1 (g 54) (fun k => if k < 32 then 0 else J1 (g 54) k) = J2 at *
  obtain ⟨d1, d2, d3, d4, d5⟩ := id hCS1
  refine z_aload_n h dX4_solve_33 rfl rfl ?_
  refine z_callVNP h (c_X4_makeLaws (na := na) l hY hU d2 (by rw [d1]; exact d3) (fun w => by obtain ⟨q1, q2, q3, q4, q5⟩ := d5 w; refine ⟨q1, q2, ?_⟩; rcases q3 with q3 | ⟨nb, v1, v2, _⟩; exact Or.inl q3.1; exact Or.inr ⟨nb, v1, v2⟩)) (by assumption) rfl gm_RX4_73 rfl ⟨rfl, rfl⟩ 0 (by decide +kernel) ⟨by decide, by decide⟩ rfl rfl (Nat.le_of_ble_eq_true rfl) ⟨Nat.zero_le _, Nat.zero_le _⟩ dX4_solve_34 (fun ν hν => ?_)
  rw [d1] at hν
  obtain ⟨J3, rfl, m1, m2, m3⟩ := hν
  have hFL : ∀ i, i < m → p i 0 < 5 → e10 (J3 (g (40 + i))) = fct p m i := fun i hi hf => by rw [m2 i hi]; exact e10_rowC d3 hi hf _
  have hQL : I1 st 5 ≠ 0 → e10 (J3 (g 50)) = sft (qrow na ob) (csG I ak p m) := fun w => by
    obtain ⟨q1, q2, q3, q4, q5⟩ := d5 w
    rw [m3 w, e10_rwQ d3 _ q2 q3, ← hG1]
    unfold csG
    rw [q1]
  refine z_aload_n h dX4_solve_37 rfl rfl ?_
  refine z_callVNP h (c_X4_addFacts l hY hU d2 (by rw [d1]; exact d3) (by rw [d1]; exact d4) (by rw [d1]; exact hFL) hI19) (by assumption) rfl gm_RX4_76 rfl ⟨rfl, rfl⟩ 0 (by decide +kernel) ⟨by decide, by decide⟩ rfl rfl (Nat.le_of_ble_eq_true rfl) ⟨Nat.zero_le _, Nat.zero_le _⟩ dX4_solve_38 (fun ν hν => ?_)
  rw [d1] at hν
  obtain ⟨I4, J4, rfl, n1, n2, n3, n4, n5⟩ := hν
  have e4 : ∀ q, (∀ v, v < 4 → q ≠ le v) → q ≠ su → I4 q = I q := fun q h1 h2 => (n1 q h1 h2).trans (hI1 q h2)
  have e4st : I4 st = I st := e4 st (fun v hv => hlest v (by omega)) hstsu
  have e4ak : I4 ak = I ak := e4 ak (fun v hv => hleak v (by omega)) haksu
  have e1st : I1 st = I st := hI1 st hstsu
  have g40 : ∀ i, i < 10 → J4 (g (40 + i)) = J3 (g (40 + i)) := fun i hi => n3 _ (fun j hj => hU.g_ne (by omega) (by omega) (by omega)) (hU.g_ne (by omega) (by omega) (by omega))
  have g50 : J4 (g 50) = J3 (g 50) := n3 _ (fun j hj => hU.g_ne (by omega) (by omega) (by omega)) (hU.g_ne (by omega) (by omega) (by omega))
  have g54 : ∀ k, k < 32 → J4 (g 54) k = 0 := fun k hk => by
    rw [n3 _ (fun j hj => hU.g_ne (by omega) (by omega) (by omega)) (hU.g_ne (by omega) (by omega) (by omega)), m1 _ (fun j hj => hU.g_ne (by omega) (by omega) (by omega)) (hU.g_ne (by omega) (by omega) (by omega))]
    exact hJ2z k hk
  have hsug : ∀ j, j < 55 → su ≠ g j := fun j hj => Ne.symm (hU.sug hj)
  have J4su : J4 su = J1 su := by
    rw [n3 su (fun j hj => hsug j (by omega)) (hsug 51 (by decide)), m1 su (fun j hj => hsug _ (by omega)) (hsug 50 (by decide)), hJ2 su (hsug 54 (by decide))]
  have FRJ : ∀ (J' : Nat → Nat → Int64), (∀ q, (∀ j, j < 55 → q ≠ g j) → q ≠ su → J' q = J4 q) → ∀ q, (∀ j, j < 55 → q ≠ g j) → q ≠ su → J' q = J q := fun J' hJ' q h1 h2 => by
    rw [hJ' q h1 h2, n3 q (fun j hj => h1 j (by omega)) (h1 51 (by decide)), m1 q (fun j hj => h1 _ (by omega)) (h1 50 (by decide)), hJ2 q (h1 54 (by decide)), hJ1 q h2]
  have hG4 : csG I4 ak p m = csG I ak p m := by unfold csG; rw [e4ak]
  have FRI : ∀ w, w ≠ 9 → w ≠ 12 → w ≠ 13 → I4 su w = I su w := fun w h1 h2 h3 => by rw [n2 w h1]; exact hI1w w h1 h2 h3
  have I412 : I4 su 12 = -1 := by rw [n2 12 (by decide)]; exact hI112
  have I413 : I4 su 13 = -1 := by rw [n2 13 (by decide)]; exact hI113
  have CSok : CS I4 st ak rw p m u na ob := hS.congr (fun i => e4 _ (fun v hv => hlerwA i v (by omega)) (hrwA i)) e4st e4ak
  refine z_aload_n h dX4_solve_41 rfl rfl ?_
  refine z_getI h (by assumption) rfl kw4 9 (by decide) rfl kf_RX4_43 dX4_solve_42 ?_
  rw [n4]
  refine z_iconst (v := -1) h dX4_solve_45 (by decide) ?_
  refine z_icmp_ne h 57 dX4_solve_46 (by decide) (fun c46 => ?_) (fun c46 => ?_)
  · refine ret ⟨I4, J4, rfl, e4, FRI, I412, I413, FRJ J4 (fun _ _ _ => rfl), ?_⟩ dX4_solve_57
    refine ⟨n4, fun w => absurd w c46, fun v k hv hk => ⟨fun w => absurd w.1 c46, fun _ => g54 _ (by omega)⟩, ⟨fun w => absurd w.2.1 c46, fun _ => by rw [J4su]; exact hJ11⟩, fun i hi hf => ?_, fun w => ?_⟩
    · rw [g40 i (by have := c3.1; omega)]; exact hFL i hi hf
    · rw [g50, hG4]; exact hQL (by rw [e1st, ← e4st]; exact w)
  · refine z_aload_n h dX4_solve_49 rfl rfl ?_
    refine z_callVNP h (c_X4_settleAmounts l hU d3 (fun v hv => (n5 c46 v hv).1)) (by assumption) rfl gm_RX4_79 rfl ⟨rfl, rfl⟩ 0 (by decide +kernel) ⟨by decide, by decide⟩ rfl rfl (Nat.le_of_ble_eq_true rfl) ⟨Nat.zero_le _, Nat.zero_le _⟩ dX4_solve_50 (fun ν hν => ?_)
    obtain ⟨J5, rfl, s1, s2⟩ := hν
    have J5su : J5 su = J1 su := by rw [s1 su (hsug 51 (by decide)) (hsug 53 (by decide)) (hsug 54 (by decide)), J4su]
    have J5g : ∀ j, j < 51 → J5 (g j) = J4 (g j) := fun j hj => s1 _ (hU.g_ne (by omega) (by omega) (by omega)) (hU.g_ne (by omega) (by omega) (by omega)) (hU.g_ne (by omega) (by omega) (by omega))
    refine z_aload_n h dX4_solve_53 rfl rfl ?_
    refine z_callVNP h (c_X4_settleAnswer (u := u) (na := na) (ob := ob) (G := csG I ak p m) l hY hU d3 (fun v hv => ci_congr (n5 c46 v hv).1 (fun j hj => by congr 1; funext k; rw [J5g _ (by omega)]) (fun _ _ => rfl)) (fun w => by obtain ⟨q1, q2, q3, q4, q5⟩ := CSok.2.2.2.2 w; exact ⟨q4, q5, q2, CSok.ob w, hG, by rw [J5g 50 (by decide), g50]; exact hQL (by rw [e1st, ← e4st]; exact w)⟩)) (by assumption) rfl gm_RX4_82 rfl ⟨rfl, rfl⟩ 0 (by decide +kernel) ⟨by decide, by decide⟩ rfl rfl (Nat.le_of_ble_eq_true rfl) ⟨Nat.zero_le _, Nat.zero_le _⟩ dX4_solve_54 (fun ν hν => ?_)
    obtain ⟨J6, rfl, r1, r2, r3⟩ := hν
    have J6g : ∀ j, j < 55 → j ≠ 51 → J6 (g j) = J5 (g j) := fun j hj h51 => r1 _ (hU.g_ne (by omega) (by omega) (by omega)) (hU.sug hj)
    refine ret ⟨I4, J6, rfl, e4, FRI, I412, I413, FRJ J6 (fun q h1 h2 => by rw [r1 q (h1 51 (by decide)) h2, s1 q (h1 51 (by decide)) (h1 53 (by decide)) (h1 54 (by decide))]), ?_⟩ dX4_solve_57
    refine ⟨n4, fun w v hv => ?_, fun v k hv hk => ?_, ⟨fun w => ?_, fun w => ?_⟩, fun i hi hf => ?_, fun w => ?_⟩
    · exact ci_congr (n5 w v hv).1 (fun j hj => by congr 1; funext k; rw [J6g _ (by omega) (by omega), J5g _ (by omega)]) (fun _ _ => rfl)
    · rw [J6g 53 (by decide) (by decide), J6g 54 (by decide) (by decide)]
      obtain ⟨s3, s4⟩ := s2 v k hv hk
      refine ⟨fun w => s3 w.2, fun w => ?_⟩
      have : sd (rhoA p m v k) = false := by
        cases hh : sd (rhoA p m v k) with
        | false => rfl
        | true => exact absurd ⟨c46, hh⟩ w
      rw [s4 this]
      exact g54 _ (by omega)
    · have := (r2 w.1).1 w.2.2
      rw [hG4]
      exact this
    · by_cases t : I4 st 5 = 0
      · rw [r3 t, J5su]; exact hJ11
      · have : sd (rhoQ p m u na ob) = false := by
          cases hh : sd (rhoQ p m u na ob) with
          | false => rfl
          | true => exact absurd ⟨t, c46, hh⟩ w
        rw [((r2 t).2 this).2, J5su]
        exact hJ11
    · rw [J6g _ (by have := c3.1; omega) (by have := c3.1; omega), J5g _ (by have := c3.1; omega), g40 i (by have := c3.1; omega)]; exact hFL i hi hf
    · rw [J6g 50 (by decide) (by decide), J5g 50 (by decide), g50, hG4]; exact hQL (by rw [e1st, ← e4st]; exact w)
