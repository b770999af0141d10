/-! addFacts, settleAmounts, settleAnswer -/
theorem sft_q0 {na : Nat} {G : Int} (h : na < 8) : sft (qrow na none) G = gr na na (-1) 0 1 G := by
  funext i
  unfold sft
  by_cases q : i = 9
  · rw [if_pos q, q, show qrow na none 9 = 0 from gr_9 (by omega) (by omega), show qrow na none 8 = 1 from gr_8 h h, gr_9 (by omega) (by omega)]; omega
  · rw [if_neg q]
    show gr na na (-1) 0 1 0 i = _
    unfold gr
    rw [if_neg q, if_neg q]
theorem sft_q1 {na nb : Nat} {G : Int} (h : na < 8) (h2 : nb < 8) : sft (qrow na (some nb)) G = gr na nb (-1) (-1) 1 G := by
  funext i
  unfold sft
  by_cases q : i = 9
  · rw [if_pos q, q, show qrow na (some nb) 9 = 0 from gr_9 (by omega) (by omega), show qrow na (some nb) 8 = 1 from gr_8 h h2, gr_9 (by omega) (by omega)]; omega
  · rw [if_neg q]
    show gr na nb (-1) (-1) 1 0 i = _
    unfold gr
    rw [if_neg q, if_neg q]
theorem qrow_8 {na : Nat} {ob : Option Nat} (hna : na < 8) (hob : ∀ nb, ob = some nb → nb < 8 ∧ nb ≠ na) : qrow na ob 8 = 1 := by
  cases ob with
  | none => exact gr_8 hna hna
  | some nb => exact gr_8 hna (hob nb rfl).1
/-- what reduce of the class makes of an asked row -/
theorem c_ask {k : Int} {es : List (Nat × (Nat → Int))} {T : Nat → Nat → Int64} {L : Nat → Int32} (hk : 0 ≤ k) (hk2 : k ≤ 99900) (h : RI k es) (hC : CI es T L) {na : Nat} {ob : Option Nat} (hna : na < 8) (hob : ∀ nb, ob = some nb → nb < 8 ∧ nb ≠ na) {G : Int} (hG : ab G ≤ 1000000) {r : Nat → Int64} (hr : e10 r = sft (qrow na ob) G) : ∀ i, i < 10 → e10 (rdC T L r 8) i = (if 0 ≤ redu es (qrow na ob) 8 then 1 else -1) * sft (redu es (qrow na ob)) G i := by
  have hpq := qrow_prim hna hob
  have hl8 : ∀ q ∈ es, q.1 < 8 := fun q hq => (h.2.1 q hq).1
  obtain ⟨t, z, C, D, M, e, hp, p1, p2, -⟩ := ri_pot h hpq (Nat.le_refl _)
  rw [List.take_length] at hp p1 p2
  have key : e10 (rdC T L r 8) = rdZ (fun j => e10 (T j)) L (sft (qrow na ob) G) 8 ∧ prim 10 (rdZ (fun j => e10 (T j)) L (sft (qrow na ob) G) 8) := by
    cases ob with
    | none =>
      rw [sft_q0 hna] at hr ⊢
      obtain ⟨c1, c2, -⟩ := c_red hk hk2 hp p1 p2 hC hna hna (Or.inr ⟨rfl, rfl⟩) (by decide) (by decide) (by decide) (by decide) hG (gr_prim hna rfl (Or.inr rfl)) hr 8 (Nat.le_refl _)
      exact ⟨c1, c2⟩
    | some nb =>
      obtain ⟨h1, h2⟩ := hob nb rfl
      rw [sft_q1 hna h1] at hr ⊢
      obtain ⟨c1, c2, -⟩ := c_red hk hk2 hp p1 p2 hC hna h1 (Or.inl ⟨Ne.symm h2, by decide⟩) (by decide) (by decide) (by decide) (by decide) hG (gr_prim hna rfl (Or.inl (Ne.symm h2))) hr 8 (Nat.le_refl _)
      exact ⟨c1, c2⟩
  intro i hi
  rw [key.1]
  exact c_q h hC hpq (qrow_8 hna hob) key.2 i hi
theorem c_ask2 {ρ : Nat → Int} {G : Int} {r : Nat → Int64} (h8 : ρ 8 ≠ 0) (h : ∀ i, i < 10 → e10 r i = (if 0 ≤ ρ 8 then 1 else -1) * sft ρ G i) : (fst8 r = -1 ↔ sd ρ = true) ∧ (r 9).toInt = val 0 ρ G ∧ (r 8).toInt = val 1 ρ G ∧ (r 8).toInt ≠ 0 := by
  have hz : ∀ i, i < 8 → (r i = 0 ↔ ρ i = 0) := fun i hi => by
    have := h i (by omega)
    rw [e10_n (by omega)] at this
    rw [i64_0, this, show sft ρ G i = ρ i from if_neg (by omega)]
    split <;> omega
  have hfs := fs_fi hz 8 0 rfl
  have e9 := h 9 (by decide)
  have e8 := h 8 (by decide)
  rw [e10_n (by decide), show sft ρ G 9 = ρ 9 + ρ 8 * G from if_pos rfl] at e9
  rw [e10_n (by decide), show sft ρ G 8 = ρ 8 from if_neg (by decide)] at e8
  refine ⟨?_, ?_, ?_, ?_⟩
  · unfold fst8 sd
    rw [hfs, decide_eq_true_eq]
    constructor
    · intro w
      by_cases q : fiN ρ 8 0 = 8
      · exact q
      · rw [if_neg q] at w
        have := fi_le ρ 8 0
        exact absurd w (nI_nm1 (by omega))
    · intro w; rw [if_pos w]
  · rw [e9]
    unfold val
    rw [if_pos rfl]
    split <;> omega
  · rw [e8]
    unfold val
    rw [if_neg (show ¬ (1 : Int32) = 0 by decide)]
    split <;> omega
  · rw [e8]; split <;> omega
def aT : Nat → Bool := fun _ => true
def QCb (p : Nat → Nat → Int32) (m i : Nat) : Bool := decide (p i 0 < 5) && !(gth p m (p i 3) aT (i + 1)).2
def QC (p : Nat → Nat → Int32) (m : Nat) : Int32 := qFr (QCb p m) m 0
theorem qFr_s {q : Nat → Bool} {d i : Nat} (h : q i = false) : qFr q (d + 1) i = qFr q d (i + 1) := by
  show (if q i = true then _ else _) = _
  rw [h, if_neg (by decide)]
theorem qFr_f {q : Nat → Bool} {d i : Nat} (h : q i = true) : qFr q (d + 1) i = nI i := by
  show (if q i = true then _ else _) = _
  rw [if_pos h]

set_option maxHeartbeats 4000000 in
set_option maxRecDepth 100000 in
theorem c_X4_addFacts (l : Launch) {E : zE} {S : zS} {I : Nat → Nat → Int32} {J : Nat → Nat → Int64} {R : Nat → Nat → Option Nat} {st pa ak : Nat} {rw : Nat → Nat} (hY : SY S R st pa ak rw) {su lo fl : Nat} {lw rs le g : Nat → Nat} (hU : SU S R su st lo fl lw rs le g) {m : Nat} (hn : I st 2 = nI m) (hW : WT (fun i w => I (rw i) w) m) (hFB : ∀ i, i < m → (!decide (I st 4 &&& (1 : Int32) <<< (nI i &&& 31) = 0)) = decide ((fun i w => I (rw i) w) i 0 < 5)) (hFL : ∀ i, i < m → (fun i w => I (rw i) w) i 0 < 5 → e10 (J (g (40 + i))) = fct (fun i w => I (rw i) w) m i) (hq : I su 9 = -1) : zNP l yX4_addFacts wsX4_addFacts rmX4_addFacts E S [.ref su] (I, J, R) (fun ν => ∃ I' J', ν = (I', J', R) ∧ (∀ q, (∀ u, u < 4 → q ≠ le u) → q ≠ su → I' q = I q) ∧ (∀ w, w ≠ 9 → I' su w = I su w) ∧ (∀ q, (∀ j, j < 32 → q ≠ g j) → q ≠ g 51 → J' q = J q) ∧ I' su 9 = QC (fun i w => I (rw i) w) m ∧ (QC (fun i w => I (rw i) w) m = -1 → ∀ u, u < 4 → CI (gth (fun i w => I (rw i) w) m (nI u) aT m).1 (fun j k => J' (g (8 * u + j)) k) (I' (le u)) ∧ (gth (fun i w => I (rw i) w) m (nI u) aT m).2 = true)) := by
  refine z_metNP (cc := cX4_addFacts) (maxL := 3) (by decide) rfl (Nat.le_of_ble_eq_true rfl) (fun X h ret => ?_)
  show zV X E S 0 0 (I, J, R) 0 _ []
  obtain ⟨u1, u2, u3, u4, u5, u6, u7, u8, u9, u10, u11, u12, u13, u14, u15, u16, u17, u18, u19, u20⟩ := id hU
  have y1 := hY.1
  generalize hPP : (fun i w => I (rw i) w) = P at *
  have hm10 := hW.1
  have hK := kk_KC (p := P) hW.1
  obtain ⟨hk0, hk1⟩ := kc_le hK
  have hles : ∀ u, u < 5 → le u ≠ su := fun u hu w => by
    have h1 := (u13 u hu).2.2.2.2.1.2.1
    rw [w, u1.2] at h1
    exact absurd h1 (by decide)
  have hlest : ∀ u, u < 5 → le u ≠ st := fun u hu w => by
    have h1 := (u13 u hu).2.2.2.2.1.2.1
    rw [w, y1.2] at h1
    exact absurd h1 (by decide)
  have hsust : su ≠ st := fun w => by
    have h1 := u1.2
    rw [w, y1.2] at h1
    exact absurd h1 (by decide)
  have hlerw : ∀ u i, u < 5 → i < 10 → le u ≠ rw i := fun u i hu hi w => by
    have h1 := (u13 u hu).2.2.2.2.1.2.1
    rw [w, (hY.2.2.2.2.2.1 i hi).2.2.1] at h1
    exact absurd h1 (by decide)
  have hsurw : ∀ i, i < 10 → su ≠ rw i := fun i hi w => by
    have h1 := u1.2
    rw [w, (hY.2.2.2.2.2.1 i hi).2.2.1] at h1
    exact absurd h1 (by decide)
  have a51 := hU.A10 (show 51 < 53 by decide)
  have LB : ∀ (d i : Nat) (I2 : Nat → Nat → Int32) (J2 : Nat → Nat → Int64), i + d = m → I2 su 9 = -1 → (∀ q, (∀ u, u < 4 → q ≠ le u) → q ≠ su → I2 q = I q) → (∀ w, w ≠ 9 → I2 su w = I su w) → (∀ q, (∀ j, j < 32 → q ≠ g j) → q ≠ g 51 → J2 q = J q) → (∀ u, u < 4 → CI (gth P m (nI u) aT i).1 (fun j k => J2 (g (8 * u + j)) k) (I2 (le u)) ∧ (gth P m (nI u) aT i).2 = true) → qFr (QCb P m) d i = QC P m → zV X E S 0 0 (I2, J2, R) 24 [(0, .ref su), (1, .int (nI i))] [] := by
    intro d
    induction d with
    | zero =>
      intro i I2 J2 hi hq9 f1 f2 f3 hC he
      have e : i = m := by omega
      subst e
      have hn2 : I2 st 2 = nI i := by rw [f1 st (fun u hu => Ne.symm (hlest u (by omega))) (Ne.symm hsust)]; exact hn
      refine z_iload_n h dX4_addFacts_24 rfl rfl ?_
      refine z_aload_n h dX4_addFacts_25 rfl rfl ?_
      refine z_getR h (by assumption) rfl kw4 8 (by decide) rfl (by assumption) kf_RX4_60 dX4_addFacts_26 ?_
      refine z_callVI h (c_X3_size l y1) (by assumption) rfl gm_RX4_85 rfl ⟨rfl, rfl⟩ 0 (by decide +kernel) ⟨by decide, by decide⟩ rfl rfl (Nat.le_of_ble_eq_true rfl) ⟨Nat.zero_le _, Nat.zero_le _⟩ dX4_addFacts_29 ?_
      rw [hn2]
      refine z_icmp_ge h 120 dX4_addFacts_32 (by decide) (fun c32 => ?_) (fun c32 => ?_)
      · exact ret ⟨I2, J2, rfl, f1, f2, f3, by rw [hq9]; exact he, fun _ => hC⟩ dX4_addFacts_120
      · exact absurd (nI_le (Nat.le_refl _) (by omega)) c32
    | succ d ih =>
      intro i I2 J2 hi hq9 f1 f2 f3 hC he
      have him : i < m := by omega
      have hn2 : I2 st 2 = nI m := by rw [f1 st (fun u hu => Ne.symm (hlest u (by omega))) (Ne.symm hsust)]; exact hn
      have hst4 : I2 st 4 = I st 4 := by rw [f1 st (fun u hu => Ne.symm (hlest u (by omega))) (Ne.symm hsust)]
      have hP2 : ∀ j w, j < 10 → I2 (rw j) w = P j w := fun j w hj => by rw [f1 (rw j) (fun u hu => Ne.symm (hlerw u j (by omega) hj)) (Ne.symm (hsurw j hj)), ← hPP]
      obtain ⟨s0, na0, u0, nn0, z1, z2, z3, z4, z5, z6, -⟩ := id (hW.2 i him)
      have he2 : QCb P m i = false → qFr (QCb P m) d (i + 1) = QC P m := fun w => by rw [← he, qFr_s w]
      have NEXT : ∀ (I3 : Nat → Nat → Int32) (J3 : Nat → Nat → Int64), I3 su 9 = -1 → (∀ q, (∀ u, u < 4 → q ≠ le u) → q ≠ su → I3 q = I q) → (∀ w, w ≠ 9 → I3 su w = I su w) → (∀ q, (∀ j, j < 32 → q ≠ g j) → q ≠ g 51 → J3 q = J q) → (∀ u, u < 4 → CI (gth P m (nI u) aT (i + 1)).1 (fun j k => J3 (g (8 * u + j)) k) (I3 (le u)) ∧ (gth P m (nI u) aT (i + 1)).2 = true) → QCb P m i = false → zV X E S 0 0 (I3, J3, R) 114 [(0, .ref su), (1, .int (nI i))] [] := by
        intro I3 J3 e1 e2 e3 e4 e5 e6
        refine z_iinc h dX4_addFacts_114 rfl (nI_1 i) (by decide) ?_
        refine z_goto h 24 dX4_addFacts_117 (by decide) ?_
        exact z_lk (ih (i + 1) I3 J3 (by omega) e1 e2 e3 e4 e5 (he2 e6)) ⟨rfl, rfl, trivial⟩
      have hsk : ∀ u, u < 4 → (u ≠ u0 ∨ ¬ P i 0 < 5) → gth P m (nI u) aT (i + 1) = gth P m (nI u) aT i := fun u hu w => by
        show (if (gth P m (nI u) aT i).2 && sel P (nI u) aT i then _ else gth P m (nI u) aT i) = _
        have : sel P (nI u) aT i = false := by
          unfold sel
          rcases w with w | w
          · rw [z5, decide_eq_false (fun v => w (nI_inj (by omega) (by omega) v).symm), Bool.and_false]
          · rw [decide_eq_false w, Bool.and_false, Bool.false_and]
        rw [this, Bool.and_false, if_neg (by decide)]
      refine z_iload_n h dX4_addFacts_24 rfl rfl ?_
      refine z_aload_n h dX4_addFacts_25 rfl rfl ?_
      refine z_getR h (by assumption) rfl kw4 8 (by decide) rfl (by assumption) kf_RX4_60 dX4_addFacts_26 ?_
      refine z_callVI h (c_X3_size l y1) (by assumption) rfl gm_RX4_85 rfl ⟨rfl, rfl⟩ 0 (by decide +kernel) ⟨by decide, by decide⟩ rfl rfl (Nat.le_of_ble_eq_true rfl) ⟨Nat.zero_le _, Nat.zero_le _⟩ dX4_addFacts_29 ?_
      rw [hn2]
      refine z_icmp_ge h 120 dX4_addFacts_32 (by decide) (fun c32 => ?_) (fun c32 => ?_)
      · exact absurd (nle (by omega) (by omega) c32) (by omega)
      · refine z_iload_n h dX4_addFacts_35 rfl rfl ?_
        refine z_bipush (v := 10) h dX4_addFacts_36 (by decide) ?_
        rw [show (10 : Int32) = nI 10 from rfl]
        refine z_icmp_ge h 120 dX4_addFacts_38 (by decide) (fun c38 => ?_) (fun c38 => ?_)
        · exact absurd (nle (by decide) (by omega) c38) (by omega)
        · refine z_aload_n h dX4_addFacts_41 rfl rfl ?_
          refine z_getI h (by assumption) rfl kw4 9 (by decide) rfl kf_RX4_43 dX4_addFacts_42 ?_
          rw [hq9]
          refine z_iconst (v := -1) h dX4_addFacts_45 (by decide) ?_
          refine z_icmp_ne h 120 dX4_addFacts_46 (by decide) (fun c46 => ?_) (fun c46 => ?_)
          · exact absurd rfl c46
          · refine z_aload_n h dX4_addFacts_49 rfl rfl ?_
            refine z_getR h (by assumption) rfl kw4 8 (by decide) rfl (by assumption) kf_RX4_60 dX4_addFacts_50 ?_
            refine z_iload_n h dX4_addFacts_53 rfl rfl ?_
            refine z_iconst (v := 3) h dX4_addFacts_54 (by decide) ?_
            refine z_callVI h (c_X3_partN l hY hn2 hm10 him (w := 3) (by decide)) (by assumption) rfl gm_RX4_91 rfl ⟨rfl, rfl⟩ 2 (by decide +kernel) ⟨by decide, by decide⟩ rfl rfl (Nat.le_of_ble_eq_true rfl) ⟨Nat.zero_le _, Nat.zero_le _⟩ dX4_addFacts_55 ?_
            rw [hP2 i 3 (by omega), z5]
            refine z_istore_n h dX4_addFacts_58 rfl (by decide) ?_
            refine z_aload_n h dX4_addFacts_59 rfl rfl ?_
            refine z_iload_n h dX4_addFacts_60 rfl rfl ?_
            refine z_callVI h (c_X4_isFact l u1 u10 y1) (by assumption) rfl gm_RX4_120 rfl ⟨rfl, rfl⟩ 1 (by decide +kernel) ⟨by decide, by decide⟩ rfl rfl (Nat.le_of_ble_eq_true rfl) ⟨Nat.zero_le _, Nat.zero_le _⟩ dX4_addFacts_61 ?_
            rw [hst4, hFB i him]
            refine z_if_eq h 114 dX4_addFacts_64 (by decide) (fun c64 => ?_) (fun c64 => ?_)
            · have c64 := of_decide_eq_false (b2i_0.mp c64)
              refine z_lk (NEXT I2 J2 hq9 f1 f2 f3 (fun u hu => ?_) (by unfold QCb; rw [decide_eq_false c64, Bool.false_and])) ⟨rfl, rfl, trivial⟩
              rw [hsk u hu (Or.inr c64)]
              exact hC u hu
            · have c64 := of_decide_eq_true (b2i_n0.mp c64)
              refine z_iload_n h dX4_addFacts_67 rfl rfl ?_
              refine z_if_lt h 114 dX4_addFacts_68 (by decide) (fun c68 => ?_) (fun c68 => ?_)
              · exact absurd c68 (nI_pos (by omega))
              · refine z_iload_n h dX4_addFacts_71 rfl rfl ?_
                refine z_iconst (v := 4) h dX4_addFacts_72 (by decide) ?_
                rw [show (4 : Int32) = nI 4 from rfl]
                refine z_icmp_ge h 114 dX4_addFacts_73 (by decide) (fun c73 => ?_) (fun c73 => ?_)
                · exact absurd (nle (by decide) (by omega) c73) (by omega)
                · refine z_aload_n h dX4_addFacts_76 rfl rfl ?_
                  refine z_getR h (by assumption) rfl kw4 2 (by decide) rfl (by assumption) kf_RX4_24 dX4_addFacts_77 ?_
                  refine z_iload_n h dX4_addFacts_80 rfl rfl ?_
                  refine z_aaldJ h (by assumption) (zix_nI (by omega) (by decide)) (u15 i (by omega)) dX4_addFacts_81 ?_
                  refine z_iconst (v := 0) h dX4_addFacts_82 (by decide) ?_
                  refine z_aload_n h dX4_addFacts_83 rfl rfl ?_
                  refine z_getR h (by assumption) rfl kw4 4 (by decide) rfl (by assumption) kf_RX4_31 dX4_addFacts_84 ?_
                  refine z_iconst (v := 0) h dX4_addFacts_87 (by decide) ?_
                  refine z_bipush (v := 10) h dX4_addFacts_88 (by decide) ?_
                  have ai := hU.A10 (show 40 + i < 53 by omega)
                  refine z_copyl h kar_4 kar_s kar_i kar_n ai a51 (N := 10) rfl (by decide) (by decide) (by decide) (by decide) (by decide) dX4_addFacts_90 ?_
                  have hJ3g : ∀ j, j < 32 → ∀ k, zr J2 (g 51) (fun j => if j < 10 then J2 (g (40 + i)) j else J2 (g 51) j) (g j) k = J2 (g j) k := fun j hj k => by rw [zr_a (hU.g_ne (by omega) (by omega) (by omega))]
                  have hrow : e10 (zr J2 (g 51) (fun j => if j < 10 then J2 (g (40 + i)) j else J2 (g 51) j) (g 51)) = fct P m i := by
                    rw [zr_s, ← hFL i him c64, ← f3 (g (40 + i)) (fun j hj => hU.g_ne (by omega) (by omega) (by omega)) (hU.g_ne (by omega) (by omega) (by omega))]
                    funext k
                    by_cases q : k < 10
                    · rw [e10_n q, e10_n q, if_pos q]
                    · rw [e10_o q, e10_o q]
                  have hCu := hC u0 z6
                  have hri := (gth_ri hW (nI u0) aT i (by omega)).1
                  have hC3 : CI (gth P m (nI u0) aT i).1 (fun j k => zr J2 (g 51) (fun j => if j < 10 then J2 (g (40 + i)) j else J2 (g 51) j) (g (8 * u0 + j)) k) (I2 (le u0)) := ci_congr hCu.1 (fun j hj => by congr 1; funext k; exact hJ3g (8 * u0 + j) (by omega) k) (fun _ _ => rfl)
                  have hstep : gth P m (nI u0) aT (i + 1) = ad (gth P m (nI u0) aT i).1 (fct P m i) := by
                    show (if (gth P m (nI u0) aT i).2 && sel P (nI u0) aT i then _ else gth P m (nI u0) aT i) = _
                    have : sel P (nI u0) aT i = true := by
                      unfold sel aT
                      rw [decide_eq_true c64, z5, decide_eq_true rfl]; rfl
                    rw [this, hCu.2, Bool.and_true, if_pos rfl]
                  refine z_aload_n h dX4_addFacts_93 rfl rfl ?_
                  refine z_getR h (by assumption) rfl kw4 0 (by decide) rfl (by assumption) kf_RX4_11 dX4_addFacts_94 ?_
                  refine z_iload_n h dX4_addFacts_97 rfl rfl ?_
                  refine z_aaldL h (by assumption) (zix_nI z6 (by decide)) (u12 u0 z6) dX4_addFacts_98 ?_
                  refine z_aload_n h dX4_addFacts_99 rfl rfl ?_
                  refine z_getR h (by assumption) rfl kw4 4 (by decide) rfl (by assumption) kf_RX4_31 dX4_addFacts_100 ?_
                  refine z_callVIP h (c_X1_add l (u13 u0 (by omega)) a51 (fun j hj => hU.g_ne (by omega) (by omega) (by omega))) ((u13 u0 (by omega)).1) rfl gm_RX4_130 rfl ⟨rfl, rfl⟩ 1 (by decide +kernel) ⟨by decide, by decide⟩ rfl rfl (Nat.le_of_ble_eq_true rfl) ⟨Nat.zero_le _, Nat.zero_le _⟩ dX4_addFacts_103 (fun r ν hν => ?_)
                  obtain ⟨I4, J4, rfl, hr, g1, g2, g3⟩ := add_es (u13 u0 (by omega)) (fun j hj => hU.g_ne (by omega) (by omega) (by omega)) hk0 hk1 hri hC3 (fct_ok hW him c64) hrow hν
                  have hr2 : r = b2i (gth P m (nI u0) aT (i + 1)).2 := by rw [hstep]; exact hr
                  have k1 : ∀ q, (∀ u, u < 4 → q ≠ le u) → q ≠ su → I4 q = I q := fun q h1 h2 => (g1 q (h1 u0 z6)).trans (f1 q h1 h2)
                  have k2 : I4 su = I2 su := g1 su (Ne.symm (hles u0 (by omega)))
                  have k3 : ∀ q, (∀ j, j < 32 → q ≠ g j) → q ≠ g 51 → J4 q = J q := fun q h1 h2 => (g2 q h2 (fun j hj => h1 _ (by omega))).trans ((zr_a h2).trans (f3 q h1 h2))
                  subst hr2
                  refine z_if_ne h 114 dX4_addFacts_106 (by decide) (fun c106 => ?_) (fun c106 => ?_)
                  · have c106 := b2i_n0.mp c106
                    refine z_lk (NEXT I4 J4 (by rw [k2]; exact hq9) k1 (fun w hw => by rw [k2]; exact f2 w hw) k3 (fun u hu => ?_) (by unfold QCb; rw [z5, c106, Bool.and_comm]; rfl)) ⟨rfl, rfl, trivial⟩
                    by_cases w : u = u0
                    · subst w
                      refine ⟨?_, c106⟩
                      rw [hstep]
                      exact g3
                    · rw [hsk u hu (Or.inl w)]
                      refine ⟨ci_congr (hC u hu).1 (fun j hj => ?_) (fun j hj => ?_), (hC u hu).2⟩
                      · congr 1
                        have h1 := g2 (g (8 * u + j)) (hU.g_ne (by omega) (by omega) (by omega)) (fun j' hj' => hU.g_ne (by omega) (by omega) (by omega))
                        funext k
                        rw [h1]
                        exact hJ3g (8 * u + j) (by omega) k
                      · rw [g1 (le u) (fun v => w (u20 u u0 (by omega) (by omega) v))]
                  · have c106 := b2i_0.mp c106
                    refine z_aload_n h dX4_addFacts_109 rfl rfl ?_
                    refine z_iload_n h dX4_addFacts_110 rfl rfl ?_
                    refine z_putI h (by assumption) rfl kw4 9 (by decide) rfl rfl (rfl) (rfl) kf_RX4_43 dX4_addFacts_111 ?_
                    have hqq : nI i = QC P m := by
                      rw [← he, qFr_f (by unfold QCb; rw [decide_eq_true c64, z5, c106]; rfl)]
                    refine z_iinc h dX4_addFacts_114 rfl (nI_1 i) (by decide) ?_
                    refine z_goto h 24 dX4_addFacts_117 (by decide) ?_
                    have hn4 : (zu I4 su 9 (nI i)) st 2 = nI m := by rw [zu_a (Ne.symm hsust), k1 st (fun u hu => Ne.symm (hlest u (by omega))) (Ne.symm hsust)]; exact hn
                    have END : zV X E S 0 0 (zu I4 su 9 (nI i), J4, R) 120 [] [] := by
                      refine ret ⟨_, _, rfl, fun q h1 h2 => by rw [zu_o h2]; exact k1 q h1 h2, fun w hw => by rw [zu_k hw, k2]; exact f2 w hw, k3, by rw [zu_s]; exact hqq, fun v => ?_⟩ dX4_addFacts_120
                      rw [← hqq] at v
                      exact absurd v (nI_nm1 (by omega))
                    refine z_iload_n h dX4_addFacts_24 rfl rfl ?_
                    refine z_aload_n h dX4_addFacts_25 rfl rfl ?_
                    refine z_getR h u1 rfl kw4 8 (by decide) rfl u10 kf_RX4_60 dX4_addFacts_26 ?_
                    refine z_callVI h (c_X3_size l y1) (y1) rfl gm_RX4_85 rfl ⟨rfl, rfl⟩ 0 (by decide +kernel) ⟨by decide, by decide⟩ rfl rfl (Nat.le_of_ble_eq_true rfl) ⟨Nat.zero_le _, Nat.zero_le _⟩ dX4_addFacts_29 ?_
                    rw [hn4]
                    refine z_icmp_ge h 120 dX4_addFacts_32 (by decide) (fun _ => z_lk END trivial) (fun c32' => ?_)
                    refine z_iload_n h dX4_addFacts_35 rfl rfl ?_
                    refine z_bipush (v := 10) h dX4_addFacts_36 (by decide) ?_
                    refine z_icmp_ge h 120 dX4_addFacts_38 (by decide) (fun _ => z_lk END trivial) (fun c38' => ?_)
                    refine z_aload_n h dX4_addFacts_41 rfl rfl ?_
                    refine z_getI h u1 rfl kw4 9 (by decide) rfl kf_RX4_43 dX4_addFacts_42 ?_
                    rw [zu_s]
                    refine z_iconst (v := -1) h dX4_addFacts_45 (by decide) ?_
                    refine z_icmp_ne h 120 dX4_addFacts_46 (by decide) (fun _ => z_lk END trivial) (fun c46' => absurd c46' (nI_nm1 (by omega)))
  have LA1 : ∀ (d u : Nat) (I1 : Nat → Nat → Int32), u + d = 4 → (∀ v, v < u → ∀ j, j < 8 → I1 (le v) j = 0) → (∀ q, (∀ v, v < 4 → q ≠ le v) → I1 q = I q) → zV X E S 0 0 (I1, J, R) 2 [(0, .ref su), (1, .int (nI u))] [] := by
    intro d
    induction d with
    | zero =>
      intro u I1 hu h1 h2
      have e : u = 4 := by omega
      subst e
      have es := h2 su (fun v hv => Ne.symm (hles v (by omega)))
      refine z_iload_n h dX4_addFacts_2 rfl rfl ?_
      refine z_iconst (v := 4) h dX4_addFacts_3 (by decide) ?_
      rw [show (4 : Int32) = nI 4 from rfl]
      refine z_icmp_ge h 22 dX4_addFacts_4 (by decide) (fun c4 => ?_) (fun c4 => ?_)
      · refine z_iconst (v := 0) h dX4_addFacts_22 (by decide) ?_
        refine z_istore_n h dX4_addFacts_23 rfl (by decide) ?_
        exact z_lk (LB m 0 I1 J (by omega) (by rw [es]; exact hq) (fun q hq1 _ => h2 q hq1) (fun w _ => by rw [es]) (fun _ _ _ => rfl) (fun u hu => ⟨ci_nil (fun j hj => h1 u hu j hj), rfl⟩) rfl) ⟨rfl, rfl, trivial⟩
      · exact absurd (nI_le (by decide) (by decide)) c4
    | succ d ih =>
      intro u I1 hu h1 h2
      refine z_iload_n h dX4_addFacts_2 rfl rfl ?_
      refine z_iconst (v := 4) h dX4_addFacts_3 (by decide) ?_
      rw [show (4 : Int32) = nI 4 from rfl]
      refine z_icmp_ge h 22 dX4_addFacts_4 (by decide) (fun c4 => ?_) (fun c4 => ?_)
      · exact absurd (nle (by decide) (by omega) c4) (by omega)
      · refine z_aload_n h dX4_addFacts_7 rfl rfl ?_
        refine z_getR h (by assumption) rfl kw4 0 (by decide) rfl (by assumption) kf_RX4_11 dX4_addFacts_8 ?_
        refine z_iload_n h dX4_addFacts_11 rfl rfl ?_
        refine z_aaldL h (by assumption) (zix_nI (by omega) (by decide)) (u12 u (by omega)) dX4_addFacts_12 ?_
        refine z_callVN h (c_X1_clear l (u13 u (by omega))) ((u13 u (by omega)).1) rfl gm_RX4_117 rfl ⟨rfl, rfl⟩ 0 (by decide +kernel) ⟨by decide, by decide⟩ rfl rfl (Nat.le_of_ble_eq_true rfl) ⟨Nat.zero_le _, Nat.zero_le _⟩ dX4_addFacts_13 ?_
        refine z_iinc h dX4_addFacts_16 rfl (nI_1 u) (by decide) ?_
        refine z_goto h 2 dX4_addFacts_19 (by decide) ?_
        refine z_lk (ih (u + 1) _ (by omega) (fun v hv j hj => ?_) (fun q hq1 => (zr_a (hq1 u (by omega))).trans (h2 q hq1))) ⟨rfl, rfl, trivial⟩
        by_cases w : v = u
        · subst w
          rw [zr_sk, if_pos hj]
        · rw [zr_a (fun q => w (u20 v u (by omega) (by omega) q))]
          exact h1 v (by omega) j hj
  refine z_iconst (v := 0) h dX4_addFacts_0 (by decide) ?_
  refine z_istore_n h dX4_addFacts_1 rfl (by decide) ?_
  exact z_lk (LA1 4 0 I rfl (fun v hv => absurd hv (by omega)) (fun _ _ => rfl)) ⟨rfl, rfl, trivial⟩
