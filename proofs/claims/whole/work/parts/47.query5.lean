/-! strange, lacking, count of the reference -/
theorem len8 {k : Int} {es : List (Nat × (Nat → Int))} (h : RI k es) {f : Nat → Int} (hp : prim 10 f) {r : Nat → Int64} (hz : ∀ k, k < 8 → (r k = 0 ↔ redu es f k = 0)) (hlt : fsN r 8 0 < 8) : es.length < 8 := by
  have hsp := redu_spec h.1 hp
  rw [fs_fi hz 8 0 rfl] at hlt
  exact ri_7 h hlt (fun q hq w => fi_ne _ 8 0 (by omega) (by rw [← w]; exact hsp.2.1 q hq))
def vN (n k : Nat) : Int64 := if k = n then 1 else 0
theorem e9_one {n : Nat} (hn : n < 8) (f : Nat → Int64) : e9 (fun k => if k < 9 then vN n k else f k) = gr n n 1 0 0 0 := by
  funext k
  unfold e9 gr vN
  dsimp only
  by_cases k8 : k < 8
  · rw [if_pos k8, if_pos (show k < 9 by omega), if_neg (show ¬ k = 8 by omega), if_neg (show ¬ k = 9 by omega)]
    by_cases q : k = n
    · rw [if_pos q, if_pos q, if_pos q]; decide
    · rw [if_neg q, if_neg q, if_neg q]; decide
  · rw [if_neg k8, if_neg (show ¬ k = n by omega), if_neg (show ¬ k = n by omega)]
    by_cases q9 : k = 9
    · rw [if_pos q9, if_neg (show ¬ k = 8 by omega), if_pos q9, if_pos (show 8 < 9 by decide), if_neg (show ¬ 8 = n by omega)]; decide
    · rw [if_neg q9, if_neg q9]; split <;> rfl
theorem RM.ms {I : Nat → Nat → Int32} {J : Nat → Nat → Int64} {x ro ba be : Nat} {es : List (Nat × (Nat → Int))} (h : RM I J x ba be es) {r : Nat → Int64} {t b : Int64} (h1 : ba ≠ x) (h2 : ba ≠ ro) : RM I (mS J ro x r t b) x ba be es := ⟨h.1, fun j q hq => ⟨(h.2 j q hq).1, by rw [← (h.2 j q hq).2]; exact e9_congr (fun k _ => mS_ba h1 h2)⟩⟩
theorem RM.zr {I : Nat → Nat → Int32} {J : Nat → Nat → Int64} {x ro ba be : Nat} {es : List (Nat × (Nat → Int))} (h : RM I J x ba be es) {r : Nat → Int64} (h2 : ba ≠ ro) : RM I (zr J ro r) x ba be es := ⟨h.1, fun j q hq => ⟨(h.2 j q hq).1, by rw [← (h.2 j q hq).2]; exact e9_congr (fun k _ => zr_ak h2)⟩⟩

set_option maxHeartbeats 4000000 in
set_option maxRecDepth 100000 in
theorem c_X7_lacking (l : Launch) {E : zE} {S : zS} {I : Nat → Nat → Int32} {J : Nat → Nat → Int64} {R : Nat → Nat → Option Nat} {x ro ba be : Nat} (hm : MB S R x ro ba be) {td m : Nat} (hD : TD S R I x td m) (hW : WT (fun i w => tdP I td i w) m) {ak na : Nat} {ob : Option Nat} (hQ : I x 9 ≠ 0 → AK S R I x ak na ob) : zIP l yX7_lacking wsX7_lacking rmX7_lacking E S [.ref x] (I, J, R) (fun r ν => ∃ I' J', ν = (I', J', R) ∧ FQ (zu I x 0 0) I' J J' x ro ba be ∧ r = (if I x 9 ≠ 0 ∧ QA (fun i w => tdP I td i w) m = -1 ∧ AB (fun i w => tdP I td i w) m (I ak 3) (bt (al m)) na ob = false then qFr (lkq (fun i w => tdP I td i w) m (I ak 3) na ob) 8 0 else -1)) := by
  refine z_metIP (cc := cX7_lacking) (maxL := 4) (ty := .int) (by decide) rfl (Nat.le_of_ble_eq_true rfl) (fun X h ret => ?_)
  show zV X E S 0 0 (I, J, R) 0 _ []
  obtain ⟨n1, n2⟩ := td_ne hm hD
  obtain ⟨m1, m2, m3, m4, m5, m6, m7, m8⟩ := id hm
  have hP0 := td_z0 (I := I) n2
  have hD0 := hD.z0
  have hK := kk_KC (p := (fun i w => tdP I td i w)) hW.1
  obtain ⟨hk0, hk1⟩ := kc_le hK
  generalize hPP : (fun i w => tdP I td i w) = P at *
  have hnx : I x 9 ≠ 0 → ak ≠ x := fun w => (ak_ne hm (hQ w)).2
  have hQ0 : (zu I x 0 0) x 9 ≠ 0 → AK S R (zu I x 0 0) x ak na ob := fun w => by rw [zu_k (by decide)] at w; exact (hQ w).z0 (hnx w)
  have hrx : ro ≠ x := Ne.symm hm.xro
  have hbx : ba ≠ x := Ne.symm hm.xba
  refine z_aload_n h dX7_lacking_0 rfl rfl ?_
  refine z_iconst (v := 0) h dX7_lacking_1 (by decide) ?_
  refine z_putI h (by assumption) rfl kw7 0 (by decide) rfl rfl (rfl) (rfl) kf_RX7_42 dX7_lacking_2 ?_
  refine z_aload_n h dX7_lacking_5 rfl rfl ?_
  refine z_getI h (by assumption) rfl kw7 9 (by decide) rfl kf_RX7_207 dX7_lacking_6 ?_
  rw [zu_k (by decide)]
  refine z_if_eq h 31 dX7_lacking_9 (by decide) (fun c9 => ?_) (fun c9 => ?_)
  · refine z_iconst (v := -1) h dX7_lacking_31 (by decide) ?_
    exact ret ⟨_, _, rfl, FQ.rf, by rw [if_neg (fun v => v.1 c9)]⟩ dX7_lacking_32 rfl
  · have hQ1 := hQ c9
    obtain ⟨a1, a2⟩ := ak_ne hm hQ1
    have eak0 : zu I x 0 0 ak = I ak := zu_o a2
    refine z_aload_n h dX7_lacking_12 rfl rfl ?_
    refine z_callVIP h (c_X7_quarrelAt l hm hD0 (by rw [hP0]; exact hW)) (by assumption) rfl gm_RX7_255 rfl ⟨rfl, rfl⟩ 0 (by decide +kernel) ⟨by decide, by decide⟩ rfl rfl (Nat.le_of_ble_eq_true rfl) ⟨Nat.zero_le _, Nat.zero_le _⟩ dX7_lacking_13 (fun r ν hν => ?_)
    rw [hP0] at hν
    obtain ⟨I1, J1, rfl, hr, hF1⟩ := hν
    subst hr
    have hD1 := hF1.TD hD0
    have hP1 : (fun i w => tdP I1 td i w) = P := by rw [hF1.tds n1 n2, hP0]
    have eak1 : I1 ak = I ak := (hF1.1 ak a1 a2).trans eak0
    refine z_iconst (v := -1) h dX7_lacking_16 (by decide) ?_
    refine z_icmp_ne h 31 dX7_lacking_17 (by decide) (fun c17 => ?_) (fun c17 => ?_)
    · refine z_iconst (v := -1) h dX7_lacking_31 (by decide) ?_
      exact ret ⟨_, _, rfl, hF1, by rw [if_neg (fun v => c17 v.2.1)]⟩ dX7_lacking_32 rfl
    · refine z_aload_n h dX7_lacking_20 rfl rfl ?_
      refine z_aload_n h dX7_lacking_21 rfl rfl ?_
      refine z_callVI h (c_X7_al l hD1) (by assumption) rfl gm_RX7_261 rfl ⟨rfl, rfl⟩ 0 (by decide +kernel) ⟨by decide, by decide⟩ rfl rfl (Nat.le_of_ble_eq_true rfl) ⟨Nat.zero_le _, Nat.zero_le _⟩ dX7_lacking_22 ?_
      refine z_callVIP h (c_X7_answersBy l hm hD1 (by rw [hP1]; exact hW) ((hQ1.z0 a2).fq hm hF1)) (by assumption) rfl gm_RX7_264 rfl ⟨rfl, rfl⟩ 1 (by decide +kernel) ⟨by decide, by decide⟩ rfl rfl (Nat.le_of_ble_eq_true rfl) ⟨Nat.zero_le _, Nat.zero_le _⟩ dX7_lacking_25 (fun r ν hν => ?_)
      rw [hP1, eak1] at hν
      obtain ⟨I1', J1', rfl, hr, hF1', _⟩ := hν
      subst hr
      refine z_if_eq h 33 dX7_lacking_28 (by decide) (fun c28 => ?_) (fun c28 => ?_)
      · have c28 := b2i_0.mp c28
        have hcond : I x 9 ≠ 0 ∧ QA P m = -1 ∧ AB P m (I ak 3) (bt (al m)) na ob = false := ⟨c9, c17, c28⟩
        have hri := (gth_ri hW (I ak 3) (bt (al m)) m (Nat.le_refl _)).1
        have hlen10 := nf_m hW (un := I ak 3) (st := bt (al m))
        have LL : ∀ (d n : Nat) (I2 : Nat → Nat → Int32) (J2 : Nat → Nat → Int64), n + d = 8 → FQ (zu I x 0 0) I2 J J2 x ro ba be → qFr (lkq P m (I ak 3) na ob) d n = qFr (lkq P m (I ak 3) na ob) 8 0 → zV X E S 0 0 (I2, J2, R) 35 [(0, .ref x), (1, .int (nI n))] [] := by
          intro d
          induction d with
          | zero =>
            intro n I2 J2 hn hF2 he
            have e : n = 8 := by omega
            subst e
            refine z_iload_n h dX7_lacking_35 rfl rfl ?_
            refine z_bipush (v := 8) h dX7_lacking_36 (by decide) ?_
            rw [show (8 : Int32) = nI 8 from rfl]
            refine z_icmp_ge h 162 dX7_lacking_38 (by decide) (fun c38 => ?_) (fun c38 => ?_)
            · refine z_iconst (v := -1) h dX7_lacking_162 (by decide) ?_
              exact ret ⟨I2, J2, rfl, hF2, by rw [if_pos hcond]; exact he⟩ dX7_lacking_163 rfl
            · exact absurd (nI_le (by decide) (by decide)) c38
          | succ d ih =>
            intro n I2 J2 hn hF2 he
            have hD2 := hF2.TD hD0
            have hP2 : (fun i w => tdP I2 td i w) = P := by rw [hF2.tds n1 n2, hP0]
            have eak : I2 ak = I ak := (hF2.1 ak a1 a2).trans eak0
            have hQ2 := (hQ1.z0 a2).fq hm hF2
            obtain ⟨q1, q2, q3, q4, q5⟩ := id hQ2
            have d1 := hD2.1
            have hn8 : n < 8 := by omega
            have hob : ∀ nb, (none : Option Nat) = some nb → nb < 8 ∧ nb ≠ n := fun nb w => nomatch w
            have he2 : lkq P m (I ak 3) na ob n = false → qFr (lkq P m (I ak 3) na ob) d (n + 1) = qFr (lkq P m (I ak 3) na ob) 8 0 := fun w => by
              rw [← he]
              show _ = if lkq P m (I ak 3) na ob n = true then _ else _
              rw [w, if_neg (by decide)]
            have N156 : lkq P m (I ak 3) na ob n = false → ∀ (I3 : Nat → Nat → Int32) (J3 : Nat → Nat → Int64), FQ (zu I x 0 0) I3 J J3 x ro ba be → zV X E S 0 0 (I3, J3, R) 156 [(0, .ref x), (1, .int (nI n))] [] := by
              intro w I3 J3 hF3
              refine z_iinc h dX7_lacking_156 rfl (nI_1 n) (by decide) ?_
              refine z_goto h 35 dX7_lacking_159 (by decide) ?_
              exact z_lk (ih (n + 1) I3 J3 (by omega) hF3 (he2 w)) ⟨rfl, rfl, trivial⟩
            refine z_iload_n h dX7_lacking_35 rfl rfl ?_
            refine z_bipush (v := 8) h dX7_lacking_36 (by decide) ?_
            rw [show (8 : Int32) = nI 8 from rfl]
            refine z_icmp_ge h 162 dX7_lacking_38 (by decide) (fun c38 => ?_) (fun c38 => ?_)
            · exact absurd (nle (by decide) (by omega) c38) (by omega)
            · refine z_aload_n h dX7_lacking_41 rfl rfl ?_
              refine z_aload_n h dX7_lacking_42 rfl rfl ?_
              refine z_getR h (by assumption) rfl kw7 5 (by decide) rfl (by assumption) kf_RX7_20 dX7_lacking_43 ?_
              refine z_iconst (v := 3) h dX7_lacking_46 (by decide) ?_
              refine z_iald h (by assumption) (zix_c _ (j := 3) rfl (by decide) (by decide)) dX7_lacking_47 ?_
              refine z_aload_n h dX7_lacking_48 rfl rfl ?_
              refine z_callVI h (c_X7_al l hD2) (by assumption) rfl gm_RX7_261 rfl ⟨rfl, rfl⟩ 0 (by decide +kernel) ⟨by decide, by decide⟩ rfl rfl (Nat.le_of_ble_eq_true rfl) ⟨Nat.zero_le _, Nat.zero_le _⟩ dX7_lacking_49 ?_
              refine z_callVIP h (c_X7_gather l hm hD2 (by rw [hP2]; exact hW)) (by assumption) rfl gm_RX7_251 rfl ⟨rfl, rfl⟩ 2 (by decide +kernel) ⟨by decide, by decide⟩ rfl rfl (Nat.le_of_ble_eq_true rfl) ⟨Nat.zero_le _, Nat.zero_le _⟩ dX7_lacking_52 (fun r ν hν => ?_)
              rw [hP2, eak] at hν
              obtain ⟨I3, J3, rfl, hr, hF3, hM3⟩ := hν
              subst hr
              generalize hes : (gth P m (I ak 3) (bt (al m)) m).1 = es at *
              have hF3q := hF2.tr hF3.q
              have hD3 := hF3q.TD hD0
              have eak3 : I3 ak = I ak := (hF3q.1 ak a1 a2).trans eak0
              have hQ3 := (hQ1.z0 a2).fq hm hF3q
              obtain ⟨v1, v2, v3, v4, v5⟩ := id hQ3
              have d3 := hD3.1
              have hb3 : (I3 ak 2 = -1 ∧ ob = none) ∨ ∃ nb, nb < 8 ∧ I3 ak 2 = nI nb ∧ ob = some nb := by
                rcases v5 with w | ⟨nb, w1, w2, w3, w4⟩
                · exact Or.inl w
                · exact Or.inr ⟨nb, w1, w2, w3⟩
              have hlk : lkq P m (I ak 3) na ob n = (!sd (redu es (qrow n none)) && ((ad es (gr n n 1 0 0 0)).2 && sd (redu (ad es (gr n n 1 0 0 0)).1 (qrow na ob)))) := by
                unfold lkq
                rw [hes]
              have AFT : zV X E S 0 0 (I3, zr J3 ro (fun k => if k < 9 then vN n k else J3 ro k), R) 86 [(0, .ref x), (1, .int (nI n))] [] := by
                generalize hJ4 : zr J3 ro (fun k => if k < 9 then vN n k else J3 ro k) = J4
                have hM4 : RM I3 J4 x ba be es := by rw [← hJ4]; exact hM3.zr (Ne.symm m8)
                have hF4 : FQ (zu I x 0 0) I3 J J4 x ro ba be := hF3q.tr ⟨fun _ _ _ => rfl, fun _ _ => rfl, fun a h1 _ _ => by rw [← hJ4]; exact zr_a h1⟩
                have hset := set_es hM4 hri hK (by omega) hn8 hob (J4 ro)
                refine z_aload_n h dX7_lacking_86 rfl rfl ?_
                refine z_iload_n h dX7_lacking_87 rfl rfl ?_
                refine z_iconst (v := -1) h dX7_lacking_88 (by decide) ?_
                refine z_callVI h (c_X7_settles l hm hM4.1 (ri_8 hri) (rm_rb hM4 hri).2 hn8 (Or.inl ⟨rfl, rfl⟩) hset.1) (by assumption) rfl gm_RX7_258 rfl ⟨rfl, rfl⟩ 2 (by decide +kernel) ⟨by decide, by decide⟩ rfl rfl (Nat.le_of_ble_eq_true rfl) ⟨Nat.zero_le _, Nat.zero_le _⟩ dX7_lacking_89 ?_
                rw [hset.2.1]
                refine z_if_eq h 98 dX7_lacking_92 (by decide) (fun c92 => ?_) (fun c92 => ?_)
                · have c92 := b2i_0.mp c92
                  have hM5 := hM4.ms (ro := ro) (r := (rdS (fun j k => J4 ba (9 * j + k)) (bgI I3 be) (q0 (J4 ro) n none) es.length).1) (t := (rdS (fun j k => J4 ba (9 * j + k)) (bgI I3 be) (q0 (J4 ro) n none) es.length).2.1) (b := (rdS (fun j k => J4 ba (9 * j + k)) (bgI I3 be) (q0 (J4 ro) n none) es.length).2.2) hbx (Ne.symm m8)
                  have hF5 : FQ (zu I x 0 0) I3 J _ x ro ba be := hF4.tr (FQ.ms (r := (rdS (fun j k => J4 ba (9 * j + k)) (bgI I3 be) (q0 (J4 ro) n none) es.length).1) (t := (rdS (fun j k => J4 ba (9 * j + k)) (bgI I3 be) (q0 (J4 ro) n none) es.length).2.1) (b := (rdS (fun j k => J4 ba (9 * j + k)) (bgI I3 be) (q0 (J4 ro) n none) es.length).2.2))
                  generalize mS J4 ro x (rdS (fun j k => J4 ba (9 * j + k)) (bgI I3 be) (q0 (J4 ro) n none) es.length).1 (rdS (fun j k => J4 ba (9 * j + k)) (bgI I3 be) (q0 (J4 ro) n none) es.length).2.1 (rdS (fun j k => J4 ba (9 * j + k)) (bgI I3 be) (q0 (J4 ro) n none) es.length).2.2 = J5 at *
                  have AFT : zV X E S 0 0 (I3, zr J5 ro (fun k => if k < 9 then vN n k else J5 ro k), R) 128 [(0, .ref x), (1, .int (nI n))] [] := by
                    have hrow : e9 (zr J5 ro (fun k => if k < 9 then vN n k else J5 ro k) ro) = gr n n 1 0 0 0 := by rw [zr_s]; exact e9_one hn8 (J5 ro)
                    have hF6 : FQ (zu I x 0 0) I3 J (zr J5 ro (fun k => if k < 9 then vN n k else J5 ro k)) x ro ba be := hF5.tr ⟨fun _ _ _ => rfl, fun _ _ => rfl, fun a h1 _ _ => zr_a h1⟩
                    have hM6 := hM5.zr (ro := ro) (r := fun k => if k < 9 then vN n k else J5 ro k) (Ne.symm m8)
                    generalize zr J5 ro (fun k => if k < 9 then vN n k else J5 ro k) = J6 at *
                    obtain ⟨rb1, rb2⟩ := rm_rb hM6 hri
                    have hA := rd_one hK hri (by omega) hn8 rb1 hrow es.length (Nat.le_refl _)
                    rw [List.take_length] at hA
                    have hfn : Fct (kk P m) n n 0 0 := ⟨hn8, hn8, Or.inr ⟨rfl, rfl⟩, by rw [ab_z]; exact hk0⟩
                    have hri2 := ad_ri hk0 hri hfn
                    have hf8 : fsN (rdR (fun j k => J6 ba (9 * j + k)) (bgI I3 be) (J6 ro) es.length) 8 0 < 8 → es.length < 8 := len8 hri (gr_prim (a := n) (b := n) (α := 1) (β := 0) (σ := 0) (γ := 0) hn8 rfl (Or.inr rfl)) (fun k hk => by rw [← hA, e9_n hk, i64_0])
                    refine z_aload_n h dX7_lacking_128 rfl rfl ?_
                    refine z_callVIP h (c_X7_adds l hm hM6.1 (ri_8 hri) rb2 hf8) (by assumption) rfl gm_RX7_241 rfl ⟨rfl, rfl⟩ 0 (by decide +kernel) ⟨by decide, by decide⟩ rfl rfl (Nat.le_of_ble_eq_true rfl) ⟨Nat.zero_le _, Nat.zero_le _⟩ dX7_lacking_129 (fun r ν hν => ?_)
                    obtain ⟨I7, J7, rfl, hr, g1, g2, g3, hM7⟩ := adds_es (f := gr n n 1 0 0 0) hm hM6 (Or.inl hA) hν
                    subst hr
                    have hF7 : FQ (zu I x 0 0) I7 J J7 x ro ba be := hF6.tr ⟨g1, g2, fun a h1 h2 _ => g3 a h1 h2⟩
                    have hQ7 := (hQ1.z0 a2).fq hm hF7
                    obtain ⟨u1, u2, u3, u4, u5⟩ := id hQ7
                    have d7 := (hF7.TD hD0).1
                    have hb7 : (I7 ak 2 = -1 ∧ ob = none) ∨ ∃ nb, nb < 8 ∧ I7 ak 2 = nI nb ∧ ob = some nb := by
                      rcases u5 with w | ⟨nb, w1, w2, w3, w4⟩
                      · exact Or.inl w
                      · exact Or.inr ⟨nb, w1, w2, w3⟩
                    have hset7 := set_es hM7 hri2.1 hK (by have := hri2.2; omega) u4 hQ7.ob (J7 ro)
                    refine z_if_eq h 156 dX7_lacking_132 (by decide) (fun c132 => ?_) (fun c132 => ?_)
                    · have c132 := b2i_0.mp c132
                      exact z_lk (N156 (by rw [hlk, c132, Bool.false_and, Bool.and_false]) I7 J7 hF7) ⟨rfl, rfl, trivial⟩
                    · have c132 := b2i_n0.mp c132
                      refine z_aload_n h dX7_lacking_135 rfl rfl ?_
                      refine z_aload_n h dX7_lacking_136 rfl rfl ?_
                      refine z_getR h (by assumption) rfl kw7 5 (by decide) rfl (by assumption) kf_RX7_20 dX7_lacking_137 ?_
                      refine z_iconst (v := 1) h dX7_lacking_140 (by decide) ?_
                      refine z_iald h (by assumption) (zix_c _ (j := 1) rfl (by decide) (by decide)) dX7_lacking_141 ?_
                      refine z_aload_n h dX7_lacking_142 rfl rfl ?_
                      refine z_getR h (by assumption) rfl kw7 5 (by decide) rfl (by assumption) kf_RX7_20 dX7_lacking_143 ?_
                      refine z_iconst (v := 2) h dX7_lacking_146 (by decide) ?_
                      refine z_iald h (by assumption) (zix_c _ (j := 2) rfl (by decide) (by decide)) dX7_lacking_147 ?_
                      rw [u3]
                      refine z_callVI h (c_X7_settles l hm hM7.1 (ri_8 hri2.1) (rm_rb hM7 hri2.1).2 u4 hb7 hset7.1) (by assumption) rfl gm_RX7_258 rfl ⟨rfl, rfl⟩ 2 (by decide +kernel) ⟨by decide, by decide⟩ rfl rfl (Nat.le_of_ble_eq_true rfl) ⟨Nat.zero_le _, Nat.zero_le _⟩ dX7_lacking_148 ?_
                      rw [hset7.2.1]
                      refine z_if_eq h 156 dX7_lacking_151 (by decide) (fun c151 => ?_) (fun c151 => ?_)
                      · have c151 := b2i_0.mp c151
                        exact z_lk (N156 (by rw [hlk, c151, Bool.and_false, Bool.and_false]) I7 _ (hF7.tr FQ.ms)) ⟨rfl, rfl, trivial⟩
                      · refine z_iload_n h dX7_lacking_154 rfl rfl ?_
                        refine ret ⟨I7, _, rfl, hF7.tr FQ.ms, ?_⟩ dX7_lacking_155 rfl
                        rw [if_pos hcond, ← he]
                        show nI n = if lkq P m (I ak 3) na ob n = true then _ else _
                        rw [if_pos (by rw [hlk, c92, c132, b2i_n0.mp c151]; rfl)]
                  have L100 : ∀ (d i : Nat), i + d = 9 → zV X E S 0 0 (I3, zr J5 ro (fun k => if k < i then vN n k else J5 ro k), R) 100 [(0, .ref x), (1, .int (nI n)), (3, .int (nI i))] [] := by
                    intro d
                    induction d with
                    | zero =>
                      intro i hi
                      have hi9 : i = 9 := by omega
                      subst hi9
                      refine z_iload_n h dX7_lacking_100 rfl rfl ?_
                      refine z_bipush (v := 9) h dX7_lacking_101 (by decide) ?_
                      rw [show (9 : Int32) = nI 9 from rfl]
                      refine z_icmp_ge h 128 dX7_lacking_103 (by decide) (fun c103 => ?_) (fun c103 => ?_)
                      · exact z_lk AFT ⟨rfl, rfl, trivial⟩
                      · exact absurd (nI_le (by decide) (by decide)) c103
                    | succ d ih2 =>
                      intro i hi
                      refine z_iload_n h dX7_lacking_100 rfl rfl ?_
                      refine z_bipush (v := 9) h dX7_lacking_101 (by decide) ?_
                      rw [show (9 : Int32) = nI 9 from rfl]
                      refine z_icmp_ge h 128 dX7_lacking_103 (by decide) (fun c103 => ?_) (fun c103 => ?_)
                      · exact absurd (nle (by decide) (by omega) c103) (by omega)
                      · refine z_aload_n h dX7_lacking_106 rfl rfl ?_
                        refine z_getR h (by assumption) rfl kw7 22 (by decide) rfl (by assumption) kf_RX7_36 dX7_lacking_107 ?_
                        refine z_iload_n h dX7_lacking_110 rfl rfl ?_
                        refine z_iload_n h dX7_lacking_111 rfl rfl ?_
                        refine z_iload_n h dX7_lacking_112 rfl rfl ?_
                        refine z_icmp_ne h 120 dX7_lacking_113 (by decide) (fun c113 => ?_) (fun c113 => ?_)
                        · refine z_lconst (v := 0) h dX7_lacking_120 (by decide) ?_
                          first
                            | (rw [show (1 : Int64) = vN n i from (if_pos (nI_inj (by omega) (by omega) c113)).symm]
                               refine z_last h (by assumption) (zix_nI (by omega) (by decide)) dX7_lacking_121 ?_
                               rw [row_up (v := vN n)]
                               refine z_iinc h dX7_lacking_122 rfl (nI_1 i) (by decide) ?_
                               refine z_goto h 100 dX7_lacking_125 (by decide) ?_
                               exact z_lk (ih2 (i + 1) (by omega)) ⟨rfl, rfl, rfl, trivial⟩)
                            | (rw [show (0 : Int64) = vN n i from (if_neg (fun w => c113 (by rw [w]))).symm]
                               refine z_last h (by assumption) (zix_nI (by omega) (by decide)) dX7_lacking_121 ?_
                               rw [row_up (v := vN n)]
                               refine z_iinc h dX7_lacking_122 rfl (nI_1 i) (by decide) ?_
                               refine z_goto h 100 dX7_lacking_125 (by decide) ?_
                               exact z_lk (ih2 (i + 1) (by omega)) ⟨rfl, rfl, rfl, trivial⟩)
                        · refine z_lconst (v := 1) h dX7_lacking_116 (by decide) ?_
                          refine z_goto h 121 dX7_lacking_117 (by decide) ?_
                          first
                            | (rw [show (1 : Int64) = vN n i from (if_pos (nI_inj (by omega) (by omega) c113)).symm]
                               refine z_last h (by assumption) (zix_nI (by omega) (by decide)) dX7_lacking_121 ?_
                               rw [row_up (v := vN n)]
                               refine z_iinc h dX7_lacking_122 rfl (nI_1 i) (by decide) ?_
                               refine z_goto h 100 dX7_lacking_125 (by decide) ?_
                               exact z_lk (ih2 (i + 1) (by omega)) ⟨rfl, rfl, rfl, trivial⟩)
                            | (rw [show (0 : Int64) = vN n i from (if_neg (fun w => c113 (by rw [w]))).symm]
                               refine z_last h (by assumption) (zix_nI (by omega) (by decide)) dX7_lacking_121 ?_
                               rw [row_up (v := vN n)]
                               refine z_iinc h dX7_lacking_122 rfl (nI_1 i) (by decide) ?_
                               refine z_goto h 100 dX7_lacking_125 (by decide) ?_
                               exact z_lk (ih2 (i + 1) (by omega)) ⟨rfl, rfl, rfl, trivial⟩)
                  refine z_iconst (v := 0) h dX7_lacking_98 (by decide) ?_
                  refine z_istore_n h dX7_lacking_99 rfl (by decide) ?_
                  have e := L100 9 0 rfl
                  rw [show (fun k => if k < 0 then vN n k else J5 ro k) = J5 ro from row_0, zr_id] at e
                  exact z_lk e ⟨rfl, rfl, rfl, trivial⟩
                · have c92 := b2i_n0.mp c92
                  refine z_goto h 156 dX7_lacking_95 (by decide) ?_
                  exact z_lk (N156 (by rw [hlk, c92]; rfl) I3 _ (hF4.tr FQ.ms)) ⟨rfl, rfl, trivial⟩
              have L58 : ∀ (d i : Nat), i + d = 9 → zV X E S 0 0 (I3, zr J3 ro (fun k => if k < i then vN n k else J3 ro k), R) 58 [(0, .ref x), (1, .int (nI n)), (3, .int (nI i))] [] := by
                intro d
                induction d with
                | zero =>
                  intro i hi
                  have hi9 : i = 9 := by omega
                  subst hi9
                  refine z_iload_n h dX7_lacking_58 rfl rfl ?_
                  refine z_bipush (v := 9) h dX7_lacking_59 (by decide) ?_
                  rw [show (9 : Int32) = nI 9 from rfl]
                  refine z_icmp_ge h 86 dX7_lacking_61 (by decide) (fun c61 => ?_) (fun c61 => ?_)
                  · exact z_lk AFT ⟨rfl, rfl, trivial⟩
                  · exact absurd (nI_le (by decide) (by decide)) c61
                | succ d ih1 =>
                  intro i hi
                  refine z_iload_n h dX7_lacking_58 rfl rfl ?_
                  refine z_bipush (v := 9) h dX7_lacking_59 (by decide) ?_
                  rw [show (9 : Int32) = nI 9 from rfl]
                  refine z_icmp_ge h 86 dX7_lacking_61 (by decide) (fun c61 => ?_) (fun c61 => ?_)
                  · exact absurd (nle (by decide) (by omega) c61) (by omega)
                  · refine z_aload_n h dX7_lacking_64 rfl rfl ?_
                    refine z_getR h (by assumption) rfl kw7 22 (by decide) rfl (by assumption) kf_RX7_36 dX7_lacking_65 ?_
                    refine z_iload_n h dX7_lacking_68 rfl rfl ?_
                    refine z_iload_n h dX7_lacking_69 rfl rfl ?_
                    refine z_iload_n h dX7_lacking_70 rfl rfl ?_
                    refine z_icmp_ne h 78 dX7_lacking_71 (by decide) (fun c71 => ?_) (fun c71 => ?_)
                    · refine z_lconst (v := 0) h dX7_lacking_78 (by decide) ?_
                      first
                        | (rw [show (1 : Int64) = vN n i from (if_pos (nI_inj (by omega) (by omega) c71)).symm]
                           refine z_last h (by assumption) (zix_nI (by omega) (by decide)) dX7_lacking_79 ?_
                           rw [row_up (v := vN n)]
                           refine z_iinc h dX7_lacking_80 rfl (nI_1 i) (by decide) ?_
                           refine z_goto h 58 dX7_lacking_83 (by decide) ?_
                           exact z_lk (ih1 (i + 1) (by omega)) ⟨rfl, rfl, rfl, trivial⟩)
                        | (rw [show (0 : Int64) = vN n i from (if_neg (fun w => c71 (by rw [w]))).symm]
                           refine z_last h (by assumption) (zix_nI (by omega) (by decide)) dX7_lacking_79 ?_
                           rw [row_up (v := vN n)]
                           refine z_iinc h dX7_lacking_80 rfl (nI_1 i) (by decide) ?_
                           refine z_goto h 58 dX7_lacking_83 (by decide) ?_
                           exact z_lk (ih1 (i + 1) (by omega)) ⟨rfl, rfl, rfl, trivial⟩)
                    · refine z_lconst (v := 1) h dX7_lacking_74 (by decide) ?_
                      refine z_goto h 79 dX7_lacking_75 (by decide) ?_
                      first
                        | (rw [show (1 : Int64) = vN n i from (if_pos (nI_inj (by omega) (by omega) c71)).symm]
                           refine z_last h (by assumption) (zix_nI (by omega) (by decide)) dX7_lacking_79 ?_
                           rw [row_up (v := vN n)]
                           refine z_iinc h dX7_lacking_80 rfl (nI_1 i) (by decide) ?_
                           refine z_goto h 58 dX7_lacking_83 (by decide) ?_
                           exact z_lk (ih1 (i + 1) (by omega)) ⟨rfl, rfl, rfl, trivial⟩)
                        | (rw [show (0 : Int64) = vN n i from (if_neg (fun w => c71 (by rw [w]))).symm]
                           refine z_last h (by assumption) (zix_nI (by omega) (by decide)) dX7_lacking_79 ?_
                           rw [row_up (v := vN n)]
                           refine z_iinc h dX7_lacking_80 rfl (nI_1 i) (by decide) ?_
                           refine z_goto h 58 dX7_lacking_83 (by decide) ?_
                           exact z_lk (ih1 (i + 1) (by omega)) ⟨rfl, rfl, rfl, trivial⟩)
              refine z_istore_n h dX7_lacking_55 rfl (by decide) ?_
              refine z_iconst (v := 0) h dX7_lacking_56 (by decide) ?_
              refine z_istore_n h dX7_lacking_57 rfl (by decide) ?_
              have e := L58 9 0 rfl
              rw [show (fun k => if k < 0 then vN n k else J3 ro k) = J3 ro from row_0, zr_id] at e
              exact z_lk e ⟨rfl, rfl, rfl, trivial⟩
        refine z_iconst (v := 0) h dX7_lacking_33 (by decide) ?_
        refine z_istore_n h dX7_lacking_34 rfl (by decide) ?_
        exact z_lk (LL 8 0 I1' J1' rfl (hF1.tr hF1') rfl) ⟨rfl, rfl, trivial⟩
      · have c28 := b2i_n0.mp c28
        refine z_iconst (v := -1) h dX7_lacking_31 (by decide) ?_
        exact ret ⟨_, _, rfl, hF1.tr hF1', by rw [if_neg (fun v => by rw [c28] at v; exact absurd v.2.2 (by decide))]⟩ dX7_lacking_32 rfl
