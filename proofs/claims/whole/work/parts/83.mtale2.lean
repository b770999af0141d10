/-! fault, tale of the reference -/
abbrev rmF7 : Room := { frames := 11, cells := 10, slots := 70, locals := 275 }
def cpN (f w : Nat → Int32) (j : Nat) : Nat → Int32 := fun i => if i < j then w i else f i
theorem cpN_s {f w : Nat → Int32} {j : Nat} : (fun i => if i = j then w j else cpN f w j i) = cpN f w (j + 1) := by
  funext i
  unfold cpN
  by_cases e : i = j
  · rw [if_pos e, if_pos (by omega), e]
  · rw [if_neg e]
    by_cases c : i < j
    · rw [if_pos c, if_pos (by omega)]
    · rw [if_neg c, if_neg (by omega)]
theorem cpN_0 {f w : Nat → Int32} : cpN f w 0 = f := funext fun i => if_neg (Nat.not_lt_zero _)

set_option maxHeartbeats 4000000 in
set_option maxRecDepth 100000 in
theorem c_X7_fault (l : Launch) {E : zE} {S : zS} {I : Nat → Nat → Int32} {J : Nat → Nat → Int64} {R : Nat → Nat → Option Nat} {x tp rd ra n : Nat} (d1 : zO S x 7) (d2 : R x 1 = some tp) (d3 : zA S tp 8 400) (hn : I x 2 = nI n) (h4 : n ≤ 400) (hrd1 : R x 4 = some rd) (hrd2 : zA S rd 9 70) (hra : R x 6 = some ra) (hra2 : zA S ra 9 5) (nra : rd ≠ ra) : zIR l yX7_fault wsX7_fault rmF7 E S [.ref x] (I, J, R) (readM S J R (zu I x 0 0) x tp rd ra n) 10 70 := by
  refine z_metIR (cc := cX7_fault) (maxL := 1) (ty := .int) (by decide) rfl (Nat.le_of_ble_eq_true rfl) (fun X h ret => ?_)
  show zV X E S 0 0 (I, J, R) 0 _ []
  refine z_aload_n h dX7_fault_0 rfl rfl ?_
  refine z_iconst (v := 0) h dX7_fault_1 (by decide) ?_
  refine z_putI h (by assumption) rfl kw7 0 (by decide) rfl rfl (rfl) (rfl) kf_RX7_42 dX7_fault_2 ?_
  refine z_aload_n h dX7_fault_5 rfl rfl ?_
  refine z_callVIR h (c_X7_reads l d1 d2 d3 (by rw [zu_k (by decide)]; exact hn) h4 hrd1 hrd2 hra hra2 nra) (by assumption) rfl gm_RX7_202 rfl ⟨rfl, rfl⟩ 0 (by decide +kernel) ⟨by decide, by decide⟩ rfl rfl (Nat.le_of_ble_eq_true rfl) ⟨by decide, by decide⟩ dX7_fault_6 (fun r ν hν => ?_)
  exact ret hν dX7_fault_9 rfl

set_option maxHeartbeats 4000000 in
set_option maxRecDepth 100000 in
theorem c_X7_tale (l : Launch) {E : zE} {S : zS} {I : Nat → Nat → Int32} {J : Nat → Nat → Int64} {R : Nat → Nat → Option Nat} {x tp rd ra n : Nat} (d1 : zO S x 7) (d2 : R x 1 = some tp) (d3 : zA S tp 8 400) (hn : I x 2 = nI n) (h4 : n ≤ 400) (hrd1 : R x 4 = some rd) (hrd2 : zA S rd 9 70) (hra : R x 6 = some ra) (hra2 : zA S ra 9 5) (nra : rd ≠ ra) {td ak : Nat} (htd1 : R x 3 = some td) (htd2 : zA S td 9 70) (hak1 : R x 5 = some ak) (hak2 : zA S ak 9 5) (n1 : td ≠ rd) (n2 : td ≠ ra) (n3 : ak ≠ rd) (n4 : ak ≠ ra) (n5 : ak ≠ td) : zIR l yX7_tale wsX7_tale rmF7 E S [.ref x] (I, J, R) (fun r ν => (∃ r1, ¬ r1 = -1 ∧ readM S J R (zu I x 0 0) x tp rd ra n r1 ν ∧ r = 0) ∨ (r = 1 ∧ ∃ k p v I', prs0 (I tp) n = .inr (k, p, v) ∧ ν = (I', J, R) ∧ k ≤ 10 ∧ I' x 7 = nI k ∧ (∀ i, i < k → ∀ j, j < 7 → I' td (7 * i + j) = p i j) ∧ I' ak 0 = v.1 ∧ I' ak 1 = v.2.1 ∧ I' ak 2 = v.2.2.1 ∧ I' ak 3 = v.2.2.2 ∧ I' ak 4 = (if v.1 = 2 then 0 else stF p k) ∧ I' x 9 = 1 ∧ I' x 12 = 0 ∧ I' x 2 = 0 ∧ I' x 0 = 0 ∧ fr [x, rd, ra, td, ak] I I')) 10 70 := by
  refine z_metIR (cc := cX7_tale) (maxL := 2) (ty := .boolean) (by decide) rfl (Nat.le_of_ble_eq_true rfl) (fun X h ret => ?_)
  show zV X E S 0 0 (I, J, R) 0 _ []
  have nrx : rd ≠ x := fun q => absurd (d1.2.symm.trans (q ▸ hrd2.2.1)) (by decide)
  have nax : ra ≠ x := fun q => absurd (d1.2.symm.trans (q ▸ hra2.2.1)) (by decide)
  have ndx : td ≠ x := fun q => absurd (d1.2.symm.trans (q ▸ htd2.2.1)) (by decide)
  have nkx : ak ≠ x := fun q => absurd (d1.2.symm.trans (q ▸ hak2.2.1)) (by decide)
  have nxd := Ne.symm ndx
  have nxa := Ne.symm nkx
  have ntx : tp ≠ x := fun q => absurd (d1.2.symm.trans (q ▸ d3.2.1)) (by decide)
  refine z_aload_n h dX7_tale_0 rfl rfl ?_
  refine z_iconst (v := 0) h dX7_tale_1 (by decide) ?_
  refine z_putI h (by assumption) rfl kw7 0 (by decide) rfl rfl (rfl) (rfl) kf_RX7_42 dX7_tale_2 ?_
  refine z_aload_n h dX7_tale_5 rfl rfl ?_
  refine z_callVIR h (c_X7_reads l d1 d2 d3 (by rw [zu_k (by decide)]; exact hn) h4 hrd1 hrd2 hra hra2 nra) (by assumption) rfl gm_RX7_202 rfl ⟨rfl, rfl⟩ 0 (by decide +kernel) ⟨by decide, by decide⟩ rfl rfl (Nat.le_of_ble_eq_true rfl) ⟨by decide, by decide⟩ dX7_tale_6 (fun r ν hν => ?_)
  refine z_iconst (v := -1) h dX7_tale_9 (by decide) ?_
  refine z_icmp_eq h 15 dX7_tale_10 (by decide) (fun c10 => ?_) (fun c10 => ?_)
  · subst c10
    obtain ⟨I1, rfl, hMP, htp, hf, hx, hmat⟩ := hν
    rw [zu_o ntx] at hmat
    cases hpr : prs0 (I tp) n with
    | inl y =>
      rw [hpr] at hmat
      exact absurd hmat.1.symm (nI_nm1 (by have := hmat.2; omega))
    | inr o =>
      obtain ⟨k, p, v⟩ := o
      rw [hpr] at hmat
      obtain ⟨q0, hk10, q2, q3, q4, q5, q6, q7, q8⟩ := hmat
      have L2 : ∀ (d j : Nat), j + d = 5 → zV X E S 10 70 (zr (zr (zu I1 x 7 (nI k)) td (cpN (I1 td) (I1 rd) (7 * k))) ak (cpN (I1 ak) (I1 ra) j), J, R) 56 [(0, .ref x), (1, .int (nI j))] [] := by
        intro d
        induction d with
        | zero =>
          intro j hj
          have hj5 : j = 5 := by omega
          subst hj5
          have EA : ∀ i, i < 5 → zu (zu (zu (zr (zr (zu I1 x 7 (nI k)) td (cpN (I1 td) (I1 rd) (7 * k))) ak (cpN (I1 ak) (I1 ra) 5)) x 9 1) x 12 0) x 2 0 ak i = I1 ra i := fun i hi => by
            rw [zu_o nkx, zu_o nkx, zu_o nkx, zr_s]
            exact if_pos hi
          refine z_iload_n h dX7_tale_56 rfl rfl ?_
          refine z_iconst (v := 5) h dX7_tale_57 (by decide) ?_
          rw [show (5 : Int32) = nI 5 from rfl]
          refine z_icmp_ge h 79 dX7_tale_58 (by decide) (fun c58 => ?_) (fun c58 => ?_)
          · refine z_aload_n h dX7_tale_79 rfl rfl ?_
            refine z_iconst (v := 1) h dX7_tale_80 (by decide) ?_
            refine z_putI h (by assumption) rfl kw7 9 (by decide) rfl rfl (rfl) (rfl) kf_RX7_207 dX7_tale_81 ?_
            refine z_aload_n h dX7_tale_84 rfl rfl ?_
            refine z_iconst (v := 0) h dX7_tale_85 (by decide) ?_
            refine z_putI h (by assumption) rfl kw7 12 (by decide) rfl rfl (rfl) (rfl) kf_RX7_211 dX7_tale_86 ?_
            refine z_aload_n h dX7_tale_89 rfl rfl ?_
            refine z_iconst (v := 0) h dX7_tale_90 (by decide) ?_
            refine z_putI h (by assumption) rfl kw7 2 (by decide) rfl rfl (rfl) (rfl) kf_RX7_46 dX7_tale_91 ?_
            refine z_iconst (v := 1) h dX7_tale_94 (by decide) ?_
            refine ret (Or.inr ⟨rfl, k, p, v, _, hpr, rfl, hk10, ?_, ?_, ?_, ?_, ?_, ?_, ?_, ?_, ?_, ?_, ?_, ?_⟩) dX7_tale_95 rfl
            · rw [zu_k (by decide), zu_k (by decide), zu_k (by decide), zr_a nxa, zr_a nxd, zu_s]
            · intro i hi j hj
              rw [zu_o ndx, zu_o ndx, zu_o ndx, zr_a (Ne.symm n5), zr_s]
              unfold cpN
              rw [if_pos (by omega)]
              exact q3 i hi j hj
            · rw [EA 0 (by decide)]; exact q4
            · rw [EA 1 (by decide)]; exact q5
            · rw [EA 2 (by decide)]; exact q6
            · rw [EA 3 (by decide)]; exact q7
            · rw [EA 4 (by decide)]; exact q8
            · rw [zu_k (by decide), zu_k (by decide), zu_s]
            · rw [zu_k (by decide), zu_s]
            · rw [zu_s]
            · rw [zu_k (by decide), zu_k (by decide), zu_k (by decide), zr_a nxa, zr_a nxd, zu_k (by decide), hx 0 (by decide), zu_s]
            · intro b hb
              simp only [List.mem_cons, List.not_mem_nil, or_false, not_or] at hb
              rw [zu_o hb.1, zu_o hb.1, zu_o hb.1, show ∀ f g, zr (zr (zu I1 x 7 (nI k)) td f) ak g b = I1 b from fun f g => by funext i; rw [zr_a hb.2.2.2.2, zr_a hb.2.2.2.1, zu_o hb.1], hf b (by simp [hb.1, hb.2.1, hb.2.2.1]), zu_o hb.1]
          · exact absurd (nI_le (by decide) (by decide)) c58
        | succ d ih =>
          intro j hj
          refine z_iload_n h dX7_tale_56 rfl rfl ?_
          refine z_iconst (v := 5) h dX7_tale_57 (by decide) ?_
          rw [show (5 : Int32) = nI 5 from rfl]
          refine z_icmp_ge h 79 dX7_tale_58 (by decide) (fun c58 => ?_) (fun c58 => ?_)
          · exact absurd (nle (by decide) (by omega) c58) (by omega)
          · refine z_aload_n h dX7_tale_61 rfl rfl ?_
            refine z_getR h (by assumption) rfl kw7 5 (by decide) rfl (by assumption) kf_RX7_20 dX7_tale_62 ?_
            refine z_iload_n h dX7_tale_65 rfl rfl ?_
            refine z_aload_n h dX7_tale_66 rfl rfl ?_
            refine z_getR h (by assumption) rfl kw7 6 (by decide) rfl (by assumption) kf_RX7_23 dX7_tale_67 ?_
            refine z_iload_n h dX7_tale_70 rfl rfl ?_
            refine z_iald h (by assumption) (zix_nI (by omega) (by decide)) dX7_tale_71 ?_
            rw [zr_a (Ne.symm n4), zr_a (Ne.symm n2), zu_a nax]
            refine z_iast h (by assumption) (zix_nI (by omega) (by decide)) dX7_tale_72 ?_
            rw [zu_zr, cpN_s]
            refine z_iinc h dX7_tale_73 rfl (nI_1 j) (by decide) ?_
            refine z_goto h 56 dX7_tale_76 (by decide) ?_
            exact z_lk (ih (j + 1) (by omega)) ⟨rfl, rfl, trivial⟩
      have L1 : ∀ (d j : Nat), j + d = 7 * k → zV X E S 10 70 (zr (zu I1 x 7 (nI k)) td (cpN (I1 td) (I1 rd) j), J, R) 25 [(0, .ref x), (1, .int (nI j))] [] := by
        intro d
        induction d with
        | zero =>
          intro j hj
          have hj7 : j = 7 * k := by omega
          subst hj7
          refine z_iload_n h dX7_tale_25 rfl rfl ?_
          refine z_bipush (v := 7) h dX7_tale_26 (by decide) ?_
          refine z_aload_n h dX7_tale_28 rfl rfl ?_
          refine z_getI h (by assumption) rfl kw7 7 (by decide) rfl kf_RX7_205 dX7_tale_29 ?_
          rw [zr_a nxd, zu_s, show (7 : Int32) = nI 7 from rfl]
          refine z_imul h dX7_tale_32 ?_
          rw [pk_mul]
          refine z_icmp_ge h 54 dX7_tale_33 (by decide) (fun c33 => ?_) (fun c33 => ?_)
          · refine z_iconst (v := 0) h dX7_tale_54 (by decide) ?_
            refine z_istore_n h dX7_tale_55 rfl (by decide) ?_
            have e0 : zr (zu I1 x 7 (nI k)) td (cpN (I1 td) (I1 rd) (7 * k)) = zr (zr (zu I1 x 7 (nI k)) td (cpN (I1 td) (I1 rd) (7 * k))) ak (cpN (I1 ak) (I1 ra) 0) := by
              rw [cpN_0, show I1 ak = (zr (zu I1 x 7 (nI k)) td (cpN (I1 td) (I1 rd) (7 * k))) ak from by funext i; rw [zr_a n5, zu_o nkx], zr_id]
            rw [e0]
            exact z_lk (L2 5 0 rfl) ⟨rfl, rfl, trivial⟩
          · exact absurd (nI_le (by omega) (by omega)) c33
        | succ d ih =>
          intro j hj
          refine z_iload_n h dX7_tale_25 rfl rfl ?_
          refine z_bipush (v := 7) h dX7_tale_26 (by decide) ?_
          refine z_aload_n h dX7_tale_28 rfl rfl ?_
          refine z_getI h (by assumption) rfl kw7 7 (by decide) rfl kf_RX7_205 dX7_tale_29 ?_
          rw [zr_a nxd, zu_s, show (7 : Int32) = nI 7 from rfl]
          refine z_imul h dX7_tale_32 ?_
          rw [pk_mul]
          refine z_icmp_ge h 54 dX7_tale_33 (by decide) (fun c33 => ?_) (fun c33 => ?_)
          · exact absurd (nle (by omega) (by omega) c33) (by omega)
          · refine z_aload_n h dX7_tale_36 rfl rfl ?_
            refine z_getR h (by assumption) rfl kw7 3 (by decide) rfl (by assumption) kf_RX7_13 dX7_tale_37 ?_
            refine z_iload_n h dX7_tale_40 rfl rfl ?_
            refine z_aload_n h dX7_tale_41 rfl rfl ?_
            refine z_getR h (by assumption) rfl kw7 4 (by decide) rfl (by assumption) kf_RX7_17 dX7_tale_42 ?_
            refine z_iload_n h dX7_tale_45 rfl rfl ?_
            refine z_iald h (by assumption) (zix_nI (by omega) (by decide)) dX7_tale_46 ?_
            rw [zr_a (Ne.symm n1), zu_o nrx]
            refine z_iast h (by assumption) (zix_nI (by omega) (by decide)) dX7_tale_47 ?_
            rw [zu_zr, cpN_s]
            refine z_iinc h dX7_tale_48 rfl (nI_1 j) (by decide) ?_
            refine z_goto h 25 dX7_tale_51 (by decide) ?_
            exact z_lk (ih (j + 1) (by omega)) ⟨rfl, rfl, trivial⟩
      refine z_aload_n h dX7_tale_15 rfl rfl ?_
      refine z_aload_n h dX7_tale_16 rfl rfl ?_
      refine z_getI h (by assumption) rfl kw7 8 (by decide) rfl kf_RX7_193 dX7_tale_17 ?_
      rw [q2]
      refine z_putI h (by assumption) rfl kw7 7 (by decide) rfl rfl (rfl) (rfl) kf_RX7_205 dX7_tale_20 ?_
      refine z_iconst (v := 0) h dX7_tale_23 (by decide) ?_
      refine z_istore_n h dX7_tale_24 rfl (by decide) ?_
      have e0 : zu I1 x 7 (nI k) = zr (zu I1 x 7 (nI k)) td (cpN (I1 td) (I1 rd) 0) := by
        rw [cpN_0, show I1 td = (zu I1 x 7 (nI k)) td from by rw [zu_o ndx], zr_id]
      rw [e0]
      exact z_lk (L1 (7 * k) 0 (by omega)) ⟨rfl, rfl, trivial⟩
  · refine z_iconst (v := 0) h dX7_tale_13 (by decide) ?_
    exact ret (Or.inl ⟨r, c10, hν, rfl⟩) dX7_tale_14 rfl

