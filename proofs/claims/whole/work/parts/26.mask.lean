/-- what the reference's question leaves -/
def askM (S : zS) (J : Nat → Nat → Int64) (R : Nat → Nat → Option Nat) (g : Nat → Int32) (I : Nat → Nat → Int32) (x tp ra n : Nat) (v : Nat → Int32) (o : Option zR × zQ) (r : Int32) (ν : zM) : Prop := ∃ I', ν = (I', J, R) ∧ MP S R I' x tp n o.2.1 o.2.2 ∧ I' tp = g ∧ fr [x, ra] I I' ∧ (∀ j, j < 13 ∨ 19 < j → I' x j = v j) ∧ match o.1 with
  | none => r = 0
  | some w => r = b2i (decide (o.2.1 = n)) ∧ I' ra 0 = w.1 ∧ I' ra 1 = w.2.1 ∧ I' ra 2 = w.2.2.1 ∧ I' ra 3 = w.2.2.2 ∧ I' ra 4 = (if w.1 = 2 then 0 else v 20)

set_option maxHeartbeats 4000000 in
set_option maxRecDepth 100000 in
theorem cM_asks (l : Launch) {E : zE} {S : zS} {I : Nat → Nat → Int32} {J : Nat → Nat → Int64} {R : Nat → Nat → Option Nat} {g : Nat → Int32} {ra : Nat} {x tp n : Nat} {q : zQ} {v : Nat → Int32} (hS : MS S R g I I x tp n q v) (hra : R x 6 = some ra) (hra2 : zA S ra 9 5) (hq : mW g q.1 q.2 w_how = true) : zIP l yX7_asks wsX7_asks rmX7_asks E S [.ref x] (I, J, R) (askM S J R g I x tp ra n v (sAsk g n (nx g n q))) := by
  refine z_metIP (cc := cX7_asks) (maxL := 2) (ty := .boolean) (by decide) rfl (Nat.le_of_ble_eq_true rfl) (fun X h ret => ?_)
  show zV X E S 0 0 (I, J, R) 0 _ []
  have f1 := hS.1.1
  have nra : ra ≠ x := fun q => absurd (hra2.2.1.symm.trans (q ▸ f1.2)) (by decide)
  have nrt : ra ≠ tp := fun q => absurd (hra2.2.1.symm.trans (q ▸ hS.1.2.2.1.2.1)) (by decide)
  have W125 : ∀ (I1 : Nat → Nat → Int32) (p : zQ) (w : Nat → Int32) (so fi se u : Int32), MS S R g I I1 x tp n p w → w 16 = fi → w 17 = se → w 18 = u → w 20 = v 20 → (∀ j, j < 13 ∨ 19 < j → w j = v j) → sAsk g n (nx g n q) = (some (so, fi, se, u), p) → zV X E S 0 0 (I1, J, R) 125 [(0, .ref x), (1, .int so)] [] := by
    intro I1 p w so fi se u hS e16 e17 e18 e20 hw hsp
    have g16 : I1 x 16 = fi := (hS.2.2.2.2 16 (by decide) (by decide)).trans e16
    have g17 : I1 x 17 = se := (hS.2.2.2.2 17 (by decide) (by decide)).trans e17
    have g18 : I1 x 18 = u := (hS.2.2.2.2 18 (by decide) (by decide)).trans e18
    have g20 : I1 x 20 = v 20 := (hS.2.2.2.2 20 (by decide) (by decide)).trans e20
    have FIN : ∀ y : Int32, y = (if so = 2 then 0 else v 20) → zV X E S 0 0 (zu (zu (zu (zu (zu I1 ra 0 so) ra 1 fi) ra 2 se) ra 3 u) ra 4 y, J, R) 181 [(0, .ref x), (1, .int so)] [] := by
      intro y hy
      have ex : ∀ j, zu (zu (zu (zu (zu I1 ra 0 so) ra 1 fi) ra 2 se) ra 3 u) ra 4 y x j = I1 x j := fun j => by
        rw [zu_a (Ne.symm nra), zu_a (Ne.symm nra), zu_a (Ne.symm nra), zu_a (Ne.symm nra), zu_a (Ne.symm nra)]
      have post : ∀ r, r = b2i (decide (p.1 = n)) → askM S J R g I x tp ra n v (sAsk g n (nx g n q)) r (zu (zu (zu (zu (zu I1 ra 0 so) ra 1 fi) ra 2 se) ra 3 u) ra 4 y, J, R) := by
        intro r hr
        rw [hsp]
        obtain ⟨⟨a1, a2, a3, a4, a5, a6, a7, a8, a9⟩, h2, h3, h4, h5⟩ := hS
        refine ⟨_, rfl, ⟨a1, a2, a3, by rw [ex]; exact a4, by rw [ex]; exact a5, by rw [ex]; exact a6, a7, a8, a9⟩, ?_, fr_zu (fr_zu (fr_zu (fr_zu (fr_zu (fr_mono h4 (by simp)) (by simp)) (by simp)) (by simp)) (by simp)) (by simp), fun j hj => by rw [ex, h5 j (by omega) (by omega)]; exact hw j hj, hr, ?_, ?_, ?_, ?_, ?_⟩
        · rw [zu_o (Ne.symm nrt), zu_o (Ne.symm nrt), zu_o (Ne.symm nrt), zu_o (Ne.symm nrt), zu_o (Ne.symm nrt)]; exact h2
        · rw [zu_k (by decide), zu_k (by decide), zu_k (by decide), zu_k (by decide)]; exact zu_s
        · rw [zu_k (by decide), zu_k (by decide), zu_k (by decide)]; exact zu_s
        · rw [zu_k (by decide), zu_k (by decide)]; exact zu_s
        · rw [zu_k (by decide)]; exact zu_s
        · rw [zu_s]; exact hy
      refine z_aload_n h dX7_asks_181 rfl rfl ?_
      refine z_getI h (by assumption) rfl kw7 13 (by decide) rfl kf_RX7_60 dX7_asks_182 ?_
      refine z_aload_n h dX7_asks_185 rfl rfl ?_
      refine z_getI h (by assumption) rfl kw7 2 (by decide) rfl kf_RX7_46 dX7_asks_186 ?_
      rw [ex, ex, hS.1.2.2.2.2.1, hS.1.2.2.2.1]
      refine z_icmp_ne h 196 dX7_asks_189 (by decide) (fun c189 => ?_) (fun c189 => ?_)
      · refine z_iconst (v := 0) h dX7_asks_196 (by decide) ?_
        exact ret (post 0 (b2i_f (decide_eq_false (fun w => c189 (by rw [w])))).symm) dX7_asks_197 rfl
      · refine z_iconst (v := 1) h dX7_asks_192 (by decide) ?_
        refine z_goto h 197 dX7_asks_193 (by decide) ?_
        exact ret (post 1 (b2i_t (decide_eq_true ((nI_eq (by have := hS.1.2.2.2.2.2.2; omega) (by have := hS.1.2.2.2.2.2.2; omega)).mp c189))).symm) dX7_asks_197 rfl
    refine z_aload_n h dX7_asks_125 rfl rfl ?_
    refine z_getR h (by assumption) rfl kw7 6 (by decide) rfl (by assumption) kf_RX7_23 dX7_asks_126 ?_
    refine z_iconst (v := 0) h dX7_asks_129 (by decide) ?_
    refine z_iload_n h dX7_asks_130 rfl rfl ?_
    refine z_iast h (by assumption) (zix_c 0 rfl (by decide) (by decide)) dX7_asks_131 ?_
    refine z_aload_n h dX7_asks_132 rfl rfl ?_
    refine z_getR h (by assumption) rfl kw7 6 (by decide) rfl (by assumption) kf_RX7_23 dX7_asks_133 ?_
    refine z_iconst (v := 1) h dX7_asks_136 (by decide) ?_
    refine z_aload_n h dX7_asks_137 rfl rfl ?_
    refine z_getI h (by assumption) rfl kw7 16 (by decide) rfl kf_RX7_117 dX7_asks_138 ?_
    rw [zu_a (Ne.symm nra), g16]
    refine z_iast h (by assumption) (zix_c 1 rfl (by decide) (by decide)) dX7_asks_141 ?_
    refine z_aload_n h dX7_asks_142 rfl rfl ?_
    refine z_getR h (by assumption) rfl kw7 6 (by decide) rfl (by assumption) kf_RX7_23 dX7_asks_143 ?_
    refine z_iconst (v := 2) h dX7_asks_146 (by decide) ?_
    refine z_aload_n h dX7_asks_147 rfl rfl ?_
    refine z_getI h (by assumption) rfl kw7 17 (by decide) rfl kf_RX7_120 dX7_asks_148 ?_
    rw [zu_a (Ne.symm nra), zu_a (Ne.symm nra), g17]
    refine z_iast h (by assumption) (zix_c 2 rfl (by decide) (by decide)) dX7_asks_151 ?_
    refine z_aload_n h dX7_asks_152 rfl rfl ?_
    refine z_getR h (by assumption) rfl kw7 6 (by decide) rfl (by assumption) kf_RX7_23 dX7_asks_153 ?_
    refine z_iconst (v := 3) h dX7_asks_156 (by decide) ?_
    refine z_aload_n h dX7_asks_157 rfl rfl ?_
    refine z_getI h (by assumption) rfl kw7 18 (by decide) rfl kf_RX7_126 dX7_asks_158 ?_
    rw [zu_a (Ne.symm nra), zu_a (Ne.symm nra), zu_a (Ne.symm nra), g18]
    refine z_iast h (by assumption) (zix_c 3 rfl (by decide) (by decide)) dX7_asks_161 ?_
    refine z_aload_n h dX7_asks_162 rfl rfl ?_
    refine z_getR h (by assumption) rfl kw7 6 (by decide) rfl (by assumption) kf_RX7_23 dX7_asks_163 ?_
    refine z_iconst (v := 4) h dX7_asks_166 (by decide) ?_
    refine z_iload_n h dX7_asks_167 rfl rfl ?_
    refine z_iconst (v := 2) h dX7_asks_168 (by decide) ?_
    refine z_icmp_ne h 176 dX7_asks_169 (by decide) (fun c169 => ?_) (fun c169 => ?_)
    · refine z_aload_n h dX7_asks_176 rfl rfl ?_
      refine z_getI h (by assumption) rfl kw7 20 (by decide) rfl kf_RX7_190 dX7_asks_177 ?_
      refine z_iast h (by assumption) (zix_c 4 rfl (by decide) (by decide)) dX7_asks_180 ?_
      exact FIN _ (by rw [zu_a (Ne.symm nra), zu_a (Ne.symm nra), zu_a (Ne.symm nra), zu_a (Ne.symm nra), g20, if_neg c169])
    · refine z_iconst (v := 0) h dX7_asks_172 (by decide) ?_
      refine z_goto h 180 dX7_asks_173 (by decide) ?_
      refine z_iast h (by assumption) (zix_c 4 rfl (by decide) (by decide)) dX7_asks_180 ?_
      exact FIN _ (by rw [if_pos c169])
  have J114 : ∀ (I1 : Nat → Nat → Int32) (p : zQ) (w : Nat → Int32) (so fi se u : Int32), MS S R g I I1 x tp n p w → w 16 = fi → w 17 = se → w 18 = u → (∀ j, j < 15 ∨ 19 < j → w j = v j) → sAsk g n (nx g n q) = (tk g n w_qm p fun p => (some (so, fi, se, u), p)) → zV X E S 0 0 (I1, J, R) 114 [(0, .ref x), (1, .int so)] [] := by
    intro I1 p w so fi se u hS e16 e17 e18 hvj hsp
    refine z_aload_n h dX7_asks_114 rfl rfl ?_
    refine z_ldcS h 47 (by decide) rfl rfl dX7_asks_115 ?_
    refine z_callVIP h (cM_takes l hS (i := 47) (by decide)) (by assumption) rfl gm_RX7_141 rfl ⟨rfl, rfl⟩ 1 (by decide +kernel) ⟨by decide, by decide⟩ rfl rfl (Nat.le_of_ble_eq_true rfl) ⟨Nat.zero_le _, Nat.zero_le _⟩ dX7_asks_117 (fun r ν hν => ?_)
    obtain ⟨rfl, I1, rfl, hS⟩ := hν
    rw [show zsb 47 = w_qm by decide] at hS ⊢
    refine z_if_ne h 125 dX7_asks_120 (by decide) (fun c120 => ?_) (fun c120 => ?_)
    · have m120 := b2i_n0.mp c120
      rw [if_pos m120] at hS
      rw [tk_t m120] at hsp
      exact W125 I1 _ w so fi se u hS e16 e17 e18 (hvj 20 (by omega)) (fun j hj => hvj j (by omega)) hsp
    · have m120 := b2i_0.mp c120
      rw [if_neg (by rw [m120]; decide)] at hS
      rw [tk_f m120] at hsp
      refine z_iconst (v := 0) h dX7_asks_123 (by decide) ?_
      exact ret (r := 0) (by rw [hsp]; exact ⟨_, rfl, hS.1, hS.2.1, fr_mono hS.2.2.2.1 (by simp), fun j hj => (hS.2.2.2.2 j (by omega) (by omega)).trans (hvj j (by omega)), rfl⟩) dX7_asks_124 rfl
  have V72 : ∀ (I1 : Nat → Nat → Int32) (p : zQ) (w : Nat → Int32) (u : Int32), MS S R g I I1 x tp n p w → w 17 = -1 → w 18 = u → (∀ j, j < 15 ∨ 19 < j → w j = v j) → sAsk g n (nx g n q) = (if sSrt g p = -1 then (none, p) else tkN g n (-1) (nx g n p) fun fi z => if sSrt g p = 1 then (tk g n w_and z fun z => tkN g n fi z fun se z => tk g n w_qm z fun z => (some (1, fi, se, u), z)) else tk g n w_qm z fun z => (some (sSrt g p, fi, -1, u), z)) → zV X E S 0 0 (I1, J, R) 72 [(0, .ref x)] [.int (sSrt g p)] := by
    intro I1 p w u hS e17 e18 hvj hsp
    generalize sSrt g p = so at hsp ⊢
    refine z_istore_n h dX7_asks_72 rfl (by decide) ?_
    refine z_iload_n h dX7_asks_73 rfl rfl ?_
    refine z_iconst (v := -1) h dX7_asks_74 (by decide) ?_
    refine z_icmp_ne h 80 dX7_asks_75 (by decide) (fun c75 => ?_) (fun c75 => ?_)
    · rw [if_neg c75] at hsp
      refine z_aload_n h dX7_asks_80 rfl rfl ?_
      refine z_callVNP h (cM_next l hS) (by assumption) rfl gm_RX7_83 rfl ⟨rfl, rfl⟩ 0 (by decide +kernel) ⟨by decide, by decide⟩ rfl rfl (Nat.le_of_ble_eq_true rfl) ⟨Nat.zero_le _, Nat.zero_le _⟩ dX7_asks_81 (fun ν hν => ?_)
      obtain ⟨I2, rfl, hS⟩ := hν
      refine z_aload_n h dX7_asks_84 rfl rfl ?_
      refine z_iconst (v := 0) h dX7_asks_85 (by decide) ?_
      refine z_callVIP h (cM_first l hS) (by assumption) rfl gm_RX7_135 rfl ⟨rfl, rfl⟩ 1 (by decide +kernel) ⟨by decide, by decide⟩ rfl rfl (Nat.le_of_ble_eq_true rfl) ⟨Nat.zero_le _, Nat.zero_le _⟩ dX7_asks_86 (fun r ν hν => ?_)
      obtain ⟨rfl, I1, rfl, hS⟩ := hν
      refine z_if_eq h 123 dX7_asks_89 (by decide) (fun c89 => ?_) (fun c89 => ?_)
      · have m := of_decide_eq_false (b2i_0.mp c89)
        rw [if_neg m, if_neg m] at hS
        rw [tkN_f (fun w => m w.1)] at hsp
        refine z_iconst (v := 0) h dX7_asks_123 (by decide) ?_
        exact ret (r := 0) (by rw [hsp]; exact ⟨_, rfl, hS.1, hS.2.1, fr_mono hS.2.2.2.1 (by simp), fun j hj => (hS.2.2.2.2 j (by omega) (by omega)).trans (by simp [upd, show j ≠ 16 by omega, show j ≠ 17 by omega, hvj j (by omega)]), rfl⟩) dX7_asks_124 rfl
      · have m := of_decide_eq_true (b2i_n0.mp c89)
        rw [if_pos m, if_pos m] at hS
        rw [tkN_t ⟨m, m⟩] at hsp
        generalize nmF g (nx g n p) = fi at hS hsp
        refine z_iload_n h dX7_asks_92 rfl rfl ?_
        refine z_iconst (v := 1) h dX7_asks_93 (by decide) ?_
        refine z_icmp_ne h 114 dX7_asks_94 (by decide) (fun c94 => ?_) (fun c94 => ?_)
        · rw [if_neg c94] at hsp
          exact z_lk (J114 _ _ _ so fi (-1) u hS (by simp [upd]) (by simp [upd, e17]) (by simp [upd, e18]) (fun j hj => by simp [upd, show j ≠ 16 by omega, hvj j hj]) hsp) ⟨rfl, rfl, trivial⟩
        · rw [if_pos c94] at hsp
          refine z_aload_n h dX7_asks_97 rfl rfl ?_
          refine z_ldcS h 31 (by decide) rfl rfl dX7_asks_98 ?_
          refine z_callVIP h (cM_takes l hS (i := 31) (by decide)) (by assumption) rfl gm_RX7_141 rfl ⟨rfl, rfl⟩ 1 (by decide +kernel) ⟨by decide, by decide⟩ rfl rfl (Nat.le_of_ble_eq_true rfl) ⟨Nat.zero_le _, Nat.zero_le _⟩ dX7_asks_100 (fun r ν hν => ?_)
          obtain ⟨rfl, I1, rfl, hS⟩ := hν
          rw [show zsb 31 = w_and by decide] at hS ⊢
          refine z_if_eq h 123 dX7_asks_103 (by decide) (fun c103 => ?_) (fun c103 => ?_)
          · have m103 := b2i_0.mp c103
            rw [if_neg (by rw [m103]; decide)] at hS
            rw [tk_f m103] at hsp
            refine z_iconst (v := 0) h dX7_asks_123 (by decide) ?_
            exact ret (r := 0) (by rw [hsp]; exact ⟨_, rfl, hS.1, hS.2.1, fr_mono hS.2.2.2.1 (by simp), fun j hj => (hS.2.2.2.2 j (by omega) (by omega)).trans (by simp [upd, show j ≠ 16 by omega, show j ≠ 17 by omega, hvj j (by omega)]), rfl⟩) dX7_asks_124 rfl
          · have m103 := b2i_n0.mp c103
            rw [if_pos m103] at hS
            rw [tk_t m103] at hsp
            refine z_aload_n h dX7_asks_106 rfl rfl ?_
            refine z_iconst (v := 1) h dX7_asks_107 (by decide) ?_
            refine z_callVIP h (cM_secondF l hS (u := fi) (by simp [upd])) (by assumption) rfl gm_RX7_135 rfl ⟨rfl, rfl⟩ 1 (by decide +kernel) ⟨by decide, by decide⟩ rfl rfl (Nat.le_of_ble_eq_true rfl) ⟨Nat.zero_le _, Nat.zero_le _⟩ dX7_asks_108 (fun r ν hν => ?_)
            obtain ⟨rfl, I1, rfl, hS⟩ := hν
            refine z_if_eq h 123 dX7_asks_111 (by decide) (fun c111 => ?_) (fun c111 => ?_)
            · have m111 := of_decide_eq_false (b2i_0.mp c111)
              rw [if_neg m111, if_neg m111] at hS
              rw [tkN_f m111] at hsp
              refine z_iconst (v := 0) h dX7_asks_123 (by decide) ?_
              exact ret (r := 0) (by rw [hsp]; exact ⟨_, rfl, hS.1, hS.2.1, fr_mono hS.2.2.2.1 (by simp), fun j hj => (hS.2.2.2.2 j (by omega) (by omega)).trans (by simp [upd, show j ≠ 16 by omega, show j ≠ 17 by omega, hvj j (by omega)]), rfl⟩) dX7_asks_124 rfl
            · have m111 := of_decide_eq_true (b2i_n0.mp c111)
              rw [if_pos m111, if_pos m111] at hS
              rw [tkN_t m111] at hsp
              rw [← c94] at hsp
              exact z_lk (J114 _ _ _ so fi _ u hS (by simp [upd]) (by simp [upd]) (by simp [upd, e18]) (fun j hj => by simp [upd, show j ≠ 16 by omega, show j ≠ 17 by omega, hvj j hj]) hsp) ⟨rfl, rfl, trivial⟩
    · rw [if_pos c75] at hsp
      refine z_iconst (v := 0) h dX7_asks_78 (by decide) ?_
      exact ret (r := 0) (by rw [hsp]; exact ⟨_, rfl, hS.1, hS.2.1, fr_mono hS.2.2.2.1 (by simp), fun j hj => (hS.2.2.2.2 j (by omega) (by omega)).trans (by simp [upd, show j ≠ 16 by omega, show j ≠ 17 by omega, hvj j (by omega)]), rfl⟩) dX7_asks_79 rfl
  have hsp : sAsk g n (nx g n q) = (tk g n w_many (nx g n q) fun q => tkU g n q fun u q => if sSrt g q = -1 then (none, q) else tkN g n (-1) (nx g n q) fun fi p => if sSrt g q = 1 then (tk g n w_and p fun p => tkN g n fi p fun se p => tk g n w_qm p fun p => (some (1, fi, se, u), p)) else tk g n w_qm p fun p => (some (sSrt g q, fi, -1, u), p)) := rfl
  refine z_aload_n h dX7_asks_0 rfl rfl ?_
  refine z_ldcS h 45 (by decide) rfl rfl dX7_asks_1 ?_
  refine z_callVIP h (cM_takes l hS (i := 45) (by decide)) (by assumption) rfl gm_RX7_141 rfl ⟨rfl, rfl⟩ 1 (by decide +kernel) ⟨by decide, by decide⟩ rfl rfl (Nat.le_of_ble_eq_true rfl) ⟨Nat.zero_le _, Nat.zero_le _⟩ dX7_asks_3 (fun r ν hν => ?_)
  obtain ⟨rfl, I1, rfl, hS⟩ := hν
  rw [show zsb 45 = w_how by decide] at hS ⊢
  refine z_if_eq h 25 dX7_asks_6 (by decide) (fun c6 => ?_) (fun c6 => ?_)
  · rw [hq] at c6; exact absurd c6 (by decide)
  · rw [if_pos hq] at hS
    refine z_aload_n h dX7_asks_9 rfl rfl ?_
    refine z_ldcS h 44 (by decide) rfl rfl dX7_asks_10 ?_
    refine z_callVIP h (cM_takes l hS (i := 44) (by decide)) (by assumption) rfl gm_RX7_141 rfl ⟨rfl, rfl⟩ 1 (by decide +kernel) ⟨by decide, by decide⟩ rfl rfl (Nat.le_of_ble_eq_true rfl) ⟨Nat.zero_le _, Nat.zero_le _⟩ dX7_asks_12 (fun r ν hν => ?_)
    obtain ⟨rfl, I1, rfl, hS⟩ := hν
    rw [show zsb 44 = w_many by decide] at hS ⊢
    refine z_if_eq h 25 dX7_asks_15 (by decide) (fun c15 => ?_) (fun c15 => ?_)
    · have m15 := b2i_0.mp c15
      rw [if_neg (by rw [m15]; decide)] at hS
      rw [tk_f m15] at hsp
      refine z_iconst (v := 0) h dX7_asks_25 (by decide) ?_
      exact ret (r := 0) (by rw [hsp]; exact ⟨_, rfl, hS.1, hS.2.1, fr_mono hS.2.2.2.1 (by simp), fun j hj => (hS.2.2.2.2 j (by omega) (by omega)).trans (by simp [upd, show j ≠ 16 by omega, show j ≠ 17 by omega, show j ≠ 18 by omega]), rfl⟩) dX7_asks_26 rfl
    · have m15 := b2i_n0.mp c15
      rw [if_pos m15] at hS
      rw [tk_t m15] at hsp
      refine z_aload_n h dX7_asks_18 rfl rfl ?_
      refine z_callVIP h (cM_takesUnit l hS) (by assumption) rfl gm_RX7_153 rfl ⟨rfl, rfl⟩ 0 (by decide +kernel) ⟨by decide, by decide⟩ rfl rfl (Nat.le_of_ble_eq_true rfl) ⟨Nat.zero_le _, Nat.zero_le _⟩ dX7_asks_19 (fun r ν hν => ?_)
      obtain ⟨rfl, I1, rfl, hS⟩ := hν
      refine z_if_ne h 27 dX7_asks_22 (by decide) (fun c22 => ?_) (fun c22 => ?_)
      · have m22 := of_decide_eq_true (b2i_n0.mp c22)
        rw [if_pos m22] at hS
        rw [tkU_t m22] at hsp
        generalize nx g n (nx g n (nx g n q)) = q2 at hS hsp
        refine z_aload_n h dX7_asks_27 rfl rfl ?_
        refine z_iconst (v := -1) h dX7_asks_28 (by decide) ?_
        have hS := hS.put (j := 17) (w := -1) (by decide) (by decide) (by decide)
        refine z_putI h (by assumption) rfl kw7 17 (by decide) rfl rfl (rfl) (rfl) kf_RX7_120 dX7_asks_29 ?_
        refine z_aload_n h dX7_asks_32 rfl rfl ?_
        refine z_ldcS h 38 (by decide) rfl rfl dX7_asks_33 ?_
        refine z_callVI h (cM_is l hS (i := 38) (by decide)) (by assumption) rfl gm_RX7_79 rfl ⟨rfl, rfl⟩ 1 (by decide +kernel) ⟨by decide, by decide⟩ rfl rfl (Nat.le_of_ble_eq_true rfl) ⟨Nat.zero_le _, Nat.zero_le _⟩ dX7_asks_35 ?_
        rw [show zsb 38 = w_has by decide]
        refine z_if_eq h 45 dX7_asks_38 (by decide) (fun c38 => ?_) (fun c38 => ?_)
        · have m38 := b2i_0.mp c38
          refine z_aload_n h dX7_asks_45 rfl rfl ?_
          refine z_ldcS h 32 (by decide) rfl rfl dX7_asks_46 ?_
          refine z_callVI h (cM_is l hS (i := 32) (by decide)) (by assumption) rfl gm_RX7_79 rfl ⟨rfl, rfl⟩ 1 (by decide +kernel) ⟨by decide, by decide⟩ rfl rfl (Nat.le_of_ble_eq_true rfl) ⟨Nat.zero_le _, Nat.zero_le _⟩ dX7_asks_48 ?_
          rw [show zsb 32 = w_have by decide]
          refine z_if_eq h 58 dX7_asks_51 (by decide) (fun c51 => ?_) (fun c51 => ?_)
          · have m51 := b2i_0.mp c51
            refine z_aload_n h dX7_asks_58 rfl rfl ?_
            refine z_ldcS h 46 (by decide) rfl rfl dX7_asks_59 ?_
            refine z_callVI h (cM_is l hS (i := 46) (by decide)) (by assumption) rfl gm_RX7_79 rfl ⟨rfl, rfl⟩ 1 (by decide +kernel) ⟨by decide, by decide⟩ rfl rfl (Nat.le_of_ble_eq_true rfl) ⟨Nat.zero_le _, Nat.zero_le _⟩ dX7_asks_61 ?_
            rw [show zsb 46 = w_had by decide]
            refine z_if_eq h 71 dX7_asks_64 (by decide) (fun c64 => ?_) (fun c64 => ?_)
            · have m64 := b2i_0.mp c64
              have e : sSrt g q2 = -1 := by unfold sSrt; rw [if_neg (by rw [m38]; decide), if_neg (by rw [m51]; decide), if_neg (by rw [m64]; decide)]
              have V := V72 _ q2 _ _ hS (by simp [upd]) (by simp [upd]) (fun j hj => by simp [upd, show j ≠ 17 by omega, show j ≠ 18 by omega]) hsp
              rw [e] at V
              refine z_iconst (v := -1) h dX7_asks_71 (by decide) ?_
              exact z_lk V ⟨rfl, trivial⟩
            · have m64 := b2i_n0.mp c64
              have e : sSrt g q2 = 2 := by unfold sSrt; rw [if_neg (by rw [m38]; decide), if_neg (by rw [m51]; decide), if_pos m64]
              have V := V72 _ q2 _ _ hS (by simp [upd]) (by simp [upd]) (fun j hj => by simp [upd, show j ≠ 17 by omega, show j ≠ 18 by omega]) hsp
              rw [e] at V
              refine z_iconst (v := 2) h dX7_asks_67 (by decide) ?_
              refine z_goto h 72 dX7_asks_68 (by decide) ?_
              exact z_lk V ⟨rfl, trivial⟩
          · have m51 := b2i_n0.mp c51
            have e : sSrt g q2 = 1 := by unfold sSrt; rw [if_neg (by rw [m38]; decide), if_pos m51]
            have V := V72 _ q2 _ _ hS (by simp [upd]) (by simp [upd]) (fun j hj => by simp [upd, show j ≠ 17 by omega, show j ≠ 18 by omega]) hsp
            rw [e] at V
            refine z_iconst (v := 1) h dX7_asks_54 (by decide) ?_
            refine z_goto h 72 dX7_asks_55 (by decide) ?_
            exact z_lk V ⟨rfl, trivial⟩
        · have m38 := b2i_n0.mp c38
          have e : sSrt g q2 = 0 := by unfold sSrt; rw [if_pos m38]
          have V := V72 _ q2 _ _ hS (by simp [upd]) (by simp [upd]) (fun j hj => by simp [upd, show j ≠ 17 by omega, show j ≠ 18 by omega]) hsp
          rw [e] at V
          refine z_iconst (v := 0) h dX7_asks_41 (by decide) ?_
          refine z_goto h 72 dX7_asks_42 (by decide) ?_
          exact z_lk V ⟨rfl, trivial⟩
      · have m22 := of_decide_eq_false (b2i_0.mp c22)
        rw [if_neg m22] at hS
        rw [tkU_f m22] at hsp
        refine z_iconst (v := 0) h dX7_asks_25 (by decide) ?_
        exact ret (r := 0) (by rw [hsp]; exact ⟨_, rfl, hS.1, hS.2.1, fr_mono hS.2.2.2.1 (by simp), fun j hj => (hS.2.2.2.2 j (by omega) (by omega)).trans (by simp [upd, show j ≠ 16 by omega, show j ≠ 17 by omega, show j ≠ 18 by omega]), rfl⟩) dX7_asks_26 rfl
