set_option maxHeartbeats 4000000 in
set_option maxRecDepth 100000 in
theorem c_X7_isIn (l : Launch) {E : zE} {S : zS} {μ : zM} (u a b : Int32) : zI l yX7_isIn wsX7_isIn rmX7_isIn E S [.int u, .int a, .int b] μ (b2i (decide (a ≤ u ∧ u ≤ b))) μ := by
  refine z_metI (cc := cX7_isIn) (maxL := 3) (ty := .boolean) (by decide) rfl (Nat.le_of_ble_eq_true rfl) (fun X h ret => ?_)
  show zV X E S 0 0 μ 0 _ []
  refine z_iload_n h dX7_isIn_0 rfl rfl ?_
  refine z_iload_n h dX7_isIn_1 rfl rfl ?_
  refine z_icmp_lt h 14 dX7_isIn_2 (by decide) (fun c2 => ?_) (fun c2 => ?_)
  · rw [b2i_f (decide_eq_false (fun w => absurd w.1 (Int32.not_le.mpr c2)))] at ret
    refine z_iconst (v := 0) h dX7_isIn_14 (by decide) ?_
    exact ret dX7_isIn_15 rfl
  · refine z_iload_n h dX7_isIn_5 rfl rfl ?_
    refine z_iload_n h dX7_isIn_6 rfl rfl ?_
    refine z_icmp_gt h 14 dX7_isIn_7 (by decide) (fun c7 => ?_) (fun c7 => ?_)
    · rw [b2i_f (decide_eq_false (fun w => absurd w.2 (Int32.not_le.mpr c7)))] at ret
      refine z_iconst (v := 0) h dX7_isIn_14 (by decide) ?_
      exact ret dX7_isIn_15 rfl
    · rw [b2i_t (decide_eq_true ⟨Int32.not_lt.mp c2, Int32.not_lt.mp c7⟩)] at ret
      refine z_iconst (v := 1) h dX7_isIn_10 (by decide) ?_
      refine z_goto h 15 dX7_isIn_11 (by decide) ?_
      exact ret dX7_isIn_15 rfl

theorem cM_secondF (l : Launch) {E : zE} {S : zS} {I I0 : Nat → Nat → Int32} {J : Nat → Nat → Int64} {R : Nat → Nat → Option Nat} {g : Nat → Int32} {x tp n : Nat} {q : zQ} {v : Nat → Int32} (hS : MS S R g I0 I x tp n q v) {u : Int32} (h16 : v 16 = u) : zIP l yX7_takesName wsX7_takesName rmX7_takesName E S [.ref x, .int 1] (I, J, R) (fun r ν => r = b2i (decide (nmF g q ≠ -1 ∧ nmF g q ≠ u)) ∧ ∃ I', ν = (I', J, R) ∧ MS S R g I0 I' x tp n (if nmF g q ≠ -1 ∧ nmF g q ≠ u then nx g n q else q) (if nmF g q ≠ -1 ∧ nmF g q ≠ u then upd v 17 (nmF g q) else v)) := h16 ▸ cM_second l hS
theorem nmW_no {g : Nat → Int32} {f e : Nat} (h : ¬ (nmW g f e).getD (-1) ≠ -1) : nmW g f e = none := by
  cases q : nmW g f e with
  | none => rfl
  | some a =>
    rw [q] at h
    obtain ⟨c, hc, hc2⟩ := nmW_ne q
    exact absurd (fun w => nI_m1 hc2 (hc.symm.trans w)) h
theorem nmW_yes {g : Nat → Int32} {f e : Nat} (h : (nmW g f e).getD (-1) ≠ -1) : ∃ a, nmW g f e = some a := by
  cases q : nmW g f e with
  | none => rw [q] at h; exact absurd rfl h
  | some a => exact ⟨a, rfl⟩
def senM (S : zS) (J : Nat → Nat → Int64) (R : Nat → Nat → Option Nat) (g : Nat → Int32) (I0 : Nat → Nat → Int32) (x tp n : Nat) (v : Nat → Int32) (o : Option (Int32 × zR) × zQ) (r : Int32) (ν : zM) : Prop := ∃ I' v', ν = (I', J, R) ∧ MS S R g I0 I' x tp n o.2 v' ∧ (∀ j, j < 15 ∨ 19 < j → v' j = v j) ∧ match o.1 with
  | none => r = 0
  | some w => r = 1 ∧ v' 15 = w.2.1 ∧ v' 16 = w.1 ∧ v' 17 = w.2.2.1 ∧ v' 18 = w.2.2.2.1 ∧ v' 19 = w.2.2.2.2

set_option maxHeartbeats 4000000 in
set_option maxRecDepth 100000 in
theorem cM_sentence (l : Launch) {E : zE} {S : zS} {I I0 : Nat → Nat → Int32} {J : Nat → Nat → Int64} {R : Nat → Nat → Option Nat} {g : Nat → Int32} {x tp n : Nat} {q : zQ} {v : Nat → Int32} (hS : MS S R g I0 I x tp n q v) : zIP l yX7_sentence wsX7_sentence rmX7_sentence E S [.ref x] (I, J, R) (senM S J R g I0 x tp n v (mSen g n q)) := by
  refine z_metIP (cc := cX7_sentence) (maxL := 2) (ty := .boolean) (by decide) rfl (Nat.le_of_ble_eq_true rfl) (fun X h ret => ?_)
  show zV X E S 0 0 (I, J, R) 0 _ []
  have f1 := hS.1.1
  have hsp : mSen g n q = tkN g n (-1) q (fun fi q => mVrb g n fi q) := rfl
  have P155 : ∀ (b : Bool) (I1 : Nat → Nat → Int32) (q1 : zQ) (w : Nat → Int32) {fi : Int32}, MS S R g I0 I1 x tp n q1 w → mSen g n q = mPl g n (if b = true then 6 else 7) fi (nx g n q1) → w 16 = fi → w 17 = -1 → (∀ j, j < 15 ∨ 19 < j → w j = v j) → zV X E S 0 0 (I1, J, R) 155 [(0, .ref x), (1, .int (b2i b))] [] := by
    intro b I1 q1 w fi hS hsp e16 e17 hvj
    have J171 : ∀ I2 : Nat → Nat → Int32, MS S R g I0 I2 x tp n (nx g n q1) w → zV X E S 0 0 (I2, J, R) 171 [(0, .ref x)] [.int (if b = true then 6 else 7), .ref x] := by
      intro I2 hS
      generalize (if b = true then (6 : Int32) else 7) = so at hsp ⊢
      unfold mPl at hsp
      have hS := hS.put (j := 15) (w := so) (by decide) (by decide) (by decide)
      refine z_putI h (by assumption) rfl kw7 15 (by decide) rfl rfl (rfl) (rfl) kf_RX7_144 dX7_sentence_171 ?_
      refine z_aload_n h dX7_sentence_174 rfl rfl ?_
      refine z_callVIP h (cM_takesNumber l hS) (by assumption) rfl gm_RX7_149 rfl ⟨rfl, rfl⟩ 0 (by decide +kernel) ⟨by decide, by decide⟩ rfl rfl (Nat.le_of_ble_eq_true rfl) ⟨Nat.zero_le _, Nat.zero_le _⟩ dX7_sentence_175 (fun r ν hν => ?_)
      obtain ⟨rfl, I1, rfl, hS⟩ := hν
      refine z_if_eq h 201 dX7_sentence_178 (by decide) (fun c178 => ?_) (fun c178 => ?_)
      · have m178 := of_decide_eq_false (b2i_0.mp c178)
        rw [if_neg m178] at hS
        rw [tkD_n (nmW_no m178)] at hsp
        refine z_iconst (v := 0) h dX7_sentence_201 (by decide) ?_
        exact ret (r := 0) (by rw [hsp]; exact ⟨_, _, rfl, hS, fun j hj => by simp [upd, show j ≠ 15 by omega, show j ≠ 16 by omega, show j ≠ 17 by omega, show j ≠ 18 by omega, show j ≠ 19 by omega, hvj j hj], rfl⟩) dX7_sentence_202 rfl
      · have m178 := of_decide_eq_true (b2i_n0.mp c178)
        rw [if_pos m178] at hS
        obtain ⟨a, ha⟩ := nmW_yes m178
        rw [tkD_s ha] at hsp
        rw [ha] at hS
        refine z_aload_n h dX7_sentence_181 rfl rfl ?_
        refine z_callVIP h (cM_takesUnit l hS) (by assumption) rfl gm_RX7_153 rfl ⟨rfl, rfl⟩ 0 (by decide +kernel) ⟨by decide, by decide⟩ rfl rfl (Nat.le_of_ble_eq_true rfl) ⟨Nat.zero_le _, Nat.zero_le _⟩ dX7_sentence_182 (fun r ν hν => ?_)
        obtain ⟨rfl, I1, rfl, hS⟩ := hν
        refine z_if_eq h 201 dX7_sentence_185 (by decide) (fun c185 => ?_) (fun c185 => ?_)
        · have m185 := of_decide_eq_false (b2i_0.mp c185)
          rw [if_neg m185] at hS
          rw [tkU_f m185] at hsp
          refine z_iconst (v := 0) h dX7_sentence_201 (by decide) ?_
          exact ret (r := 0) (by rw [hsp]; exact ⟨_, _, rfl, hS, fun j hj => by simp [upd, show j ≠ 15 by omega, show j ≠ 16 by omega, show j ≠ 17 by omega, show j ≠ 18 by omega, show j ≠ 19 by omega, hvj j hj], rfl⟩) dX7_sentence_202 rfl
        · have m185 := of_decide_eq_true (b2i_n0.mp c185)
          rw [if_pos m185] at hS
          rw [tkU_t m185] at hsp
          refine z_aload_n h dX7_sentence_188 rfl rfl ?_
          refine z_ldcS h 33 (by decide) rfl rfl dX7_sentence_189 ?_
          refine z_callVIP h (cM_takes l hS (i := 33) (by decide)) (by assumption) rfl gm_RX7_141 rfl ⟨rfl, rfl⟩ 1 (by decide +kernel) ⟨by decide, by decide⟩ rfl rfl (Nat.le_of_ble_eq_true rfl) ⟨Nat.zero_le _, Nat.zero_le _⟩ dX7_sentence_191 (fun r ν hν => ?_)
          obtain ⟨rfl, I1, rfl, hS⟩ := hν
          rw [show zsb 33 = w_dot by decide] at hS ⊢
          refine z_if_eq h 201 dX7_sentence_194 (by decide) (fun c194 => ?_) (fun c194 => ?_)
          · have m194 := b2i_0.mp c194
            rw [if_neg (by rw [m194]; decide)] at hS
            rw [tk_f m194] at hsp
            refine z_iconst (v := 0) h dX7_sentence_201 (by decide) ?_
            exact ret (r := 0) (by rw [hsp]; exact ⟨_, _, rfl, hS, fun j hj => by simp [upd, show j ≠ 15 by omega, show j ≠ 16 by omega, show j ≠ 17 by omega, show j ≠ 18 by omega, show j ≠ 19 by omega, hvj j hj], rfl⟩) dX7_sentence_202 rfl
          · have m194 := b2i_n0.mp c194
            rw [if_pos m194] at hS
            rw [tk_t m194] at hsp
            refine z_iconst (v := 1) h dX7_sentence_197 (by decide) ?_
            refine z_goto h 202 dX7_sentence_198 (by decide) ?_
            exact ret (r := 1) (by rw [hsp]; exact ⟨_, _, rfl, hS, fun j hj => by simp [upd, show j ≠ 15 by omega, show j ≠ 16 by omega, show j ≠ 17 by omega, show j ≠ 18 by omega, show j ≠ 19 by omega, hvj j hj], rfl, by simp [upd], by simp [upd, e16], by simp [upd, e17], by simp [upd], by simp [upd]⟩) dX7_sentence_202 rfl
    refine z_aload_n h dX7_sentence_155 rfl rfl ?_
    refine z_callVNP h (cM_next l hS) (by assumption) rfl gm_RX7_83 rfl ⟨rfl, rfl⟩ 0 (by decide +kernel) ⟨by decide, by decide⟩ rfl rfl (Nat.le_of_ble_eq_true rfl) ⟨Nat.zero_le _, Nat.zero_le _⟩ dX7_sentence_156 (fun ν hν => ?_)
    obtain ⟨I2, rfl, hS⟩ := hν
    refine z_aload_n h dX7_sentence_159 rfl rfl ?_
    refine z_iload_n h dX7_sentence_160 rfl rfl ?_
    refine z_if_eq h 169 dX7_sentence_161 (by decide) (fun c161 => ?_) (fun c161 => ?_)
    · have m := b2i_0.mp c161
      subst m
      refine z_bipush (v := 7) h dX7_sentence_169 (by decide) ?_
      exact z_lk (J171 I2 hS) ⟨rfl, trivial⟩
    · have m := b2i_n0.mp c161
      subst m
      refine z_bipush (v := 6) h dX7_sentence_164 (by decide) ?_
      refine z_goto h 171 dX7_sentence_166 (by decide) ?_
      exact z_lk (J171 I2 hS) ⟨rfl, trivial⟩
  have C239 : ∀ (b : Bool) (I1 : Nat → Nat → Int32) (q1 : zQ) (w : Nat → Int32) (a : Int32) {fi : Int32}, MS S R g I0 I1 x tp n q1 w → mW g q1.1 q1.2 w_more = b → mSen g n q = mCmp g n (if b = true then 1 else 2) a fi (nx g n q1) → w 19 = a → w 16 = fi → (∀ j, j < 15 ∨ 19 < j → w j = v j) → zV X E S 0 0 (I1, J, R) 239 [(0, .ref x)] [] := by
    intro b I1 q1 w a fi hS hmo hsp e19 e16 hvj
    have J254 : zV X E S 0 0 (I1, J, R) 254 [(0, .ref x)] [.int (if b = true then 1 else 2), .ref x] := by
      generalize (if b = true then (1 : Int32) else 2) = so at hsp ⊢
      unfold mCmp at hsp
      have hS := hS.put (j := 15) (w := so) (by decide) (by decide) (by decide)
      refine z_putI h (by assumption) rfl kw7 15 (by decide) rfl rfl (rfl) (rfl) kf_RX7_144 dX7_sentence_254 ?_
      refine z_aload_n h dX7_sentence_257 rfl rfl ?_
      refine z_callVNP h (cM_next l hS) (by assumption) rfl gm_RX7_83 rfl ⟨rfl, rfl⟩ 0 (by decide +kernel) ⟨by decide, by decide⟩ rfl rfl (Nat.le_of_ble_eq_true rfl) ⟨Nat.zero_le _, Nat.zero_le _⟩ dX7_sentence_258 (fun ν hν => ?_)
      obtain ⟨I2, rfl, hS⟩ := hν
      refine z_aload_n h dX7_sentence_261 rfl rfl ?_
      refine z_callVIP h (cM_takesUnit l hS) (by assumption) rfl gm_RX7_153 rfl ⟨rfl, rfl⟩ 0 (by decide +kernel) ⟨by decide, by decide⟩ rfl rfl (Nat.le_of_ble_eq_true rfl) ⟨Nat.zero_le _, Nat.zero_le _⟩ dX7_sentence_262 (fun r ν hν => ?_)
      obtain ⟨rfl, I1, rfl, hS⟩ := hν
      refine z_if_eq h 298 dX7_sentence_265 (by decide) (fun c265 => ?_) (fun c265 => ?_)
      · have m265 := of_decide_eq_false (b2i_0.mp c265)
        rw [if_neg m265] at hS
        rw [tkU_f m265] at hsp
        refine z_iconst (v := 0) h dX7_sentence_298 (by decide) ?_
        exact ret (r := 0) (by rw [hsp]; exact ⟨_, _, rfl, hS, fun j hj => by simp [upd, show j ≠ 15 by omega, show j ≠ 16 by omega, show j ≠ 17 by omega, show j ≠ 18 by omega, show j ≠ 19 by omega, hvj j hj], rfl⟩) dX7_sentence_299 rfl
      · have m265 := of_decide_eq_true (b2i_n0.mp c265)
        rw [if_pos m265] at hS
        rw [tkU_t m265] at hsp
        refine z_aload_n h dX7_sentence_268 rfl rfl ?_
        refine z_ldcS h 41 (by decide) rfl rfl dX7_sentence_269 ?_
        refine z_callVIP h (cM_takes l hS (i := 41) (by decide)) (by assumption) rfl gm_RX7_141 rfl ⟨rfl, rfl⟩ 1 (by decide +kernel) ⟨by decide, by decide⟩ rfl rfl (Nat.le_of_ble_eq_true rfl) ⟨Nat.zero_le _, Nat.zero_le _⟩ dX7_sentence_271 (fun r ν hν => ?_)
        obtain ⟨rfl, I1, rfl, hS⟩ := hν
        rw [show zsb 41 = w_than by decide] at hS ⊢
        refine z_if_eq h 298 dX7_sentence_274 (by decide) (fun c274 => ?_) (fun c274 => ?_)
        · have m274 := b2i_0.mp c274
          rw [if_neg (by rw [m274]; decide)] at hS
          rw [tk_f m274] at hsp
          refine z_iconst (v := 0) h dX7_sentence_298 (by decide) ?_
          exact ret (r := 0) (by rw [hsp]; exact ⟨_, _, rfl, hS, fun j hj => by simp [upd, show j ≠ 15 by omega, show j ≠ 16 by omega, show j ≠ 17 by omega, show j ≠ 18 by omega, show j ≠ 19 by omega, hvj j hj], rfl⟩) dX7_sentence_299 rfl
        · have m274 := b2i_n0.mp c274
          rw [if_pos m274] at hS
          rw [tk_t m274] at hsp
          refine z_aload_n h dX7_sentence_277 rfl rfl ?_
          refine z_iconst (v := 1) h dX7_sentence_278 (by decide) ?_
          refine z_callVIP h (cM_secondF l hS (u := fi) (by simp [upd, e16])) (by assumption) rfl gm_RX7_135 rfl ⟨rfl, rfl⟩ 1 (by decide +kernel) ⟨by decide, by decide⟩ rfl rfl (Nat.le_of_ble_eq_true rfl) ⟨Nat.zero_le _, Nat.zero_le _⟩ dX7_sentence_279 (fun r ν hν => ?_)
          obtain ⟨rfl, I1, rfl, hS⟩ := hν
          refine z_if_eq h 298 dX7_sentence_282 (by decide) (fun c282 => ?_) (fun c282 => ?_)
          · have m282 := of_decide_eq_false (b2i_0.mp c282)
            rw [if_neg m282, if_neg m282] at hS
            rw [tkN_f m282] at hsp
            refine z_iconst (v := 0) h dX7_sentence_298 (by decide) ?_
            exact ret (r := 0) (by rw [hsp]; exact ⟨_, _, rfl, hS, fun j hj => by simp [upd, show j ≠ 15 by omega, show j ≠ 16 by omega, show j ≠ 17 by omega, show j ≠ 18 by omega, show j ≠ 19 by omega, hvj j hj], rfl⟩) dX7_sentence_299 rfl
          · have m282 := of_decide_eq_true (b2i_n0.mp c282)
            rw [if_pos m282, if_pos m282] at hS
            rw [tkN_t m282] at hsp
            refine z_aload_n h dX7_sentence_285 rfl rfl ?_
            refine z_ldcS h 33 (by decide) rfl rfl dX7_sentence_286 ?_
            refine z_callVIP h (cM_takes l hS (i := 33) (by decide)) (by assumption) rfl gm_RX7_141 rfl ⟨rfl, rfl⟩ 1 (by decide +kernel) ⟨by decide, by decide⟩ rfl rfl (Nat.le_of_ble_eq_true rfl) ⟨Nat.zero_le _, Nat.zero_le _⟩ dX7_sentence_288 (fun r ν hν => ?_)
            obtain ⟨rfl, I1, rfl, hS⟩ := hν
            rw [show zsb 33 = w_dot by decide] at hS ⊢
            refine z_if_eq h 298 dX7_sentence_291 (by decide) (fun c291 => ?_) (fun c291 => ?_)
            · have m291 := b2i_0.mp c291
              rw [if_neg (by rw [m291]; decide)] at hS
              rw [tk_f m291] at hsp
              refine z_iconst (v := 0) h dX7_sentence_298 (by decide) ?_
              exact ret (r := 0) (by rw [hsp]; exact ⟨_, _, rfl, hS, fun j hj => by simp [upd, show j ≠ 15 by omega, show j ≠ 16 by omega, show j ≠ 17 by omega, show j ≠ 18 by omega, show j ≠ 19 by omega, hvj j hj], rfl⟩) dX7_sentence_299 rfl
            · have m291 := b2i_n0.mp c291
              rw [if_pos m291] at hS
              rw [tk_t m291] at hsp
              refine z_iconst (v := 1) h dX7_sentence_294 (by decide) ?_
              refine z_goto h 299 dX7_sentence_295 (by decide) ?_
              exact ret (r := 1) (by rw [hsp]; exact ⟨_, _, rfl, hS, fun j hj => by simp [upd, show j ≠ 15 by omega, show j ≠ 16 by omega, show j ≠ 17 by omega, show j ≠ 18 by omega, show j ≠ 19 by omega, hvj j hj], rfl, by simp [upd], by simp [upd, e16], by simp [upd], by simp [upd], by simp [upd, e19]⟩) dX7_sentence_299 rfl
    refine z_aload_n h dX7_sentence_239 rfl rfl ?_
    refine z_aload_n h dX7_sentence_240 rfl rfl ?_
    refine z_ldcS h 39 (by decide) rfl rfl dX7_sentence_241 ?_
    refine z_callVI h (cM_is l hS (i := 39) (by decide)) (by assumption) rfl gm_RX7_79 rfl ⟨rfl, rfl⟩ 1 (by decide +kernel) ⟨by decide, by decide⟩ rfl rfl (Nat.le_of_ble_eq_true rfl) ⟨Nat.zero_le _, Nat.zero_le _⟩ dX7_sentence_243 ?_
    rw [show zsb 39 = w_more by decide, hmo]
    refine z_if_eq h 253 dX7_sentence_246 (by decide) (fun c246 => ?_) (fun c246 => ?_)
    · have m := b2i_0.mp c246
      refine z_iconst (v := 2) h dX7_sentence_253 (by decide) ?_
      rw [m] at J254
      exact z_lk J254 ⟨rfl, trivial⟩
    · have m := b2i_n0.mp c246
      refine z_iconst (v := 1) h dX7_sentence_249 (by decide) ?_
      refine z_goto h 254 dX7_sentence_250 (by decide) ?_
      rw [m] at J254
      exact z_lk J254 ⟨rfl, trivial⟩
  have V15 : ∀ (I1 : Nat → Nat → Int32) (fi : Int32) (q1 : zQ) (w : Nat → Int32), MS S R g I0 I1 x tp n q1 w → w 16 = fi → w 17 = -1 → (∀ j, j < 15 ∨ 19 < j → w j = v j) → mSen g n q = mVrb g n fi q1 → zV X E S 0 0 (I1, J, R) 15 [(0, .ref x)] [] := by
    intro I1 fi q1 w hS e16 e17 hvj hsp
    unfold mVrb at hsp
    refine z_aload_n h dX7_sentence_15 rfl rfl ?_
    refine z_ldcS h 31 (by decide) rfl rfl dX7_sentence_16 ?_
    refine z_callVIP h (cM_takes l hS (i := 31) (by decide)) (by assumption) rfl gm_RX7_141 rfl ⟨rfl, rfl⟩ 1 (by decide +kernel) ⟨by decide, by decide⟩ rfl rfl (Nat.le_of_ble_eq_true rfl) ⟨Nat.zero_le _, Nat.zero_le _⟩ dX7_sentence_18 (fun r ν hν => ?_)
    obtain ⟨rfl, I1, rfl, hS⟩ := hν
    rw [show zsb 31 = w_and by decide] at hS ⊢
    refine z_if_eq h 75 dX7_sentence_21 (by decide) (fun c21 => ?_) (fun c21 => ?_)
    · have m21 := b2i_0.mp c21
      rw [if_neg (by rw [m21]; decide)] at hS
      rw [if_neg (by rw [m21]; decide)] at hsp
      refine z_aload_n h dX7_sentence_75 rfl rfl ?_
      refine z_ldcS h 34 (by decide) rfl rfl dX7_sentence_76 ?_
      refine z_callVIP h (cM_takes l hS (i := 34) (by decide)) (by assumption) rfl gm_RX7_141 rfl ⟨rfl, rfl⟩ 1 (by decide +kernel) ⟨by decide, by decide⟩ rfl rfl (Nat.le_of_ble_eq_true rfl) ⟨Nat.zero_le _, Nat.zero_le _⟩ dX7_sentence_78 (fun r ν hν => ?_)
      obtain ⟨rfl, I1, rfl, hS⟩ := hν
      rw [show zsb 34 = w_gives by decide] at hS ⊢
      refine z_if_eq h 135 dX7_sentence_81 (by decide) (fun c81 => ?_) (fun c81 => ?_)
      · have m81 := b2i_0.mp c81
        rw [if_neg (by rw [m81]; decide)] at hS
        rw [if_neg (by rw [m81]; decide)] at hsp
        refine z_aload_n h dX7_sentence_135 rfl rfl ?_
        refine z_ldcS h 36 (by decide) rfl rfl dX7_sentence_136 ?_
        refine z_callVI h (cM_is l hS (i := 36) (by decide)) (by assumption) rfl gm_RX7_79 rfl ⟨rfl, rfl⟩ 1 (by decide +kernel) ⟨by decide, by decide⟩ rfl rfl (Nat.le_of_ble_eq_true rfl) ⟨Nat.zero_le _, Nat.zero_le _⟩ dX7_sentence_138 ?_
        rw [show zsb 36 = w_buys by decide]
        refine z_istore_n h dX7_sentence_141 rfl (by decide) ?_
        refine z_iload_n h dX7_sentence_142 rfl rfl ?_
        refine z_if_ne h 155 dX7_sentence_143 (by decide) (fun c143 => ?_) (fun c143 => ?_)
        · have m := b2i_n0.mp c143
          rw [if_pos m] at hsp
          rw [m]
          exact z_lk (P155 true _ _ _ hS (by rw [if_pos rfl]; exact hsp) e16 e17 hvj) ⟨rfl, rfl, trivial⟩
        · have m143 := b2i_0.mp c143
          rw [if_neg (by rw [m143]; decide)] at hsp
          refine z_aload_n h dX7_sentence_146 rfl rfl ?_
          refine z_ldcS h 37 (by decide) rfl rfl dX7_sentence_147 ?_
          refine z_callVI h (cM_is l hS (i := 37) (by decide)) (by assumption) rfl gm_RX7_79 rfl ⟨rfl, rfl⟩ 1 (by decide +kernel) ⟨by decide, by decide⟩ rfl rfl (Nat.le_of_ble_eq_true rfl) ⟨Nat.zero_le _, Nat.zero_le _⟩ dX7_sentence_149 ?_
          rw [show zsb 37 = w_eats by decide]
          refine z_if_eq h 203 dX7_sentence_152 (by decide) (fun c152 => ?_) (fun c152 => ?_)
          · have m152 := b2i_0.mp c152
            rw [if_neg (by rw [m152]; decide)] at hsp
            refine z_aload_n h dX7_sentence_203 rfl rfl ?_
            refine z_ldcS h 38 (by decide) rfl rfl dX7_sentence_204 ?_
            refine z_callVIP h (cM_takes l hS (i := 38) (by decide)) (by assumption) rfl gm_RX7_141 rfl ⟨rfl, rfl⟩ 1 (by decide +kernel) ⟨by decide, by decide⟩ rfl rfl (Nat.le_of_ble_eq_true rfl) ⟨Nat.zero_le _, Nat.zero_le _⟩ dX7_sentence_206 (fun r ν hν => ?_)
            obtain ⟨rfl, I1, rfl, hS⟩ := hν
            rw [show zsb 38 = w_has by decide] at hS ⊢
            refine z_if_eq h 219 dX7_sentence_209 (by decide) (fun c209 => ?_) (fun c209 => ?_)
            · have m209 := b2i_0.mp c209
              rw [if_neg (by rw [m209]; decide)] at hS
              rw [tk_f m209] at hsp
              refine z_iconst (v := 0) h dX7_sentence_219 (by decide) ?_
              exact ret (r := 0) (by rw [hsp]; exact ⟨_, _, rfl, hS, fun j hj => by simp [upd, show j ≠ 15 by omega, show j ≠ 16 by omega, show j ≠ 17 by omega, show j ≠ 18 by omega, show j ≠ 19 by omega, hvj j hj], rfl⟩) dX7_sentence_220 rfl
            · have m209 := b2i_n0.mp c209
              rw [if_pos m209] at hS
              rw [tk_t m209] at hsp
              unfold mHas at hsp
              refine z_aload_n h dX7_sentence_212 rfl rfl ?_
              refine z_callVIP h (cM_takesNumber l hS) (by assumption) rfl gm_RX7_149 rfl ⟨rfl, rfl⟩ 0 (by decide +kernel) ⟨by decide, by decide⟩ rfl rfl (Nat.le_of_ble_eq_true rfl) ⟨Nat.zero_le _, Nat.zero_le _⟩ dX7_sentence_213 (fun r ν hν => ?_)
              obtain ⟨rfl, I1, rfl, hS⟩ := hν
              refine z_if_ne h 221 dX7_sentence_216 (by decide) (fun c216 => ?_) (fun c216 => ?_)
              · have m216 := of_decide_eq_true (b2i_n0.mp c216)
                rw [if_pos m216] at hS
                obtain ⟨a, ha⟩ := nmW_yes m216
                rw [tkD_s ha] at hsp
                rw [ha] at hS
                refine z_lk (lv' := [(0, .ref x)]) ?_ ⟨rfl, trivial⟩
                refine z_aload_n h dX7_sentence_221 rfl rfl ?_
                refine z_ldcS h 39 (by decide) rfl rfl dX7_sentence_222 ?_
                refine z_callVI h (cM_is l hS (i := 39) (by decide)) (by assumption) rfl gm_RX7_79 rfl ⟨rfl, rfl⟩ 1 (by decide +kernel) ⟨by decide, by decide⟩ rfl rfl (Nat.le_of_ble_eq_true rfl) ⟨Nat.zero_le _, Nat.zero_le _⟩ dX7_sentence_224 ?_
                rw [show zsb 39 = w_more by decide]
                refine z_if_ne h 239 dX7_sentence_227 (by decide) (fun c227 => ?_) (fun c227 => ?_)
                · have m := b2i_n0.mp c227
                  rw [if_pos m] at hsp
                  exact z_lk (C239 true _ _ _ _ hS (by simpa using m) (by rw [if_pos rfl]; exact hsp) (by simp [upd]) (by simp [upd, e16]) (fun j hj => by simp [upd, show j ≠ 19 by omega, hvj j hj])) ⟨rfl, trivial⟩
                · have m227 := b2i_0.mp c227
                  rw [if_neg (by rw [m227]; decide)] at hsp
                  refine z_aload_n h dX7_sentence_230 rfl rfl ?_
                  refine z_ldcS h 40 (by decide) rfl rfl dX7_sentence_231 ?_
                  refine z_callVI h (cM_is l hS (i := 40) (by decide)) (by assumption) rfl gm_RX7_79 rfl ⟨rfl, rfl⟩ 1 (by decide +kernel) ⟨by decide, by decide⟩ rfl rfl (Nat.le_of_ble_eq_true rfl) ⟨Nat.zero_le _, Nat.zero_le _⟩ dX7_sentence_233 ?_
                  rw [show zsb 40 = w_fewer by decide]
                  refine z_if_eq h 300 dX7_sentence_236 (by decide) (fun c236 => ?_) (fun c236 => ?_)
                  · have m236 := b2i_0.mp c236
                    rw [if_neg (by rw [m236]; decide)] at hsp
                    refine z_aload_n h dX7_sentence_300 rfl rfl ?_
                    refine z_ldcS h 42 (by decide) rfl rfl dX7_sentence_301 ?_
                    refine z_callVI h (cM_is l hS (i := 42) (by decide)) (by assumption) rfl gm_RX7_79 rfl ⟨rfl, rfl⟩ 1 (by decide +kernel) ⟨by decide, by decide⟩ rfl rfl (Nat.le_of_ble_eq_true rfl) ⟨Nat.zero_le _, Nat.zero_le _⟩ dX7_sentence_303 ?_
                    rw [show zsb 42 = w_times by decide]
                    refine z_if_eq h 390 dX7_sentence_306 (by decide) (fun c306 => ?_) (fun c306 => ?_)
                    · have m306 := b2i_0.mp c306
                      rw [if_neg (by rw [m306]; decide)] at hsp
                      refine z_aload_n h dX7_sentence_390 rfl rfl ?_
                      refine z_iconst (v := 0) h dX7_sentence_391 (by decide) ?_
                      have hS := hS.put (j := 15) (w := 0) (by decide) (by decide) (by decide)
                      refine z_putI h (by assumption) rfl kw7 15 (by decide) rfl rfl (rfl) (rfl) kf_RX7_144 dX7_sentence_392 ?_
                      refine z_aload_n h dX7_sentence_395 rfl rfl ?_
                      refine z_callVIP h (cM_takesUnit l hS) (by assumption) rfl gm_RX7_153 rfl ⟨rfl, rfl⟩ 0 (by decide +kernel) ⟨by decide, by decide⟩ rfl rfl (Nat.le_of_ble_eq_true rfl) ⟨Nat.zero_le _, Nat.zero_le _⟩ dX7_sentence_396 (fun r ν hν => ?_)
                      obtain ⟨rfl, I1, rfl, hS⟩ := hν
                      refine z_if_eq h 415 dX7_sentence_399 (by decide) (fun c399 => ?_) (fun c399 => ?_)
                      · have m399 := of_decide_eq_false (b2i_0.mp c399)
                        rw [if_neg m399] at hS
                        rw [tkU_f m399] at hsp
                        refine z_iconst (v := 0) h dX7_sentence_415 (by decide) ?_
                        exact ret (r := 0) (by rw [hsp]; exact ⟨_, _, rfl, hS, fun j hj => by simp [upd, show j ≠ 15 by omega, show j ≠ 16 by omega, show j ≠ 17 by omega, show j ≠ 18 by omega, show j ≠ 19 by omega, hvj j hj], rfl⟩) dX7_sentence_416 rfl
                      · have m399 := of_decide_eq_true (b2i_n0.mp c399)
                        rw [if_pos m399] at hS
                        rw [tkU_t m399] at hsp
                        refine z_aload_n h dX7_sentence_402 rfl rfl ?_
                        refine z_ldcS h 33 (by decide) rfl rfl dX7_sentence_403 ?_
                        refine z_callVIP h (cM_takes l hS (i := 33) (by decide)) (by assumption) rfl gm_RX7_141 rfl ⟨rfl, rfl⟩ 1 (by decide +kernel) ⟨by decide, by decide⟩ rfl rfl (Nat.le_of_ble_eq_true rfl) ⟨Nat.zero_le _, Nat.zero_le _⟩ dX7_sentence_405 (fun r ν hν => ?_)
                        obtain ⟨rfl, I1, rfl, hS⟩ := hν
                        rw [show zsb 33 = w_dot by decide] at hS ⊢
                        refine z_if_eq h 415 dX7_sentence_408 (by decide) (fun c408 => ?_) (fun c408 => ?_)
                        · have m408 := b2i_0.mp c408
                          rw [if_neg (by rw [m408]; decide)] at hS
                          rw [tk_f m408] at hsp
                          refine z_iconst (v := 0) h dX7_sentence_415 (by decide) ?_
                          exact ret (r := 0) (by rw [hsp]; exact ⟨_, _, rfl, hS, fun j hj => by simp [upd, show j ≠ 15 by omega, show j ≠ 16 by omega, show j ≠ 17 by omega, show j ≠ 18 by omega, show j ≠ 19 by omega, hvj j hj], rfl⟩) dX7_sentence_416 rfl
                        · have m408 := b2i_n0.mp c408
                          rw [if_pos m408] at hS
                          rw [tk_t m408] at hsp
                          refine z_iconst (v := 1) h dX7_sentence_411 (by decide) ?_
                          refine z_goto h 416 dX7_sentence_412 (by decide) ?_
                          exact ret (r := 1) (by rw [hsp]; exact ⟨_, _, rfl, hS, fun j hj => by simp [upd, show j ≠ 15 by omega, show j ≠ 16 by omega, show j ≠ 17 by omega, show j ≠ 18 by omega, show j ≠ 19 by omega, hvj j hj], rfl, by simp [upd], by simp [upd, e16], by simp [upd, e17], by simp [upd], by simp [upd]⟩) dX7_sentence_416 rfl
                    · have m306 := b2i_n0.mp c306
                      rw [if_pos m306] at hsp
                      refine z_aload_n h dX7_sentence_309 rfl rfl ?_
                      refine z_getI h (by assumption) rfl kw7 19 (by decide) rfl kf_RX7_132 dX7_sentence_310 ?_
                      rw [show I1 x 19 = a by rw [hS.2.2.2.2 19 (by decide) (by decide)]; simp [upd]]
                      refine z_iconst (v := 2) h dX7_sentence_313 (by decide) ?_
                      refine z_bipush (v := 9) h dX7_sentence_314 (by decide) ?_
                      refine z_callSI h (c_X7_isIn l a 2 9) (va_cwS 3 h.2.2.2.2.1 gm_RX7_176 rfl rfl rfl (by decide +kernel) ⟨by decide, by decide⟩) rfl rfl (Nat.le_of_ble_eq_true rfl) ⟨Nat.zero_le _, Nat.zero_le _⟩ dX7_sentence_316 ?_
                      refine z_if_ne h 324 dX7_sentence_319 (by decide) (fun c319 => ?_) (fun c319 => ?_)
                      · rw [if_pos (of_decide_eq_true (b2i_n0.mp c319))] at hsp
                        unfold mTim at hsp
                        refine z_aload_n h dX7_sentence_324 rfl rfl ?_
                        refine z_callVNP h (cM_next l hS) (by assumption) rfl gm_RX7_83 rfl ⟨rfl, rfl⟩ 0 (by decide +kernel) ⟨by decide, by decide⟩ rfl rfl (Nat.le_of_ble_eq_true rfl) ⟨Nat.zero_le _, Nat.zero_le _⟩ dX7_sentence_325 (fun ν hν => ?_)
                        obtain ⟨I2, rfl, hS⟩ := hν
                        refine z_aload_n h dX7_sentence_328 rfl rfl ?_
                        refine z_iconst (v := 3) h dX7_sentence_329 (by decide) ?_
                        have hS := hS.put (j := 15) (w := 3) (by decide) (by decide) (by decide)
                        refine z_putI h (by assumption) rfl kw7 15 (by decide) rfl rfl (rfl) (rfl) kf_RX7_144 dX7_sentence_330 ?_
                        refine z_aload_n h dX7_sentence_333 rfl rfl ?_
                        refine z_ldcS h 43 (by decide) rfl rfl dX7_sentence_334 ?_
                        refine z_callVIP h (cM_takes l hS (i := 43) (by decide)) (by assumption) rfl gm_RX7_141 rfl ⟨rfl, rfl⟩ 1 (by decide +kernel) ⟨by decide, by decide⟩ rfl rfl (Nat.le_of_ble_eq_true rfl) ⟨Nat.zero_le _, Nat.zero_le _⟩ dX7_sentence_336 (fun r ν hν => ?_)
                        obtain ⟨rfl, I1, rfl, hS⟩ := hν
                        rw [show zsb 43 = w_as by decide] at hS ⊢
                        refine z_if_eq h 388 dX7_sentence_339 (by decide) (fun c339 => ?_) (fun c339 => ?_)
                        · have m339 := b2i_0.mp c339
                          rw [if_neg (by rw [m339]; decide)] at hS
                          rw [tk_f m339] at hsp
                          refine z_iconst (v := 0) h dX7_sentence_388 (by decide) ?_
                          exact ret (r := 0) (by rw [hsp]; exact ⟨_, _, rfl, hS, fun j hj => by simp [upd, show j ≠ 15 by omega, show j ≠ 16 by omega, show j ≠ 17 by omega, show j ≠ 18 by omega, show j ≠ 19 by omega, hvj j hj], rfl⟩) dX7_sentence_389 rfl
                        · have m339 := b2i_n0.mp c339
                          rw [if_pos m339] at hS
                          rw [tk_t m339] at hsp
                          refine z_aload_n h dX7_sentence_342 rfl rfl ?_
                          refine z_ldcS h 44 (by decide) rfl rfl dX7_sentence_343 ?_
                          refine z_callVIP h (cM_takes l hS (i := 44) (by decide)) (by assumption) rfl gm_RX7_141 rfl ⟨rfl, rfl⟩ 1 (by decide +kernel) ⟨by decide, by decide⟩ rfl rfl (Nat.le_of_ble_eq_true rfl) ⟨Nat.zero_le _, Nat.zero_le _⟩ dX7_sentence_345 (fun r ν hν => ?_)
                          obtain ⟨rfl, I1, rfl, hS⟩ := hν
                          rw [show zsb 44 = w_many by decide] at hS ⊢
                          refine z_if_eq h 388 dX7_sentence_348 (by decide) (fun c348 => ?_) (fun c348 => ?_)
                          · have m348 := b2i_0.mp c348
                            rw [if_neg (by rw [m348]; decide)] at hS
                            rw [tk_f m348] at hsp
                            refine z_iconst (v := 0) h dX7_sentence_388 (by decide) ?_
                            exact ret (r := 0) (by rw [hsp]; exact ⟨_, _, rfl, hS, fun j hj => by simp [upd, show j ≠ 15 by omega, show j ≠ 16 by omega, show j ≠ 17 by omega, show j ≠ 18 by omega, show j ≠ 19 by omega, hvj j hj], rfl⟩) dX7_sentence_389 rfl
                          · have m348 := b2i_n0.mp c348
                            rw [if_pos m348] at hS
                            rw [tk_t m348] at hsp
                            refine z_aload_n h dX7_sentence_351 rfl rfl ?_
                            refine z_callVIP h (cM_takesUnit l hS) (by assumption) rfl gm_RX7_153 rfl ⟨rfl, rfl⟩ 0 (by decide +kernel) ⟨by decide, by decide⟩ rfl rfl (Nat.le_of_ble_eq_true rfl) ⟨Nat.zero_le _, Nat.zero_le _⟩ dX7_sentence_352 (fun r ν hν => ?_)
                            obtain ⟨rfl, I1, rfl, hS⟩ := hν
                            refine z_if_eq h 388 dX7_sentence_355 (by decide) (fun c355 => ?_) (fun c355 => ?_)
                            · have m355 := of_decide_eq_false (b2i_0.mp c355)
                              rw [if_neg m355] at hS
                              rw [tkU_f m355] at hsp
                              refine z_iconst (v := 0) h dX7_sentence_388 (by decide) ?_
                              exact ret (r := 0) (by rw [hsp]; exact ⟨_, _, rfl, hS, fun j hj => by simp [upd, show j ≠ 15 by omega, show j ≠ 16 by omega, show j ≠ 17 by omega, show j ≠ 18 by omega, show j ≠ 19 by omega, hvj j hj], rfl⟩) dX7_sentence_389 rfl
                            · have m355 := of_decide_eq_true (b2i_n0.mp c355)
                              rw [if_pos m355] at hS
                              rw [tkU_t m355] at hsp
                              refine z_aload_n h dX7_sentence_358 rfl rfl ?_
                              refine z_ldcS h 43 (by decide) rfl rfl dX7_sentence_359 ?_
                              refine z_callVIP h (cM_takes l hS (i := 43) (by decide)) (by assumption) rfl gm_RX7_141 rfl ⟨rfl, rfl⟩ 1 (by decide +kernel) ⟨by decide, by decide⟩ rfl rfl (Nat.le_of_ble_eq_true rfl) ⟨Nat.zero_le _, Nat.zero_le _⟩ dX7_sentence_361 (fun r ν hν => ?_)
                              obtain ⟨rfl, I1, rfl, hS⟩ := hν
                              rw [show zsb 43 = w_as by decide] at hS ⊢
                              refine z_if_eq h 388 dX7_sentence_364 (by decide) (fun c364 => ?_) (fun c364 => ?_)
                              · have m364 := b2i_0.mp c364
                                rw [if_neg (by rw [m364]; decide)] at hS
                                rw [tk_f m364] at hsp
                                refine z_iconst (v := 0) h dX7_sentence_388 (by decide) ?_
                                exact ret (r := 0) (by rw [hsp]; exact ⟨_, _, rfl, hS, fun j hj => by simp [upd, show j ≠ 15 by omega, show j ≠ 16 by omega, show j ≠ 17 by omega, show j ≠ 18 by omega, show j ≠ 19 by omega, hvj j hj], rfl⟩) dX7_sentence_389 rfl
                              · have m364 := b2i_n0.mp c364
                                rw [if_pos m364] at hS
                                rw [tk_t m364] at hsp
                                refine z_aload_n h dX7_sentence_367 rfl rfl ?_
                                refine z_iconst (v := 1) h dX7_sentence_368 (by decide) ?_
                                refine z_callVIP h (cM_secondF l hS (u := fi) (by simp [upd, e16])) (by assumption) rfl gm_RX7_135 rfl ⟨rfl, rfl⟩ 1 (by decide +kernel) ⟨by decide, by decide⟩ rfl rfl (Nat.le_of_ble_eq_true rfl) ⟨Nat.zero_le _, Nat.zero_le _⟩ dX7_sentence_369 (fun r ν hν => ?_)
                                obtain ⟨rfl, I1, rfl, hS⟩ := hν
                                refine z_if_eq h 388 dX7_sentence_372 (by decide) (fun c372 => ?_) (fun c372 => ?_)
                                · have m372 := of_decide_eq_false (b2i_0.mp c372)
                                  rw [if_neg m372, if_neg m372] at hS
                                  rw [tkN_f m372] at hsp
                                  refine z_iconst (v := 0) h dX7_sentence_388 (by decide) ?_
                                  exact ret (r := 0) (by rw [hsp]; exact ⟨_, _, rfl, hS, fun j hj => by simp [upd, show j ≠ 15 by omega, show j ≠ 16 by omega, show j ≠ 17 by omega, show j ≠ 18 by omega, show j ≠ 19 by omega, hvj j hj], rfl⟩) dX7_sentence_389 rfl
                                · have m372 := of_decide_eq_true (b2i_n0.mp c372)
                                  rw [if_pos m372, if_pos m372] at hS
                                  rw [tkN_t m372] at hsp
                                  refine z_aload_n h dX7_sentence_375 rfl rfl ?_
                                  refine z_ldcS h 33 (by decide) rfl rfl dX7_sentence_376 ?_
                                  refine z_callVIP h (cM_takes l hS (i := 33) (by decide)) (by assumption) rfl gm_RX7_141 rfl ⟨rfl, rfl⟩ 1 (by decide +kernel) ⟨by decide, by decide⟩ rfl rfl (Nat.le_of_ble_eq_true rfl) ⟨Nat.zero_le _, Nat.zero_le _⟩ dX7_sentence_378 (fun r ν hν => ?_)
                                  obtain ⟨rfl, I1, rfl, hS⟩ := hν
                                  rw [show zsb 33 = w_dot by decide] at hS ⊢
                                  refine z_if_eq h 388 dX7_sentence_381 (by decide) (fun c381 => ?_) (fun c381 => ?_)
                                  · have m381 := b2i_0.mp c381
                                    rw [if_neg (by rw [m381]; decide)] at hS
                                    rw [tk_f m381] at hsp
                                    refine z_iconst (v := 0) h dX7_sentence_388 (by decide) ?_
                                    exact ret (r := 0) (by rw [hsp]; exact ⟨_, _, rfl, hS, fun j hj => by simp [upd, show j ≠ 15 by omega, show j ≠ 16 by omega, show j ≠ 17 by omega, show j ≠ 18 by omega, show j ≠ 19 by omega, hvj j hj], rfl⟩) dX7_sentence_389 rfl
                                  · have m381 := b2i_n0.mp c381
                                    rw [if_pos m381] at hS
                                    rw [tk_t m381] at hsp
                                    refine z_iconst (v := 1) h dX7_sentence_384 (by decide) ?_
                                    refine z_goto h 389 dX7_sentence_385 (by decide) ?_
                                    exact ret (r := 1) (by rw [hsp]; exact ⟨_, _, rfl, hS, fun j hj => by simp [upd, show j ≠ 15 by omega, show j ≠ 16 by omega, show j ≠ 17 by omega, show j ≠ 18 by omega, show j ≠ 19 by omega, hvj j hj], rfl, by simp [upd], by simp [upd, e16], by simp [upd, e17], by simp [upd], by simp [upd]⟩) dX7_sentence_389 rfl
                      · rw [if_neg (of_decide_eq_false (b2i_0.mp c319))] at hsp
                        refine z_iconst (v := 0) h dX7_sentence_322 (by decide) ?_
                        exact ret (r := 0) (by rw [hsp]; exact ⟨_, _, rfl, hS, fun j hj => by simp [upd, show j ≠ 15 by omega, show j ≠ 16 by omega, show j ≠ 17 by omega, show j ≠ 18 by omega, show j ≠ 19 by omega, hvj j hj], rfl⟩) dX7_sentence_323 rfl
                  · have m := b2i_n0.mp c236
                    rw [if_pos m] at hsp
                    exact z_lk (C239 false _ _ _ _ hS m227 (by rw [if_neg (by decide)]; exact hsp) (by simp [upd]) (by simp [upd, e16]) (fun j hj => by simp [upd, show j ≠ 19 by omega, hvj j hj])) ⟨rfl, trivial⟩
              · have m216 := of_decide_eq_false (b2i_0.mp c216)
                rw [if_neg m216] at hS
                rw [tkD_n (nmW_no m216)] at hsp
                refine z_iconst (v := 0) h dX7_sentence_219 (by decide) ?_
                exact ret (r := 0) (by rw [hsp]; exact ⟨_, _, rfl, hS, fun j hj => by simp [upd, show j ≠ 15 by omega, show j ≠ 16 by omega, show j ≠ 17 by omega, show j ≠ 18 by omega, show j ≠ 19 by omega, hvj j hj], rfl⟩) dX7_sentence_220 rfl
          · have m := b2i_n0.mp c152
            rw [if_pos m] at hsp
            rw [m143]
            exact z_lk (P155 false _ _ _ hS (by rw [if_neg (by decide)]; exact hsp) e16 e17 hvj) ⟨rfl, rfl, trivial⟩
      · have m81 := b2i_n0.mp c81
        rw [if_pos m81] at hS
        rw [if_pos m81] at hsp
        refine z_aload_n h dX7_sentence_84 rfl rfl ?_
        refine z_iconst (v := 5) h dX7_sentence_85 (by decide) ?_
        have hS := hS.put (j := 15) (w := 5) (by decide) (by decide) (by decide)
        refine z_putI h (by assumption) rfl kw7 15 (by decide) rfl rfl (rfl) (rfl) kf_RX7_144 dX7_sentence_86 ?_
        refine z_aload_n h dX7_sentence_89 rfl rfl ?_
        refine z_callVIP h (cM_takesNumber l hS) (by assumption) rfl gm_RX7_149 rfl ⟨rfl, rfl⟩ 0 (by decide +kernel) ⟨by decide, by decide⟩ rfl rfl (Nat.le_of_ble_eq_true rfl) ⟨Nat.zero_le _, Nat.zero_le _⟩ dX7_sentence_90 (fun r ν hν => ?_)
        obtain ⟨rfl, I1, rfl, hS⟩ := hν
        refine z_if_eq h 133 dX7_sentence_93 (by decide) (fun c93 => ?_) (fun c93 => ?_)
        · have m93 := of_decide_eq_false (b2i_0.mp c93)
          rw [if_neg m93] at hS
          rw [tkD_n (nmW_no m93)] at hsp
          refine z_iconst (v := 0) h dX7_sentence_133 (by decide) ?_
          exact ret (r := 0) (by rw [hsp]; exact ⟨_, _, rfl, hS, fun j hj => by simp [upd, show j ≠ 15 by omega, show j ≠ 16 by omega, show j ≠ 17 by omega, show j ≠ 18 by omega, show j ≠ 19 by omega, hvj j hj], rfl⟩) dX7_sentence_134 rfl
        · have m93 := of_decide_eq_true (b2i_n0.mp c93)
          rw [if_pos m93] at hS
          obtain ⟨a, ha⟩ := nmW_yes m93
          rw [tkD_s ha] at hsp
          rw [ha] at hS
          refine z_aload_n h dX7_sentence_96 rfl rfl ?_
          refine z_callVIP h (cM_takesUnit l hS) (by assumption) rfl gm_RX7_153 rfl ⟨rfl, rfl⟩ 0 (by decide +kernel) ⟨by decide, by decide⟩ rfl rfl (Nat.le_of_ble_eq_true rfl) ⟨Nat.zero_le _, Nat.zero_le _⟩ dX7_sentence_97 (fun r ν hν => ?_)
          obtain ⟨rfl, I1, rfl, hS⟩ := hν
          refine z_if_eq h 133 dX7_sentence_100 (by decide) (fun c100 => ?_) (fun c100 => ?_)
          · have m100 := of_decide_eq_false (b2i_0.mp c100)
            rw [if_neg m100] at hS
            rw [tkU_f m100] at hsp
            refine z_iconst (v := 0) h dX7_sentence_133 (by decide) ?_
            exact ret (r := 0) (by rw [hsp]; exact ⟨_, _, rfl, hS, fun j hj => by simp [upd, show j ≠ 15 by omega, show j ≠ 16 by omega, show j ≠ 17 by omega, show j ≠ 18 by omega, show j ≠ 19 by omega, hvj j hj], rfl⟩) dX7_sentence_134 rfl
          · have m100 := of_decide_eq_true (b2i_n0.mp c100)
            rw [if_pos m100] at hS
            rw [tkU_t m100] at hsp
            refine z_aload_n h dX7_sentence_103 rfl rfl ?_
            refine z_ldcS h 35 (by decide) rfl rfl dX7_sentence_104 ?_
            refine z_callVIP h (cM_takes l hS (i := 35) (by decide)) (by assumption) rfl gm_RX7_141 rfl ⟨rfl, rfl⟩ 1 (by decide +kernel) ⟨by decide, by decide⟩ rfl rfl (Nat.le_of_ble_eq_true rfl) ⟨Nat.zero_le _, Nat.zero_le _⟩ dX7_sentence_106 (fun r ν hν => ?_)
            obtain ⟨rfl, I1, rfl, hS⟩ := hν
            rw [show zsb 35 = w_to by decide] at hS ⊢
            refine z_if_eq h 133 dX7_sentence_109 (by decide) (fun c109 => ?_) (fun c109 => ?_)
            · have m109 := b2i_0.mp c109
              rw [if_neg (by rw [m109]; decide)] at hS
              rw [tk_f m109] at hsp
              refine z_iconst (v := 0) h dX7_sentence_133 (by decide) ?_
              exact ret (r := 0) (by rw [hsp]; exact ⟨_, _, rfl, hS, fun j hj => by simp [upd, show j ≠ 15 by omega, show j ≠ 16 by omega, show j ≠ 17 by omega, show j ≠ 18 by omega, show j ≠ 19 by omega, hvj j hj], rfl⟩) dX7_sentence_134 rfl
            · have m109 := b2i_n0.mp c109
              rw [if_pos m109] at hS
              rw [tk_t m109] at hsp
              refine z_aload_n h dX7_sentence_112 rfl rfl ?_
              refine z_iconst (v := 1) h dX7_sentence_113 (by decide) ?_
              refine z_callVIP h (cM_secondF l hS (u := fi) (by simp [upd, e16])) (by assumption) rfl gm_RX7_135 rfl ⟨rfl, rfl⟩ 1 (by decide +kernel) ⟨by decide, by decide⟩ rfl rfl (Nat.le_of_ble_eq_true rfl) ⟨Nat.zero_le _, Nat.zero_le _⟩ dX7_sentence_114 (fun r ν hν => ?_)
              obtain ⟨rfl, I1, rfl, hS⟩ := hν
              refine z_if_eq h 133 dX7_sentence_117 (by decide) (fun c117 => ?_) (fun c117 => ?_)
              · have m117 := of_decide_eq_false (b2i_0.mp c117)
                rw [if_neg m117, if_neg m117] at hS
                rw [tkN_f m117] at hsp
                refine z_iconst (v := 0) h dX7_sentence_133 (by decide) ?_
                exact ret (r := 0) (by rw [hsp]; exact ⟨_, _, rfl, hS, fun j hj => by simp [upd, show j ≠ 15 by omega, show j ≠ 16 by omega, show j ≠ 17 by omega, show j ≠ 18 by omega, show j ≠ 19 by omega, hvj j hj], rfl⟩) dX7_sentence_134 rfl
              · have m117 := of_decide_eq_true (b2i_n0.mp c117)
                rw [if_pos m117, if_pos m117] at hS
                rw [tkN_t m117] at hsp
                refine z_aload_n h dX7_sentence_120 rfl rfl ?_
                refine z_ldcS h 33 (by decide) rfl rfl dX7_sentence_121 ?_
                refine z_callVIP h (cM_takes l hS (i := 33) (by decide)) (by assumption) rfl gm_RX7_141 rfl ⟨rfl, rfl⟩ 1 (by decide +kernel) ⟨by decide, by decide⟩ rfl rfl (Nat.le_of_ble_eq_true rfl) ⟨Nat.zero_le _, Nat.zero_le _⟩ dX7_sentence_123 (fun r ν hν => ?_)
                obtain ⟨rfl, I1, rfl, hS⟩ := hν
                rw [show zsb 33 = w_dot by decide] at hS ⊢
                refine z_if_eq h 133 dX7_sentence_126 (by decide) (fun c126 => ?_) (fun c126 => ?_)
                · have m126 := b2i_0.mp c126
                  rw [if_neg (by rw [m126]; decide)] at hS
                  rw [tk_f m126] at hsp
                  refine z_iconst (v := 0) h dX7_sentence_133 (by decide) ?_
                  exact ret (r := 0) (by rw [hsp]; exact ⟨_, _, rfl, hS, fun j hj => by simp [upd, show j ≠ 15 by omega, show j ≠ 16 by omega, show j ≠ 17 by omega, show j ≠ 18 by omega, show j ≠ 19 by omega, hvj j hj], rfl⟩) dX7_sentence_134 rfl
                · have m126 := b2i_n0.mp c126
                  rw [if_pos m126] at hS
                  rw [tk_t m126] at hsp
                  refine z_iconst (v := 1) h dX7_sentence_129 (by decide) ?_
                  refine z_goto h 134 dX7_sentence_130 (by decide) ?_
                  exact ret (r := 1) (by rw [hsp]; exact ⟨_, _, rfl, hS, fun j hj => by simp [upd, show j ≠ 15 by omega, show j ≠ 16 by omega, show j ≠ 17 by omega, show j ≠ 18 by omega, show j ≠ 19 by omega, hvj j hj], rfl, by simp [upd], by simp [upd, e16], by simp [upd, e17], by simp [upd], by simp [upd]⟩) dX7_sentence_134 rfl
    · have m21 := b2i_n0.mp c21
      rw [if_pos m21] at hS
      rw [if_pos m21] at hsp
      refine z_aload_n h dX7_sentence_24 rfl rfl ?_
      refine z_iconst (v := 4) h dX7_sentence_25 (by decide) ?_
      have hS := hS.put (j := 15) (w := 4) (by decide) (by decide) (by decide)
      refine z_putI h (by assumption) rfl kw7 15 (by decide) rfl rfl (rfl) (rfl) kf_RX7_144 dX7_sentence_26 ?_
      refine z_aload_n h dX7_sentence_29 rfl rfl ?_
      refine z_iconst (v := 1) h dX7_sentence_30 (by decide) ?_
      refine z_callVIP h (cM_secondF l hS (u := fi) (by simp [upd, e16])) (by assumption) rfl gm_RX7_135 rfl ⟨rfl, rfl⟩ 1 (by decide +kernel) ⟨by decide, by decide⟩ rfl rfl (Nat.le_of_ble_eq_true rfl) ⟨Nat.zero_le _, Nat.zero_le _⟩ dX7_sentence_31 (fun r ν hν => ?_)
      obtain ⟨rfl, I1, rfl, hS⟩ := hν
      refine z_if_eq h 73 dX7_sentence_34 (by decide) (fun c34 => ?_) (fun c34 => ?_)
      · have m34 := of_decide_eq_false (b2i_0.mp c34)
        rw [if_neg m34, if_neg m34] at hS
        rw [tkN_f m34] at hsp
        refine z_iconst (v := 0) h dX7_sentence_73 (by decide) ?_
        exact ret (r := 0) (by rw [hsp]; exact ⟨_, _, rfl, hS, fun j hj => by simp [upd, show j ≠ 15 by omega, show j ≠ 16 by omega, show j ≠ 17 by omega, show j ≠ 18 by omega, show j ≠ 19 by omega, hvj j hj], rfl⟩) dX7_sentence_74 rfl
      · have m34 := of_decide_eq_true (b2i_n0.mp c34)
        rw [if_pos m34, if_pos m34] at hS
        rw [tkN_t m34] at hsp
        refine z_aload_n h dX7_sentence_37 rfl rfl ?_
        refine z_ldcS h 32 (by decide) rfl rfl dX7_sentence_38 ?_
        refine z_callVIP h (cM_takes l hS (i := 32) (by decide)) (by assumption) rfl gm_RX7_141 rfl ⟨rfl, rfl⟩ 1 (by decide +kernel) ⟨by decide, by decide⟩ rfl rfl (Nat.le_of_ble_eq_true rfl) ⟨Nat.zero_le _, Nat.zero_le _⟩ dX7_sentence_40 (fun r ν hν => ?_)
        obtain ⟨rfl, I1, rfl, hS⟩ := hν
        rw [show zsb 32 = w_have by decide] at hS ⊢
        refine z_if_eq h 73 dX7_sentence_43 (by decide) (fun c43 => ?_) (fun c43 => ?_)
        · have m43 := b2i_0.mp c43
          rw [if_neg (by rw [m43]; decide)] at hS
          rw [tk_f m43] at hsp
          refine z_iconst (v := 0) h dX7_sentence_73 (by decide) ?_
          exact ret (r := 0) (by rw [hsp]; exact ⟨_, _, rfl, hS, fun j hj => by simp [upd, show j ≠ 15 by omega, show j ≠ 16 by omega, show j ≠ 17 by omega, show j ≠ 18 by omega, show j ≠ 19 by omega, hvj j hj], rfl⟩) dX7_sentence_74 rfl
        · have m43 := b2i_n0.mp c43
          rw [if_pos m43] at hS
          rw [tk_t m43] at hsp
          refine z_aload_n h dX7_sentence_46 rfl rfl ?_
          refine z_callVIP h (cM_takesNumber l hS) (by assumption) rfl gm_RX7_149 rfl ⟨rfl, rfl⟩ 0 (by decide +kernel) ⟨by decide, by decide⟩ rfl rfl (Nat.le_of_ble_eq_true rfl) ⟨Nat.zero_le _, Nat.zero_le _⟩ dX7_sentence_47 (fun r ν hν => ?_)
          obtain ⟨rfl, I1, rfl, hS⟩ := hν
          refine z_if_eq h 73 dX7_sentence_50 (by decide) (fun c50 => ?_) (fun c50 => ?_)
          · have m50 := of_decide_eq_false (b2i_0.mp c50)
            rw [if_neg m50] at hS
            rw [tkD_n (nmW_no m50)] at hsp
            refine z_iconst (v := 0) h dX7_sentence_73 (by decide) ?_
            exact ret (r := 0) (by rw [hsp]; exact ⟨_, _, rfl, hS, fun j hj => by simp [upd, show j ≠ 15 by omega, show j ≠ 16 by omega, show j ≠ 17 by omega, show j ≠ 18 by omega, show j ≠ 19 by omega, hvj j hj], rfl⟩) dX7_sentence_74 rfl
          · have m50 := of_decide_eq_true (b2i_n0.mp c50)
            rw [if_pos m50] at hS
            obtain ⟨a, ha⟩ := nmW_yes m50
            rw [tkD_s ha] at hsp
            rw [ha] at hS
            refine z_aload_n h dX7_sentence_53 rfl rfl ?_
            refine z_callVIP h (cM_takesUnit l hS) (by assumption) rfl gm_RX7_153 rfl ⟨rfl, rfl⟩ 0 (by decide +kernel) ⟨by decide, by decide⟩ rfl rfl (Nat.le_of_ble_eq_true rfl) ⟨Nat.zero_le _, Nat.zero_le _⟩ dX7_sentence_54 (fun r ν hν => ?_)
            obtain ⟨rfl, I1, rfl, hS⟩ := hν
            refine z_if_eq h 73 dX7_sentence_57 (by decide) (fun c57 => ?_) (fun c57 => ?_)
            · have m57 := of_decide_eq_false (b2i_0.mp c57)
              rw [if_neg m57] at hS
              rw [tkU_f m57] at hsp
              refine z_iconst (v := 0) h dX7_sentence_73 (by decide) ?_
              exact ret (r := 0) (by rw [hsp]; exact ⟨_, _, rfl, hS, fun j hj => by simp [upd, show j ≠ 15 by omega, show j ≠ 16 by omega, show j ≠ 17 by omega, show j ≠ 18 by omega, show j ≠ 19 by omega, hvj j hj], rfl⟩) dX7_sentence_74 rfl
            · have m57 := of_decide_eq_true (b2i_n0.mp c57)
              rw [if_pos m57] at hS
              rw [tkU_t m57] at hsp
              refine z_aload_n h dX7_sentence_60 rfl rfl ?_
              refine z_ldcS h 33 (by decide) rfl rfl dX7_sentence_61 ?_
              refine z_callVIP h (cM_takes l hS (i := 33) (by decide)) (by assumption) rfl gm_RX7_141 rfl ⟨rfl, rfl⟩ 1 (by decide +kernel) ⟨by decide, by decide⟩ rfl rfl (Nat.le_of_ble_eq_true rfl) ⟨Nat.zero_le _, Nat.zero_le _⟩ dX7_sentence_63 (fun r ν hν => ?_)
              obtain ⟨rfl, I1, rfl, hS⟩ := hν
              rw [show zsb 33 = w_dot by decide] at hS ⊢
              refine z_if_eq h 73 dX7_sentence_66 (by decide) (fun c66 => ?_) (fun c66 => ?_)
              · have m66 := b2i_0.mp c66
                rw [if_neg (by rw [m66]; decide)] at hS
                rw [tk_f m66] at hsp
                refine z_iconst (v := 0) h dX7_sentence_73 (by decide) ?_
                exact ret (r := 0) (by rw [hsp]; exact ⟨_, _, rfl, hS, fun j hj => by simp [upd, show j ≠ 15 by omega, show j ≠ 16 by omega, show j ≠ 17 by omega, show j ≠ 18 by omega, show j ≠ 19 by omega, hvj j hj], rfl⟩) dX7_sentence_74 rfl
              · have m66 := b2i_n0.mp c66
                rw [if_pos m66] at hS
                rw [tk_t m66] at hsp
                refine z_iconst (v := 1) h dX7_sentence_69 (by decide) ?_
                refine z_goto h 74 dX7_sentence_70 (by decide) ?_
                exact ret (r := 1) (by rw [hsp]; exact ⟨_, _, rfl, hS, fun j hj => by simp [upd, show j ≠ 15 by omega, show j ≠ 16 by omega, show j ≠ 17 by omega, show j ≠ 18 by omega, show j ≠ 19 by omega, hvj j hj], rfl, by simp [upd], by simp [upd, e16], by simp [upd, e17], by simp [upd], by simp [upd]⟩) dX7_sentence_74 rfl
  refine z_aload_n h dX7_sentence_0 rfl rfl ?_
  refine z_iconst (v := -1) h dX7_sentence_1 (by decide) ?_
  have hS := hS.put (j := 17) (w := -1) (by decide) (by decide) (by decide)
  refine z_putI h (by assumption) rfl kw7 17 (by decide) rfl rfl (rfl) (rfl) kf_RX7_120 dX7_sentence_2 ?_
  refine z_aload_n h dX7_sentence_5 rfl rfl ?_
  refine z_iconst (v := 0) h dX7_sentence_6 (by decide) ?_
  refine z_callVIP h (cM_first l hS) (by assumption) rfl gm_RX7_135 rfl ⟨rfl, rfl⟩ 1 (by decide +kernel) ⟨by decide, by decide⟩ rfl rfl (Nat.le_of_ble_eq_true rfl) ⟨Nat.zero_le _, Nat.zero_le _⟩ dX7_sentence_7 (fun r ν hν => ?_)
  obtain ⟨rfl, I1, rfl, hS⟩ := hν
  refine z_if_ne h 15 dX7_sentence_10 (by decide) (fun c10 => ?_) (fun c10 => ?_)
  · have m := of_decide_eq_true (b2i_n0.mp c10)
    rw [if_pos m, if_pos m] at hS
    rw [tkN_t ⟨m, m⟩] at hsp
    generalize nmF g q = fi at hS hsp
    generalize nx g n q = q1 at hS hsp
    exact V15 I1 fi q1 _ hS (by simp [upd]) (by simp [upd]) (fun j hj => by simp [upd, show j ≠ 16 by omega, show j ≠ 17 by omega]) hsp
  · have m := of_decide_eq_false (b2i_0.mp c10)
    rw [if_neg m, if_neg m] at hS
    rw [tkN_f (fun w => m w.1)] at hsp
    refine z_iconst (v := 0) h dX7_sentence_13 (by decide) ?_
    exact ret (r := 0) (by rw [hsp]; exact ⟨_, _, rfl, hS, fun j hj => by simp [upd, show j ≠ 17 by omega], rfl⟩) dX7_sentence_14 rfl
