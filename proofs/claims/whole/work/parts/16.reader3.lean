/-- what a sentence leaves -/
def senP (S : zS) (J : Nat → Nat → Int64) (R : Nat → Nat → Option Nat) (g : Nat → Int32) (I : Nat → Nat → Int32) (t b n st : Nat) (rw : Nat → Nat) (k : Nat) (q : zQ) (o : Option (Int32 × zR) × zQ) (r : Int32) (ν : zM) : Prop := ∃ I', ν = (I', J, R) ∧ TP S R I' t b n o.2.1 o.2.2 ∧ I' b = g ∧ fr [t, rw k, st] I I' ∧ match o.1 with
  | none => r = 0 ∧ fr [t, rw k] I I'
  | some v => r = 1 ∧ (I' (rw k) 0 = v.2.1 ∧ I' (rw k) 1 = v.1 ∧ I' (rw k) 2 = v.2.2.1 ∧ I' (rw k) 3 = v.2.2.2.1 ∧ I' (rw k) 4 = v.2.2.2.2 ∧ I' (rw k) 5 = I st 3 ∧ I' (rw k) 6 = nI q.1) ∧ I' st 2 = nI (k + 1) ∧ I' st 3 = (if v.2.1 ≤ 4 then I st 3 else I st 3 + 1) ∧ I' st 4 = (if v.2.1 ≤ 4 then I st 4 ||| (1 : Int32) <<< (nI k &&& 31) else I st 4) ∧ I' st 5 = I st 5

theorem rowQ_P {r : Int32} {ρ ρ' : Nat → Int32} {g : Nat → Int32} {n : Nat} {so : Int32} {q : zQ} (h : rowQ r (sPl g n so q).1 ρ ρ') (h2 : ρ 2 = -1) : rowP r (sPl g n so q).1 ρ ρ' := by
  obtain ⟨h1, h3⟩ := h
  refine ⟨⟨h1.1, h1.2.2.1, h1.2.2.2⟩, ?_⟩
  have e : sPl g n so q = tkD g n q (fun a q => tkU g n q fun u q => (some (so, -1, u, a), q)) := rfl
  rcases hn : nmW g q.1 q.2 with _ | a
  · rw [tkD_n hn] at e
    rw [e] at h3 ⊢
    exact h3
  · rw [tkD_s hn] at e
    by_cases m : unF g (nx g n q) ≠ -1
    · rw [tkU_t m] at e
      rw [e] at h3 ⊢
      obtain ⟨a1, a2, a3, a4⟩ := h3
      exact ⟨a1, a2, h1.2.1.trans h2, a3, a4⟩
    · rw [tkU_f m] at e
      rw [e] at h3 ⊢
      exact h3

set_option maxHeartbeats 4000000 in
set_option maxRecDepth 100000 in
theorem c_X2_sentence (l : Launch) {E : zE} {S : zS} {I : Nat → Nat → Int32} {J : Nat → Nat → Int64} {R : Nat → Nat → Option Nat} {g : Nat → Int32} {rd t b n st pa ak k : Nat} {rw : Nat → Nat} {q : zQ} {ρ : Nat → Int32} (hF : RF S R rd t b st pa ak rw k) (hS : RS S R g I I t b n st rw k q ρ) : zIP l yX2_readSentence wsX2_readSentence rmX2_readSentence E S [.ref rd, .ref st] (I, J, R) (senP S J R g I t b n st rw k q (sSen g n q)) := by
  refine z_metIP (cc := cX2_readSentence) (maxL := 5) (ty := .boolean) (by decide) rfl (Nat.le_of_ble_eq_true rfl) (fun X h ret => ?_)
  show zV X E S 0 0 (I, J, R) 0 _ []
  obtain ⟨f1, f2, f3, f4, f5, f6⟩ := id hF
  have f7 := f5.1
  obtain ⟨n1, n2, n3, n4, n5, n6⟩ := hF.n1
  have h5 := hS.1.2.2.2.2.1
  have J205 : ∀ (fi : Int32) (q1 : zQ) (ρ0 ρ1 : Nat → Int32) (I1 : Nat → Nat → Int32) (r : Int32) (v : Option zR × zQ), ρ0 1 = fi → ρ0 5 = I st 3 → ρ0 6 = nI q.1 → sVrb g n fi q1 = v → RS S R g I I1 t b n st rw k v.2 ρ1 → rowP r v.1 ρ0 ρ1 → sSen g n q = (match sVrb g n fi q1 with
      | (some v, q) => tk g n w_dot q fun q => (some (fi, v), q)
      | (none, q) => (none, q)) → zV X E S 0 0 (I1, J, R) 205 [(0, .ref rd), (1, .ref st), (2, .int (nI q.1)), (3, .int fi), (4, .int r)] [] := by
    intro fi q1 ρ0 ρ1 I1 r v e1 e5 e6 hv hS hrow hsp
    rw [hv] at hsp
    obtain ⟨v, p⟩ := v
    rcases v with _ | v
    · obtain ⟨hr, hr0⟩ := hrow
      have hr0 : r = 0 := hr0
      subst hr0
      have hsp : sSen g n q = (none, p) := hsp
      refine z_iload h dX2_readSentence_205 rfl ?_
      refine z_if_eq h 222 dX2_readSentence_207 (by decide) (fun _ => ?_) (fun c => absurd rfl c)
      refine z_iconst (v := 0) h dX2_readSentence_222 (by decide) ?_
      refine ret (r := 0) ?_ dX2_readSentence_223 rfl
      rw [hsp]
      exact ⟨I1, rfl, hS.1, hS.2.1, fr_mono hS.2.2.2.2 (by simp), rfl, hS.2.2.2.2⟩
    · obtain ⟨hr, hr1, w0, w2, w3, w4⟩ := hrow
      subst hr1
      have hsp : sSen g n q = (tk g n w_dot p fun q => (some (fi, v), q)) := hsp
      refine z_iload h dX2_readSentence_205 rfl ?_
      refine z_if_eq h 222 dX2_readSentence_207 (by decide) (fun c => absurd c (by decide)) (fun _ => ?_)
      refine z_aload_n h dX2_readSentence_210 rfl rfl ?_
      refine z_getR h (by assumption) rfl kw2 0 (by decide) rfl (by assumption) kf_RX2_9 dX2_readSentence_211 ?_
      refine z_ldcS h 8 (by decide) rfl rfl dX2_readSentence_214 ?_
      refine z_callVIP h (cR_take l hF hS (i := 8) (by decide)) (by assumption) rfl gm_RX2_27 rfl ⟨rfl, rfl⟩ 1 (by decide +kernel) ⟨by decide, by decide⟩ rfl rfl (Nat.le_of_ble_eq_true rfl) ⟨Nat.zero_le _, Nat.zero_le _⟩ dX2_readSentence_216 (fun r ν hν => ?_)
      obtain ⟨rfl, I1, rfl, hS⟩ := hν
      refine z_if_ne h 224 dX2_readSentence_219 (by decide) (fun c219 => ?_) (fun c219 => ?_)
      · have m := b2i_n0.mp c219
        rw [if_pos m] at hS
        rw [tk_t m] at hsp
        refine z_aload_n h dX2_readSentence_224 rfl rfl ?_
        refine z_callVN h (c_X3_close l f5 hS.2.2.1 f6) (by assumption) rfl gm_RX2_80 rfl ⟨rfl, rfl⟩ 0 (by decide +kernel) ⟨by decide, by decide⟩ rfl rfl (Nat.le_of_ble_eq_true rfl) ⟨Nat.zero_le _, Nat.zero_le _⟩ dX2_readSentence_225 ?_
        refine z_iconst (v := 1) h dX2_readSentence_228 (by decide) ?_
        refine ret (r := 1) ?_ dX2_readSentence_229 rfl
        rw [hsp]
        obtain ⟨⟨t1, t2, t3, t4, t5, t6, t7, t8, t9⟩, hb, h2, hw, hf⟩ := hS
        have est : ∀ i, I1 st i = I st i := fun i => congrFun (hf st (by simp [n3, Ne.symm n6])) i
        have er : ∀ i, I1 (rw k) i = ρ1 i := fun i => congrFun hw i
        have eo : ∀ a, a ≠ st → (zu (if I1 (rw k) 0 ≤ 4 then zu I1 st 4 (I1 st 4 ||| (1 : Int32) <<< (nI k &&& 31)) else zu I1 st 3 (I1 st 3 + 1)) st 2 (nI (k + 1))) a = I1 a := fun a ha => by
          rw [zu_o ha]
          split
          · rw [zu_o ha]
          · rw [zu_o ha]
        refine ⟨_, rfl, ⟨t1, t2, t3, ?_, ?_, ?_, t7, t8, t9⟩, ?_, ?_, rfl, ⟨?_, ?_, ?_, ?_, ?_, ?_, ?_⟩, zu_s, ?_, ?_, ?_⟩
        · rw [eo t (Ne.symm n3)]; exact t4
        · rw [eo t (Ne.symm n3)]; exact t5
        · rw [eo t (Ne.symm n3)]; exact t6
        · rw [eo b (Ne.symm n5)]; exact hb
        · intro a ha
          have ha : a ≠ t ∧ a ≠ rw k ∧ a ≠ st := by simpa using ha
          rw [eo a ha.2.2]
          exact hf a (by simp [ha.1, ha.2.1])
        · rw [eo (rw k) n6, er]; exact w0
        · rw [eo (rw k) n6, er, hr.1]; exact e1
        · rw [eo (rw k) n6, er]; exact w2
        · rw [eo (rw k) n6, er]; exact w3
        · rw [eo (rw k) n6, er]; exact w4
        · rw [eo (rw k) n6, er, hr.2.1]; exact e5
        · rw [eo (rw k) n6, er, hr.2.2]; exact e6
        · rw [zu_k (by decide), er, w0]
          by_cases c : v.1 ≤ 4
          · rw [if_pos c, if_pos c, zu_k (by decide)]; exact est 3
          · rw [if_neg c, if_neg c, zu_s, est]
        · rw [zu_k (by decide), er, w0]
          by_cases c : v.1 ≤ 4
          · rw [if_pos c, if_pos c, zu_s, est]
          · rw [if_neg c, if_neg c, zu_k (by decide)]; exact est 4
        · rw [zu_k (by decide), er, w0]
          by_cases c : v.1 ≤ 4
          · rw [if_pos c, zu_k (by decide)]; exact est 5
          · rw [if_neg c, zu_k (by decide)]; exact est 5
      · have m := b2i_0.mp c219
        rw [if_neg (by rw [m]; decide)] at hS
        rw [tk_f m] at hsp
        refine z_iconst (v := 0) h dX2_readSentence_222 (by decide) ?_
        refine ret (r := 0) ?_ dX2_readSentence_223 rfl
        rw [hsp]
        exact ⟨I1, rfl, hS.1, hS.2.1, fr_mono hS.2.2.2.2 (by simp), rfl, hS.2.2.2.2⟩
  have hsp : sSen g n q = tkN g n (-1) q (fun fi q => match sVrb g n fi q with
    | (some v, q) => tk g n w_dot q fun q => (some (fi, v), q)
    | (none, q) => (none, q)) := rfl
  have V33 : ∀ (fi : Int32) (q1 : zQ) (I2 : Nat → Nat → Int32), RS S R g I I2 t b n st rw k q1 (I2 (rw k)) → I2 (rw k) 1 = fi → I2 (rw k) 2 = -1 → I2 (rw k) 5 = I st 3 → I2 (rw k) 6 = nI q.1 → sSen g n q = (match sVrb g n fi q1 with
      | (some v, q) => tk g n w_dot q fun q => (some (fi, v), q)
      | (none, q) => (none, q)) → zV X E S 0 0 (I2, J, R) 33 [(0, .ref rd), (1, .ref st), (2, .int (nI q.1)), (3, .int fi), (4, .int 0)] [] := by
    intro fi q1 I2 hS r1 r2 r5 r6 hsen
    generalize I2 (rw k) = ρ0 at hS r1 r2 r5 r6
    have JJ := fun (ρ1 : Nat → Int32) (I1 : Nat → Nat → Int32) (r : Int32) (v : Option zR × zQ) a b c => J205 fi q1 ρ0 ρ1 I1 r v r1 r5 r6 a b c hsen
    have hsp : sVrb g n fi q1 = (if mW g q1.1 q1.2 w_has = true then sHas g n fi (nx g n q1) else if mW g q1.1 q1.2 w_and = true then (tkN g n fi (nx g n q1) fun s q => tk g n w_have q fun q => tkD g n q fun a q => tkU g n q fun u q => (some (4, s, u, a), q)) else if mW g q1.1 q1.2 w_gives = true then (tkD g n (nx g n q1) fun a q => tkU g n q fun u q => tk g n w_to q fun q => tkN g n fi q fun s q => (some (5, s, u, a), q)) else if mW g q1.1 q1.2 w_buys = true then sPl g n 6 (nx g n q1) else if mW g q1.1 q1.2 w_eats = true then sPl g n 7 (nx g n q1) else (none, q1)) := rfl
    refine z_aload_n h dX2_readSentence_33 rfl rfl ?_
    refine z_getR h (by assumption) rfl kw2 0 (by decide) rfl (by assumption) kf_RX2_9 dX2_readSentence_34 ?_
    refine z_ldcS h 1 (by decide) rfl rfl dX2_readSentence_37 ?_
    refine z_callVIP h (cR_take l hF hS (i := 1) (by decide)) (by assumption) rfl gm_RX2_27 rfl ⟨rfl, rfl⟩ 1 (by decide +kernel) ⟨by decide, by decide⟩ rfl rfl (Nat.le_of_ble_eq_true rfl) ⟨Nat.zero_le _, Nat.zero_le _⟩ dX2_readSentence_39 (fun r ν hν => ?_)
    obtain ⟨rfl, I1, rfl, hS⟩ := hν
    refine z_if_eq h 56 dX2_readSentence_42 (by decide) (fun c42 => ?_) (fun c42 => ?_)
    · have m42 := b2i_0.mp c42
      rw [if_neg (by rw [m42]; decide)] at hS
      rw [if_neg (by rw [m42]; decide)] at hsp
      refine z_aload_n h dX2_readSentence_56 rfl rfl ?_
      refine z_getR h (by assumption) rfl kw2 0 (by decide) rfl (by assumption) kf_RX2_9 dX2_readSentence_57 ?_
      refine z_ldcS h 2 (by decide) rfl rfl dX2_readSentence_60 ?_
      refine z_callVIP h (cR_take l hF hS (i := 2) (by decide)) (by assumption) rfl gm_RX2_27 rfl ⟨rfl, rfl⟩ 1 (by decide +kernel) ⟨by decide, by decide⟩ rfl rfl (Nat.le_of_ble_eq_true rfl) ⟨Nat.zero_le _, Nat.zero_le _⟩ dX2_readSentence_62 (fun r ν hν => ?_)
      obtain ⟨rfl, I1, rfl, hS⟩ := hν
      refine z_if_eq h 108 dX2_readSentence_65 (by decide) (fun c65 => ?_) (fun c65 => ?_)
      · have m65 := b2i_0.mp c65
        rw [if_neg (by rw [m65]; decide)] at hS
        rw [if_neg (by rw [m65]; decide)] at hsp
        refine z_aload_n h dX2_readSentence_108 rfl rfl ?_
        refine z_getR h (by assumption) rfl kw2 0 (by decide) rfl (by assumption) kf_RX2_9 dX2_readSentence_109 ?_
        refine z_ldcS h 4 (by decide) rfl rfl dX2_readSentence_112 ?_
        refine z_callVIP h (cR_take l hF hS (i := 4) (by decide)) (by assumption) rfl gm_RX2_27 rfl ⟨rfl, rfl⟩ 1 (by decide +kernel) ⟨by decide, by decide⟩ rfl rfl (Nat.le_of_ble_eq_true rfl) ⟨Nat.zero_le _, Nat.zero_le _⟩ dX2_readSentence_114 (fun r ν hν => ?_)
        obtain ⟨rfl, I1, rfl, hS⟩ := hν
        refine z_if_eq h 160 dX2_readSentence_117 (by decide) (fun c117 => ?_) (fun c117 => ?_)
        · have m117 := b2i_0.mp c117
          rw [if_neg (by rw [m117]; decide)] at hS
          rw [if_neg (by rw [m117]; decide)] at hsp
          refine z_aload_n h dX2_readSentence_160 rfl rfl ?_
          refine z_getR h (by assumption) rfl kw2 0 (by decide) rfl (by assumption) kf_RX2_9 dX2_readSentence_161 ?_
          refine z_ldcS h 6 (by decide) rfl rfl dX2_readSentence_164 ?_
          refine z_callVIP h (cR_take l hF hS (i := 6) (by decide)) (by assumption) rfl gm_RX2_27 rfl ⟨rfl, rfl⟩ 1 (by decide +kernel) ⟨by decide, by decide⟩ rfl rfl (Nat.le_of_ble_eq_true rfl) ⟨Nat.zero_le _, Nat.zero_le _⟩ dX2_readSentence_166 (fun r ν hν => ?_)
          obtain ⟨rfl, I1, rfl, hS⟩ := hν
          refine z_if_eq h 184 dX2_readSentence_169 (by decide) (fun c169 => ?_) (fun c169 => ?_)
          · have m169 := b2i_0.mp c169
            rw [if_neg (by rw [m169]; decide)] at hS
            rw [if_neg (by rw [m169]; decide)] at hsp
            refine z_aload_n h dX2_readSentence_184 rfl rfl ?_
            refine z_getR h (by assumption) rfl kw2 0 (by decide) rfl (by assumption) kf_RX2_9 dX2_readSentence_185 ?_
            refine z_ldcS h 7 (by decide) rfl rfl dX2_readSentence_188 ?_
            refine z_callVIP h (cR_take l hF hS (i := 7) (by decide)) (by assumption) rfl gm_RX2_27 rfl ⟨rfl, rfl⟩ 1 (by decide +kernel) ⟨by decide, by decide⟩ rfl rfl (Nat.le_of_ble_eq_true rfl) ⟨Nat.zero_le _, Nat.zero_le _⟩ dX2_readSentence_190 (fun r ν hν => ?_)
            obtain ⟨rfl, I1, rfl, hS⟩ := hν
            refine z_if_eq h 205 dX2_readSentence_193 (by decide) (fun c193 => ?_) (fun c193 => ?_)
            · have m193 := b2i_0.mp c193
              rw [if_neg (by rw [m193]; decide)] at hS
              rw [if_neg (by rw [m193]; decide)] at hsp
              exact z_lk (JJ _ _ _ _ hsp hS ⟨⟨rfl, rfl, rfl⟩, rfl⟩) ⟨rfl, rfl, rfl, rfl, rfl, trivial⟩
            · have m193 := b2i_n0.mp c193
              rw [if_pos m193] at hS
              rw [if_pos m193] at hsp
              refine z_aload_n h dX2_readSentence_196 rfl rfl ?_
              refine z_aload_n h dX2_readSentence_197 rfl rfl ?_
              refine z_bipush (v := 7) h dX2_readSentence_198 (by decide) ?_
              refine z_callVIP h (c_X2_readPlain l hF hS) (by assumption) rfl gm_RX2_67 rfl ⟨rfl, rfl⟩ 2 (by decide +kernel) ⟨by decide, by decide⟩ rfl rfl (Nat.le_of_ble_eq_true rfl) ⟨Nat.zero_le _, Nat.zero_le _⟩ dX2_readSentence_200 (fun r ν hν => ?_)
              obtain ⟨I3, ρ3, rfl, hS, hrow⟩ := hν
              refine z_istore h dX2_readSentence_203 (by decide) ?_
              exact z_lk (JJ _ _ _ _ hsp hS (rowQ_P hrow r2)) ⟨rfl, rfl, rfl, rfl, rfl, trivial⟩
          · have m169 := b2i_n0.mp c169
            rw [if_pos m169] at hS
            rw [if_pos m169] at hsp
            refine z_aload_n h dX2_readSentence_172 rfl rfl ?_
            refine z_aload_n h dX2_readSentence_173 rfl rfl ?_
            refine z_bipush (v := 6) h dX2_readSentence_174 (by decide) ?_
            refine z_callVIP h (c_X2_readPlain l hF hS) (by assumption) rfl gm_RX2_67 rfl ⟨rfl, rfl⟩ 2 (by decide +kernel) ⟨by decide, by decide⟩ rfl rfl (Nat.le_of_ble_eq_true rfl) ⟨Nat.zero_le _, Nat.zero_le _⟩ dX2_readSentence_176 (fun r ν hν => ?_)
            obtain ⟨I3, ρ3, rfl, hS, hrow⟩ := hν
            refine z_istore h dX2_readSentence_179 (by decide) ?_
            refine z_goto h 205 dX2_readSentence_181 (by decide) ?_
            exact z_lk (JJ _ _ _ _ hsp hS (rowQ_P hrow r2)) ⟨rfl, rfl, rfl, rfl, rfl, trivial⟩
        · have m117 := b2i_n0.mp c117
          rw [if_pos m117] at hS
          rw [if_pos m117] at hsp
          refine z_aload_n h dX2_readSentence_120 rfl rfl ?_
          refine z_aload_n h dX2_readSentence_121 rfl rfl ?_
          refine z_iconst (v := 5) h dX2_readSentence_122 (by decide) ?_
          refine z_callVIP h (c_X2_readPlain l hF hS) (by assumption) rfl gm_RX2_67 rfl ⟨rfl, rfl⟩ 2 (by decide +kernel) ⟨by decide, by decide⟩ rfl rfl (Nat.le_of_ble_eq_true rfl) ⟨Nat.zero_le _, Nat.zero_le _⟩ dX2_readSentence_123 (fun r ν hν => ?_)
          obtain ⟨I3, ρ3, rfl, hS, hrow⟩ := hν
          unfold sPl at hS hrow
          rcases hnum : nmW g (nx g n q1).1 (nx g n q1).2 with _ | a
          · rw [tkD_n hnum] at hS hrow hsp
            have hr0 : r = 0 := hrow.2
            subst hr0
            refine z_if_eq h 154 dX2_readSentence_126 (by decide) (fun _ => ?_) (fun c => absurd rfl c)
            refine z_iconst (v := 0) h dX2_readSentence_154 (by decide) ?_
            refine z_istore h dX2_readSentence_155 (by decide) ?_
            refine z_goto h 205 dX2_readSentence_157 (by decide) ?_
            exact z_lk (JJ _ _ _ _ hsp hS ⟨⟨hrow.1.1, hrow.1.2.2.1, hrow.1.2.2.2⟩, rfl⟩) ⟨rfl, rfl, rfl, rfl, rfl, trivial⟩
          rw [tkD_s hnum] at hS hrow hsp
          by_cases mu : unF g (nx g n (nx g n q1)) ≠ -1
          · rw [tkU_t mu] at hS hrow hsp
            obtain ⟨hr, hr1, w0, w3, w4⟩ := hrow
            subst hr1
            refine z_if_eq h 154 dX2_readSentence_126 (by decide) (fun c => absurd c (by decide)) (fun _ => ?_)
            refine z_aload_n h dX2_readSentence_129 rfl rfl ?_
            refine z_getR h (by assumption) rfl kw2 0 (by decide) rfl (by assumption) kf_RX2_9 dX2_readSentence_130 ?_
            refine z_ldcS h 5 (by decide) rfl rfl dX2_readSentence_133 ?_
            refine z_callVIP h (cR_take l hF hS (i := 5) (by decide)) (by assumption) rfl gm_RX2_27 rfl ⟨rfl, rfl⟩ 1 (by decide +kernel) ⟨by decide, by decide⟩ rfl rfl (Nat.le_of_ble_eq_true rfl) ⟨Nat.zero_le _, Nat.zero_le _⟩ dX2_readSentence_135 (fun r ν hν => ?_)
            obtain ⟨rfl, I4, rfl, hS⟩ := hν
            refine z_if_eq h 154 dX2_readSentence_138 (by decide) (fun c138 => ?_) (fun c138 => ?_)
            · have m138 := b2i_0.mp c138
              rw [if_neg (by rw [m138]; decide)] at hS
              rw [tk_f m138] at hsp
              refine z_iconst (v := 0) h dX2_readSentence_154 (by decide) ?_
              refine z_istore h dX2_readSentence_155 (by decide) ?_
              refine z_goto h 205 dX2_readSentence_157 (by decide) ?_
              exact z_lk (JJ _ _ _ _ hsp hS ⟨⟨hr.1, hr.2.2.1, hr.2.2.2⟩, rfl⟩) ⟨rfl, rfl, rfl, rfl, rfl, trivial⟩
            · have m138 := b2i_n0.mp c138
              rw [if_pos m138] at hS
              rw [tk_t m138] at hsp
              refine z_aload_n h dX2_readSentence_141 rfl rfl ?_
              refine z_aload_n h dX2_readSentence_142 rfl rfl ?_
              refine z_iload_n h dX2_readSentence_143 rfl rfl ?_
              refine z_callVIP h (c_X2_readSecond l hF hS (u := fi)) (by assumption) rfl gm_RX2_62 rfl ⟨rfl, rfl⟩ 2 (by decide +kernel) ⟨by decide, by decide⟩ rfl rfl (Nat.le_of_ble_eq_true rfl) ⟨Nat.zero_le _, Nat.zero_le _⟩ dX2_readSentence_144 (fun r ν hν => ?_)
              obtain ⟨rfl, I5, rfl, hS⟩ := hν
              refine z_if_eq h 154 dX2_readSentence_147 (by decide) (fun c147 => ?_) (fun c147 => ?_)
              · have m147 := of_decide_eq_false (b2i_0.mp c147)
                rw [if_neg m147, if_neg m147] at hS
                rw [tkN_f m147] at hsp
                refine z_iconst (v := 0) h dX2_readSentence_154 (by decide) ?_
                refine z_istore h dX2_readSentence_155 (by decide) ?_
                refine z_goto h 205 dX2_readSentence_157 (by decide) ?_
                exact z_lk (JJ _ _ _ _ hsp hS ⟨⟨by simp [upd, hr.1], by simp [upd, hr.2.2.1], by simp [upd, hr.2.2.2]⟩, rfl⟩) ⟨rfl, rfl, rfl, rfl, rfl, trivial⟩
              · have m147 := of_decide_eq_true (b2i_n0.mp c147)
                rw [if_pos m147, if_pos m147] at hS
                rw [tkN_t m147] at hsp
                refine z_iconst (v := 1) h dX2_readSentence_150 (by decide) ?_
                refine z_goto h 155 dX2_readSentence_151 (by decide) ?_
                refine z_istore h dX2_readSentence_155 (by decide) ?_
                refine z_goto h 205 dX2_readSentence_157 (by decide) ?_
                exact z_lk (JJ _ _ _ _ hsp hS ⟨⟨by simp [upd, hr.1], by simp [upd, hr.2.2.1], by simp [upd, hr.2.2.2]⟩, rfl, by simp [upd, w0], by simp [upd], by simp [upd, w3], by simp [upd, w4]⟩) ⟨rfl, rfl, rfl, rfl, rfl, trivial⟩
          · rw [tkU_f mu] at hS hrow hsp
            have hr0 : r = 0 := hrow.2
            subst hr0
            refine z_if_eq h 154 dX2_readSentence_126 (by decide) (fun _ => ?_) (fun c => absurd rfl c)
            refine z_iconst (v := 0) h dX2_readSentence_154 (by decide) ?_
            refine z_istore h dX2_readSentence_155 (by decide) ?_
            refine z_goto h 205 dX2_readSentence_157 (by decide) ?_
            exact z_lk (JJ _ _ _ _ hsp hS ⟨⟨hrow.1.1, hrow.1.2.2.1, hrow.1.2.2.2⟩, rfl⟩) ⟨rfl, rfl, rfl, rfl, rfl, trivial⟩
      · have m65 := b2i_n0.mp c65
        rw [if_pos m65] at hS
        rw [if_pos m65] at hsp
        refine z_aload_n h dX2_readSentence_68 rfl rfl ?_
        refine z_aload_n h dX2_readSentence_69 rfl rfl ?_
        refine z_iload_n h dX2_readSentence_70 rfl rfl ?_
        refine z_callVIP h (c_X2_readSecond l hF hS (u := fi)) (by assumption) rfl gm_RX2_62 rfl ⟨rfl, rfl⟩ 2 (by decide +kernel) ⟨by decide, by decide⟩ rfl rfl (Nat.le_of_ble_eq_true rfl) ⟨Nat.zero_le _, Nat.zero_le _⟩ dX2_readSentence_71 (fun r ν hν => ?_)
        obtain ⟨rfl, I1, rfl, hS⟩ := hν
        refine z_if_eq h 102 dX2_readSentence_74 (by decide) (fun c74 => ?_) (fun c74 => ?_)
        · have m74 := of_decide_eq_false (b2i_0.mp c74)
          rw [if_neg m74, if_neg m74] at hS
          rw [tkN_f m74] at hsp
          refine z_iconst (v := 0) h dX2_readSentence_102 (by decide) ?_
          refine z_istore h dX2_readSentence_103 (by decide) ?_
          refine z_goto h 205 dX2_readSentence_105 (by decide) ?_
          exact z_lk (JJ _ _ _ _ hsp hS ⟨⟨by simp [upd], by simp [upd], by simp [upd]⟩, rfl⟩) ⟨rfl, rfl, rfl, rfl, rfl, trivial⟩
        · have m74 := of_decide_eq_true (b2i_n0.mp c74)
          rw [if_pos m74, if_pos m74] at hS
          rw [tkN_t m74] at hsp
          refine z_aload_n h dX2_readSentence_77 rfl rfl ?_
          refine z_getR h (by assumption) rfl kw2 0 (by decide) rfl (by assumption) kf_RX2_9 dX2_readSentence_78 ?_
          refine z_ldcS h 3 (by decide) rfl rfl dX2_readSentence_81 ?_
          refine z_callVIP h (cR_take l hF hS (i := 3) (by decide)) (by assumption) rfl gm_RX2_27 rfl ⟨rfl, rfl⟩ 1 (by decide +kernel) ⟨by decide, by decide⟩ rfl rfl (Nat.le_of_ble_eq_true rfl) ⟨Nat.zero_le _, Nat.zero_le _⟩ dX2_readSentence_83 (fun r ν hν => ?_)
          obtain ⟨rfl, I1, rfl, hS⟩ := hν
          refine z_if_eq h 102 dX2_readSentence_86 (by decide) (fun c86 => ?_) (fun c86 => ?_)
          · have m86 := b2i_0.mp c86
            rw [if_neg (by rw [m86]; decide)] at hS
            rw [tk_f m86] at hsp
            refine z_iconst (v := 0) h dX2_readSentence_102 (by decide) ?_
            refine z_istore h dX2_readSentence_103 (by decide) ?_
            refine z_goto h 205 dX2_readSentence_105 (by decide) ?_
            exact z_lk (JJ _ _ _ _ hsp hS ⟨⟨by simp [upd], by simp [upd], by simp [upd]⟩, rfl⟩) ⟨rfl, rfl, rfl, rfl, rfl, trivial⟩
          · have m86 := b2i_n0.mp c86
            rw [if_pos m86] at hS
            rw [tk_t m86] at hsp
            refine z_aload_n h dX2_readSentence_89 rfl rfl ?_
            refine z_aload_n h dX2_readSentence_90 rfl rfl ?_
            refine z_iconst (v := 4) h dX2_readSentence_91 (by decide) ?_
            refine z_callVIP h (c_X2_readPlain l hF hS) (by assumption) rfl gm_RX2_67 rfl ⟨rfl, rfl⟩ 2 (by decide +kernel) ⟨by decide, by decide⟩ rfl rfl (Nat.le_of_ble_eq_true rfl) ⟨Nat.zero_le _, Nat.zero_le _⟩ dX2_readSentence_92 (fun r ν hν => ?_)
            obtain ⟨I3, ρ3, rfl, hS, hrow⟩ := hν
            unfold sPl at hS hrow
            rcases hnum : nmW g (nx g n (nx g n (nx g n q1))).1 (nx g n (nx g n (nx g n q1))).2 with _ | a
            · rw [tkD_n hnum] at hS hrow hsp
              have hr0 : r = 0 := hrow.2
              subst hr0
              refine z_if_eq h 102 dX2_readSentence_95 (by decide) (fun _ => ?_) (fun c => absurd rfl c)
              refine z_iconst (v := 0) h dX2_readSentence_102 (by decide) ?_
              refine z_istore h dX2_readSentence_103 (by decide) ?_
              refine z_goto h 205 dX2_readSentence_105 (by decide) ?_
              exact z_lk (JJ _ _ _ _ hsp hS ⟨⟨by simp [upd, hrow.1.1], by simp [upd, hrow.1.2.2.1], by simp [upd, hrow.1.2.2.2]⟩, rfl⟩) ⟨rfl, rfl, rfl, rfl, rfl, trivial⟩
            · rw [tkD_s hnum] at hS hrow hsp
              by_cases mu : unF g (nx g n (nx g n (nx g n (nx g n q1)))) ≠ -1
              · rw [tkU_t mu] at hS hrow hsp
                obtain ⟨hr, hr1, w0, w3, w4⟩ := hrow
                subst hr1
                refine z_if_eq h 102 dX2_readSentence_95 (by decide) (fun c => absurd c (by decide)) (fun _ => ?_)
                refine z_iconst (v := 1) h dX2_readSentence_98 (by decide) ?_
                refine z_goto h 103 dX2_readSentence_99 (by decide) ?_
                refine z_istore h dX2_readSentence_103 (by decide) ?_
                refine z_goto h 205 dX2_readSentence_105 (by decide) ?_
                exact z_lk (JJ _ _ _ _ hsp hS ⟨⟨by simp [upd, hr.1], by simp [upd, hr.2.2.1], by simp [upd, hr.2.2.2]⟩, rfl, w0, by simp [upd, hr.2.1], w3, w4⟩) ⟨rfl, rfl, rfl, rfl, rfl, trivial⟩
              · rw [tkU_f mu] at hS hrow hsp
                have hr0 : r = 0 := hrow.2
                subst hr0
                refine z_if_eq h 102 dX2_readSentence_95 (by decide) (fun _ => ?_) (fun c => absurd rfl c)
                refine z_iconst (v := 0) h dX2_readSentence_102 (by decide) ?_
                refine z_istore h dX2_readSentence_103 (by decide) ?_
                refine z_goto h 205 dX2_readSentence_105 (by decide) ?_
                exact z_lk (JJ _ _ _ _ hsp hS ⟨⟨by simp [upd, hrow.1.1], by simp [upd, hrow.1.2.2.1], by simp [upd, hrow.1.2.2.2]⟩, rfl⟩) ⟨rfl, rfl, rfl, rfl, rfl, trivial⟩
    · have m42 := b2i_n0.mp c42
      rw [if_pos m42] at hS
      rw [if_pos m42] at hsp
      refine z_aload_n h dX2_readSentence_45 rfl rfl ?_
      refine z_aload_n h dX2_readSentence_46 rfl rfl ?_
      refine z_iload_n h dX2_readSentence_47 rfl rfl ?_
      refine z_callVIP h (c_X2_readHas l hF hS r2) (by assumption) rfl gm_RX2_56 rfl ⟨rfl, rfl⟩ 2 (by decide +kernel) ⟨by decide, by decide⟩ rfl rfl (Nat.le_of_ble_eq_true rfl) ⟨Nat.zero_le _, Nat.zero_le _⟩ dX2_readSentence_48 (fun r ν hν => ?_)
      obtain ⟨I3, ρ3, rfl, hS, hrow⟩ := hν
      refine z_istore h dX2_readSentence_51 (by decide) ?_
      refine z_goto h 205 dX2_readSentence_53 (by decide) ?_
      exact z_lk (JJ _ _ _ _ hsp hS hrow) ⟨rfl, rfl, rfl, rfl, rfl, trivial⟩
  refine z_aload_n h dX2_readSentence_0 rfl rfl ?_
  refine z_getR h (by assumption) rfl kw2 0 (by decide) rfl (by assumption) kf_RX2_9 dX2_readSentence_1 ?_
  refine z_callVI h (c_X5_start l f3) (by assumption) rfl gm_RX2_39 rfl ⟨rfl, rfl⟩ 0 (by decide +kernel) ⟨by decide, by decide⟩ rfl rfl (Nat.le_of_ble_eq_true rfl) ⟨Nat.zero_le _, Nat.zero_le _⟩ dX2_readSentence_4 ?_
  rw [h5]
  refine z_istore_n h dX2_readSentence_7 rfl (by decide) ?_
  refine z_aload_n h dX2_readSentence_8 rfl rfl ?_
  refine z_getR h (by assumption) rfl kw2 0 (by decide) rfl (by assumption) kf_RX2_9 dX2_readSentence_9 ?_
  refine z_iconst (v := -1) h dX2_readSentence_12 (by decide) ?_
  refine z_callVIP h (cR_name l hF hS) (by assumption) rfl gm_RX2_46 rfl ⟨rfl, rfl⟩ 1 (by decide +kernel) ⟨by decide, by decide⟩ rfl rfl (Nat.le_of_ble_eq_true rfl) ⟨Nat.zero_le _, Nat.zero_le _⟩ dX2_readSentence_13 (fun r ν hν => ?_)
  obtain ⟨rfl, I1, rfl, hS⟩ := hν
  by_cases mn : nmF g q ≠ -1 ∧ nmF g q ≠ -1
  · rw [if_pos mn] at hS ⊢
    rw [tkN_t mn] at hsp
    generalize nmF g q = fi at mn hsp ⊢
    generalize nx g n q = q1 at hS hsp
    refine z_istore_n h dX2_readSentence_16 rfl (by decide) ?_
    refine z_iload_n h dX2_readSentence_17 rfl rfl ?_
    refine z_iconst (v := -1) h dX2_readSentence_18 (by decide) ?_
    refine z_icmp_ne h 24 dX2_readSentence_19 (by decide) (fun _ => ?_) (fun c => absurd c mn.1)
    refine z_aload_n h dX2_readSentence_24 rfl rfl ?_
    refine z_iload_n h dX2_readSentence_25 rfl rfl ?_
    refine z_iload_n h dX2_readSentence_26 rfl rfl ?_
    refine z_callVNP h (c_X3_open l f5 hS.2.2.1 f6) (by assumption) rfl gm_RX2_50 rfl ⟨rfl, rfl⟩ 2 (by decide +kernel) ⟨by decide, by decide⟩ rfl rfl (Nat.le_of_ble_eq_true rfl) ⟨Nat.zero_le _, Nat.zero_le _⟩ dX2_readSentence_27 (fun ν hν => ?_)
    obtain ⟨I2, rfl, hf2, r0, r1, r2, r3, r4, r5, r6⟩ := hν
    have e3 : I1 st 3 = I st 3 := congrFun (hS.2.2.2.2 st (by simp [n3, Ne.symm n6])) 3
    have hS : RS S R g I I2 t b n st rw k q1 (I2 (rw k)) := by
      obtain ⟨⟨t1, t2, t3, t4, t5, t6, t7, t8, t9⟩, hb, h2, hw, hf⟩ := hS
      refine ⟨⟨t1, t2, t3, ?_, ?_, ?_, t7, t8, t9⟩, ?_, ?_, rfl, fr_tr hf (fr_mono hf2 (by simp))⟩
      · rw [hf2 t (by simpa using Ne.symm n1)]; exact t4
      · rw [hf2 t (by simpa using Ne.symm n1)]; exact t5
      · rw [hf2 t (by simpa using Ne.symm n1)]; exact t6
      · rw [hf2 b (by simpa using Ne.symm n2)]; exact hb
      · rw [hf2 st (by simpa using Ne.symm n6)]; exact h2
    have r5 := r5.trans e3
    refine z_iconst (v := 0) h dX2_readSentence_30 (by decide) ?_
    refine z_istore h dX2_readSentence_31 (by decide) ?_
    refine z_lk (lv' := [(0, .ref rd), (1, .ref st), (2, .int (nI q.1)), (3, .int fi), (4, .int 0)]) ?_ ⟨rfl, rfl, rfl, rfl, rfl, trivial⟩
    exact V33 fi q1 I2 hS r1 r2 r5 r6 hsp
  · rw [if_neg mn] at hS ⊢
    rw [tkN_f mn] at hsp
    refine z_istore_n h dX2_readSentence_16 rfl (by decide) ?_
    refine z_iload_n h dX2_readSentence_17 rfl rfl ?_
    refine z_iconst (v := -1) h dX2_readSentence_18 (by decide) ?_
    refine z_icmp_ne h 24 dX2_readSentence_19 (by decide) (fun c => absurd rfl c) (fun _ => ?_)
    refine z_iconst (v := 0) h dX2_readSentence_22 (by decide) ?_
    refine ret (r := 0) ?_ dX2_readSentence_23 rfl
    rw [hsp]
    exact ⟨I1, rfl, hS.1, hS.2.1, fr_mono hS.2.2.2.2 (by simp), rfl, hS.2.2.2.2⟩
