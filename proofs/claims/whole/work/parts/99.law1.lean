/-! SENTENCE on both sides; the cases of the switch -/
theorem REL_x {lab : Nat → Nat} {S : zS} {I : Nat → Nat → Int32} {J : Nat → Nat → Int64} {R : Nat → Nat → Option Nat} {x y : Nat} (hR : REL lab S I J R x y) : zO S x 6 ∧ zO S y 7 := by
  obtain ⟨c, d, t, b, rd, ch, sa, na, su, lo, fl, st, pa, ak, dr, pa2, ak2, rw, rw2, lw, rs, le, g, tp, td, rm, ra, am, ks, kn, ro, ba, be, tg, n, m, p, tt, aq, k, cs, cn, u, qn, ob, hP, hL, hM, h1, h2, h3, h4, h5⟩ := hR
  have hm : m ≤ 10 := hP.2.2.1.1
  obtain ⟨⟨x1, x_0, x_1, x_2, x_3, x_4, x_5⟩, ⟨t1, t2, b1⟩, ⟨rd1, rd2⟩, ⟨ch1, ch2, ch3, sa1, na1, sana⟩, -⟩ := id hL
  obtain ⟨y1, ⟨y_1, tp1⟩, ⟨y_3, td1⟩, ⟨y_4, rm1⟩, ⟨y_5, am1⟩, ⟨y_6, ra1⟩, ⟨y_10, ks1⟩, ⟨y_11, kn1⟩, -, -, -, -, ⟨m1, m2, m3, m4, m5, m6, m7, m8, m9, m10, m11⟩⟩ := id hM
  have Y1 := CL_Y hL
  have Y2 := CL_Y2 hL
  have U1 := CL_U hL
  have su1 := U1.1
  have hMB := ML_MB hM
  obtain ⟨f, e, hT⟩ := h1.1
  exact ⟨x1, y1⟩
set_option maxHeartbeats 4000000 in
theorem b_sentence (l : Launch) {E : zE} {S : zS} {I : Nat → Nat → Int32} {J : Nat → Nat → Int64} {R : Nat → Nat → Option Nat} {lab : Nat → Nat} {x y : Nat} (hl : l.stackTraces = false) (hR : REL lab S I J R x y) {out : Nat} (ho : zA S out 10 1) (hlo : lab out = 200) {i w : Int32} : ∃ P : Int32 → zM → Prop, zSR l yL_sentence wsL_sentence rmLs E S [.ref x, .int i, .int w, .ref out] (I, J, R) P 1 6 ∧ ∀ r ν, P r ν → ∃ I1 J1 R1, ν = (I1, J1, R1) ∧ ∃ Q : Int32 → zM → Prop, zIP l yX7_sentence_ wsX7_sentence_ rmX7_sentence_ E S [.ref y, .int i, .int w] (I1, J1, R1) Q ∧ ∀ r' ν', Q r' ν' → ∃ I2 J2 R2, ν' = (I2, J2, R2) ∧ REL lab S I2 J2 R2 x y ∧ I2 y 0 = r ∧ (r = 0 → J2 out 0 = r'.toInt64) := by
  obtain ⟨c, d, t, b, rd, ch, sa, na, su, lo, fl, st, pa, ak, dr, pa2, ak2, rw, rw2, lw, rs, le, g, tp, td, rm, ra, am, ks, kn, ro, ba, be, tg, n, m, p, tt, aq, k, cs, cn, u, qn, ob, hP, hL, hM, h1, h2, h3, h4, h5⟩ := hR
  have hm : m ≤ 10 := hP.2.2.1.1
  obtain ⟨⟨x1, x_0, x_1, x_2, x_3, x_4, x_5⟩, ⟨t1, t2, b1⟩, ⟨rd1, rd2⟩, ⟨ch1, ch2, ch3, sa1, na1, sana⟩, -⟩ := id hL
  obtain ⟨y1, ⟨y_1, tp1⟩, ⟨y_3, td1⟩, ⟨y_4, rm1⟩, ⟨y_5, am1⟩, ⟨y_6, ra1⟩, ⟨y_10, ks1⟩, ⟨y_11, kn1⟩, -, -, -, -, ⟨m1, m2, m3, m4, m5, m6, m7, m8, m9, m10, m11⟩⟩ := id hM
  have Y1 := CL_Y hL
  have Y2 := CL_Y2 hL
  have U1 := CL_U hL
  have su1 := U1.1
  have hMB := ML_MB hM
  obtain ⟨f, e, hT⟩ := h1.1
  have hok : (((0 : Int32) ≤ i ∧ i < nI m) ∧ 0 ≤ w ∧ w < 7) ↔ ((0 ≤ i ∧ i ≤ nI m - 1) ∧ 0 ≤ w ∧ w ≤ 6) := by
    rw [ns_eq (by omega), w67]
  refine ⟨_, c_L_sentence l hl x1 x_4 Y1 h3.2.1 hm ho, fun r ν hp => ?_⟩
  rcases hp with ⟨q, e1, e2⟩ | ⟨q, e1, e2⟩
  · obtain ⟨-, -, -, -, -, -, -, ⟨-, -, -, -, -, -, -, l8⟩, -, -, -, l13, -⟩ := id hL
    have h4' : SS I (zu J out 0 (I (rw i.toNatClampNeg) w.toNatClampNeg).toInt64) st su ak le g p m u qn ob := SS_c h4 rfl rfl rfl (fun _ _ => rfl) (zu_o (lne l8 hlo (by decide))) (fun j hj _ _ _ => zu_o (lne (l13 j hj) hlo (by decide))) hm
    refine ⟨I, _, R, e2, _, c_X7_sentence_ l (ML_TD hM h5 hm), fun r' ν' hq => ?_⟩
    rcases hq with ⟨z, e3, e4⟩ | ⟨z, -⟩
    · refine ⟨_, _, R, e4, REL_fin hP hL hM h1 h2 h3 h4' (MD_0 hM h5), ?_, fun _ => ?_⟩
      · rw [e1]; exact zu_s
      · rw [zu_s, e3]
        have hi := cl_lt (j := m) q.1.1 q.1.2 (by omega)
        have hw := cl_lt (j := 7) q.2.1 q.2.2 (by decide)
        rw [h3.1, show tdP I td i.toNatClampNeg w.toNatClampNeg = p i.toNatClampNeg w.toNatClampNeg from h5.2.2.2.1 _ hi _ hw]
    · exact absurd (hok.mp q) z
  · refine ⟨I, J, R, e2, _, c_X7_sentence_ l (ML_TD hM h5 hm), fun r' ν' hq => ?_⟩
    rcases hq with ⟨z, -⟩ | ⟨z, e3, e4⟩
    · exact absurd (hok.mpr z) q
    · refine ⟨_, J, R, e4, REL_fin hP hL hM h1 h2 h3 h4 (MD_0 hM h5), ?_, fun z => ?_⟩
      · rw [e1]; exact zu_s
      · rw [e1] at z; exact absurd z (by decide)
/-- the law's variables at its loop -/
abbrev LV (j out y x b0 : Nat) : List (Nat × Value) := [(4, .int (nI (6 * j))), (3, .ref out), (2, .ref y), (1, .ref x), (0, .ref b0)]
section LAWC
variable {X : zC} {E : zE} {S : zS} {kc ks : Nat} {I : Nat → Nat → Int32} {J : Nat → Nat → Int64} {R : Nat → Nat → Option Nat} {l : Launch} {b0 L : Nat} {xs : Nat → Int32} {lab : Nat → Nat} {x y out j : Nat}
set_option maxHeartbeats 4000000 in
set_option maxRecDepth 100000 in
theorem l_feed (h : zOK X E l cL_law RL zTbl room_1 7) (hX : SCR X b0 L xs) (hj : 6 * j + 6 ≤ L) (hL7 : L ≤ 3072) (hk : kc + 10 ≤ room_1.cells ∧ ks + 70 ≤ room_1.slots) (hR : REL lab S I J R x y) (k : ∀ I' J' R', REL lab S I' J' R' x y → zV X E S (kc + 10) (ks + 70) (I', J', R') 594 (LV j out y x b0) []) : zV X E S kc ks (I, J, R) 124 (LV j out y x b0) [] := by
  have hk0 : kc ≤ room_1.cells ∧ ks ≤ room_1.slots := ⟨by omega, by omega⟩
  obtain ⟨x1, y1⟩ := REL_x hR
  refine z_aload_n h dL_law_124 rfl rfl ?_
  refine z_aload_n h dL_law_125 rfl rfl ?_
  refine z_iload h dL_law_126 rfl ?_
  refine z_iconst (v := 1) h dL_law_128 (by decide) ?_
  refine z_iadd h dL_law_129 ?_
  refine z_sld h hX (zix_e (j := 6 * j + 1) (nI_add (6 * j) 1) (by omega) (by omega)) dL_law_130 ?_
  refine z_aload_n h dL_law_131 rfl rfl ?_
  refine z_iload h dL_law_132 rfl ?_
  refine z_iconst (v := 2) h dL_law_134 (by decide) ?_
  refine z_iadd h dL_law_135 ?_
  refine z_sld h hX (zix_e (j := 6 * j + 2) (nI_add (6 * j) 2) (by omega) (by omega)) dL_law_136 ?_
  refine z_aload_n h dL_law_137 rfl rfl ?_
  refine z_iload h dL_law_138 rfl ?_
  refine z_iconst (v := 3) h dL_law_140 (by decide) ?_
  refine z_iadd h dL_law_141 ?_
  refine z_sld h hX (zix_e (j := 6 * j + 3) (nI_add (6 * j) 3) (by omega) (by omega)) dL_law_142 ?_
  refine z_aload_n h dL_law_143 rfl rfl ?_
  refine z_iload h dL_law_144 rfl ?_
  refine z_iconst (v := 4) h dL_law_146 (by decide) ?_
  refine z_iadd h dL_law_147 ?_
  refine z_sld h hX (zix_e (j := 6 * j + 4) (nI_add (6 * j) 4) (by omega) (by omega)) dL_law_148 ?_
  refine z_aload_n h dL_law_149 rfl rfl ?_
  refine z_iload h dL_law_150 rfl ?_
  refine z_iconst (v := 5) h dL_law_152 (by decide) ?_
  refine z_iadd h dL_law_153 ?_
  refine z_sld h hX (zix_e (j := 6 * j + 5) (nI_add (6 * j) 5) (by omega) (by omega)) dL_law_154 ?_
  obtain ⟨P, hC, hN⟩ := b_feed l (E := E) hR (v0 := xs (6 * j + 1)) (v1 := xs (6 * j + 2)) (v2 := xs (6 * j + 3)) (v3 := xs (6 * j + 4)) (v4 := xs (6 * j + 5))
  refine z_callVIP h (hC) x1 rfl gm_RL_19 rfl ⟨rfl, rfl⟩ 5 (by decide +kernel) ⟨by decide, by decide⟩ rfl rfl (Nat.le_of_ble_eq_true rfl) hk0 dL_law_155 (fun r ν hp => ?_)
  obtain ⟨I1, J1, R1, rfl, Q, hQ, hF⟩ := hN r ν hp
  refine z_aload_n h dL_law_158 rfl rfl ?_
  refine z_aload_n h dL_law_159 rfl rfl ?_
  refine z_iload h dL_law_160 rfl ?_
  refine z_iconst (v := 1) h dL_law_162 (by decide) ?_
  refine z_iadd h dL_law_163 ?_
  refine z_sld h hX (zix_e (j := 6 * j + 1) (nI_add (6 * j) 1) (by omega) (by omega)) dL_law_164 ?_
  refine z_aload_n h dL_law_165 rfl rfl ?_
  refine z_iload h dL_law_166 rfl ?_
  refine z_iconst (v := 2) h dL_law_168 (by decide) ?_
  refine z_iadd h dL_law_169 ?_
  refine z_sld h hX (zix_e (j := 6 * j + 2) (nI_add (6 * j) 2) (by omega) (by omega)) dL_law_170 ?_
  refine z_aload_n h dL_law_171 rfl rfl ?_
  refine z_iload h dL_law_172 rfl ?_
  refine z_iconst (v := 3) h dL_law_174 (by decide) ?_
  refine z_iadd h dL_law_175 ?_
  refine z_sld h hX (zix_e (j := 6 * j + 3) (nI_add (6 * j) 3) (by omega) (by omega)) dL_law_176 ?_
  refine z_aload_n h dL_law_177 rfl rfl ?_
  refine z_iload h dL_law_178 rfl ?_
  refine z_iconst (v := 4) h dL_law_180 (by decide) ?_
  refine z_iadd h dL_law_181 ?_
  refine z_sld h hX (zix_e (j := 6 * j + 4) (nI_add (6 * j) 4) (by omega) (by omega)) dL_law_182 ?_
  refine z_aload_n h dL_law_183 rfl rfl ?_
  refine z_iload h dL_law_184 rfl ?_
  refine z_iconst (v := 5) h dL_law_186 (by decide) ?_
  refine z_iadd h dL_law_187 ?_
  refine z_sld h hX (zix_e (j := 6 * j + 5) (nI_add (6 * j) 5) (by omega) (by omega)) dL_law_188 ?_
  refine z_callVIP h (hQ) y1 rfl gm_RL_23 rfl ⟨rfl, rfl⟩ 5 (by decide +kernel) ⟨by decide, by decide⟩ rfl rfl (Nat.le_of_ble_eq_true rfl) hk0 dL_law_189 (fun r' ν' hq => ?_)
  obtain ⟨er, I2, J2, R2, rfl, hR2⟩ := hF r' ν' hq
  refine z_icmp_eq h 594 dL_law_192 (by decide) (fun _ => ?_) (fun z => absurd er.symm z)
  exact z_widen (by omega) (by omega) (k I2 J2 R2 hR2)
set_option maxHeartbeats 4000000 in
set_option maxRecDepth 100000 in
theorem l_end (h : zOK X E l cL_law RL zTbl room_1 7) (hX : SCR X b0 L xs) (hj : 6 * j + 6 ≤ L) (hL7 : L ≤ 3072) (hk : kc + 10 ≤ room_1.cells ∧ ks + 70 ≤ room_1.slots) (hR : REL lab S I J R x y) (k : ∀ I' J' R', REL lab S I' J' R' x y → zV X E S (kc + 10) (ks + 70) (I', J', R') 594 (LV j out y x b0) []) : zV X E S kc ks (I, J, R) 197 (LV j out y x b0) [] := by
  have hk0 : kc ≤ room_1.cells ∧ ks ≤ room_1.slots := ⟨by omega, by omega⟩
  obtain ⟨x1, y1⟩ := REL_x hR
  refine z_aload_n h dL_law_197 rfl rfl ?_
  refine z_aload_n h dL_law_198 rfl rfl ?_
  refine z_iload h dL_law_199 rfl ?_
  refine z_iconst (v := 1) h dL_law_201 (by decide) ?_
  refine z_iadd h dL_law_202 ?_
  refine z_sld h hX (zix_e (j := 6 * j + 1) (nI_add (6 * j) 1) (by omega) (by omega)) dL_law_203 ?_
  obtain ⟨P, hC, hN⟩ := b_end l (E := E) hR (w := xs (6 * j + 1))
  refine z_callVIP h (hC) x1 rfl gm_RL_24 rfl ⟨rfl, rfl⟩ 1 (by decide +kernel) ⟨by decide, by decide⟩ rfl rfl (Nat.le_of_ble_eq_true rfl) hk0 dL_law_204 (fun r ν hp => ?_)
  obtain ⟨I1, J1, R1, rfl, Q, hQ, hF⟩ := hN r ν hp
  refine z_aload_n h dL_law_207 rfl rfl ?_
  refine z_aload_n h dL_law_208 rfl rfl ?_
  refine z_iload h dL_law_209 rfl ?_
  refine z_iconst (v := 1) h dL_law_211 (by decide) ?_
  refine z_iadd h dL_law_212 ?_
  refine z_sld h hX (zix_e (j := 6 * j + 1) (nI_add (6 * j) 1) (by omega) (by omega)) dL_law_213 ?_
  refine z_callVIP h (hQ) y1 rfl gm_RL_28 rfl ⟨rfl, rfl⟩ 1 (by decide +kernel) ⟨by decide, by decide⟩ rfl rfl (Nat.le_of_ble_eq_true rfl) hk0 dL_law_214 (fun r' ν' hq => ?_)
  obtain ⟨er, I2, J2, R2, rfl, hR2⟩ := hF r' ν' hq
  refine z_icmp_eq h 594 dL_law_217 (by decide) (fun _ => ?_) (fun z => absurd er.symm z)
  exact z_widen (by omega) (by omega) (k I2 J2 R2 hR2)
set_option maxHeartbeats 4000000 in
set_option maxRecDepth 100000 in
theorem l_fault (h : zOK X E l cL_law RL zTbl room_1 7) (hX : SCR X b0 L xs) (hj : 6 * j + 6 ≤ L) (hL7 : L ≤ 3072) (hk : kc + 10 ≤ room_1.cells ∧ ks + 70 ≤ room_1.slots) (hR : REL lab S I J R x y) (k : ∀ I' J' R', REL lab S I' J' R' x y → zV X E S (kc + 10) (ks + 70) (I', J', R') 594 (LV j out y x b0) []) : zV X E S kc ks (I, J, R) 222 (LV j out y x b0) [] := by
  have hk0 : kc ≤ room_1.cells ∧ ks ≤ room_1.slots := ⟨by omega, by omega⟩
  obtain ⟨x1, y1⟩ := REL_x hR
  refine z_aload_n h dL_law_222 rfl rfl ?_
  obtain ⟨P, hC, hN⟩ := b_fault l (E := E) hR
  refine z_callVIP h (hC) x1 rfl gm_RL_29 rfl ⟨rfl, rfl⟩ 0 (by decide +kernel) ⟨by decide, by decide⟩ rfl rfl (Nat.le_of_ble_eq_true rfl) hk0 dL_law_223 (fun r ν hp => ?_)
  obtain ⟨I1, J1, R1, rfl, Q, hQ, hF⟩ := hN r ν hp
  refine z_aload_n h dL_law_226 rfl rfl ?_
  refine z_callVIR h (hQ) y1 rfl gm_RL_33 rfl ⟨rfl, rfl⟩ 0 (by decide +kernel) ⟨by decide, by decide⟩ rfl rfl (Nat.le_of_ble_eq_true rfl) hk dL_law_227 (fun r' ν' hq => ?_)
  obtain ⟨er, I2, J2, R2, rfl, hR2⟩ := hF r' ν' hq
  refine z_icmp_eq h 594 dL_law_230 (by decide) (fun _ => ?_) (fun z => absurd er.symm z)
  exact k I2 J2 R2 hR2
set_option maxHeartbeats 4000000 in
set_option maxRecDepth 100000 in
theorem l_tale (h : zOK X E l cL_law RL zTbl room_1 7) (hX : SCR X b0 L xs) (hj : 6 * j + 6 ≤ L) (hL7 : L ≤ 3072) (hk : kc + 10 ≤ room_1.cells ∧ ks + 70 ≤ room_1.slots) (hR : REL lab S I J R x y) (k : ∀ I' J' R', REL lab S I' J' R' x y → zV X E S (kc + 10) (ks + 70) (I', J', R') 594 (LV j out y x b0) []) : zV X E S kc ks (I, J, R) 235 (LV j out y x b0) [] := by
  have hk0 : kc ≤ room_1.cells ∧ ks ≤ room_1.slots := ⟨by omega, by omega⟩
  obtain ⟨x1, y1⟩ := REL_x hR
  refine z_aload_n h dL_law_235 rfl rfl ?_
  obtain ⟨P, hC, hN⟩ := b_tale l (E := E) hR
  refine z_callVIP h (hC) x1 rfl gm_RL_34 rfl ⟨rfl, rfl⟩ 0 (by decide +kernel) ⟨by decide, by decide⟩ rfl rfl (Nat.le_of_ble_eq_true rfl) hk0 dL_law_236 (fun r ν hp => ?_)
  obtain ⟨I1, J1, R1, rfl, Q, hQ, hF⟩ := hN r ν hp
  refine z_aload_n h dL_law_239 rfl rfl ?_
  refine z_callVIR h (hQ) y1 rfl gm_RL_38 rfl ⟨rfl, rfl⟩ 0 (by decide +kernel) ⟨by decide, by decide⟩ rfl rfl (Nat.le_of_ble_eq_true rfl) hk dL_law_240 (fun r' ν' hq => ?_)
  obtain ⟨er, I2, J2, R2, rfl, hR2⟩ := hF r' ν' hq
  refine z_icmp_eq h 594 dL_law_243 (by decide) (fun _ => ?_) (fun z => absurd er.symm z)
  exact k I2 J2 R2 hR2
set_option maxHeartbeats 4000000 in
set_option maxRecDepth 100000 in
theorem l_sentences (h : zOK X E l cL_law RL zTbl room_1 7) (hX : SCR X b0 L xs) (hj : 6 * j + 6 ≤ L) (hL7 : L ≤ 3072) (hk : kc + 10 ≤ room_1.cells ∧ ks + 70 ≤ room_1.slots) (hR : REL lab S I J R x y) (k : ∀ I' J' R', REL lab S I' J' R' x y → zV X E S (kc + 10) (ks + 70) (I', J', R') 594 (LV j out y x b0) []) : zV X E S kc ks (I, J, R) 248 (LV j out y x b0) [] := by
  have hk0 : kc ≤ room_1.cells ∧ ks ≤ room_1.slots := ⟨by omega, by omega⟩
  obtain ⟨x1, y1⟩ := REL_x hR
  refine z_aload_n h dL_law_248 rfl rfl ?_
  obtain ⟨P, hC, hN⟩ := b_sentences l (E := E) hR
  refine z_callVIP h (hC) x1 rfl gm_RL_39 rfl ⟨rfl, rfl⟩ 0 (by decide +kernel) ⟨by decide, by decide⟩ rfl rfl (Nat.le_of_ble_eq_true rfl) hk0 dL_law_249 (fun r ν hp => ?_)
  obtain ⟨I1, J1, R1, rfl, Q, hQ, hF⟩ := hN r ν hp
  refine z_aload_n h dL_law_252 rfl rfl ?_
  refine z_callVIP h (hQ) y1 rfl gm_RL_42 rfl ⟨rfl, rfl⟩ 0 (by decide +kernel) ⟨by decide, by decide⟩ rfl rfl (Nat.le_of_ble_eq_true rfl) hk0 dL_law_253 (fun r' ν' hq => ?_)
  obtain ⟨er, I2, J2, R2, rfl, hR2⟩ := hF r' ν' hq
  refine z_icmp_eq h 594 dL_law_256 (by decide) (fun _ => ?_) (fun z => absurd er.symm z)
  exact z_widen (by omega) (by omega) (k I2 J2 R2 hR2)
set_option maxHeartbeats 4000000 in
set_option maxRecDepth 100000 in
theorem l_question (h : zOK X E l cL_law RL zTbl room_1 7) (hX : SCR X b0 L xs) (hj : 6 * j + 6 ≤ L) (hL7 : L ≤ 3072) (hk : kc + 10 ≤ room_1.cells ∧ ks + 70 ≤ room_1.slots) (hR : REL lab S I J R x y) (k : ∀ I' J' R', REL lab S I' J' R' x y → zV X E S (kc + 10) (ks + 70) (I', J', R') 594 (LV j out y x b0) []) : zV X E S kc ks (I, J, R) 329 (LV j out y x b0) [] := by
  have hk0 : kc ≤ room_1.cells ∧ ks ≤ room_1.slots := ⟨by omega, by omega⟩
  obtain ⟨x1, y1⟩ := REL_x hR
  refine z_aload_n h dL_law_329 rfl rfl ?_
  refine z_aload_n h dL_law_330 rfl rfl ?_
  refine z_iload h dL_law_331 rfl ?_
  refine z_iconst (v := 1) h dL_law_333 (by decide) ?_
  refine z_iadd h dL_law_334 ?_
  refine z_sld h hX (zix_e (j := 6 * j + 1) (nI_add (6 * j) 1) (by omega) (by omega)) dL_law_335 ?_
  obtain ⟨P, hC, hN⟩ := b_question l (E := E) hR (w := xs (6 * j + 1))
  refine z_callVIP h (hC) x1 rfl gm_RL_52 rfl ⟨rfl, rfl⟩ 1 (by decide +kernel) ⟨by decide, by decide⟩ rfl rfl (Nat.le_of_ble_eq_true rfl) hk0 dL_law_336 (fun r ν hp => ?_)
  obtain ⟨I1, J1, R1, rfl, Q, hQ, hF⟩ := hN r ν hp
  refine z_aload_n h dL_law_339 rfl rfl ?_
  refine z_aload_n h dL_law_340 rfl rfl ?_
  refine z_iload h dL_law_341 rfl ?_
  refine z_iconst (v := 1) h dL_law_343 (by decide) ?_
  refine z_iadd h dL_law_344 ?_
  refine z_sld h hX (zix_e (j := 6 * j + 1) (nI_add (6 * j) 1) (by omega) (by omega)) dL_law_345 ?_
  refine z_callVIP h (hQ) y1 rfl gm_RL_56 rfl ⟨rfl, rfl⟩ 1 (by decide +kernel) ⟨by decide, by decide⟩ rfl rfl (Nat.le_of_ble_eq_true rfl) hk0 dL_law_346 (fun r' ν' hq => ?_)
  obtain ⟨er, I2, J2, R2, rfl, hR2⟩ := hF r' ν' hq
  refine z_icmp_eq h 594 dL_law_349 (by decide) (fun _ => ?_) (fun z => absurd er.symm z)
  exact z_widen (by omega) (by omega) (k I2 J2 R2 hR2)
set_option maxHeartbeats 4000000 in
set_option maxRecDepth 100000 in
theorem l_quarrel (h : zOK X E l cL_law RL zTbl room_1 7) (hX : SCR X b0 L xs) (hj : 6 * j + 6 ≤ L) (hL7 : L ≤ 3072) (hk : kc + 10 ≤ room_1.cells ∧ ks + 70 ≤ room_1.slots) (hR : REL lab S I J R x y) (k : ∀ I' J' R', REL lab S I' J' R' x y → zV X E S (kc + 10) (ks + 70) (I', J', R') 594 (LV j out y x b0) []) : zV X E S kc ks (I, J, R) 354 (LV j out y x b0) [] := by
  have hk0 : kc ≤ room_1.cells ∧ ks ≤ room_1.slots := ⟨by omega, by omega⟩
  obtain ⟨x1, y1⟩ := REL_x hR
  refine z_aload_n h dL_law_354 rfl rfl ?_
  obtain ⟨P, hC, hN⟩ := b_quarrel l (E := E) hR
  refine z_callVIP h (hC) x1 rfl gm_RL_57 rfl ⟨rfl, rfl⟩ 0 (by decide +kernel) ⟨by decide, by decide⟩ rfl rfl (Nat.le_of_ble_eq_true rfl) hk0 dL_law_355 (fun r ν hp => ?_)
  obtain ⟨I1, J1, R1, rfl, Q, hQ, hF⟩ := hN r ν hp
  refine z_aload_n h dL_law_358 rfl rfl ?_
  refine z_callVIP h (hQ) y1 rfl gm_RL_60 rfl ⟨rfl, rfl⟩ 0 (by decide +kernel) ⟨by decide, by decide⟩ rfl rfl (Nat.le_of_ble_eq_true rfl) hk0 dL_law_359 (fun r' ν' hq => ?_)
  obtain ⟨er, I2, J2, R2, rfl, hR2⟩ := hF r' ν' hq
  refine z_icmp_eq h 594 dL_law_362 (by decide) (fun _ => ?_) (fun z => absurd er.symm z)
  exact z_widen (by omega) (by omega) (k I2 J2 R2 hR2)
set_option maxHeartbeats 4000000 in
set_option maxRecDepth 100000 in
theorem l_answer (h : zOK X E l cL_law RL zTbl room_1 7) (hX : SCR X b0 L xs) (hj : 6 * j + 6 ≤ L) (hL7 : L ≤ 3072) (hk : kc + 10 ≤ room_1.cells ∧ ks + 70 ≤ room_1.slots) (hR : REL lab S I J R x y) (k : ∀ I' J' R', REL lab S I' J' R' x y → zV X E S (kc + 10) (ks + 70) (I', J', R') 594 (LV j out y x b0) []) : zV X E S kc ks (I, J, R) 367 (LV j out y x b0) [] := by
  have hk0 : kc ≤ room_1.cells ∧ ks ≤ room_1.slots := ⟨by omega, by omega⟩
  obtain ⟨x1, y1⟩ := REL_x hR
  refine z_aload_n h dL_law_367 rfl rfl ?_
  refine z_aload_n h dL_law_368 rfl rfl ?_
  refine z_iload h dL_law_369 rfl ?_
  refine z_iconst (v := 1) h dL_law_371 (by decide) ?_
  refine z_iadd h dL_law_372 ?_
  refine z_sld h hX (zix_e (j := 6 * j + 1) (nI_add (6 * j) 1) (by omega) (by omega)) dL_law_373 ?_
  obtain ⟨P, hC, hN⟩ := b_answer l (E := E) hR (w := xs (6 * j + 1))
  refine z_callVLP h (hC) x1 rfl gm_RL_61 rfl ⟨rfl, rfl⟩ 1 (by decide +kernel) ⟨by decide, by decide⟩ rfl rfl (Nat.le_of_ble_eq_true rfl) hk0 dL_law_374 (fun r ν hp => ?_)
  obtain ⟨I1, J1, R1, rfl, Q, hQ, hF⟩ := hN r ν hp
  refine z_aload_n h dL_law_377 rfl rfl ?_
  refine z_aload_n h dL_law_378 rfl rfl ?_
  refine z_iload h dL_law_379 rfl ?_
  refine z_iconst (v := 1) h dL_law_381 (by decide) ?_
  refine z_iadd h dL_law_382 ?_
  refine z_sld h hX (zix_e (j := 6 * j + 1) (nI_add (6 * j) 1) (by omega) (by omega)) dL_law_383 ?_
  refine z_callVLP h (hQ) y1 rfl gm_RL_65 rfl ⟨rfl, rfl⟩ 1 (by decide +kernel) ⟨by decide, by decide⟩ rfl rfl (Nat.le_of_ble_eq_true rfl) hk0 dL_law_384 (fun r' ν' hq => ?_)
  obtain ⟨er, I2, J2, R2, rfl, hR2⟩ := hF r' ν' hq
  refine z_lcmp h dL_law_387 ?_
  refine z_if_eq h 594 dL_law_388 (by decide) (fun _ => ?_) (fun z => absurd ((lg_cmp_eq _ _).mpr er.symm) z)
  exact z_widen (by omega) (by omega) (k I2 J2 R2 hR2)
set_option maxHeartbeats 4000000 in
set_option maxRecDepth 100000 in
theorem l_amount (h : zOK X E l cL_law RL zTbl room_1 7) (hX : SCR X b0 L xs) (hj : 6 * j + 6 ≤ L) (hL7 : L ≤ 3072) (hk : kc + 10 ≤ room_1.cells ∧ ks + 70 ≤ room_1.slots) (hR : REL lab S I J R x y) (k : ∀ I' J' R', REL lab S I' J' R' x y → zV X E S (kc + 10) (ks + 70) (I', J', R') 594 (LV j out y x b0) []) : zV X E S kc ks (I, J, R) 393 (LV j out y x b0) [] := by
  have hk0 : kc ≤ room_1.cells ∧ ks ≤ room_1.slots := ⟨by omega, by omega⟩
  obtain ⟨x1, y1⟩ := REL_x hR
  refine z_aload_n h dL_law_393 rfl rfl ?_
  refine z_aload_n h dL_law_394 rfl rfl ?_
  refine z_iload h dL_law_395 rfl ?_
  refine z_iconst (v := 1) h dL_law_397 (by decide) ?_
  refine z_iadd h dL_law_398 ?_
  refine z_sld h hX (zix_e (j := 6 * j + 1) (nI_add (6 * j) 1) (by omega) (by omega)) dL_law_399 ?_
  refine z_aload_n h dL_law_400 rfl rfl ?_
  refine z_iload h dL_law_401 rfl ?_
  refine z_iconst (v := 2) h dL_law_403 (by decide) ?_
  refine z_iadd h dL_law_404 ?_
  refine z_sld h hX (zix_e (j := 6 * j + 2) (nI_add (6 * j) 2) (by omega) (by omega)) dL_law_405 ?_
  refine z_aload_n h dL_law_406 rfl rfl ?_
  refine z_iload h dL_law_407 rfl ?_
  refine z_iconst (v := 3) h dL_law_409 (by decide) ?_
  refine z_iadd h dL_law_410 ?_
  refine z_sld h hX (zix_e (j := 6 * j + 3) (nI_add (6 * j) 3) (by omega) (by omega)) dL_law_411 ?_
  refine z_aload_n h dL_law_412 rfl rfl ?_
  refine z_iload h dL_law_413 rfl ?_
  refine z_iconst (v := 4) h dL_law_415 (by decide) ?_
  refine z_iadd h dL_law_416 ?_
  refine z_sld h hX (zix_e (j := 6 * j + 4) (nI_add (6 * j) 4) (by omega) (by omega)) dL_law_417 ?_
  obtain ⟨P, hC, hN⟩ := b_amount l (E := E) hR (a1 := xs (6 * j + 1)) (a2 := xs (6 * j + 2)) (a3 := xs (6 * j + 3)) (w := xs (6 * j + 4))
  refine z_callVLP h (hC) x1 rfl gm_RL_66 rfl ⟨rfl, rfl⟩ 4 (by decide +kernel) ⟨by decide, by decide⟩ rfl rfl (Nat.le_of_ble_eq_true rfl) hk0 dL_law_418 (fun r ν hp => ?_)
  obtain ⟨I1, J1, R1, rfl, Q, hQ, hF⟩ := hN r ν hp
  refine z_aload_n h dL_law_421 rfl rfl ?_
  refine z_aload_n h dL_law_422 rfl rfl ?_
  refine z_iload h dL_law_423 rfl ?_
  refine z_iconst (v := 1) h dL_law_425 (by decide) ?_
  refine z_iadd h dL_law_426 ?_
  refine z_sld h hX (zix_e (j := 6 * j + 1) (nI_add (6 * j) 1) (by omega) (by omega)) dL_law_427 ?_
  refine z_aload_n h dL_law_428 rfl rfl ?_
  refine z_iload h dL_law_429 rfl ?_
  refine z_iconst (v := 2) h dL_law_431 (by decide) ?_
  refine z_iadd h dL_law_432 ?_
  refine z_sld h hX (zix_e (j := 6 * j + 2) (nI_add (6 * j) 2) (by omega) (by omega)) dL_law_433 ?_
  refine z_aload_n h dL_law_434 rfl rfl ?_
  refine z_iload h dL_law_435 rfl ?_
  refine z_iconst (v := 3) h dL_law_437 (by decide) ?_
  refine z_iadd h dL_law_438 ?_
  refine z_sld h hX (zix_e (j := 6 * j + 3) (nI_add (6 * j) 3) (by omega) (by omega)) dL_law_439 ?_
  refine z_aload_n h dL_law_440 rfl rfl ?_
  refine z_iload h dL_law_441 rfl ?_
  refine z_iconst (v := 4) h dL_law_443 (by decide) ?_
  refine z_iadd h dL_law_444 ?_
  refine z_sld h hX (zix_e (j := 6 * j + 4) (nI_add (6 * j) 4) (by omega) (by omega)) dL_law_445 ?_
  refine z_callVLP h (hQ) y1 rfl gm_RL_70 rfl ⟨rfl, rfl⟩ 4 (by decide +kernel) ⟨by decide, by decide⟩ rfl rfl (Nat.le_of_ble_eq_true rfl) hk0 dL_law_446 (fun r' ν' hq => ?_)
  obtain ⟨er, I2, J2, R2, rfl, hR2⟩ := hF r' ν' hq
  refine z_lcmp h dL_law_449 ?_
  refine z_if_eq h 594 dL_law_450 (by decide) (fun _ => ?_) (fun z => absurd ((lg_cmp_eq _ _).mpr er.symm) z)
  exact z_widen (by omega) (by omega) (k I2 J2 R2 hR2)
set_option maxHeartbeats 4000000 in
set_option maxRecDepth 100000 in
theorem l_idle (h : zOK X E l cL_law RL zTbl room_1 7) (hX : SCR X b0 L xs) (hj : 6 * j + 6 ≤ L) (hL7 : L ≤ 3072) (hk : kc + 10 ≤ room_1.cells ∧ ks + 70 ≤ room_1.slots) (hR : REL lab S I J R x y) (k : ∀ I' J' R', REL lab S I' J' R' x y → zV X E S (kc + 10) (ks + 70) (I', J', R') 594 (LV j out y x b0) []) : zV X E S kc ks (I, J, R) 455 (LV j out y x b0) [] := by
  have hk0 : kc ≤ room_1.cells ∧ ks ≤ room_1.slots := ⟨by omega, by omega⟩
  obtain ⟨x1, y1⟩ := REL_x hR
  refine z_aload_n h dL_law_455 rfl rfl ?_
  obtain ⟨P, hC, hN⟩ := b_idle l (E := E) hR
  refine z_callVIP h (hC) x1 rfl gm_RL_71 rfl ⟨rfl, rfl⟩ 0 (by decide +kernel) ⟨by decide, by decide⟩ rfl rfl (Nat.le_of_ble_eq_true rfl) hk0 dL_law_456 (fun r ν hp => ?_)
  obtain ⟨I1, J1, R1, rfl, Q, hQ, hF⟩ := hN r ν hp
  refine z_aload_n h dL_law_459 rfl rfl ?_
  refine z_callVIP h (hQ) y1 rfl gm_RL_74 rfl ⟨rfl, rfl⟩ 0 (by decide +kernel) ⟨by decide, by decide⟩ rfl rfl (Nat.le_of_ble_eq_true rfl) hk0 dL_law_460 (fun r' ν' hq => ?_)
  obtain ⟨er, I2, J2, R2, rfl, hR2⟩ := hF r' ν' hq
  refine z_icmp_eq h 594 dL_law_463 (by decide) (fun _ => ?_) (fun z => absurd er.symm z)
  exact z_widen (by omega) (by omega) (k I2 J2 R2 hR2)
set_option maxHeartbeats 4000000 in
set_option maxRecDepth 100000 in
theorem l_enough (h : zOK X E l cL_law RL zTbl room_1 7) (hX : SCR X b0 L xs) (hj : 6 * j + 6 ≤ L) (hL7 : L ≤ 3072) (hk : kc + 10 ≤ room_1.cells ∧ ks + 70 ≤ room_1.slots) (hR : REL lab S I J R x y) (k : ∀ I' J' R', REL lab S I' J' R' x y → zV X E S (kc + 10) (ks + 70) (I', J', R') 594 (LV j out y x b0) []) : zV X E S kc ks (I, J, R) 468 (LV j out y x b0) [] := by
  have hk0 : kc ≤ room_1.cells ∧ ks ≤ room_1.slots := ⟨by omega, by omega⟩
  obtain ⟨x1, y1⟩ := REL_x hR
  refine z_aload_n h dL_law_468 rfl rfl ?_
  obtain ⟨P, hC, hN⟩ := b_enough l (E := E) hR
  refine z_callVIP h (hC) x1 rfl gm_RL_75 rfl ⟨rfl, rfl⟩ 0 (by decide +kernel) ⟨by decide, by decide⟩ rfl rfl (Nat.le_of_ble_eq_true rfl) hk0 dL_law_469 (fun r ν hp => ?_)
  obtain ⟨I1, J1, R1, rfl, Q, hQ, hF⟩ := hN r ν hp
  refine z_aload_n h dL_law_472 rfl rfl ?_
  refine z_callVIP h (hQ) y1 rfl gm_RL_78 rfl ⟨rfl, rfl⟩ 0 (by decide +kernel) ⟨by decide, by decide⟩ rfl rfl (Nat.le_of_ble_eq_true rfl) hk0 dL_law_473 (fun r' ν' hq => ?_)
  obtain ⟨er, I2, J2, R2, rfl, hR2⟩ := hF r' ν' hq
  refine z_icmp_eq h 594 dL_law_476 (by decide) (fun _ => ?_) (fun z => absurd er.symm z)
  exact z_widen (by omega) (by omega) (k I2 J2 R2 hR2)
set_option maxHeartbeats 4000000 in
set_option maxRecDepth 100000 in
theorem l_lacking (h : zOK X E l cL_law RL zTbl room_1 7) (hX : SCR X b0 L xs) (hj : 6 * j + 6 ≤ L) (hL7 : L ≤ 3072) (hk : kc + 10 ≤ room_1.cells ∧ ks + 70 ≤ room_1.slots) (hR : REL lab S I J R x y) (k : ∀ I' J' R', REL lab S I' J' R' x y → zV X E S (kc + 10) (ks + 70) (I', J', R') 594 (LV j out y x b0) []) : zV X E S kc ks (I, J, R) 481 (LV j out y x b0) [] := by
  have hk0 : kc ≤ room_1.cells ∧ ks ≤ room_1.slots := ⟨by omega, by omega⟩
  obtain ⟨x1, y1⟩ := REL_x hR
  refine z_aload_n h dL_law_481 rfl rfl ?_
  obtain ⟨P, hC, hN⟩ := b_lacking l (E := E) hR
  refine z_callVIP h (hC) x1 rfl gm_RL_79 rfl ⟨rfl, rfl⟩ 0 (by decide +kernel) ⟨by decide, by decide⟩ rfl rfl (Nat.le_of_ble_eq_true rfl) hk0 dL_law_482 (fun r ν hp => ?_)
  obtain ⟨I1, J1, R1, rfl, Q, hQ, hF⟩ := hN r ν hp
  refine z_aload_n h dL_law_485 rfl rfl ?_
  refine z_callVIP h (hQ) y1 rfl gm_RL_82 rfl ⟨rfl, rfl⟩ 0 (by decide +kernel) ⟨by decide, by decide⟩ rfl rfl (Nat.le_of_ble_eq_true rfl) hk0 dL_law_486 (fun r' ν' hq => ?_)
  obtain ⟨er, I2, J2, R2, rfl, hR2⟩ := hF r' ν' hq
  refine z_icmp_eq h 594 dL_law_489 (by decide) (fun _ => ?_) (fun z => absurd er.symm z)
  exact z_widen (by omega) (by omega) (k I2 J2 R2 hR2)
set_option maxHeartbeats 4000000 in
set_option maxRecDepth 100000 in
theorem l_strange (h : zOK X E l cL_law RL zTbl room_1 7) (hX : SCR X b0 L xs) (hj : 6 * j + 6 ≤ L) (hL7 : L ≤ 3072) (hk : kc + 10 ≤ room_1.cells ∧ ks + 70 ≤ room_1.slots) (hR : REL lab S I J R x y) (k : ∀ I' J' R', REL lab S I' J' R' x y → zV X E S (kc + 10) (ks + 70) (I', J', R') 594 (LV j out y x b0) []) : zV X E S kc ks (I, J, R) 494 (LV j out y x b0) [] := by
  have hk0 : kc ≤ room_1.cells ∧ ks ≤ room_1.slots := ⟨by omega, by omega⟩
  obtain ⟨x1, y1⟩ := REL_x hR
  refine z_aload_n h dL_law_494 rfl rfl ?_
  refine z_aload_n h dL_law_495 rfl rfl ?_
  refine z_iload h dL_law_496 rfl ?_
  refine z_iconst (v := 1) h dL_law_498 (by decide) ?_
  refine z_iadd h dL_law_499 ?_
  refine z_sld h hX (zix_e (j := 6 * j + 1) (nI_add (6 * j) 1) (by omega) (by omega)) dL_law_500 ?_
  obtain ⟨P, hC, hN⟩ := b_strange l (E := E) hR (w := xs (6 * j + 1))
  refine z_callVIP h (hC) x1 rfl gm_RL_83 rfl ⟨rfl, rfl⟩ 1 (by decide +kernel) ⟨by decide, by decide⟩ rfl rfl (Nat.le_of_ble_eq_true rfl) hk0 dL_law_501 (fun r ν hp => ?_)
  obtain ⟨I1, J1, R1, rfl, Q, hQ, hF⟩ := hN r ν hp
  refine z_aload_n h dL_law_504 rfl rfl ?_
  refine z_aload_n h dL_law_505 rfl rfl ?_
  refine z_iload h dL_law_506 rfl ?_
  refine z_iconst (v := 1) h dL_law_508 (by decide) ?_
  refine z_iadd h dL_law_509 ?_
  refine z_sld h hX (zix_e (j := 6 * j + 1) (nI_add (6 * j) 1) (by omega) (by omega)) dL_law_510 ?_
  refine z_callVIP h (hQ) y1 rfl gm_RL_86 rfl ⟨rfl, rfl⟩ 1 (by decide +kernel) ⟨by decide, by decide⟩ rfl rfl (Nat.le_of_ble_eq_true rfl) hk0 dL_law_511 (fun r' ν' hq => ?_)
  obtain ⟨er, I2, J2, R2, rfl, hR2⟩ := hF r' ν' hq
  refine z_icmp_eq h 594 dL_law_514 (by decide) (fun _ => ?_) (fun z => absurd er.symm z)
  exact z_widen (by omega) (by omega) (k I2 J2 R2 hR2)
set_option maxHeartbeats 4000000 in
set_option maxRecDepth 100000 in
theorem l_put (h : zOK X E l cL_law RL zTbl room_1 7) (hX : SCR X b0 L xs) (hj : 6 * j + 6 ≤ L) (hL7 : L ≤ 3072) (hk : kc + 10 ≤ room_1.cells ∧ ks + 70 ≤ room_1.slots) (hR : REL lab S I J R x y) (k : ∀ I' J' R', REL lab S I' J' R' x y → zV X E S (kc + 10) (ks + 70) (I', J', R') 594 (LV j out y x b0) []) : zV X E S kc ks (I, J, R) 519 (LV j out y x b0) [] := by
  have hk0 : kc ≤ room_1.cells ∧ ks ≤ room_1.slots := ⟨by omega, by omega⟩
  obtain ⟨x1, y1⟩ := REL_x hR
  refine z_aload_n h dL_law_519 rfl rfl ?_
  refine z_aload_n h dL_law_520 rfl rfl ?_
  refine z_iload h dL_law_521 rfl ?_
  refine z_iconst (v := 1) h dL_law_523 (by decide) ?_
  refine z_iadd h dL_law_524 ?_
  refine z_sld h hX (zix_e (j := 6 * j + 1) (nI_add (6 * j) 1) (by omega) (by omega)) dL_law_525 ?_
  refine z_aload_n h dL_law_526 rfl rfl ?_
  refine z_iload h dL_law_527 rfl ?_
  refine z_iconst (v := 2) h dL_law_529 (by decide) ?_
  refine z_iadd h dL_law_530 ?_
  refine z_sld h hX (zix_e (j := 6 * j + 2) (nI_add (6 * j) 2) (by omega) (by omega)) dL_law_531 ?_
  obtain ⟨P, hC, hN⟩ := b_put l (E := E) hR (s := xs (6 * j + 1)) (v := xs (6 * j + 2))
  refine z_callVIP h (hC) x1 rfl gm_RL_87 rfl ⟨rfl, rfl⟩ 2 (by decide +kernel) ⟨by decide, by decide⟩ rfl rfl (Nat.le_of_ble_eq_true rfl) hk0 dL_law_532 (fun r ν hp => ?_)
  obtain ⟨I1, J1, R1, rfl, Q, hQ, hF⟩ := hN r ν hp
  refine z_aload_n h dL_law_535 rfl rfl ?_
  refine z_aload_n h dL_law_536 rfl rfl ?_
  refine z_iload h dL_law_537 rfl ?_
  refine z_iconst (v := 1) h dL_law_539 (by decide) ?_
  refine z_iadd h dL_law_540 ?_
  refine z_sld h hX (zix_e (j := 6 * j + 1) (nI_add (6 * j) 1) (by omega) (by omega)) dL_law_541 ?_
  refine z_aload_n h dL_law_542 rfl rfl ?_
  refine z_iload h dL_law_543 rfl ?_
  refine z_iconst (v := 2) h dL_law_545 (by decide) ?_
  refine z_iadd h dL_law_546 ?_
  refine z_sld h hX (zix_e (j := 6 * j + 2) (nI_add (6 * j) 2) (by omega) (by omega)) dL_law_547 ?_
  refine z_callVIP h (hQ) y1 rfl gm_RL_91 rfl ⟨rfl, rfl⟩ 2 (by decide +kernel) ⟨by decide, by decide⟩ rfl rfl (Nat.le_of_ble_eq_true rfl) hk0 dL_law_548 (fun r' ν' hq => ?_)
  obtain ⟨er, I2, J2, R2, rfl, hR2⟩ := hF r' ν' hq
  refine z_icmp_eq h 594 dL_law_551 (by decide) (fun _ => ?_) (fun z => absurd er.symm z)
  exact z_widen (by omega) (by omega) (k I2 J2 R2 hR2)
set_option maxHeartbeats 4000000 in
set_option maxRecDepth 100000 in
theorem l_undo (h : zOK X E l cL_law RL zTbl room_1 7) (hX : SCR X b0 L xs) (hj : 6 * j + 6 ≤ L) (hL7 : L ≤ 3072) (hk : kc + 10 ≤ room_1.cells ∧ ks + 70 ≤ room_1.slots) (hR : REL lab S I J R x y) (k : ∀ I' J' R', REL lab S I' J' R' x y → zV X E S (kc + 10) (ks + 70) (I', J', R') 594 (LV j out y x b0) []) : zV X E S kc ks (I, J, R) 556 (LV j out y x b0) [] := by
  have hk0 : kc ≤ room_1.cells ∧ ks ≤ room_1.slots := ⟨by omega, by omega⟩
  obtain ⟨x1, y1⟩ := REL_x hR
  refine z_aload_n h dL_law_556 rfl rfl ?_
  obtain ⟨P, hC, hN⟩ := b_undo l (E := E) hR
  refine z_callVIP h (hC) x1 rfl gm_RL_92 rfl ⟨rfl, rfl⟩ 0 (by decide +kernel) ⟨by decide, by decide⟩ rfl rfl (Nat.le_of_ble_eq_true rfl) hk0 dL_law_557 (fun r ν hp => ?_)
  obtain ⟨I1, J1, R1, rfl, Q, hQ, hF⟩ := hN r ν hp
  refine z_aload_n h dL_law_560 rfl rfl ?_
  refine z_callVIP h (hQ) y1 rfl gm_RL_95 rfl ⟨rfl, rfl⟩ 0 (by decide +kernel) ⟨by decide, by decide⟩ rfl rfl (Nat.le_of_ble_eq_true rfl) hk0 dL_law_561 (fun r' ν' hq => ?_)
  obtain ⟨er, I2, J2, R2, rfl, hR2⟩ := hF r' ν' hq
  refine z_icmp_eq h 594 dL_law_564 (by decide) (fun _ => ?_) (fun z => absurd er.symm z)
  exact z_widen (by omega) (by omega) (k I2 J2 R2 hR2)
set_option maxHeartbeats 4000000 in
set_option maxRecDepth 100000 in
theorem l_count (h : zOK X E l cL_law RL zTbl room_1 7) (hX : SCR X b0 L xs) (hj : 6 * j + 6 ≤ L) (hL7 : L ≤ 3072) (hk : kc + 10 ≤ room_1.cells ∧ ks + 70 ≤ room_1.slots) (hR : REL lab S I J R x y) (k : ∀ I' J' R', REL lab S I' J' R' x y → zV X E S (kc + 10) (ks + 70) (I', J', R') 594 (LV j out y x b0) []) : zV X E S kc ks (I, J, R) 569 (LV j out y x b0) [] := by
  have hk0 : kc ≤ room_1.cells ∧ ks ≤ room_1.slots := ⟨by omega, by omega⟩
  obtain ⟨x1, y1⟩ := REL_x hR
  refine z_aload_n h dL_law_569 rfl rfl ?_
  refine z_aload_n h dL_law_570 rfl rfl ?_
  refine z_iload h dL_law_571 rfl ?_
  refine z_iconst (v := 1) h dL_law_573 (by decide) ?_
  refine z_iadd h dL_law_574 ?_
  refine z_sld h hX (zix_e (j := 6 * j + 1) (nI_add (6 * j) 1) (by omega) (by omega)) dL_law_575 ?_
  obtain ⟨P, hC, hN⟩ := b_count l (E := E) hR (w := xs (6 * j + 1))
  refine z_callVIP h (hC) x1 rfl gm_RL_96 rfl ⟨rfl, rfl⟩ 1 (by decide +kernel) ⟨by decide, by decide⟩ rfl rfl (Nat.le_of_ble_eq_true rfl) hk0 dL_law_576 (fun r ν hp => ?_)
  obtain ⟨I1, J1, R1, rfl, Q, hQ, hF⟩ := hN r ν hp
  refine z_aload_n h dL_law_579 rfl rfl ?_
  refine z_aload_n h dL_law_580 rfl rfl ?_
  refine z_iload h dL_law_581 rfl ?_
  refine z_iconst (v := 1) h dL_law_583 (by decide) ?_
  refine z_iadd h dL_law_584 ?_
  refine z_sld h hX (zix_e (j := 6 * j + 1) (nI_add (6 * j) 1) (by omega) (by omega)) dL_law_585 ?_
  refine z_callVIP h (hQ) y1 rfl gm_RL_99 rfl ⟨rfl, rfl⟩ 1 (by decide +kernel) ⟨by decide, by decide⟩ rfl rfl (Nat.le_of_ble_eq_true rfl) hk0 dL_law_586 (fun r' ν' hq => ?_)
  obtain ⟨er, I2, J2, R2, rfl, hR2⟩ := hF r' ν' hq
  refine z_icmp_eq h 594 dL_law_589 (by decide) (fun _ => ?_) (fun z => absurd er.symm z)
  exact z_widen (by omega) (by omega) (k I2 J2 R2 hR2)
set_option maxHeartbeats 4000000 in
set_option maxRecDepth 100000 in
theorem l_sentence (hl : l.stackTraces = false) (hth : zTh X.2.2.2.2.2.2.2.2.2.2.2.1 X.2.2.2.2.1 X.2.2.2.2.1.heap) (ho : zA S out 10 1) (hlo : lab out = 200) (h : zOK X E l cL_law RL zTbl room_1 7) (hX : SCR X b0 L xs) (hj : 6 * j + 6 ≤ L) (hL7 : L ≤ 3072) (hk : kc + 10 ≤ room_1.cells ∧ ks + 70 ≤ room_1.slots) (hR : REL lab S I J R x y) (k : ∀ I' J' R', REL lab S I' J' R' x y → zV X E S (kc + 10) (ks + 70) (I', J', R') 594 (LV j out y x b0) []) : zV X E S kc ks (I, J, R) 261 (LV j out y x b0) [] := by
  have hk0 : kc + 1 ≤ room_1.cells ∧ ks + 6 ≤ room_1.slots := ⟨by omega, by omega⟩
  obtain ⟨x1, y1⟩ := REL_x hR
  refine z_aload_n h dL_law_261 rfl rfl ?_
  refine z_aload_n h dL_law_262 rfl rfl ?_
  refine z_iload h dL_law_263 rfl ?_
  refine z_iconst (v := 1) h dL_law_265 (by decide) ?_
  refine z_iadd h dL_law_266 ?_
  refine z_sld h hX (zix_e (j := 6 * j + 1) (nI_add (6 * j) 1) (by omega) (by omega)) dL_law_267 ?_
  refine z_aload_n h dL_law_268 rfl rfl ?_
  refine z_iload h dL_law_269 rfl ?_
  refine z_iconst (v := 2) h dL_law_271 (by decide) ?_
  refine z_iadd h dL_law_272 ?_
  refine z_sld h hX (zix_e (j := 6 * j + 2) (nI_add (6 * j) 2) (by omega) (by omega)) dL_law_273 ?_
  refine z_aload_n h dL_law_274 rfl rfl ?_
  obtain ⟨P, hC, hN⟩ := b_sentence l (E := E) hl hR ho hlo (i := xs (6 * j + 1)) (w := xs (6 * j + 2))
  refine z_callSR h hth hC gm_RL_43 rfl ⟨rfl, rfl⟩ 4 (by decide +kernel) ⟨by decide, by decide⟩ rfl rfl (Nat.le_of_ble_eq_true rfl) hk0 dL_law_275 (fun r ν hp => ?_)
  obtain ⟨I1, J1, R1, rfl, Q, hQ, hF⟩ := hN r ν hp
  refine z_istore h dL_law_278 (by decide) ?_
  refine z_aload_n h dL_law_280 rfl rfl ?_
  refine z_aload_n h dL_law_281 rfl rfl ?_
  refine z_iload h dL_law_282 rfl ?_
  refine z_iconst (v := 1) h dL_law_284 (by decide) ?_
  refine z_iadd h dL_law_285 ?_
  refine z_sld h hX (zix_e (j := 6 * j + 1) (nI_add (6 * j) 1) (by omega) (by omega)) dL_law_286 ?_
  refine z_aload_n h dL_law_287 rfl rfl ?_
  refine z_iload h dL_law_288 rfl ?_
  refine z_iconst (v := 2) h dL_law_290 (by decide) ?_
  refine z_iadd h dL_law_291 ?_
  refine z_sld h hX (zix_e (j := 6 * j + 2) (nI_add (6 * j) 2) (by omega) (by omega)) dL_law_292 ?_
  refine z_callVIP h hQ y1 rfl gm_RL_48 rfl ⟨rfl, rfl⟩ 2 (by decide +kernel) ⟨by decide, by decide⟩ rfl rfl (Nat.le_of_ble_eq_true rfl) hk0 dL_law_293 (fun r' ν' hq => ?_)
  obtain ⟨I2, J2, R2, rfl, hR2, e0, eo⟩ := hF r' ν' hq
  refine z_istore h dL_law_296 (by decide) ?_
  refine z_aload_n h dL_law_298 rfl rfl ?_
  refine z_callVI h (c_X7_thrown l y1) y1 rfl gm_RL_49 rfl ⟨rfl, rfl⟩ 0 (by decide +kernel) ⟨by decide, by decide⟩ rfl rfl (Nat.le_of_ble_eq_true rfl) hk0 dL_law_299 ?_
  refine z_iload h dL_law_302 rfl ?_
  refine z_icmp_eq h 309 dL_law_304 (by decide) (fun _ => ?_) (fun z => absurd e0 z)
  refine z_iload h dL_law_309 rfl ?_
  have K : zV X E S (kc + 1) (ks + 6) (I2, J2, R2) 594 (LV j out y x b0) [] := z_widen (by omega) (by omega) (k I2 J2 R2 hR2)
  refine z_if_ne h 326 dL_law_311 (by decide) (fun _ => ?_) (fun z => ?_)
  · refine z_goto h 594 dL_law_326 (by decide) ?_
    exact z_lk K ⟨rfl, rfl, rfl, rfl, rfl, trivial⟩
  · refine z_aload_n h dL_law_314 rfl rfl ?_
    refine z_iconst (v := 0) h dL_law_315 (by decide) ?_
    refine z_lald h ho (zix_e (j := 0) (by decide) (by decide) (by decide)) dL_law_316 ?_
    refine z_iload h dL_law_317 rfl ?_
    refine z_i2l h dL_law_319 rfl ?_
    refine z_lcmp h dL_law_320 ?_
    refine z_if_eq h 326 dL_law_321 (by decide) (fun _ => ?_) (fun w => absurd ((lg_cmp_eq _ _).mpr (eo z)) w)
    refine z_goto h 594 dL_law_326 (by decide) ?_
    exact z_lk K ⟨rfl, rfl, rfl, rfl, rfl, trivial⟩
end LAWC
