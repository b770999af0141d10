/-! law: the row of a fact; part -/
def lwR (f : Nat → Int64) (na : Nat) (ob : Option Nat) (β γ : Int64) : Nat → Int64 := fun k => if k = 8 then γ else if ob = some k then β else if k = na then 1 else if k < 9 then 0 else f k
def lwf (p : Nat → Nat → Int32) (i na : Nat) (ob : Option Nat) : Prop := p i 1 = nI na ∧ na < 8 ∧ ((p i 0 = 0 ∧ p i 2 = -1 ∧ ob = none) ∨ ∃ nb, (p i 0 = 1 ∨ p i 0 = 2 ∨ p i 0 = 3 ∨ p i 0 = 4) ∧ p i 2 = nI nb ∧ nb < 8 ∧ nb ≠ na ∧ ob = some nb)
def lwβ (s : Int32) (n : Int64) : Int64 := if s = 3 then -n else if s = 4 then 1 else -1
def lwγ (s : Int32) (n da db : Int64) : Int64 := if s = 0 then n - da else if s = 3 then n * db - da else if s = 4 then n - da - db else (if s = 1 then n else -n) + db - da
def lwD (p : Nat → Nat → Int32) (m i w : Nat) : Int64 := if p i w = -1 then 0 else (mrM p (p i w) (p i 3) (p i 5) m).toInt64
theorem lw_none {J : Nat → Nat → Int64} {ro na : Nat} {β γ : Int64} : zu (zr J ro (fun j => if j = na then 1 else if j < 9 then 0 else J ro j)) ro 8 γ = zr J ro (lwR (J ro) na none β γ) := by
  rw [zu_zr]
  congr 1
theorem lw_some {J : Nat → Nat → Int64} {ro na nb : Nat} {β γ : Int64} : zu (zu (zr J ro (fun j => if j = na then 1 else if j < 9 then 0 else J ro j)) ro nb β) ro 8 γ = zr J ro (lwR (J ro) na (some nb) β γ) := by
  rw [zu_zr, zu_zr]
  congr 1
  funext k
  unfold lwR
  by_cases h8 : k = 8
  · rw [if_pos h8, if_pos h8]
  · rw [if_neg h8, if_neg h8]
    by_cases w : k = nb
    · rw [if_pos w, if_pos (show some nb = some k by rw [w])]
    · rw [if_neg w, if_neg (show ¬ some nb = some k from fun v => w (by injection v with v; exact v.symm))]

set_option maxHeartbeats 4000000 in
set_option maxRecDepth 100000 in
theorem c_X7_law (l : Launch) {E : zE} {S : zS} {I : Nat → Nat → Int32} {J : Nat → Nat → Int64} {R : Nat → Nat → Option Nat} {x ro ba be : Nat} (hm : MB S R x ro ba be) {td m : Nat} (hD : TD S R I x td m) {i na : Nat} {ob : Option Nat} (hi : i < 10) (hw : lwf (fun i w => tdP I td i w) i na ob) : zN l yX7_law wsX7_law rmX7_law E S [.ref x, .int (nI i)] (I, J, R) (I, zr J ro (lwR (J ro) na ob (lwβ (tdP I td i 0) (tdP I td i 4).toInt64) (lwγ (tdP I td i 0) (tdP I td i 4).toInt64 (lwD (fun i w => tdP I td i w) m i 1) (lwD (fun i w => tdP I td i w) m i 2))), R) := by
  refine z_metN (cc := cX7_law) (maxL := 12) (by decide) rfl (Nat.le_of_ble_eq_true rfl) (fun X h ret => ?_)
  show zV X E S 0 0 (I, J, R) 0 _ []
  obtain ⟨m1, m2, m3, m4, m5, m6, m7, m8⟩ := id hm
  obtain ⟨d1, d2, d3, d4, d5⟩ := id hD
  obtain ⟨w1, w2, w3⟩ := hw
  have w1 : tdP I td i 1 = nI na := w1
  have P92 : ∀ db, db = lwD (fun i w => tdP I td i w) m i 2 → zV X E S 0 0 (I, zr J ro (fun k => if k < 9 then 0 else J ro k), R) 92 [(0, .ref x), (1, .int (nI i)), (4, .int (nI na)), (5, .int (tdP I td i 2)), (6, .long (tdP I td i 4).toInt64), (8, .long (mrM (fun i w => tdP I td i w) (nI na) (tdP I td i 3) (tdP I td i 5) m).toInt64), (10, .long db)] [] := by
    intro db hdb
    subst hdb
    refine z_aload_n h dX7_law_92 rfl rfl ?_
    refine z_getR h (by assumption) rfl kw7 22 (by decide) rfl (by assumption) kf_RX7_36 dX7_law_93 ?_
    refine z_iload h dX7_law_96 rfl ?_
    refine z_lconst (v := 1) h dX7_law_98 (by decide) ?_
    refine z_last h (by assumption) (zix_nI (by omega) (by decide)) dX7_law_99 ?_
    rw [zu_zr]
    refine z_aload_n h dX7_law_100 rfl rfl ?_
    refine z_iload_n h dX7_law_101 rfl rfl ?_
    refine z_iconst (v := 0) h dX7_law_102 (by decide) ?_
    refine z_callVI h (c_X7_of l d1 d2 d3 (w := 0) (by omega)) (by assumption) rfl gm_RX7_214 rfl ⟨rfl, rfl⟩ 2 (by decide +kernel) ⟨by decide, by decide⟩ rfl rfl (Nat.le_of_ble_eq_true rfl) ⟨Nat.zero_le _, Nat.zero_le _⟩ dX7_law_103 ?_
    generalize hdb : lwD (fun i w => tdP I td i w) m i 2 = db at *
    generalize hda : lwD (fun i w => tdP I td i w) m i 1 = da at *
    have hda2 : (mrM (fun i w => tdP I td i w) (nI na) (tdP I td i 3) (tdP I td i 5) m).toInt64 = da := by
      rw [← hda]
      show _ = if tdP I td i 1 = -1 then 0 else (mrM (fun i w => tdP I td i w) (tdP I td i 1) (tdP I td i 3) (tdP I td i 5) m).toInt64
      rw [w1, if_neg (nI_nm1 (by omega))]
    rw [hda2]
    generalize hnn : (tdP I td i 4).toInt64 = nn at *
    rcases w3 with ⟨s0, s2, s3⟩ | ⟨nb, s0, s2, s3, s4, s5⟩
    · have s0 : tdP I td i 0 = 0 := s0
      subst s3
      rw [s0] at ret ⊢
      refine z_tswI h 136 dX7_law_106 (by decide) (by decide) (off := 30) (by decide) (by decide) ?_
      refine z_aload_n h dX7_law_136 rfl rfl ?_
      refine z_getR h (by assumption) rfl kw7 22 (by decide) rfl (by assumption) kf_RX7_36 dX7_law_137 ?_
      refine z_bipush (v := 8) h dX7_law_140 (by decide) ?_
      refine z_lload h dX7_law_142 rfl ?_
      refine z_lload h dX7_law_144 rfl ?_
      refine z_lsub h dX7_law_146 ?_
      rw [show (8 : Int32) = nI 8 from rfl]
      refine z_last h (by assumption) (zix_nI (by decide) (by decide)) dX7_law_147 ?_
      refine z_goto h 246 dX7_law_148 (by decide) ?_
      rw [lw_none (β := lwβ 0 nn)]
      exact ret dX7_law_246
    · have s2 : tdP I td i 2 = nI nb := s2
      subst s5
      rcases s0 with s0 | s0 | s0 | s0
      · have s0 : tdP I td i 0 = 1 := s0
        rw [s0] at ret ⊢
        refine z_tswI h 151 dX7_law_106 (by decide) (by decide) (off := 45) (by decide) (by decide) ?_
        refine z_aload_n h dX7_law_151 rfl rfl ?_
        refine z_getR h (by assumption) rfl kw7 22 (by decide) rfl (by assumption) kf_RX7_36 dX7_law_152 ?_
        refine z_iload h dX7_law_155 rfl ?_
        refine z_ldc2 (v := -1) h (by decide +kernel) dX7_law_157 ?_
        rw [s2]
        refine z_last h (by assumption) (zix_nI (by omega) (by decide)) dX7_law_160 ?_
        refine z_aload_n h dX7_law_161 rfl rfl ?_
        refine z_getR h (by assumption) rfl kw7 22 (by decide) rfl (by assumption) kf_RX7_36 dX7_law_162 ?_
        refine z_bipush (v := 8) h dX7_law_165 (by decide) ?_
        refine z_aload_n h dX7_law_167 rfl rfl ?_
        refine z_iload_n h dX7_law_168 rfl rfl ?_
        refine z_iconst (v := 0) h dX7_law_169 (by decide) ?_
        refine z_callVI h (c_X7_of l d1 d2 d3 (w := 0) (by omega)) (by assumption) rfl gm_RX7_214 rfl ⟨rfl, rfl⟩ 2 (by decide +kernel) ⟨by decide, by decide⟩ rfl rfl (Nat.le_of_ble_eq_true rfl) ⟨Nat.zero_le _, Nat.zero_le _⟩ dX7_law_170 ?_
        rw [s0]
        refine z_iconst (v := 1) h dX7_law_173 (by decide) ?_
        refine z_icmp_ne h 182 dX7_law_174 (by decide) (fun c174 => ?_) (fun c174 => ?_)
        · exact absurd rfl c174
        · refine z_lload h dX7_law_177 rfl ?_
          refine z_goto h 185 dX7_law_179 (by decide) ?_
          refine z_lload h dX7_law_185 rfl ?_
          refine z_ladd h dX7_law_187 ?_
          refine z_lload h dX7_law_188 rfl ?_
          refine z_lsub h dX7_law_190 ?_
          rw [show (8 : Int32) = nI 8 from rfl]
          refine z_last h (by assumption) (zix_nI (by decide) (by decide)) dX7_law_191 ?_
          refine z_goto h 246 dX7_law_192 (by decide) ?_
          rw [lw_some]
          exact ret dX7_law_246
      · have s0 : tdP I td i 0 = 2 := s0
        rw [s0] at ret ⊢
        refine z_tswI h 151 dX7_law_106 (by decide) (by decide) (off := 45) (by decide) (by decide) ?_
        refine z_aload_n h dX7_law_151 rfl rfl ?_
        refine z_getR h (by assumption) rfl kw7 22 (by decide) rfl (by assumption) kf_RX7_36 dX7_law_152 ?_
        refine z_iload h dX7_law_155 rfl ?_
        refine z_ldc2 (v := -1) h (by decide +kernel) dX7_law_157 ?_
        rw [s2]
        refine z_last h (by assumption) (zix_nI (by omega) (by decide)) dX7_law_160 ?_
        refine z_aload_n h dX7_law_161 rfl rfl ?_
        refine z_getR h (by assumption) rfl kw7 22 (by decide) rfl (by assumption) kf_RX7_36 dX7_law_162 ?_
        refine z_bipush (v := 8) h dX7_law_165 (by decide) ?_
        refine z_aload_n h dX7_law_167 rfl rfl ?_
        refine z_iload_n h dX7_law_168 rfl rfl ?_
        refine z_iconst (v := 0) h dX7_law_169 (by decide) ?_
        refine z_callVI h (c_X7_of l d1 d2 d3 (w := 0) (by omega)) (by assumption) rfl gm_RX7_214 rfl ⟨rfl, rfl⟩ 2 (by decide +kernel) ⟨by decide, by decide⟩ rfl rfl (Nat.le_of_ble_eq_true rfl) ⟨Nat.zero_le _, Nat.zero_le _⟩ dX7_law_170 ?_
        rw [s0]
        refine z_iconst (v := 1) h dX7_law_173 (by decide) ?_
        refine z_icmp_ne h 182 dX7_law_174 (by decide) (fun c174 => ?_) (fun c174 => ?_)
        · refine z_lload h dX7_law_182 rfl ?_
          refine z_lneg h dX7_law_184 ?_
          refine z_lload h dX7_law_185 rfl ?_
          refine z_ladd h dX7_law_187 ?_
          refine z_lload h dX7_law_188 rfl ?_
          refine z_lsub h dX7_law_190 ?_
          rw [show (8 : Int32) = nI 8 from rfl]
          refine z_last h (by assumption) (zix_nI (by decide) (by decide)) dX7_law_191 ?_
          refine z_goto h 246 dX7_law_192 (by decide) ?_
          rw [lw_some]
          exact ret dX7_law_246
        · exact absurd c174 (by decide)
      · have s0 : tdP I td i 0 = 3 := s0
        rw [s0] at ret ⊢
        refine z_tswI h 195 dX7_law_106 (by decide) (by decide) (off := 89) (by decide) (by decide) ?_
        refine z_aload_n h dX7_law_195 rfl rfl ?_
        refine z_getR h (by assumption) rfl kw7 22 (by decide) rfl (by assumption) kf_RX7_36 dX7_law_196 ?_
        refine z_iload h dX7_law_199 rfl ?_
        refine z_lload h dX7_law_201 rfl ?_
        refine z_lneg h dX7_law_203 ?_
        rw [s2]
        refine z_last h (by assumption) (zix_nI (by omega) (by decide)) dX7_law_204 ?_
        refine z_aload_n h dX7_law_205 rfl rfl ?_
        refine z_getR h (by assumption) rfl kw7 22 (by decide) rfl (by assumption) kf_RX7_36 dX7_law_206 ?_
        refine z_bipush (v := 8) h dX7_law_209 (by decide) ?_
        refine z_lload h dX7_law_211 rfl ?_
        refine z_lload h dX7_law_213 rfl ?_
        refine z_lmul h dX7_law_215 ?_
        refine z_lload h dX7_law_216 rfl ?_
        refine z_lsub h dX7_law_218 ?_
        rw [show (8 : Int32) = nI 8 from rfl]
        refine z_last h (by assumption) (zix_nI (by decide) (by decide)) dX7_law_219 ?_
        refine z_goto h 246 dX7_law_220 (by decide) ?_
        rw [lw_some]
        exact ret dX7_law_246
      · have s0 : tdP I td i 0 = 4 := s0
        rw [s0] at ret ⊢
        refine z_tswO h 223 dX7_law_106 (by decide) (by decide) ?_
        refine z_aload_n h dX7_law_223 rfl rfl ?_
        refine z_getR h (by assumption) rfl kw7 22 (by decide) rfl (by assumption) kf_RX7_36 dX7_law_224 ?_
        refine z_iload h dX7_law_227 rfl ?_
        refine z_lconst (v := 1) h dX7_law_229 (by decide) ?_
        rw [s2]
        refine z_last h (by assumption) (zix_nI (by omega) (by decide)) dX7_law_230 ?_
        refine z_aload_n h dX7_law_231 rfl rfl ?_
        refine z_getR h (by assumption) rfl kw7 22 (by decide) rfl (by assumption) kf_RX7_36 dX7_law_232 ?_
        refine z_bipush (v := 8) h dX7_law_235 (by decide) ?_
        refine z_lload h dX7_law_237 rfl ?_
        refine z_lload h dX7_law_239 rfl ?_
        refine z_lsub h dX7_law_241 ?_
        refine z_lload h dX7_law_242 rfl ?_
        refine z_lsub h dX7_law_244 ?_
        rw [show (8 : Int32) = nI 8 from rfl]
        refine z_last h (by assumption) (zix_nI (by decide) (by decide)) dX7_law_245 ?_
        rw [lw_some]
        exact ret dX7_law_246
  have L2 : ∀ (d k : Nat), k + d = 9 → zV X E S 0 0 (I, zr J ro (fun j => if j < k then (fun _ => 0) j else J ro j), R) 2 [(0, .ref x), (1, .int (nI i)), (2, .int (nI k))] [] := by
    intro d
    induction d with
    | zero =>
      intro k hk
      have hi9 : k = 9 := by omega
      subst hi9
      refine z_iload_n h dX7_law_2 rfl rfl ?_
      refine z_bipush (v := 9) h dX7_law_3 (by decide) ?_
      rw [show (9 : Int32) = nI 9 from rfl]
      refine z_icmp_ge h 21 dX7_law_5 (by decide) (fun c5 => ?_) (fun c5 => ?_)
      · refine z_aload_n h dX7_law_21 rfl rfl ?_
        refine z_iload_n h dX7_law_22 rfl rfl ?_
        refine z_iconst (v := 3) h dX7_law_23 (by decide) ?_
        refine z_callVI h (c_X7_of l d1 d2 d3 (w := 3) (by omega)) (by assumption) rfl gm_RX7_214 rfl ⟨rfl, rfl⟩ 2 (by decide +kernel) ⟨by decide, by decide⟩ rfl rfl (Nat.le_of_ble_eq_true rfl) ⟨Nat.zero_le _, Nat.zero_le _⟩ dX7_law_24 ?_
        refine z_istore_n h dX7_law_27 rfl (by decide) ?_
        refine z_aload_n h dX7_law_28 rfl rfl ?_
        refine z_iload_n h dX7_law_29 rfl rfl ?_
        refine z_iconst (v := 5) h dX7_law_30 (by decide) ?_
        refine z_callVI h (c_X7_of l d1 d2 d3 (w := 5) (by omega)) (by assumption) rfl gm_RX7_214 rfl ⟨rfl, rfl⟩ 2 (by decide +kernel) ⟨by decide, by decide⟩ rfl rfl (Nat.le_of_ble_eq_true rfl) ⟨Nat.zero_le _, Nat.zero_le _⟩ dX7_law_31 ?_
        refine z_istore_n h dX7_law_34 rfl (by decide) ?_
        refine z_aload_n h dX7_law_35 rfl rfl ?_
        refine z_iload_n h dX7_law_36 rfl rfl ?_
        refine z_iconst (v := 1) h dX7_law_37 (by decide) ?_
        refine z_callVI h (c_X7_of l d1 d2 d3 (w := 1) (by omega)) (by assumption) rfl gm_RX7_214 rfl ⟨rfl, rfl⟩ 2 (by decide +kernel) ⟨by decide, by decide⟩ rfl rfl (Nat.le_of_ble_eq_true rfl) ⟨Nat.zero_le _, Nat.zero_le _⟩ dX7_law_38 ?_
        refine z_istore h dX7_law_41 (by decide) ?_
        refine z_aload_n h dX7_law_43 rfl rfl ?_
        refine z_iload_n h dX7_law_44 rfl rfl ?_
        refine z_iconst (v := 2) h dX7_law_45 (by decide) ?_
        refine z_callVI h (c_X7_of l d1 d2 d3 (w := 2) (by omega)) (by assumption) rfl gm_RX7_214 rfl ⟨rfl, rfl⟩ 2 (by decide +kernel) ⟨by decide, by decide⟩ rfl rfl (Nat.le_of_ble_eq_true rfl) ⟨Nat.zero_le _, Nat.zero_le _⟩ dX7_law_46 ?_
        refine z_istore h dX7_law_49 (by decide) ?_
        refine z_aload_n h dX7_law_51 rfl rfl ?_
        refine z_iload_n h dX7_law_52 rfl rfl ?_
        refine z_iconst (v := 4) h dX7_law_53 (by decide) ?_
        refine z_callVI h (c_X7_of l d1 d2 d3 (w := 4) (by omega)) (by assumption) rfl gm_RX7_214 rfl ⟨rfl, rfl⟩ 2 (by decide +kernel) ⟨by decide, by decide⟩ rfl rfl (Nat.le_of_ble_eq_true rfl) ⟨Nat.zero_le _, Nat.zero_le _⟩ dX7_law_54 ?_
        refine z_i2l h dX7_law_57 rfl ?_
        refine z_lstore h dX7_law_58 (by decide) ?_
        rw [w1]
        refine z_aload_n h dX7_law_60 rfl rfl ?_
        refine z_iload h dX7_law_61 rfl ?_
        refine z_iload_n h dX7_law_63 rfl rfl ?_
        refine z_iload_n h dX7_law_64 rfl rfl ?_
        refine z_callVI h (c_X7_more l hD) (by assumption) rfl gm_RX7_223 rfl ⟨rfl, rfl⟩ 3 (by decide +kernel) ⟨by decide, by decide⟩ rfl rfl (Nat.le_of_ble_eq_true rfl) ⟨Nat.zero_le _, Nat.zero_le _⟩ dX7_law_65 ?_
        refine z_i2l h dX7_law_68 rfl ?_
        refine z_lstore h dX7_law_69 (by decide) ?_
        refine z_iload h dX7_law_71 rfl ?_
        refine z_iconst (v := -1) h dX7_law_73 (by decide) ?_
        refine z_icmp_ne h 81 dX7_law_74 (by decide) (fun c74 => ?_) (fun c74 => ?_)
        · refine z_aload_n h dX7_law_81 rfl rfl ?_
          refine z_iload h dX7_law_82 rfl ?_
          refine z_iload_n h dX7_law_84 rfl rfl ?_
          refine z_iload_n h dX7_law_85 rfl rfl ?_
          refine z_callVI h (c_X7_more l hD) (by assumption) rfl gm_RX7_223 rfl ⟨rfl, rfl⟩ 3 (by decide +kernel) ⟨by decide, by decide⟩ rfl rfl (Nat.le_of_ble_eq_true rfl) ⟨Nat.zero_le _, Nat.zero_le _⟩ dX7_law_86 ?_
          refine z_i2l h dX7_law_89 rfl ?_
          refine z_lstore h dX7_law_90 (by decide) ?_
          first | exact z_lk (P92 _ (by unfold lwD; rw [if_pos c74])) ⟨rfl, rfl, rfl, rfl, rfl, rfl, rfl, trivial⟩ | exact z_lk (P92 _ (by unfold lwD; rw [if_neg c74])) ⟨rfl, rfl, rfl, rfl, rfl, rfl, rfl, trivial⟩
        · refine z_lconst (v := 0) h dX7_law_77 (by decide) ?_
          refine z_goto h 90 dX7_law_78 (by decide) ?_
          refine z_lstore h dX7_law_90 (by decide) ?_
          first | exact z_lk (P92 _ (by unfold lwD; rw [if_pos c74])) ⟨rfl, rfl, rfl, rfl, rfl, rfl, rfl, trivial⟩ | exact z_lk (P92 _ (by unfold lwD; rw [if_neg c74])) ⟨rfl, rfl, rfl, rfl, rfl, rfl, rfl, trivial⟩
      · exact absurd (nI_le (by decide) (by decide)) c5
    | succ d ih =>
      intro k hk
      refine z_iload_n h dX7_law_2 rfl rfl ?_
      refine z_bipush (v := 9) h dX7_law_3 (by decide) ?_
      rw [show (9 : Int32) = nI 9 from rfl]
      refine z_icmp_ge h 21 dX7_law_5 (by decide) (fun c5 => ?_) (fun c5 => ?_)
      · exact absurd (nle (by decide) (by omega) c5) (by omega)
      · refine z_aload_n h dX7_law_8 rfl rfl ?_
        refine z_getR h (by assumption) rfl kw7 22 (by decide) rfl (by assumption) kf_RX7_36 dX7_law_9 ?_
        refine z_iload_n h dX7_law_12 rfl rfl ?_
        refine z_lconst (v := 0) h dX7_law_13 (by decide) ?_
        refine z_last h (by assumption) (zix_nI (by omega) (by decide)) dX7_law_14 ?_
        rw [row_up (v := fun _ => 0)]
        refine z_iinc h dX7_law_15 rfl (nI_1 k) (by decide) ?_
        refine z_goto h 2 dX7_law_18 (by decide) ?_
        exact z_lk (ih (k + 1) (by omega)) ⟨rfl, rfl, rfl, trivial⟩
  refine z_iconst (v := 0) h dX7_law_0 (by decide) ?_
  refine z_istore_n h dX7_law_1 rfl (by decide) ?_
  have e := L2 9 0 rfl
  rw [show (fun k => if k < 0 then (fun _ => (0 : Int64)) k else J ro k) = J ro from row_0, zr_id] at e
  exact z_lk e ⟨rfl, rfl, rfl, trivial⟩

def ptg (t b : Int64) : Int64 := if 0 ≤ b then cg t b else -(cg t b)
def ptM (w : Int32) (t b : Int64) : Int64 := if w = 0 then t / ptg t b else b / ptg t b
theorem ptg_ne {t b : Int64} (h : ¬ b = 0) : ¬ ptg t b = 0 := by
  have h1 : ¬ cg t b = 0 := fun q => by
    have := cg_na t b
    rw [i64_na.mp q] at this
    have h2 := (Nat.gcd_eq_zero_iff.mp this.symm).2
    exact h (i64_na.mpr h2)
  unfold ptg
  split
  · exact h1
  · intro q
    apply h1
    have := congrArg (fun z : Int64 => -z) q
    simpa using this

set_option maxHeartbeats 4000000 in
set_option maxRecDepth 100000 in
theorem c_X7_part (l : Launch) {E : zE} {S : zS} {I : Nat → Nat → Int32} {J : Nat → Nat → Int64} {R : Nat → Nat → Option Nat} {x : Nat} {w : Int32} (d1 : zO S x 7) (hb : ¬ J x 26 = 0) : zL l yX7_part wsX7_part rmX7_part E S [.ref x, .int w] (I, J, R) (ptM w (J x 25) (J x 26)) (I, J, R) := by
  refine z_metL (cc := cX7_part) (maxL := 4) (by decide) rfl (Nat.le_of_ble_eq_true rfl) (fun X h ret => ?_)
  show zV X E S 0 0 (I, J, R) 0 _ []
  refine z_aload_n h dX7_part_0 rfl rfl ?_
  refine z_getJ h (by assumption) rfl kw7 25 (by decide) rfl kf_RX7_244 dX7_part_1 ?_
  refine z_aload_n h dX7_part_4 rfl rfl ?_
  refine z_getJ h (by assumption) rfl kw7 26 (by decide) rfl kf_RX7_248 dX7_part_5 ?_
  refine z_callSL h (c_X7_common l) (va_cwS 2 h.2.2.2.2.1 gm_RX7_231 rfl rfl rfl (by decide +kernel) ⟨by decide, by decide⟩) rfl rfl (Nat.le_of_ble_eq_true rfl) ⟨Nat.zero_le _, Nat.zero_le _⟩ dX7_part_8 ?_
  refine z_lstore_n h dX7_part_11 rfl (by decide) ?_
  refine z_aload_n h dX7_part_12 rfl rfl ?_
  refine z_getJ h (by assumption) rfl kw7 26 (by decide) rfl kf_RX7_248 dX7_part_13 ?_
  refine z_lconst (v := 0) h dX7_part_16 (by decide) ?_
  refine z_lcmp h dX7_part_17 ?_
  refine z_if_ge h 24 dX7_part_18 (by decide) (fun c18 => ?_) (fun c18 => ?_)
  · have c18 := (lg_cmp_ge _ _).mp c18
    have e18 : cg (J x 25) (J x 26) = ptg (J x 25) (J x 26) := (if_pos c18).symm
    rw [e18]
    refine z_iload_n h dX7_part_24 rfl rfl ?_
    refine z_if_ne h 37 dX7_part_25 (by decide) (fun c25 => ?_) (fun c25 => ?_)
    · rw [show ptM w (J x 25) (J x 26) = J x 26 / ptg (J x 25) (J x 26) from if_neg c25] at ret
      refine z_aload_n h dX7_part_37 rfl rfl ?_
      refine z_getJ h (by assumption) rfl kw7 26 (by decide) rfl kf_RX7_248 dX7_part_38 ?_
      refine z_lload_n h dX7_part_41 rfl rfl ?_
      refine z_ldiv h dX7_part_42 (ptg_ne hb) ?_
      exact ret dX7_part_43
    · rw [show ptM w (J x 25) (J x 26) = J x 25 / ptg (J x 25) (J x 26) from if_pos c25] at ret
      refine z_aload_n h dX7_part_28 rfl rfl ?_
      refine z_getJ h (by assumption) rfl kw7 25 (by decide) rfl kf_RX7_244 dX7_part_29 ?_
      refine z_lload_n h dX7_part_32 rfl rfl ?_
      refine z_ldiv h dX7_part_33 (ptg_ne hb) ?_
      refine z_goto h 43 dX7_part_34 (by decide) ?_
      exact ret dX7_part_43
  · have c18 := mt (lg_cmp_ge _ _).mpr c18
    have e18 : -(cg (J x 25) (J x 26)) = ptg (J x 25) (J x 26) := (if_neg c18).symm
    refine z_lload_n h dX7_part_21 rfl rfl ?_
    refine z_lneg h dX7_part_22 ?_
    refine z_lstore_n h dX7_part_23 rfl (by decide) ?_
    rw [e18]
    refine z_iload_n h dX7_part_24 rfl rfl ?_
    refine z_if_ne h 37 dX7_part_25 (by decide) (fun c25 => ?_) (fun c25 => ?_)
    · rw [show ptM w (J x 25) (J x 26) = J x 26 / ptg (J x 25) (J x 26) from if_neg c25] at ret
      refine z_aload_n h dX7_part_37 rfl rfl ?_
      refine z_getJ h (by assumption) rfl kw7 26 (by decide) rfl kf_RX7_248 dX7_part_38 ?_
      refine z_lload_n h dX7_part_41 rfl rfl ?_
      refine z_ldiv h dX7_part_42 (ptg_ne hb) ?_
      exact ret dX7_part_43
    · rw [show ptM w (J x 25) (J x 26) = J x 25 / ptg (J x 25) (J x 26) from if_pos c25] at ret
      refine z_aload_n h dX7_part_28 rfl rfl ?_
      refine z_getJ h (by assumption) rfl kw7 25 (by decide) rfl kf_RX7_244 dX7_part_29 ?_
      refine z_lload_n h dX7_part_32 rfl rfl ?_
      refine z_ldiv h dX7_part_33 (ptg_ne hb) ?_
      refine z_goto h 43 dX7_part_34 (by decide) ?_
      exact ret dX7_part_43
