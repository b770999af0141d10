/-! THE REFERENCE's rows: x, its row ro, its basis ba, where they begin be -/
def MB (S : zS) (R : Nat → Nat → Option Nat) (x ro ba be : Nat) : Prop := zO S x 7 ∧ R x 21 = some ba ∧ R x 22 = some ro ∧ R x 23 = some be ∧ zA S ba 10 72 ∧ zA S ro 10 9 ∧ zA S be 9 8 ∧ ro ≠ ba
theorem MB.xbe {S : zS} {R : Nat → Nat → Option Nat} {x ro ba be : Nat} (h : MB S R x ro ba be) : x ≠ be := fun q => absurd (h.1.2.symm.trans (q ▸ h.2.2.2.2.2.2.1.2.1)) (by decide)
theorem MB.xro {S : zS} {R : Nat → Nat → Option Nat} {x ro ba be : Nat} (h : MB S R x ro ba be) : x ≠ ro := fun q => absurd (h.1.2.symm.trans (q ▸ h.2.2.2.2.2.1.2.1)) (by decide)
theorem MB.xba {S : zS} {R : Nat → Nat → Option Nat} {x ro ba be : Nat} (h : MB S R x ro ba be) : x ≠ ba := fun q => absurd (h.1.2.symm.trans (q ▸ h.2.2.2.2.1.2.1)) (by decide)
def gcf (v : Nat → Int64) : Nat → Int64
  | 0 => 0
  | k + 1 => cg (gcf v k) (v k)
def elv (r b : Nat → Int64) (c p : Int64) : Nat → Int64 := fun k => r k * p - b k * c
def elx (w : Nat) (r b : Nat → Int64) (c p : Int64) : Nat → Int64 := fun k => if k < w then (if 1 < gcf (elv r b c p) w then elv r b c p k / gcf (elv r b c p) w else elv r b c p k) else r k
def rdR (bs : Nat → Nat → Int64) (bg : Nat → Nat) (r : Nat → Int64) : Nat → (Nat → Int64)
  | 0 => r
  | j + 1 => if rdR bs bg r j (bg j) = 0 then rdR bs bg r j else elx 9 (rdR bs bg r j) (bs j) (rdR bs bg r j (bg j)) (bs j (bg j))
/-- the first place that is not 0 -/
def fsN (r : Nat → Int64) : Nat → Nat → Nat
  | 0, i => i
  | d + 1, i => if r i = 0 then fsN r d (i + 1) else i
theorem row_up {α : Type} {J : Nat → Nat → α} {a i : Nat} {v q : Nat → α} : zu (zr J a (fun k => if k < i then v k else q k)) a i (v i) = zr J a (fun k => if k < i + 1 then v k else q k) := by
  rw [zu_zr]
  congr 1
  funext k
  by_cases h : k = i
  · subst h; rw [if_pos rfl, if_pos (Nat.lt_succ_self _)]
  · rw [if_neg h]
    by_cases g : k < i
    · rw [if_pos g, if_pos (by omega)]
    · rw [if_neg g, if_neg (by omega)]
theorem row_0 {α : Type} {q v : Nat → α} : (fun k => if k < 0 then v k else q k) = q := funext fun k => if_neg (Nat.not_lt_zero k)
theorem bas_up {α : Type} {J : Nat → Nat → α} {a i n : Nat} {v q : Nat → α} : zu (zr J a (fun m => if n ≤ m ∧ m < n + i then v (m - n) else q m)) a (n + i) (v i) = zr J a (fun m => if n ≤ m ∧ m < n + (i + 1) then v (m - n) else q m) := by
  rw [zu_zr]
  congr 1
  funext k
  by_cases h : k = n + i
  · subst h; rw [if_pos rfl, if_pos (by omega), show n + i - n = i by omega]
  · rw [if_neg h]
    by_cases g : n ≤ k ∧ k < n + i
    · rw [if_pos g, if_pos (by omega)]
    · rw [if_neg g, if_neg (by omega)]
theorem bas_0 {α : Type} {J : Nat → Nat → α} {a n : Nat} {v : Nat → α} : zr J a (fun m => if n ≤ m ∧ m < n + 0 then v (m - n) else J a m) = J := by
  rw [show (fun m => if n ≤ m ∧ m < n + 0 then v (m - n) else J a m) = J a from funext fun k => if_neg (by omega)]
  exact zr_id
theorem fsN_le (r : Nat → Int64) : ∀ d i, fsN r d i ≤ i + d
  | 0, i => Nat.le_refl _
  | d + 1, i => by
    unfold fsN
    split
    · have := fsN_le r d (i + 1); omega
    · omega

theorem nI_inj {a b : Nat} (ha : a < 2 ^ 31) (hb : b < 2 ^ 31) (h : nI a = nI b) : a = b := by
  have h1 := (nI_leI ha hb).mp (by rw [h]; exact Int32.le_refl _)
  have h2 := (nI_leI hb ha).mp (by rw [h]; exact Int32.le_refl _)
  omega
theorem i64_pos {g : Int64} (h : 1 < g) : ¬ g = 0 := fun q => by rw [q] at h; exact absurd h (by decide)

set_option maxHeartbeats 4000000 in
set_option maxRecDepth 100000 in
theorem c_X7_adds (l : Launch) {E : zE} {S : zS} {I : Nat → Nat → Int32} {J : Nat → Nat → Int64} {R : Nat → Nat → Option Nat} {x ro ba be : Nat} (hm : MB S R x ro ba be) {n : Nat} {bg : Nat → Nat} (hn : I x 24 = nI n) (hn8 : n ≤ 8) (hbg : ∀ j, j < n → I be j = nI (bg j) ∧ bg j < 8) (hf : fsN (rdR (fun j k => J ba (9 * j + k)) bg (J ro) n) 8 0 < 8 → n < 8) : zIP l yX7_adds wsX7_adds rmX7_adds E S [.ref x] (I, J, R) (fun r ν => (fsN (rdR (fun j k => J ba (9 * j + k)) bg (J ro) n) 8 0 = 8 ∧ r = b2i (decide (rdR (fun j k => J ba (9 * j + k)) bg (J ro) n 8 = 0)) ∧ ν = (I, zr J ro (rdR (fun j k => J ba (9 * j + k)) bg (J ro) n), R)) ∨ (fsN (rdR (fun j k => J ba (9 * j + k)) bg (J ro) n) 8 0 < 8 ∧ r = 1 ∧ ν = (zu (zu I be n (nI (fsN (rdR (fun j k => J ba (9 * j + k)) bg (J ro) n) 8 0))) x 24 (nI (n + 1)), zr (zr J ro (rdR (fun j k => J ba (9 * j + k)) bg (J ro) n)) ba (fun m => if 9 * n ≤ m ∧ m < 9 * n + 9 then rdR (fun j k => J ba (9 * j + k)) bg (J ro) n (m - 9 * n) else J ba m), R))) := by
  refine z_metIP (cc := cX7_adds) (maxL := 9) (ty := .boolean) (by decide) rfl (Nat.le_of_ble_eq_true rfl) (fun X h ret => ?_)
  show zV X E S 0 0 (I, J, R) 0 _ []
  obtain ⟨m1, m2, m3, m4, m5, m6, m7, m8⟩ := id hm
  have hxbe := hm.xbe
  generalize hbs : (fun j k => J ba (9 * j + k)) = bs at *
  have hbs2 : ∀ j k, J ba (9 * j + k) = bs j k := fun j k => by rw [← hbs]
  generalize hrr : rdR bs bg (J ro) n = rr at *
  generalize hfs : fsN rr 8 0 = f0 at *
  have H206 : ∀ (d i : Nat), n < 8 → f0 < 8 → i + d = 9 → zV X E S 0 0 (I, zr (zr J ro rr) ba (fun m => if 9 * n ≤ m ∧ m < 9 * n + i then rr (m - 9 * n) else J ba m), R) 206 [(0, .ref x), (1, .int (nI f0)), (2, .int (nI i))] [] := by
    intro d
    induction d with
    | zero =>
      intro i hn8 hf8 hi
      have hi9 : i = 9 := by omega
      subst hi9
      refine z_iload_n h dX7_adds_206 rfl rfl ?_
      refine z_bipush (v := 9) h dX7_adds_207 (by decide) ?_
      rw [show (9 : Int32) = nI 9 from rfl]
      refine z_icmp_ge h 238 dX7_adds_209 (by decide) (fun c209 => ?_) (fun c209 => ?_)
      · refine z_aload_n h dX7_adds_238 rfl rfl ?_
        refine z_getR h (by assumption) rfl kw7 23 (by decide) rfl (by assumption) kf_RX7_39 dX7_adds_239 ?_
        refine z_aload_n h dX7_adds_242 rfl rfl ?_
        refine z_getI h (by assumption) rfl kw7 24 (by decide) rfl kf_RX7_228 dX7_adds_243 ?_
        rw [hn]
        refine z_iload_n h dX7_adds_246 rfl rfl ?_
        refine z_iast h (by assumption) (zix_nI hn8 (by decide)) dX7_adds_247 ?_
        refine z_aload_n h dX7_adds_248 rfl rfl ?_
        refine z_dup h dX7_adds_249 rfl ?_
        refine z_getI h (by assumption) rfl kw7 24 (by decide) rfl kf_RX7_228 dX7_adds_250 ?_
        rw [zu_a hxbe, hn]
        refine z_iconst (v := 1) h dX7_adds_253 (by decide) ?_
        refine z_iadd h dX7_adds_254 ?_
        rw [nI_1]
        refine z_putI h (by assumption) rfl kw7 24 (by decide) rfl rfl (rfl) (rfl) kf_RX7_228 dX7_adds_255 ?_
        refine z_iconst (v := 1) h dX7_adds_258 (by decide) ?_
        exact ret (Or.inr ⟨hf8, rfl, rfl⟩) dX7_adds_259 rfl
      · exact absurd (nI_le (by decide) (by decide)) c209
    | succ d ih =>
      intro i hn8 hf8 hi
      have ih2 := ih (i + 1) hn8 hf8 (by omega)
      refine z_iload_n h dX7_adds_206 rfl rfl ?_
      refine z_bipush (v := 9) h dX7_adds_207 (by decide) ?_
      rw [show (9 : Int32) = nI 9 from rfl]
      refine z_icmp_ge h 238 dX7_adds_209 (by decide) (fun c209 => ?_) (fun c209 => ?_)
      · exact absurd (nle (by decide) (by omega) c209) (by omega)
      · refine z_aload_n h dX7_adds_212 rfl rfl ?_
        refine z_getR h (by assumption) rfl kw7 21 (by decide) rfl (by assumption) kf_RX7_32 dX7_adds_213 ?_
        refine z_bipush (v := 9) h dX7_adds_216 (by decide) ?_
        refine z_aload_n h dX7_adds_218 rfl rfl ?_
        refine z_getI h (by assumption) rfl kw7 24 (by decide) rfl kf_RX7_228 dX7_adds_219 ?_
        rw [show (9 : Int32) = nI 9 from rfl]
        rw [hn]
        refine z_imul h dX7_adds_222 ?_
        refine z_iload_n h dX7_adds_223 rfl rfl ?_
        rw [pk_mul]
        refine z_iadd h dX7_adds_224 ?_
        rw [nI_add]
        refine z_aload_n h dX7_adds_225 rfl rfl ?_
        refine z_getR h (by assumption) rfl kw7 22 (by decide) rfl (by assumption) kf_RX7_36 dX7_adds_226 ?_
        refine z_iload_n h dX7_adds_229 rfl rfl ?_
        refine z_lald h (by assumption) (zix_nI (by omega) (by decide)) dX7_adds_230 ?_
        rw [zr_ak m8, zr_sk]
        refine z_last h (by assumption) (zix_nI (by omega) (by decide)) dX7_adds_231 ?_
        rw [bas_up]
        refine z_iinc h dX7_adds_232 rfl (nI_1 i) (by decide) ?_
        refine z_goto h 206 dX7_adds_235 (by decide) ?_
        exact z_lk ih2 ⟨rfl, rfl, rfl, trivial⟩
  have G180 : ∀ i, i = f0 → i < 8 → zV X E S 0 0 (I, zr J ro rr, R) 180 [(0, .ref x), (1, .int (nI i))] [] := by
    intro i hi hi8
    subst hi
    have hn8 := hf hi8
    refine z_iload_n h dX7_adds_180 rfl rfl ?_
    refine z_bipush (v := 8) h dX7_adds_181 (by decide) ?_
    rw [show (8 : Int32) = nI 8 from rfl]
    refine z_icmp_ne h 204 dX7_adds_183 (by decide) (fun c183 => ?_) (fun c183 => ?_)
    · refine z_iconst (v := 0) h dX7_adds_204 (by decide) ?_
      refine z_istore_n h dX7_adds_205 rfl (by decide) ?_
      have e := H206 9 0 hn8 hi8 rfl
      have e0 : zr (zr J ro rr) ba (fun m => if 9 * n ≤ m ∧ m < 9 * n + 0 then rr (m - 9 * n) else J ba m) = zr J ro rr := by
        have := bas_0 (J := zr J ro rr) (a := ba) (n := 9 * n) (v := rr)
        rw [zr_a (Ne.symm m8)] at this
        exact this
      rw [e0] at e
      exact z_lk e ⟨rfl, rfl, rfl, trivial⟩
    · exact absurd (nI_inj (by omega) (by decide) c183) (by omega)
  have F157 : ∀ (d i : Nat), i + d = 8 → fsN rr d i = f0 → zV X E S 0 0 (I, zr J ro rr, R) 157 [(0, .ref x), (1, .int (nI i))] [] := by
    intro d
    induction d with
    | zero =>
      intro i hi hfi
      have hi8 : i = 8 := by omega
      subst hi8
      have hf8 : 8 = f0 := hfi
      refine z_iload_n h dX7_adds_157 rfl rfl ?_
      refine z_bipush (v := 8) h dX7_adds_158 (by decide) ?_
      rw [show (8 : Int32) = nI 8 from rfl]
      refine z_icmp_ge h 180 dX7_adds_160 (by decide) (fun c160 => ?_) (fun c160 => ?_)
      · refine z_iload_n h dX7_adds_180 rfl rfl ?_
        refine z_bipush (v := 8) h dX7_adds_181 (by decide) ?_
        rw [show (8 : Int32) = nI 8 from rfl]
        refine z_icmp_ne h 204 dX7_adds_183 (by decide) (fun c183 => ?_) (fun c183 => ?_)
        · exact absurd rfl c183
        · refine z_aload_n h dX7_adds_186 rfl rfl ?_
          refine z_getR h (by assumption) rfl kw7 22 (by decide) rfl (by assumption) kf_RX7_36 dX7_adds_187 ?_
          refine z_bipush (v := 8) h dX7_adds_190 (by decide) ?_
          rw [show (8 : Int32) = nI 8 from rfl]
          refine z_lald h (by assumption) (zix_nI (by decide) (by decide)) dX7_adds_192 ?_
          refine z_lconst (v := 0) h dX7_adds_193 (by decide) ?_
          rw [zr_sk]
          refine z_lcmp h dX7_adds_194 ?_
          refine z_if_ne h 202 dX7_adds_195 (by decide) (fun c195 => ?_) (fun c195 => ?_)
          · have c195 := mt (lg_cmp_eq _ _).mpr c195
            refine z_iconst (v := 0) h dX7_adds_202 (by decide) ?_
            first | exact ret (Or.inl ⟨hf8.symm, (b2i_t (decide_eq_true c195)).symm, rfl⟩) dX7_adds_203 rfl | exact ret (Or.inl ⟨hf8.symm, (b2i_f (decide_eq_false c195)).symm, rfl⟩) dX7_adds_203 rfl
          · have c195 := (lg_cmp_eq _ _).mp c195
            refine z_iconst (v := 1) h dX7_adds_198 (by decide) ?_
            refine z_goto h 203 dX7_adds_199 (by decide) ?_
            first | exact ret (Or.inl ⟨hf8.symm, (b2i_t (decide_eq_true c195)).symm, rfl⟩) dX7_adds_203 rfl | exact ret (Or.inl ⟨hf8.symm, (b2i_f (decide_eq_false c195)).symm, rfl⟩) dX7_adds_203 rfl
      · exact absurd (nI_le (by decide) (by decide)) c160
    | succ d ih =>
      intro i hi hfi
      refine z_iload_n h dX7_adds_157 rfl rfl ?_
      refine z_bipush (v := 8) h dX7_adds_158 (by decide) ?_
      rw [show (8 : Int32) = nI 8 from rfl]
      refine z_icmp_ge h 180 dX7_adds_160 (by decide) (fun c160 => ?_) (fun c160 => ?_)
      · exact absurd (nle (by decide) (by omega) c160) (by omega)
      · refine z_aload_n h dX7_adds_163 rfl rfl ?_
        refine z_getR h (by assumption) rfl kw7 22 (by decide) rfl (by assumption) kf_RX7_36 dX7_adds_164 ?_
        refine z_iload_n h dX7_adds_167 rfl rfl ?_
        refine z_lald h (by assumption) (zix_nI (by omega) (by decide)) dX7_adds_168 ?_
        rw [zr_sk]
        refine z_lconst (v := 0) h dX7_adds_169 (by decide) ?_
        refine z_lcmp h dX7_adds_170 ?_
        refine z_if_ne h 180 dX7_adds_171 (by decide) (fun c171 => ?_) (fun c171 => ?_)
        · have c171 := mt (lg_cmp_eq _ _).mpr c171
          exact z_lk (G180 i (by unfold fsN at hfi; rw [if_neg c171] at hfi; exact hfi) (by omega)) ⟨rfl, rfl, trivial⟩
        · have c171 := (lg_cmp_eq _ _).mp c171
          refine z_iinc h dX7_adds_174 rfl (nI_1 i) (by decide) ?_
          refine z_goto h 157 dX7_adds_177 (by decide) ?_
          exact z_lk (ih (i + 1) (by omega) (by unfold fsN at hfi; rw [if_pos c171] at hfi; exact hfi)) ⟨rfl, rfl, trivial⟩
  have LA : ∀ (d j : Nat), j + d = n → zV X E S 0 0 (I, zr J ro (rdR bs bg (J ro) j), R) 2 [(0, .ref x), (1, .int (nI j))] [] := by
    intro d
    induction d with
    | zero =>
      intro j hj
      have hjn : j = n := by omega
      subst hjn
      rw [hrr]
      refine z_iload_n h dX7_adds_2 rfl rfl ?_
      refine z_aload_n h dX7_adds_3 rfl rfl ?_
      refine z_getI h (by assumption) rfl kw7 24 (by decide) rfl kf_RX7_228 dX7_adds_4 ?_
      rw [hn]
      refine z_icmp_ge h 155 dX7_adds_7 (by decide) (fun c7 => ?_) (fun c7 => ?_)
      · refine z_iconst (v := 0) h dX7_adds_155 (by decide) ?_
        refine z_istore_n h dX7_adds_156 rfl (by decide) ?_
        exact z_lk (F157 8 0 rfl hfs) ⟨rfl, rfl, trivial⟩
      · exact absurd (nI_le (Nat.le_refl _) (by omega)) c7
    | succ d ih =>
      intro j hj
      have ih2 := ih (j + 1) (by omega)
      obtain ⟨b1, b2⟩ := hbg j (by omega)
      unfold rdR at ih2
      generalize hq : rdR bs bg (J ro) j = q at *
      have N149 : ∀ (Jn : Nat → Nat → Int64), Jn = zr J ro (if q (bg j) = 0 then q else elx 9 q (bs j) (q (bg j)) (bs j (bg j))) → zV X E S 0 0 (I, Jn, R) 149 [(0, .ref x), (1, .int (nI j))] [] := by
        intro Jn hJ
        rw [hJ]
        refine z_iinc h dX7_adds_149 rfl (nI_1 j) (by decide) ?_
        refine z_goto h 2 dX7_adds_152 (by decide) ?_
        exact z_lk ih2 ⟨rfl, rfl, trivial⟩
      refine z_iload_n h dX7_adds_2 rfl rfl ?_
      refine z_aload_n h dX7_adds_3 rfl rfl ?_
      refine z_getI h (by assumption) rfl kw7 24 (by decide) rfl kf_RX7_228 dX7_adds_4 ?_
      rw [hn]
      refine z_icmp_ge h 155 dX7_adds_7 (by decide) (fun c7 => ?_) (fun c7 => ?_)
      · exact absurd (nle (by omega) (by omega) c7) (by omega)
      · refine z_aload_n h dX7_adds_10 rfl rfl ?_
        refine z_getR h (by assumption) rfl kw7 22 (by decide) rfl (by assumption) kf_RX7_36 dX7_adds_11 ?_
        refine z_aload_n h dX7_adds_14 rfl rfl ?_
        refine z_getR h (by assumption) rfl kw7 23 (by decide) rfl (by assumption) kf_RX7_39 dX7_adds_15 ?_
        refine z_iload_n h dX7_adds_18 rfl rfl ?_
        refine z_iald h (by assumption) (zix_nI (by omega) (by decide)) dX7_adds_19 ?_
        rw [b1]
        refine z_lald h (by assumption) (zix_nI (by omega) (by decide)) dX7_adds_20 ?_
        rw [zr_sk]
        refine z_lstore_n h dX7_adds_21 rfl (by decide) ?_
        refine z_lload_n h dX7_adds_22 rfl rfl ?_
        refine z_lconst (v := 0) h dX7_adds_23 (by decide) ?_
        refine z_lcmp h dX7_adds_24 ?_
        refine z_if_ne h 31 dX7_adds_25 (by decide) (fun c25 => ?_) (fun c25 => ?_)
        · have c25 := mt (lg_cmp_eq _ _).mpr c25
          generalize hc : q (bg j) = c at *
          generalize hp : bs j (bg j) = p at *
          generalize hv : elv q (bs j) c p = v at *
          have hvi : ∀ k, q k * p - J ba (9 * j + k) * c = v k := fun k => by rw [← hv, hbs2]; rfl
          have helx : elx 9 q (bs j) c p = fun k => if k < 9 then (if 1 < gcf v 9 then v k / gcf v 9 else v k) else q k := by unfold elx; rw [hv]
          rw [if_neg c25, helx] at N149
          have LC : 1 < gcf v 9 → ∀ (d i : Nat), i + d = 9 → zV X E S 0 0 (I, zr J ro (fun k => if k < i then v k / gcf v 9 else (fun k => if k < 9 then v k else q k) k), R) 117 [(0, .ref x), (1, .int (nI j)), (6, .long (gcf v 9)), (8, .int (nI i))] [] := by
            intro hg d
            induction d with
            | zero =>
              intro i hi
              have hi9 : i = 9 := by omega
              subst hi9
              refine z_iload h dX7_adds_117 rfl ?_
              refine z_bipush (v := 9) h dX7_adds_119 (by decide) ?_
              rw [show (9 : Int32) = nI 9 from rfl]
              refine z_icmp_ge h 149 dX7_adds_121 (by decide) (fun c121 => ?_) (fun c121 => ?_)
              · refine z_lk (N149 _ ?_) ⟨rfl, rfl, trivial⟩
                congr 1
                funext k
                rw [if_pos hg]
                by_cases hk : k < 9
                · rw [if_pos hk, if_pos hk]
                · rw [if_neg hk, if_neg hk]
                  show (if k < 9 then v k else q k) = q k
                  rw [if_neg hk]
              · exact absurd (nI_le (by decide) (by decide)) c121
            | succ d ihC =>
              intro i hi
              refine z_iload h dX7_adds_117 rfl ?_
              refine z_bipush (v := 9) h dX7_adds_119 (by decide) ?_
              rw [show (9 : Int32) = nI 9 from rfl]
              refine z_icmp_ge h 149 dX7_adds_121 (by decide) (fun c121 => ?_) (fun c121 => ?_)
              · exact absurd (nle (by decide) (by omega) c121) (by omega)
              · refine z_lload h dX7_adds_124 rfl ?_
                refine z_lconst (v := 1) h dX7_adds_126 (by decide) ?_
                refine z_lcmp h dX7_adds_127 ?_
                refine z_if_le h 149 dX7_adds_128 (by decide) (fun c128 => ?_) (fun c128 => ?_)
                · have c128 := (lg_cmp_le _ _).mp c128
                  exact absurd hg (Int64.not_lt.mpr c128)
                · have c128 := mt (lg_cmp_le _ _).mpr c128
                  refine z_aload_n h dX7_adds_131 rfl rfl ?_
                  refine z_getR h (by assumption) rfl kw7 22 (by decide) rfl (by assumption) kf_RX7_36 dX7_adds_132 ?_
                  refine z_iload h dX7_adds_135 rfl ?_
                  refine z_dup2 h dX7_adds_137 rfl rfl ?_
                  refine z_lald h (by assumption) (zix_nI (by omega) (by decide)) dX7_adds_138 ?_
                  rw [zr_sk, if_neg (Nat.lt_irrefl i), show (fun k => if k < 9 then v k else q k) i = v i from if_pos (by omega)]
                  refine z_lload h dX7_adds_139 rfl ?_
                  refine z_ldiv h dX7_adds_141 (i64_pos hg) ?_
                  refine z_last h (by assumption) (zix_nI (by omega) (by decide)) dX7_adds_142 ?_
                  rw [row_up (v := fun k => v k / gcf v 9) (q := fun k => if k < 9 then v k else q k)]
                  refine z_iinc h dX7_adds_143 rfl (nI_1 i) (by decide) ?_
                  refine z_goto h 117 dX7_adds_146 (by decide) ?_
                  exact z_lk (ihC (i + 1) (by omega)) ⟨rfl, rfl, rfl, rfl, trivial⟩
          have LB : ∀ (d i : Nat), i + d = 9 → zV X E S 0 0 (I, zr J ro (fun k => if k < i then v k else q k), R) 55 [(0, .ref x), (1, .int (nI j)), (2, .long c), (4, .long p), (6, .long (gcf v i)), (8, .int (nI i))] [] := by
            intro d
            induction d with
            | zero =>
              intro i hi
              have hi9 : i = 9 := by omega
              subst hi9
              refine z_iload h dX7_adds_55 rfl ?_
              refine z_bipush (v := 9) h dX7_adds_57 (by decide) ?_
              rw [show (9 : Int32) = nI 9 from rfl]
              refine z_icmp_ge h 114 dX7_adds_59 (by decide) (fun c59 => ?_) (fun c59 => ?_)
              · refine z_iconst (v := 0) h dX7_adds_114 (by decide) ?_
                refine z_istore h dX7_adds_115 (by decide) ?_
                by_cases hg : 1 < gcf v 9
                · have e := LC hg 9 0 rfl
                  rw [show (fun k => if k < 0 then v k / gcf v 9 else (fun k => if k < 9 then v k else q k) k) = (fun k => if k < 9 then v k else q k) from row_0] at e
                  exact z_lk e ⟨rfl, rfl, rfl, rfl, trivial⟩
                · refine z_iload h dX7_adds_117 rfl ?_
                  refine z_bipush (v := 9) h dX7_adds_119 (by decide) ?_
                  rw [show (9 : Int32) = nI 9 from rfl]
                  refine z_icmp_ge h 149 dX7_adds_121 (by decide) (fun c121 => absurd (nle (by decide) (by decide) c121) (by decide)) (fun c121 => ?_)
                  refine z_lload h dX7_adds_124 rfl ?_
                  refine z_lconst (v := 1) h dX7_adds_126 (by decide) ?_
                  refine z_lcmp h dX7_adds_127 ?_
                  refine z_if_le h 149 dX7_adds_128 (by decide) (fun c128 => ?_) (fun c128 => absurd ((lg_cmp_le _ _).mpr (Int64.not_lt.mp hg)) c128)
                  refine z_lk (N149 _ ?_) ⟨rfl, rfl, trivial⟩
                  congr 1
                  funext k
                  rw [if_neg hg]
              · exact absurd (nI_le (by decide) (by decide)) c59
            | succ d ihB =>
              intro i hi
              have ihB2 := ihB (i + 1) (by omega)
              unfold gcf at ihB2
              refine z_iload h dX7_adds_55 rfl ?_
              refine z_bipush (v := 9) h dX7_adds_57 (by decide) ?_
              rw [show (9 : Int32) = nI 9 from rfl]
              refine z_icmp_ge h 114 dX7_adds_59 (by decide) (fun c59 => ?_) (fun c59 => ?_)
              · exact absurd (nle (by decide) (by omega) c59) (by omega)
              · refine z_aload_n h dX7_adds_62 rfl rfl ?_
                refine z_getR h (by assumption) rfl kw7 22 (by decide) rfl (by assumption) kf_RX7_36 dX7_adds_63 ?_
                refine z_iload h dX7_adds_66 rfl ?_
                refine z_aload_n h dX7_adds_68 rfl rfl ?_
                refine z_getR h (by assumption) rfl kw7 22 (by decide) rfl (by assumption) kf_RX7_36 dX7_adds_69 ?_
                refine z_iload h dX7_adds_72 rfl ?_
                refine z_lald h (by assumption) (zix_nI (by omega) (by decide)) dX7_adds_74 ?_
                rw [zr_sk, if_neg (Nat.lt_irrefl i)]
                refine z_lload h dX7_adds_75 rfl ?_
                refine z_lmul h dX7_adds_77 ?_
                refine z_aload_n h dX7_adds_78 rfl rfl ?_
                refine z_getR h (by assumption) rfl kw7 21 (by decide) rfl (by assumption) kf_RX7_32 dX7_adds_79 ?_
                refine z_bipush (v := 9) h dX7_adds_82 (by decide) ?_
                refine z_iload_n h dX7_adds_84 rfl rfl ?_
                rw [show (9 : Int32) = nI 9 from rfl]
                refine z_imul h dX7_adds_85 ?_
                refine z_iload h dX7_adds_86 rfl ?_
                rw [pk_mul]
                refine z_iadd h dX7_adds_88 ?_
                rw [nI_add]
                refine z_lald h (by assumption) (zix_nI (by omega) (by decide)) dX7_adds_89 ?_
                rw [zr_ak (Ne.symm m8)]
                refine z_lload_n h dX7_adds_90 rfl rfl ?_
                refine z_lmul h dX7_adds_91 ?_
                refine z_lsub h dX7_adds_92 ?_
                rw [hvi i]
                refine z_last h (by assumption) (zix_nI (by omega) (by decide)) dX7_adds_93 ?_
                rw [row_up]
                refine z_lload h dX7_adds_94 rfl ?_
                refine z_aload_n h dX7_adds_96 rfl rfl ?_
                refine z_getR h (by assumption) rfl kw7 22 (by decide) rfl (by assumption) kf_RX7_36 dX7_adds_97 ?_
                refine z_iload h dX7_adds_100 rfl ?_
                refine z_lald h (by assumption) (zix_nI (by omega) (by decide)) dX7_adds_102 ?_
                rw [zr_sk, if_pos (Nat.lt_succ_self i)]
                refine z_callSL h (c_X7_common l) (va_cwS 2 h.2.2.2.2.1 gm_RX7_231 rfl rfl rfl (by decide +kernel) ⟨by decide, by decide⟩) rfl rfl (Nat.le_of_ble_eq_true rfl) ⟨Nat.zero_le _, Nat.zero_le _⟩ dX7_adds_103 ?_
                refine z_lstore h dX7_adds_106 (by decide) ?_
                refine z_iinc h dX7_adds_108 rfl (nI_1 i) (by decide) ?_
                refine z_goto h 55 dX7_adds_111 (by decide) ?_
                exact z_lk ihB2 ⟨rfl, rfl, rfl, rfl, rfl, rfl, trivial⟩
          refine z_aload_n h dX7_adds_31 rfl rfl ?_
          refine z_getR h (by assumption) rfl kw7 21 (by decide) rfl (by assumption) kf_RX7_32 dX7_adds_32 ?_
          refine z_bipush (v := 9) h dX7_adds_35 (by decide) ?_
          refine z_iload_n h dX7_adds_37 rfl rfl ?_
          rw [show (9 : Int32) = nI 9 from rfl]
          refine z_imul h dX7_adds_38 ?_
          refine z_aload_n h dX7_adds_39 rfl rfl ?_
          refine z_getR h (by assumption) rfl kw7 23 (by decide) rfl (by assumption) kf_RX7_39 dX7_adds_40 ?_
          refine z_iload_n h dX7_adds_43 rfl rfl ?_
          refine z_iald h (by assumption) (zix_nI (by omega) (by decide)) dX7_adds_44 ?_
          rw [b1, pk_mul]
          refine z_iadd h dX7_adds_45 ?_
          rw [nI_add]
          refine z_lald h (by assumption) (zix_nI (by omega) (by decide)) dX7_adds_46 ?_
          rw [zr_ak (Ne.symm m8), hbs2, hp]
          refine z_lstore h dX7_adds_47 (by decide) ?_
          refine z_lconst (v := 0) h dX7_adds_49 (by decide) ?_
          refine z_lstore h dX7_adds_50 (by decide) ?_
          refine z_iconst (v := 0) h dX7_adds_52 (by decide) ?_
          refine z_istore h dX7_adds_53 (by decide) ?_
          have e := LB 9 0 rfl
          rw [row_0] at e
          exact z_lk e ⟨rfl, rfl, rfl, rfl, rfl, rfl, trivial⟩
        · have c25 := (lg_cmp_eq _ _).mp c25
          refine z_goto h 149 dX7_adds_28 (by decide) ?_
          exact z_lk (N149 _ (by rw [if_pos c25])) ⟨rfl, rfl, trivial⟩
  refine z_iconst (v := 0) h dX7_adds_0 (by decide) ?_
  refine z_istore_n h dX7_adds_1 rfl (by decide) ?_
  have e := LA n 0 (by omega)
  unfold rdR at e
  rw [show zr J ro (J ro) = J from zr_id] at e
  exact z_lk e ⟨rfl, rfl, trivial⟩
