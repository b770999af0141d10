/-! settles: the row, what it is above and below -/
def mS (J : Nat → Nat → Int64) (ro x : Nat) (r : Nat → Int64) (t b : Int64) : Nat → Nat → Int64 := zu (zu (zr J ro r) x 25 t) x 26 b
section MS2
variable {J : Nat → Nat → Int64} {ro x ba i k : Nat} {r v q : Nat → Int64} {t b t' b' : Int64}
theorem mS_ro (h : ro ≠ x) : mS J ro x r t b ro k = r k := by unfold mS; rw [zu_a h, zu_a h, zr_sk]
theorem mS_ba (h : ba ≠ x) (g : ba ≠ ro) : mS J ro x r t b ba k = J ba k := by unfold mS; rw [zu_a h, zu_a h, zr_ak g]
theorem mS_t : mS J ro x r t b x 25 = t := by unfold mS; rw [zu_k (by decide)]; exact zu_s
theorem mS_b : mS J ro x r t b x 26 = b := zu_s
theorem mS_pt : zu (mS J ro x r t b) x 25 t' = mS J ro x r t' b := by unfold mS; rw [zu_cm (by decide), zu_zu]
theorem mS_pb : zu (mS J ro x r t b) x 26 b' = mS J ro x r t b' := by unfold mS; rw [zu_zu]
theorem mS_up (h : ro ≠ x) : zu (mS J ro x (fun k => if k < i then v k else q k) t b) ro i (v i) = mS J ro x (fun k => if k < i + 1 then v k else q k) t b := by
  unfold mS
  rw [zu_ca (Ne.symm h), zu_ca (Ne.symm h), row_up]
end MS2
def q0 (f : Nat → Int64) (na : Nat) (ob : Option Nat) : Nat → Int64 := fun k => if ob = some k then 1 else if k = na then 1 else if k < 9 then 0 else f k
def gcs (v : Nat → Int64) (g0 : Int64) : Nat → Int64
  | 0 => g0
  | k + 1 => cg (gcs v g0 k) (v k)
def gS (s : (Nat → Int64) × Int64 × Int64) (b : Nat → Int64) (c p : Int64) : Int64 := gcs (elv s.1 b c p) (cg (s.2.1 * p + c * b 8) (s.2.2 * p)) 8
def elS (s : (Nat → Int64) × Int64 × Int64) (b : Nat → Int64) (c p : Int64) : (Nat → Int64) × Int64 × Int64 := (fun k => if k < 8 then elv s.1 b c p k / gS s b c p else s.1 k, (s.2.1 * p + c * b 8) / gS s b c p, s.2.2 * p / gS s b c p)
def rdS (bs : Nat → Nat → Int64) (bg : Nat → Nat) (r : Nat → Int64) : Nat → (Nat → Int64) × Int64 × Int64
  | 0 => (r, 0, 1)
  | j + 1 => if (rdS bs bg r j).1 (bg j) = 0 then rdS bs bg r j else elS (rdS bs bg r j) (bs j) ((rdS bs bg r j).1 (bg j)) (bs j (bg j))
def az (r : Nat → Int64) : Nat → Bool
  | 0 => true
  | k + 1 => az r k && decide (r k = 0)
theorem nI_nm1 {n : Nat} (h : n < 2 ^ 31) : nI n ≠ -1 := fun q => by
  have h1 : (0 : Int32) ≤ nI n := nI_le (a := 0) (Nat.zero_le _) h
  rw [q] at h1
  exact absurd h1 (by decide)

set_option maxHeartbeats 4000000 in
set_option maxRecDepth 100000 in
theorem c_X7_settles (l : Launch) {E : zE} {S : zS} {I : Nat → Nat → Int32} {J : Nat → Nat → Int64} {R : Nat → Nat → Option Nat} {x ro ba be : Nat} (hm : MB S R x ro ba be) {n na : Nat} {b : Int32} {ob : Option Nat} {bg : Nat → Nat} (hn : I x 24 = nI n) (hn8 : n ≤ 8) (hbg : ∀ j, j < n → I be j = nI (bg j) ∧ bg j < 8) (hna : na < 8) (hb : (b = -1 ∧ ob = none) ∨ ∃ nb, nb < 8 ∧ b = nI nb ∧ ob = some nb) (hg : ∀ j, j < n → ¬ (rdS (fun j k => J ba (9 * j + k)) bg (q0 (J ro) na ob) j).1 (bg j) = 0 → ¬ gS (rdS (fun j k => J ba (9 * j + k)) bg (q0 (J ro) na ob) j) (fun k => J ba (9 * j + k)) ((rdS (fun j k => J ba (9 * j + k)) bg (q0 (J ro) na ob) j).1 (bg j)) (J ba (9 * j + bg j)) = 0) : zI l yX7_settles wsX7_settles rmX7_settles E S [.ref x, .int (nI na), .int b] (I, J, R) (b2i (az (rdS (fun j k => J ba (9 * j + k)) bg (q0 (J ro) na ob) n).1 8)) (I, mS J ro x (rdS (fun j k => J ba (9 * j + k)) bg (q0 (J ro) na ob) n).1 (rdS (fun j k => J ba (9 * j + k)) bg (q0 (J ro) na ob) n).2.1 (rdS (fun j k => J ba (9 * j + k)) bg (q0 (J ro) na ob) n).2.2, R) := by
  refine z_metI (cc := cX7_settles) (maxL := 11) (ty := .boolean) (by decide) rfl (Nat.le_of_ble_eq_true rfl) (fun X h ret => ?_)
  show zV X E S 0 0 (I, J, R) 0 _ []
  obtain ⟨m1, m2, m3, m4, m5, m6, m7, m8⟩ := id hm
  have hrx : ro ≠ x := Ne.symm hm.xro
  have hbx : ba ≠ x := Ne.symm hm.xba
  generalize hbs : (fun j k => J ba (9 * j + k)) = bs at *
  have hbs2 : ∀ j k, J ba (9 * j + k) = bs j k := fun j k => by rw [← hbs]
  generalize hss : rdS bs bg (q0 (J ro) na ob) = ss at *
  have F276 : ∀ (d i : Nat), i + d = 8 → zV X E S 0 0 (I, mS J ro x (ss n).1 (ss n).2.1 (ss n).2.2, R) 276 [(0, .ref x), (3, .int (b2i (az (ss n).1 i))), (4, .int (nI i))] [] := by
    intro d
    induction d with
    | zero =>
      intro i hi
      have hi8 : i = 8 := by omega
      subst hi8
      refine z_iload h dX7_settles_276 rfl ?_
      refine z_bipush (v := 8) h dX7_settles_278 (by decide) ?_
      rw [show (8 : Int32) = nI 8 from rfl]
      refine z_icmp_ge h 311 dX7_settles_280 (by decide) (fun c280 => ?_) (fun c280 => ?_)
      · refine z_iload_n h dX7_settles_311 rfl rfl ?_
        exact ret dX7_settles_312 (b2i_nar _)
      · exact absurd (nI_le (by decide) (by decide)) c280
    | succ d ih =>
      intro i hi
      have ih2 := ih (i + 1) (by omega)
      unfold az at ih2
      refine z_iload h dX7_settles_276 rfl ?_
      refine z_bipush (v := 8) h dX7_settles_278 (by decide) ?_
      rw [show (8 : Int32) = nI 8 from rfl]
      refine z_icmp_ge h 311 dX7_settles_280 (by decide) (fun c280 => ?_) (fun c280 => ?_)
      · exact absurd (nle (by decide) (by omega) c280) (by omega)
      · refine z_iload_n h dX7_settles_283 rfl rfl ?_
        refine z_if_eq h 303 dX7_settles_284 (by decide) (fun c284 => ?_) (fun c284 => ?_)
        · refine z_iconst (v := 0) h dX7_settles_303 (by decide) ?_
          first
            | (rw [b2i_0.mp c284, Bool.false_and, show b2i false = 0 from rfl] at ih2
               refine z_istore_n h dX7_settles_304 rfl (by decide) ?_
               refine z_iinc h dX7_settles_305 rfl (nI_1 i) (by decide) ?_
               refine z_goto h 276 dX7_settles_308 (by decide) ?_
               exact z_lk ih2 ⟨rfl, rfl, rfl, trivial⟩)
            | (rw [decide_eq_true c296, Bool.and_true, b2i_n0.mp c284, show b2i true = 1 from rfl] at ih2
               refine z_istore_n h dX7_settles_304 rfl (by decide) ?_
               refine z_iinc h dX7_settles_305 rfl (nI_1 i) (by decide) ?_
               refine z_goto h 276 dX7_settles_308 (by decide) ?_
               exact z_lk ih2 ⟨rfl, rfl, rfl, trivial⟩)
            | (rw [decide_eq_false c296, Bool.and_false, show b2i false = 0 from rfl] at ih2
               refine z_istore_n h dX7_settles_304 rfl (by decide) ?_
               refine z_iinc h dX7_settles_305 rfl (nI_1 i) (by decide) ?_
               refine z_goto h 276 dX7_settles_308 (by decide) ?_
               exact z_lk ih2 ⟨rfl, rfl, rfl, trivial⟩)
        · refine z_aload_n h dX7_settles_287 rfl rfl ?_
          refine z_getR h (by assumption) rfl kw7 22 (by decide) rfl (by assumption) kf_RX7_36 dX7_settles_288 ?_
          refine z_iload h dX7_settles_291 rfl ?_
          refine z_lald h (by assumption) (zix_nI (by omega) (by decide)) dX7_settles_293 ?_
          rw [mS_ro hrx]
          refine z_lconst (v := 0) h dX7_settles_294 (by decide) ?_
          refine z_lcmp h dX7_settles_295 ?_
          refine z_if_ne h 303 dX7_settles_296 (by decide) (fun c296 => ?_) (fun c296 => ?_)
          · have c296 := mt (lg_cmp_eq _ _).mpr c296
            refine z_iconst (v := 0) h dX7_settles_303 (by decide) ?_
            first
              | (rw [b2i_0.mp c284, Bool.false_and, show b2i false = 0 from rfl] at ih2
                 refine z_istore_n h dX7_settles_304 rfl (by decide) ?_
                 refine z_iinc h dX7_settles_305 rfl (nI_1 i) (by decide) ?_
                 refine z_goto h 276 dX7_settles_308 (by decide) ?_
                 exact z_lk ih2 ⟨rfl, rfl, rfl, trivial⟩)
              | (rw [decide_eq_true c296, Bool.and_true, b2i_n0.mp c284, show b2i true = 1 from rfl] at ih2
                 refine z_istore_n h dX7_settles_304 rfl (by decide) ?_
                 refine z_iinc h dX7_settles_305 rfl (nI_1 i) (by decide) ?_
                 refine z_goto h 276 dX7_settles_308 (by decide) ?_
                 exact z_lk ih2 ⟨rfl, rfl, rfl, trivial⟩)
              | (rw [decide_eq_false c296, Bool.and_false, show b2i false = 0 from rfl] at ih2
                 refine z_istore_n h dX7_settles_304 rfl (by decide) ?_
                 refine z_iinc h dX7_settles_305 rfl (nI_1 i) (by decide) ?_
                 refine z_goto h 276 dX7_settles_308 (by decide) ?_
                 exact z_lk ih2 ⟨rfl, rfl, rfl, trivial⟩)
          · have c296 := (lg_cmp_eq _ _).mp c296
            refine z_iconst (v := 1) h dX7_settles_299 (by decide) ?_
            refine z_goto h 304 dX7_settles_300 (by decide) ?_
            first
              | (rw [b2i_0.mp c284, Bool.false_and, show b2i false = 0 from rfl] at ih2
                 refine z_istore_n h dX7_settles_304 rfl (by decide) ?_
                 refine z_iinc h dX7_settles_305 rfl (nI_1 i) (by decide) ?_
                 refine z_goto h 276 dX7_settles_308 (by decide) ?_
                 exact z_lk ih2 ⟨rfl, rfl, rfl, trivial⟩)
              | (rw [decide_eq_true c296, Bool.and_true, b2i_n0.mp c284, show b2i true = 1 from rfl] at ih2
                 refine z_istore_n h dX7_settles_304 rfl (by decide) ?_
                 refine z_iinc h dX7_settles_305 rfl (nI_1 i) (by decide) ?_
                 refine z_goto h 276 dX7_settles_308 (by decide) ?_
                 exact z_lk ih2 ⟨rfl, rfl, rfl, trivial⟩)
              | (rw [decide_eq_false c296, Bool.and_false, show b2i false = 0 from rfl] at ih2
                 refine z_istore_n h dX7_settles_304 rfl (by decide) ?_
                 refine z_iinc h dX7_settles_305 rfl (nI_1 i) (by decide) ?_
                 refine z_goto h 276 dX7_settles_308 (by decide) ?_
                 exact z_lk ih2 ⟨rfl, rfl, rfl, trivial⟩)
  have LA : ∀ (d j : Nat), j + d = n → zV X E S 0 0 (I, mS J ro x (ss j).1 (ss j).2.1 (ss j).2.2, R) 52 [(0, .ref x), (3, .int (nI j))] [] := by
    intro d
    induction d with
    | zero =>
      intro j hj
      have hjn : j = n := by omega
      subst hjn
      refine z_iload_n h dX7_settles_52 rfl rfl ?_
      refine z_aload_n h dX7_settles_53 rfl rfl ?_
      refine z_getI h (by assumption) rfl kw7 24 (by decide) rfl kf_RX7_228 dX7_settles_54 ?_
      rw [hn]
      refine z_icmp_ge h 271 dX7_settles_57 (by decide) (fun c57 => ?_) (fun c57 => ?_)
      · refine z_iconst (v := 1) h dX7_settles_271 (by decide) ?_
        refine z_istore_n h dX7_settles_272 rfl (by decide) ?_
        refine z_iconst (v := 0) h dX7_settles_273 (by decide) ?_
        refine z_istore h dX7_settles_274 (by decide) ?_
        exact z_lk (F276 8 0 rfl) ⟨rfl, rfl, rfl, trivial⟩
      · exact absurd (nI_le (Nat.le_refl _) (by omega)) c57
    | succ d ih =>
      intro j hj
      have ih2 := ih (j + 1) (by omega)
      obtain ⟨b1, b2⟩ := hbg j (by omega)
      have hgj : ¬ (ss j).1 (bg j) = 0 → ¬ gS (ss j) (bs j) ((ss j).1 (bg j)) (bs j (bg j)) = 0 := by
        have := hg j (by omega)
        rw [show (fun k => J ba (9 * j + k)) = bs j from funext (hbs2 j), hbs2] at this
        exact this
      have hstep : ss (j + 1) = if (ss j).1 (bg j) = 0 then ss j else elS (ss j) (bs j) ((ss j).1 (bg j)) (bs j (bg j)) := by rw [← hss]; rfl
      rw [hstep] at ih2
      generalize hqq : ss j = s at *
      have N265 : ∀ (Jn : Nat → Nat → Int64), Jn = mS J ro x (if s.1 (bg j) = 0 then s else elS s (bs j) (s.1 (bg j)) (bs j (bg j))).1 (if s.1 (bg j) = 0 then s else elS s (bs j) (s.1 (bg j)) (bs j (bg j))).2.1 (if s.1 (bg j) = 0 then s else elS s (bs j) (s.1 (bg j)) (bs j (bg j))).2.2 → zV X E S 0 0 (I, Jn, R) 265 [(0, .ref x), (3, .int (nI j))] [] := by
        intro Jn hJ
        rw [hJ]
        refine z_iinc h dX7_settles_265 rfl (nI_1 j) (by decide) ?_
        refine z_goto h 52 dX7_settles_268 (by decide) ?_
        exact z_lk ih2 ⟨rfl, rfl, trivial⟩
      refine z_iload_n h dX7_settles_52 rfl rfl ?_
      refine z_aload_n h dX7_settles_53 rfl rfl ?_
      refine z_getI h (by assumption) rfl kw7 24 (by decide) rfl kf_RX7_228 dX7_settles_54 ?_
      rw [hn]
      refine z_icmp_ge h 271 dX7_settles_57 (by decide) (fun c57 => ?_) (fun c57 => ?_)
      · exact absurd (nle (by omega) (by omega) c57) (by omega)
      · refine z_aload_n h dX7_settles_60 rfl rfl ?_
        refine z_getR h (by assumption) rfl kw7 22 (by decide) rfl (by assumption) kf_RX7_36 dX7_settles_61 ?_
        refine z_aload_n h dX7_settles_64 rfl rfl ?_
        refine z_getR h (by assumption) rfl kw7 23 (by decide) rfl (by assumption) kf_RX7_39 dX7_settles_65 ?_
        refine z_iload_n h dX7_settles_68 rfl rfl ?_
        refine z_iald h (by assumption) (zix_nI (by omega) (by decide)) dX7_settles_69 ?_
        rw [b1]
        refine z_lald h (by assumption) (zix_nI (by omega) (by decide)) dX7_settles_70 ?_
        rw [mS_ro hrx]
        refine z_lstore h dX7_settles_71 (by decide) ?_
        refine z_lload h dX7_settles_73 rfl ?_
        refine z_lconst (v := 0) h dX7_settles_75 (by decide) ?_
        refine z_lcmp h dX7_settles_76 ?_
        refine z_if_ne h 83 dX7_settles_77 (by decide) (fun c77 => ?_) (fun c77 => ?_)
        · have c77 := mt (lg_cmp_eq _ _).mpr c77
          have hg0 := hgj c77
          rw [if_neg c77] at N265
          obtain ⟨q, t0, b0⟩ := s
          have hgg0 : gS (q, t0, b0) (bs j) (q (bg j)) (bs j (bg j)) = gS (q, t0, b0) (bs j) (q (bg j)) (bs j (bg j)) := rfl
          unfold elS at N265
          generalize hgg : gS (q, t0, b0) (bs j) (q (bg j)) (bs j (bg j)) = gg at *
          unfold gS at hgg
          dsimp only at N265 hgg hg0 c77 ⊢
          generalize hc : q (bg j) = c at *
          generalize hp : bs j (bg j) = p at *
          generalize hv : elv q (bs j) c p = v at *
          have hvi : ∀ k, q k * p - J ba (9 * j + k) * c = v k := fun k => by rw [← hv, hbs2]; rfl
          generalize ht1 : t0 * p + c * bs j 8 = t1 at *
          generalize hb1 : b0 * p = b1' at *
          have LC : ∀ (d i : Nat), i + d = 8 → zV X E S 0 0 (I, mS J ro x (fun k => if k < i then v k / gg else (fun k => if k < 8 then v k else q k) k) (t1 / gg) (b1' / gg), R) 240 [(0, .ref x), (3, .int (nI j)), (8, .long gg), (10, .int (nI i))] [] := by
            intro d
            induction d with
            | zero =>
              intro i hi
              have hi8 : i = 8 := by omega
              subst hi8
              refine z_iload h dX7_settles_240 rfl ?_
              refine z_bipush (v := 8) h dX7_settles_242 (by decide) ?_
              rw [show (8 : Int32) = nI 8 from rfl]
              refine z_icmp_ge h 265 dX7_settles_244 (by decide) (fun c244 => ?_) (fun c244 => ?_)
              · refine z_lk (N265 _ ?_) ⟨rfl, rfl, trivial⟩
                congr 1
                funext k
                by_cases hk : k < 8
                · rw [if_pos hk, if_pos hk]
                · rw [if_neg hk, if_neg hk]
                  show (if k < 8 then v k else q k) = q k
                  rw [if_neg hk]
              · exact absurd (nI_le (by decide) (by decide)) c244
            | succ d ihC =>
              intro i hi
              refine z_iload h dX7_settles_240 rfl ?_
              refine z_bipush (v := 8) h dX7_settles_242 (by decide) ?_
              rw [show (8 : Int32) = nI 8 from rfl]
              refine z_icmp_ge h 265 dX7_settles_244 (by decide) (fun c244 => ?_) (fun c244 => ?_)
              · exact absurd (nle (by decide) (by omega) c244) (by omega)
              · refine z_aload_n h dX7_settles_247 rfl rfl ?_
                refine z_getR h (by assumption) rfl kw7 22 (by decide) rfl (by assumption) kf_RX7_36 dX7_settles_248 ?_
                refine z_iload h dX7_settles_251 rfl ?_
                refine z_dup2 h dX7_settles_253 rfl rfl ?_
                refine z_lald h (by assumption) (zix_nI (by omega) (by decide)) dX7_settles_254 ?_
                rw [mS_ro hrx, if_neg (Nat.lt_irrefl i), show (fun k => if k < 8 then v k else q k) i = v i from if_pos (by omega)]
                refine z_lload h dX7_settles_255 rfl ?_
                refine z_ldiv h dX7_settles_257 (hg0) ?_
                refine z_last h (by assumption) (zix_nI (by omega) (by decide)) dX7_settles_258 ?_
                rw [mS_up (v := fun k => v k / gg) (q := fun k => if k < 8 then v k else q k) hrx]
                refine z_iinc h dX7_settles_259 rfl (nI_1 i) (by decide) ?_
                refine z_goto h 240 dX7_settles_262 (by decide) ?_
                exact z_lk (ihC (i + 1) (by omega)) ⟨rfl, rfl, rfl, rfl, trivial⟩
          have LB : ∀ (d i : Nat), i + d = 8 → zV X E S 0 0 (I, mS J ro x (fun k => if k < i then v k else q k) t1 b1', R) 155 [(0, .ref x), (3, .int (nI j)), (4, .long c), (6, .long p), (8, .long (gcs v (cg t1 b1') i)), (10, .int (nI i))] [] := by
            intro d
            induction d with
            | zero =>
              intro i hi
              have hi8 : i = 8 := by omega
              subst hi8
              refine z_iload h dX7_settles_155 rfl ?_
              refine z_bipush (v := 8) h dX7_settles_157 (by decide) ?_
              rw [show (8 : Int32) = nI 8 from rfl]
              refine z_icmp_ge h 215 dX7_settles_159 (by decide) (fun c159 => ?_) (fun c159 => ?_)
              · rw [hgg]
                refine z_aload_n h dX7_settles_215 rfl rfl ?_
                refine z_dup h dX7_settles_216 rfl ?_
                refine z_getJ h (by assumption) rfl kw7 25 (by decide) rfl kf_RX7_244 dX7_settles_217 ?_
                rw [mS_t]
                refine z_lload h dX7_settles_220 rfl ?_
                refine z_ldiv h dX7_settles_222 (hg0) ?_
                refine z_putJ h (by assumption) rfl kw7 25 (by decide) rfl rfl (rfl) (rfl) kf_RX7_244 dX7_settles_223 ?_
                rw [mS_pt]
                refine z_aload_n h dX7_settles_226 rfl rfl ?_
                refine z_dup h dX7_settles_227 rfl ?_
                refine z_getJ h (by assumption) rfl kw7 26 (by decide) rfl kf_RX7_248 dX7_settles_228 ?_
                rw [mS_b]
                refine z_lload h dX7_settles_231 rfl ?_
                refine z_ldiv h dX7_settles_233 (hg0) ?_
                refine z_putJ h (by assumption) rfl kw7 26 (by decide) rfl rfl (rfl) (rfl) kf_RX7_248 dX7_settles_234 ?_
                rw [mS_pb]
                refine z_iconst (v := 0) h dX7_settles_237 (by decide) ?_
                refine z_istore h dX7_settles_238 (by decide) ?_
                have e := LC 8 0 rfl
                rw [show (fun k => if k < 0 then v k / gg else (fun k => if k < 8 then v k else q k) k) = (fun k => if k < 8 then v k else q k) from row_0] at e
                exact z_lk e ⟨rfl, rfl, rfl, rfl, trivial⟩
              · exact absurd (nI_le (by decide) (by decide)) c159
            | succ d ihB =>
              intro i hi
              have ihB2 := ihB (i + 1) (by omega)
              unfold gcs at ihB2
              refine z_iload h dX7_settles_155 rfl ?_
              refine z_bipush (v := 8) h dX7_settles_157 (by decide) ?_
              rw [show (8 : Int32) = nI 8 from rfl]
              refine z_icmp_ge h 215 dX7_settles_159 (by decide) (fun c159 => ?_) (fun c159 => ?_)
              · exact absurd (nle (by decide) (by omega) c159) (by omega)
              · refine z_aload_n h dX7_settles_162 rfl rfl ?_
                refine z_getR h (by assumption) rfl kw7 22 (by decide) rfl (by assumption) kf_RX7_36 dX7_settles_163 ?_
                refine z_iload h dX7_settles_166 rfl ?_
                refine z_aload_n h dX7_settles_168 rfl rfl ?_
                refine z_getR h (by assumption) rfl kw7 22 (by decide) rfl (by assumption) kf_RX7_36 dX7_settles_169 ?_
                refine z_iload h dX7_settles_172 rfl ?_
                refine z_lald h (by assumption) (zix_nI (by omega) (by decide)) dX7_settles_174 ?_
                rw [mS_ro hrx, if_neg (Nat.lt_irrefl i)]
                refine z_lload h dX7_settles_175 rfl ?_
                refine z_lmul h dX7_settles_177 ?_
                refine z_aload_n h dX7_settles_178 rfl rfl ?_
                refine z_getR h (by assumption) rfl kw7 21 (by decide) rfl (by assumption) kf_RX7_32 dX7_settles_179 ?_
                refine z_bipush (v := 9) h dX7_settles_182 (by decide) ?_
                refine z_iload_n h dX7_settles_184 rfl rfl ?_
                rw [show (9 : Int32) = nI 9 from rfl]
                refine z_imul h dX7_settles_185 ?_
                refine z_iload h dX7_settles_186 rfl ?_
                rw [pk_mul]
                refine z_iadd h dX7_settles_188 ?_
                rw [nI_add]
                refine z_lald h (by assumption) (zix_nI (by omega) (by decide)) dX7_settles_189 ?_
                rw [mS_ba hbx (Ne.symm m8)]
                refine z_lload h dX7_settles_190 rfl ?_
                refine z_lmul h dX7_settles_192 ?_
                refine z_lsub h dX7_settles_193 ?_
                rw [hvi i]
                refine z_last h (by assumption) (zix_nI (by omega) (by decide)) dX7_settles_194 ?_
                rw [mS_up hrx]
                refine z_lload h dX7_settles_195 rfl ?_
                refine z_aload_n h dX7_settles_197 rfl rfl ?_
                refine z_getR h (by assumption) rfl kw7 22 (by decide) rfl (by assumption) kf_RX7_36 dX7_settles_198 ?_
                refine z_iload h dX7_settles_201 rfl ?_
                refine z_lald h (by assumption) (zix_nI (by omega) (by decide)) dX7_settles_203 ?_
                rw [mS_ro hrx, if_pos (Nat.lt_succ_self i)]
                refine z_callSL h (c_X7_common l) (va_cwS 2 h.2.2.2.2.1 gm_RX7_231 rfl rfl rfl (by decide +kernel) ⟨by decide, by decide⟩) rfl rfl (Nat.le_of_ble_eq_true rfl) ⟨Nat.zero_le _, Nat.zero_le _⟩ dX7_settles_204 ?_
                refine z_lstore h dX7_settles_207 (by decide) ?_
                refine z_iinc h dX7_settles_209 rfl (nI_1 i) (by decide) ?_
                refine z_goto h 155 dX7_settles_212 (by decide) ?_
                exact z_lk ihB2 ⟨rfl, rfl, rfl, rfl, rfl, rfl, trivial⟩
          refine z_aload_n h dX7_settles_83 rfl rfl ?_
          refine z_getR h (by assumption) rfl kw7 21 (by decide) rfl (by assumption) kf_RX7_32 dX7_settles_84 ?_
          refine z_bipush (v := 9) h dX7_settles_87 (by decide) ?_
          refine z_iload_n h dX7_settles_89 rfl rfl ?_
          rw [show (9 : Int32) = nI 9 from rfl]
          refine z_imul h dX7_settles_90 ?_
          refine z_aload_n h dX7_settles_91 rfl rfl ?_
          refine z_getR h (by assumption) rfl kw7 23 (by decide) rfl (by assumption) kf_RX7_39 dX7_settles_92 ?_
          refine z_iload_n h dX7_settles_95 rfl rfl ?_
          refine z_iald h (by assumption) (zix_nI (by omega) (by decide)) dX7_settles_96 ?_
          rw [b1, pk_mul]
          refine z_iadd h dX7_settles_97 ?_
          rw [nI_add]
          refine z_lald h (by assumption) (zix_nI (by omega) (by decide)) dX7_settles_98 ?_
          rw [mS_ba hbx (Ne.symm m8), hbs2, hp]
          refine z_lstore h dX7_settles_99 (by decide) ?_
          refine z_aload_n h dX7_settles_101 rfl rfl ?_
          refine z_aload_n h dX7_settles_102 rfl rfl ?_
          refine z_getJ h (by assumption) rfl kw7 25 (by decide) rfl kf_RX7_244 dX7_settles_103 ?_
          rw [mS_t]
          refine z_lload h dX7_settles_106 rfl ?_
          refine z_lmul h dX7_settles_108 ?_
          refine z_lload h dX7_settles_109 rfl ?_
          refine z_aload_n h dX7_settles_111 rfl rfl ?_
          refine z_getR h (by assumption) rfl kw7 21 (by decide) rfl (by assumption) kf_RX7_32 dX7_settles_112 ?_
          refine z_bipush (v := 9) h dX7_settles_115 (by decide) ?_
          refine z_iload_n h dX7_settles_117 rfl rfl ?_
          rw [show (9 : Int32) = nI 9 from rfl]
          refine z_imul h dX7_settles_118 ?_
          rw [pk_mul]
          refine z_bipush (v := 8) h dX7_settles_119 (by decide) ?_
          rw [show (8 : Int32) = nI 8 from rfl]
          refine z_iadd h dX7_settles_121 ?_
          rw [nI_add]
          refine z_lald h (by assumption) (zix_nI (by omega) (by decide)) dX7_settles_122 ?_
          rw [mS_ba hbx (Ne.symm m8), hbs2]
          refine z_lmul h dX7_settles_123 ?_
          refine z_ladd h dX7_settles_124 ?_
          rw [ht1]
          refine z_putJ h (by assumption) rfl kw7 25 (by decide) rfl rfl (rfl) (rfl) kf_RX7_244 dX7_settles_125 ?_
          rw [mS_pt]
          refine z_aload_n h dX7_settles_128 rfl rfl ?_
          refine z_dup h dX7_settles_129 rfl ?_
          refine z_getJ h (by assumption) rfl kw7 26 (by decide) rfl kf_RX7_248 dX7_settles_130 ?_
          rw [mS_b]
          refine z_lload h dX7_settles_133 rfl ?_
          refine z_lmul h dX7_settles_135 ?_
          rw [hb1]
          refine z_putJ h (by assumption) rfl kw7 26 (by decide) rfl rfl (rfl) (rfl) kf_RX7_248 dX7_settles_136 ?_
          rw [mS_pb]
          refine z_aload_n h dX7_settles_139 rfl rfl ?_
          refine z_getJ h (by assumption) rfl kw7 25 (by decide) rfl kf_RX7_244 dX7_settles_140 ?_
          rw [mS_t]
          refine z_aload_n h dX7_settles_143 rfl rfl ?_
          refine z_getJ h (by assumption) rfl kw7 26 (by decide) rfl kf_RX7_248 dX7_settles_144 ?_
          rw [mS_b]
          refine z_callSL h (c_X7_common l) (va_cwS 2 h.2.2.2.2.1 gm_RX7_231 rfl rfl rfl (by decide +kernel) ⟨by decide, by decide⟩) rfl rfl (Nat.le_of_ble_eq_true rfl) ⟨Nat.zero_le _, Nat.zero_le _⟩ dX7_settles_147 ?_
          refine z_lstore h dX7_settles_150 (by decide) ?_
          refine z_iconst (v := 0) h dX7_settles_152 (by decide) ?_
          refine z_istore h dX7_settles_153 (by decide) ?_
          have e := LB 8 0 rfl
          rw [row_0] at e
          exact z_lk e ⟨rfl, rfl, rfl, rfl, rfl, rfl, trivial⟩
        · have c77 := (lg_cmp_eq _ _).mp c77
          refine z_goto h 265 dX7_settles_80 (by decide) ?_
          exact z_lk (N265 _ (by rw [if_pos c77])) ⟨rfl, rfl, trivial⟩
  have A40 : zV X E S 0 0 (I, zr J ro (q0 (J ro) na ob), R) 40 [(0, .ref x)] [] := by
    refine z_aload_n h dX7_settles_40 rfl rfl ?_
    refine z_lconst (v := 0) h dX7_settles_41 (by decide) ?_
    refine z_putJ h (by assumption) rfl kw7 25 (by decide) rfl rfl (rfl) (rfl) kf_RX7_244 dX7_settles_42 ?_
    refine z_aload_n h dX7_settles_45 rfl rfl ?_
    refine z_lconst (v := 1) h dX7_settles_46 (by decide) ?_
    refine z_putJ h (by assumption) rfl kw7 26 (by decide) rfl rfl (rfl) (rfl) kf_RX7_248 dX7_settles_47 ?_
    refine z_iconst (v := 0) h dX7_settles_50 (by decide) ?_
    refine z_istore_n h dX7_settles_51 rfl (by decide) ?_
    have e := LA n 0 (by omega)
    rw [← hss] at e
    exact z_lk e ⟨rfl, rfl, trivial⟩
  have L2 : ∀ (d i : Nat), i + d = 9 → zV X E S 0 0 (I, zr J ro (fun k => if k < i then (fun _ => 0) k else J ro k), R) 2 [(0, .ref x), (1, .int (nI na)), (2, .int b), (3, .int (nI i))] [] := by
    intro d
    induction d with
    | zero =>
      intro i hi
      have hi9 : i = 9 := by omega
      subst hi9
      refine z_iload_n h dX7_settles_2 rfl rfl ?_
      refine z_bipush (v := 9) h dX7_settles_3 (by decide) ?_
      rw [show (9 : Int32) = nI 9 from rfl]
      refine z_icmp_ge h 21 dX7_settles_5 (by decide) (fun c5 => ?_) (fun c5 => ?_)
      · refine z_aload_n h dX7_settles_21 rfl rfl ?_
        refine z_getR h (by assumption) rfl kw7 22 (by decide) rfl (by assumption) kf_RX7_36 dX7_settles_22 ?_
        refine z_iload_n h dX7_settles_25 rfl rfl ?_
        refine z_lconst (v := 1) h dX7_settles_26 (by decide) ?_
        refine z_last h (by assumption) (zix_nI (by omega) (by decide)) dX7_settles_27 ?_
        rw [zu_zr]
        refine z_iload_n h dX7_settles_28 rfl rfl ?_
        refine z_iconst (v := -1) h dX7_settles_29 (by decide) ?_
        refine z_icmp_eq h 40 dX7_settles_30 (by decide) (fun c30 => ?_) (fun c30 => ?_)
        · rcases hb with ⟨hb1, hb2⟩ | ⟨nb, hb1, hb2, hb3⟩
          · refine z_lk (show zV X E S 0 0 (I, zr J ro (fun j => if j = na then 1 else if j < 9 then 0 else J ro j), R) 40 [(0, .ref x)] [] from ?_) ⟨rfl, trivial⟩
            rw [show (fun j => if j = na then 1 else if j < 9 then 0 else J ro j) = q0 (J ro) na ob from by
              funext k
              unfold q0
              rw [hb2, if_neg (show ¬ (none : Option Nat) = some k from fun w => nomatch w)]]
            exact A40
          exact absurd (hb2.symm.trans c30) (nI_nm1 (by omega))
        · rcases hb with ⟨hb1, hb2⟩ | ⟨nb, hb1, hb2, hb3⟩
          · exact absurd hb1 c30
          subst hb2
          refine z_aload_n h dX7_settles_33 rfl rfl ?_
          refine z_getR h (by assumption) rfl kw7 22 (by decide) rfl (by assumption) kf_RX7_36 dX7_settles_34 ?_
          refine z_iload_n h dX7_settles_37 rfl rfl ?_
          refine z_lconst (v := 1) h dX7_settles_38 (by decide) ?_
          refine z_last h (by assumption) (zix_nI (by omega) (by decide)) dX7_settles_39 ?_
          rw [zu_zr]
          refine z_lk (show zV X E S 0 0 (I, zr J ro (fun j => if j = nb then 1 else if j = na then 1 else if j < 9 then 0 else J ro j), R) 40 [(0, .ref x)] [] from ?_) ⟨rfl, trivial⟩
          rw [show (fun j => if j = nb then 1 else if j = na then 1 else if j < 9 then 0 else J ro j) = q0 (J ro) na ob from by
            funext k
            unfold q0
            rw [hb3]
            by_cases w : k = nb
            · rw [if_pos w, if_pos (show some nb = some k by rw [w])]
            · rw [if_neg w, if_neg (show ¬ some nb = some k from fun v => w (by injection v with v; exact v.symm))]]
          exact A40
      · exact absurd (nI_le (by decide) (by decide)) c5
    | succ d ih =>
      intro i hi
      refine z_iload_n h dX7_settles_2 rfl rfl ?_
      refine z_bipush (v := 9) h dX7_settles_3 (by decide) ?_
      rw [show (9 : Int32) = nI 9 from rfl]
      refine z_icmp_ge h 21 dX7_settles_5 (by decide) (fun c5 => ?_) (fun c5 => ?_)
      · exact absurd (nle (by decide) (by omega) c5) (by omega)
      · refine z_aload_n h dX7_settles_8 rfl rfl ?_
        refine z_getR h (by assumption) rfl kw7 22 (by decide) rfl (by assumption) kf_RX7_36 dX7_settles_9 ?_
        refine z_iload_n h dX7_settles_12 rfl rfl ?_
        refine z_lconst (v := 0) h dX7_settles_13 (by decide) ?_
        refine z_last h (by assumption) (zix_nI (by omega) (by decide)) dX7_settles_14 ?_
        rw [row_up (v := fun _ => 0)]
        refine z_iinc h dX7_settles_15 rfl (nI_1 i) (by decide) ?_
        refine z_goto h 2 dX7_settles_18 (by decide) ?_
        exact z_lk (ih (i + 1) (by omega)) ⟨rfl, rfl, rfl, rfl, trivial⟩
  refine z_iconst (v := 0) h dX7_settles_0 (by decide) ?_
  refine z_istore_n h dX7_settles_1 rfl (by decide) ?_
  have e := L2 9 0 rfl
  rw [show (fun k => if k < 0 then (fun _ => (0 : Int64)) k else J ro k) = J ro from row_0, zr_id] at e
  exact z_lk e ⟨rfl, rfl, rfl, rfl, trivial⟩
