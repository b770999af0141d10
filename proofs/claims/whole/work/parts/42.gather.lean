/-! GATHER: the rows of the chosen facts of a unit -/
def fiN (r : Nat → Int) : Nat → Nat → Nat
  | 0, i => i
  | d + 1, i => if r i = 0 then fiN r d (i + 1) else i
def ad (es : List (Nat × (Nat → Int))) (f : Nat → Int) : List (Nat × (Nat → Int)) × Bool := if fiN (redu es f) 8 0 = 8 then (es, decide (redu es f 9 = 0)) else (es ++ [(fiN (redu es f) 8 0, redu es f)], true)
def sel (p : Nat → Nat → Int32) (un : Int32) (st : Nat → Bool) (i : Nat) : Bool := st i && decide (p i 0 < 5) && decide (p i 3 = un)
def gth (p : Nat → Nat → Int32) (m : Nat) (un : Int32) (st : Nat → Bool) : Nat → List (Nat × (Nat → Int)) × Bool
  | 0 => ([], true)
  | i + 1 => if (gth p m un st i).2 && sel p un st i then ad (gth p m un st i).1 (fct p m i) else gth p m un st i
def bt (s : Int32) (i : Nat) : Bool := !decide ((s >>> (nI i &&& 31)) &&& 1 = 0)
theorem fi_le (r : Nat → Int) : ∀ d i, fiN r d i ≤ i + d
  | 0, i => Nat.le_refl _
  | d + 1, i => by
    unfold fiN
    split
    · have := fi_le r d (i + 1); omega
    · omega
theorem fi_ne (r : Nat → Int) : ∀ d i, fiN r d i < i + d → r (fiN r d i) ≠ 0
  | 0, i => fun h => absurd h (Nat.lt_irrefl _)
  | d + 1, i => by
    unfold fiN
    split
    · intro h; exact fi_ne r d (i + 1) (by omega)
    · next w => intro _; exact w
theorem fi_z (r : Nat → Int) : ∀ d i, fiN r d i = i + d → ∀ j, i ≤ j → j < i + d → r j = 0
  | 0, i => fun _ j h1 h2 => absurd h2 (by omega)
  | d + 1, i => by
    unfold fiN
    split
    · next w =>
      intro h j h1 h2
      by_cases q : j = i
      · rw [q]; exact w
      · exact fi_z r d (i + 1) (by omega) j (by omega) (by omega)
    · intro h; omega
theorem fs_fi {r : Nat → Int64} {ρ : Nat → Int} (h : ∀ k, k < 8 → (r k = 0 ↔ ρ k = 0)) : ∀ d i, i + d = 8 → fsN r d i = fiN ρ d i
  | 0, i, _ => rfl
  | d + 1, i, hi => by
    unfold fsN fiN
    by_cases q : r i = 0
    · rw [if_pos q, if_pos ((h i (by omega)).mp q)]; exact fs_fi h d (i + 1) (by omega)
    · rw [if_neg q, if_neg (fun w => q ((h i (by omega)).mpr w))]
theorem nl_le (t : Nat → Nat) : ∀ m, nl t m ≤ m
  | 0 => Nat.le_refl _
  | m + 1 => by unfold nl; have := nl_le t m; split <;> omega
theorem nl_lt {t : Nat → Nat} {l : Nat} (h : t l = l) : ∀ {m : Nat}, l < m → nl t m < m
  | 0, g => absurd g (by omega)
  | m + 1, g => by
    unfold nl
    by_cases q : l = m
    · subst q; rw [if_pos h]; have := nl_le t l; omega
    · have := nl_lt h (m := m) (by omega); split <;> omega
theorem ri_8 {k : Int} {es : List (Nat × (Nat → Int))} (h : RI k es) : es.length ≤ 8 := by
  obtain ⟨t, z, C, D, M, e, hp⟩ := h.2.2.1 es.length (Nat.le_refl _)
  rw [List.take_length] at hp
  rw [← hp.2.2.1]; exact nl_le t 8
theorem ri_7 {k : Int} {es : List (Nat × (Nat → Int))} (h : RI k es) {l : Nat} (hl : l < 8) (hn : ∀ q ∈ es, q.1 ≠ l) : es.length < 8 := by
  obtain ⟨t, z, C, D, M, e, hp⟩ := h.2.2.1 es.length (Nat.le_refl _)
  rw [List.take_length] at hp
  rw [← hp.2.2.1]
  refine nl_lt (l := l) ?_ hl
  by_cases q : t l = l
  · exact q
  · obtain ⟨v, hv, e⟩ := (hp.2.1 l hl).mpr q
    exact absurd e (hn v hv)
theorem ad_ri {k : Int} {es : List (Nat × (Nat → Int))} (hk : 0 ≤ k) (h : RI k es) {a b : Nat} {β γ : Int} (hf : Fct k a b β γ) : RI k (ad es (gr a b 1 β 0 γ)).1 ∧ (ad es (gr a b 1 β 0 γ)).1.length ≤ es.length + 1 := by
  unfold ad
  split
  · exact ⟨h, by simp⟩
  · next w =>
    have h1 := fi_le (redu es (gr a b 1 β 0 γ)) 8 0
    refine ⟨ri_add hk h hf (by omega) (fi_ne _ 8 0 (by omega)), by simp⟩
theorem gth_ri {p : Nat → Nat → Int32} {m : Nat} (h : WT p m) (un : Int32) (st : Nat → Bool) : ∀ i, i ≤ m → RI (kk p m) (gth p m un st i).1 ∧ (gth p m un st i).1.length ≤ nf p i
  | 0, _ => ⟨ri_nil, Nat.le_refl _⟩
  | i + 1, hi => by
    have ih := gth_ri h un st i (by omega)
    have hk := (kc_le (kk_KC (p := p) h.1)).1
    unfold gth nf
    split
    · next w =>
      have hf : p i 0 < 5 := by
        have := (Bool.and_eq_true _ _).mp w
        have := this.2
        unfold sel at this
        simp only [Bool.and_eq_true, decide_eq_true_eq] at this
        exact this.1.2
      have := ad_ri hk ih.1 (fct_ok h (by omega) hf)
      rw [if_pos hf]
      exact ⟨this.1, by have := this.2; unfold fct; omega⟩
    · exact ⟨ih.1, by omega⟩
theorem gth_stop {p : Nat → Nat → Int32} {m : Nat} {un : Int32} {st : Nat → Bool} {i : Nat} (h : (gth p m un st i).2 = false) : ∀ {j : Nat}, i ≤ j → gth p m un st j = gth p m un st i
  | 0, hj => by rw [show i = 0 by omega]
  | j + 1, hj => by
    by_cases q : i = j + 1
    · rw [q]
    · have ih := gth_stop h (j := j) (by omega)
      show (if (gth p m un st j).2 && sel p un st j then _ else gth p m un st j) = _
      rw [ih, h, Bool.false_and, if_neg (by decide)]
theorem e9_congr {r q : Nat → Int64} (h : ∀ k, k < 9 → r k = q k) : e9 r = e9 q := by
  funext k
  unfold e9
  split
  · rw [h k (by omega)]
  · rw [h 8 (by omega)]
/-- the reference's memory holds these rows -/
def RM (I : Nat → Nat → Int32) (J : Nat → Nat → Int64) (x ba be : Nat) (es : List (Nat × (Nat → Int))) : Prop := I x 24 = nI es.length ∧ ∀ j q, es[j]? = some q → I be j = nI q.1 ∧ e9 (fun k => J ba (9 * j + k)) = q.2
def bgI (I : Nat → Nat → Int32) (be : Nat) : Nat → Nat := fun j => (I be j).toNatClampNeg
theorem rm_rb {k : Int} {I : Nat → Nat → Int32} {J : Nat → Nat → Int64} {x ba be : Nat} {es : List (Nat × (Nat → Int))} (h : RM I J x ba be es) (hr : RI k es) : RB es (fun j k => J ba (9 * j + k)) (bgI I be) ∧ ∀ j, j < es.length → I be j = nI (bgI I be j) ∧ bgI I be j < 8 := by
  have key : ∀ j q, es[j]? = some q → bgI I be j = q.1 := fun j q hq => by
    unfold bgI
    rw [(h.2 j q hq).1]
    exact nI_clamp (by have := (hr.2.1 q (List.mem_of_getElem? hq)).1; omega)
  refine ⟨fun j q hq => ⟨key j q hq, (h.2 j q hq).2⟩, fun j hj => ?_⟩
  obtain ⟨q, hq⟩ : ∃ q, es[j]? = some q := ⟨_, List.getElem?_eq_getElem hj⟩
  rw [key j q hq]
  exact ⟨(h.2 j q hq).1, (hr.2.1 q (List.mem_of_getElem? hq)).1⟩
/-- what adds did, as rows of whole numbers -/
theorem adds_es {S : zS} {I : Nat → Nat → Int32} {J : Nat → Nat → Int64} {R : Nat → Nat → Option Nat} {x ro ba be : Nat} (hm : MB S R x ro ba be) {es : List (Nat × (Nat → Int))} {f : Nat → Int} (hM : RM I J x ba be es) (hA : (e9 (rdR (fun j k => J ba (9 * j + k)) (bgI I be) (J ro) es.length) = redu es f) ∨ ((∀ i, i < 8 → rdR (fun j k => J ba (9 * j + k)) (bgI I be) (J ro) es.length i = 0) ∧ (∀ i, i < 8 → redu es f i = 0) ∧ (rdR (fun j k => J ba (9 * j + k)) (bgI I be) (J ro) es.length 8 = 0 ↔ redu es f 9 = 0))) {r : Int32} {ν : zM}
    (hpost : (fsN (rdR (fun j k => J ba (9 * j + k)) (bgI I be) (J ro) es.length) 8 0 = 8 ∧ r = b2i (decide (rdR (fun j k => J ba (9 * j + k)) (bgI I be) (J ro) es.length 8 = 0)) ∧ ν = (I, zr J ro (rdR (fun j k => J ba (9 * j + k)) (bgI I be) (J ro) es.length), R)) ∨ (fsN (rdR (fun j k => J ba (9 * j + k)) (bgI I be) (J ro) es.length) 8 0 < 8 ∧ r = 1 ∧ ν = (zu (zu I be es.length (nI (fsN (rdR (fun j k => J ba (9 * j + k)) (bgI I be) (J ro) es.length) 8 0))) x 24 (nI (es.length + 1)), zr (zr J ro (rdR (fun j k => J ba (9 * j + k)) (bgI I be) (J ro) es.length)) ba (fun m => if 9 * es.length ≤ m ∧ m < 9 * es.length + 9 then rdR (fun j k => J ba (9 * j + k)) (bgI I be) (J ro) es.length (m - 9 * es.length) else J ba m), R))) :
    ∃ (I' : Nat → Nat → Int32) (J' : Nat → Nat → Int64), ν = (I', J', R) ∧ r = b2i (ad es f).2 ∧ (∀ a, a ≠ be → a ≠ x → I' a = I a) ∧ (∀ w, w ≠ 24 → I' x w = I x w) ∧ (∀ a, a ≠ ro → a ≠ ba → J' a = J a) ∧ RM I' J' x ba be (ad es f).1 := by
  have hxbe := hm.xbe
  obtain ⟨m1, m2, m3, m4, m5, m6, m7, m8⟩ := id hm
  generalize hrr : rdR (fun j k => J ba (9 * j + k)) (bgI I be) (J ro) es.length = rr at *
  have hz : ∀ k, k < 8 → (rr k = 0 ↔ redu es f k = 0) := by
    intro k hk
    rcases hA with h | ⟨h1, h2, h3⟩
    · rw [← h, e9_n hk, i64_0]
    · exact ⟨fun _ => h2 k hk, fun _ => h1 k hk⟩
  have h8 : rr 8 = 0 ↔ redu es f 9 = 0 := by
    rcases hA with h | ⟨h1, h2, h3⟩
    · rw [← h, e9_9, i64_0]
    · exact h3
  have hfs := fs_fi hz 8 0 rfl
  rcases hpost with ⟨p1, p2, p3⟩ | ⟨p1, p2, p3⟩
  · refine ⟨I, _, p3, ?_, fun _ _ _ => rfl, fun _ _ => rfl, fun a h1 _ => zr_a h1, ?_⟩
    · rw [p2]
      unfold ad
      rw [if_pos (by rw [← hfs]; exact p1)]
      congr 1
      exact decide_eq_decide.mpr h8
    · unfold ad
      rw [if_pos (by rw [← hfs]; exact p1)]
      refine ⟨hM.1, fun j q hq => ⟨(hM.2 j q hq).1, ?_⟩⟩
      rw [← (hM.2 j q hq).2]
      exact e9_congr (fun k _ => zr_ak (Ne.symm m8))
  · have hA2 : e9 rr = redu es f := by
      rcases hA with h | ⟨h1, h2, h3⟩
      · exact h
      · exfalso
        have : fsN rr 8 0 = 8 := by
          rw [hfs]
          have h4 := fi_le (redu es f) 8 0
          have h5 := fi_ne (redu es f) 8 0
          by_cases w : fiN (redu es f) 8 0 < 0 + 8
          · exact absurd (h2 _ (by omega)) (h5 w)
          · omega
        omega
    have hne : ¬ fiN (redu es f) 8 0 = 8 := by rw [← hfs]; omega
    refine ⟨_, _, p3, ?_, fun a h1 h2 => by rw [zu_o h2, zu_o h1], fun w hw => by rw [zu_k hw, zu_a hxbe], fun a h1 h2 => by rw [zr_a h2, zr_a h1], ?_⟩
    · rw [p2]
      unfold ad
      rw [if_neg hne]
      rfl
    · unfold ad
      rw [if_neg hne]
      refine ⟨by rw [zu_s, List.length_append]; rfl, fun j q hq => ?_⟩
      by_cases w : j < es.length
      · rw [List.getElem?_append_left w] at hq
        obtain ⟨g1, g2⟩ := hM.2 j q hq
        refine ⟨by rw [zu_a (Ne.symm hxbe), zu_k (by omega)]; exact g1, ?_⟩
        rw [← g2]
        refine e9_congr (fun k hk => ?_)
        rw [zr_sk, if_neg (by omega)]
      · have hj := (List.getElem?_eq_some_iff.mp hq).1
        rw [List.length_append] at hj
        have hj2 : j = es.length := by simp at hj; omega
        subst hj2
        rw [List.getElem?_append_right (Nat.le_refl _), Nat.sub_self] at hq
        have hq2 : (fiN (redu es f) 8 0, redu es f) = q := by simpa using hq
        rw [← hq2]
        refine ⟨by rw [zu_a (Ne.symm hxbe), zu_s, hfs], ?_⟩
        show _ = redu es f
        rw [← hA2]
        refine e9_congr (fun k hk => ?_)
        rw [zr_sk, if_pos (by omega)]
        congr 1
        omega
/-- what gather leaves as it was -/
def FR (I I' : Nat → Nat → Int32) (J J' : Nat → Nat → Int64) (x ro ba be : Nat) : Prop := (∀ a, a ≠ be → a ≠ x → I' a = I a) ∧ (∀ w, w ≠ 24 → I' x w = I x w) ∧ (∀ a, a ≠ ro → a ≠ ba → J' a = J a)
theorem FR.tr {I I' I'' : Nat → Nat → Int32} {J J' J'' : Nat → Nat → Int64} {x ro ba be : Nat} (h : FR I I' J J' x ro ba be) (g : FR I' I'' J' J'' x ro ba be) : FR I I'' J J'' x ro ba be := ⟨fun a h1 h2 => (g.1 a h1 h2).trans (h.1 a h1 h2), fun w hw => (g.2.1 w hw).trans (h.2.1 w hw), fun a h1 h2 => (g.2.2 a h1 h2).trans (h.2.2 a h1 h2)⟩
theorem FR.rf {I : Nat → Nat → Int32} {J : Nat → Nat → Int64} {x ro ba be : Nat} : FR I I J J x ro ba be := ⟨fun _ _ _ => rfl, fun _ _ => rfl, fun _ _ _ => rfl⟩
theorem FR.td {I I' : Nat → Nat → Int32} {J J' : Nat → Nat → Int64} {x ro ba be td : Nat} (h : FR I I' J J' x ro ba be) (h1 : td ≠ be) (h2 : td ≠ x) : (fun i w => tdP I' td i w) = fun i w => tdP I td i w := by
  funext i w
  unfold tdP
  rw [h.1 td h1 h2]
theorem FR.TD {S : zS} {R : Nat → Nat → Option Nat} {I I' : Nat → Nat → Int32} {J J' : Nat → Nat → Int64} {x ro ba be td m : Nat} (h : FR I I' J J' x ro ba be) (hD : TD S R I x td m) : TD S R I' x td m := ⟨hD.1, hD.2.1, hD.2.2.1, by rw [h.2.1 7 (by decide)]; exact hD.2.2.2.1, hD.2.2.2.2⟩
theorem td_ne {S : zS} {R : Nat → Nat → Option Nat} {I : Nat → Nat → Int32} {x ro ba be td m : Nat} (hm : MB S R x ro ba be) (hD : TD S R I x td m) : td ≠ be ∧ td ≠ x := ⟨fun q => absurd (hD.2.2.1.2.2.symm.trans (q ▸ hm.2.2.2.2.2.2.1.2.2)) (by decide), fun q => absurd (hD.2.2.1.2.1.symm.trans (q ▸ hm.1.2)) (by decide)⟩

set_option maxHeartbeats 4000000 in
set_option maxRecDepth 100000 in
theorem c_X7_gather (l : Launch) {E : zE} {S : zS} {I : Nat → Nat → Int32} {J : Nat → Nat → Int64} {R : Nat → Nat → Option Nat} {x ro ba be : Nat} (hm : MB S R x ro ba be) {td m : Nat} (hD : TD S R I x td m) {un set : Int32} (hW : WT (fun i w => tdP I td i w) m) : zIP l yX7_gather wsX7_gather rmX7_gather E S [.ref x, .int un, .int set] (I, J, R) (fun r ν => ∃ I' J', ν = (I', J', R) ∧ r = b2i (gth (fun i w => tdP I td i w) m un (bt set) m).2 ∧ FR I I' J J' x ro ba be ∧ RM I' J' x ba be (gth (fun i w => tdP I td i w) m un (bt set) m).1) := by
  refine z_metIP (cc := cX7_gather) (maxL := 5) (ty := .boolean) (by decide) rfl (Nat.le_of_ble_eq_true rfl) (fun X h ret => ?_)
  show zV X E S 0 0 (I, J, R) 0 _ []
  obtain ⟨m1, m2, m3, m4, m5, m6, m7, m8⟩ := id hm
  obtain ⟨n1, n2⟩ := td_ne hm hD
  obtain ⟨hxbe, hxro, hxba⟩ : x ≠ be ∧ x ≠ ro ∧ x ≠ ba := ⟨hm.xbe, hm.xro, hm.xba⟩
  generalize hPP : (fun i w => tdP I td i w) = P at *
  have LL : ∀ (d i : Nat) (I1 : Nat → Nat → Int32) (J1 : Nat → Nat → Int64), i + d = m → FR I I1 J J1 x ro ba be → RM I1 J1 x ba be (gth P m un (bt set) i).1 → zV X E S 0 0 (I1, J1, R) 10 [(0, .ref x), (1, .int un), (2, .int set), (3, .int (b2i (gth P m un (bt set) i).2)), (4, .int (nI i))] [] := by
    intro d
    induction d with
    | zero =>
      intro i I1 J1 hi hF hM
      have e : i = m := by omega
      subst e
      obtain ⟨d1, d2, d3, d4, d5⟩ := hF.TD hD
      refine z_iload h dX7_gather_10 rfl ?_
      refine z_aload_n h dX7_gather_12 rfl rfl ?_
      refine z_getI h (by assumption) rfl kw7 7 (by decide) rfl kf_RX7_205 dX7_gather_13 ?_
      rw [d4]
      refine z_icmp_ge h 72 dX7_gather_16 (by decide) (fun c16 => ?_) (fun c16 => ?_)
      · refine z_iload_n h dX7_gather_72 rfl rfl ?_
        exact ret ⟨I1, J1, rfl, rfl, hF, hM⟩ dX7_gather_73 (b2i_nar _)
      · exact absurd (nI_le (Nat.le_refl _) (by omega)) c16
    | succ d ih =>
      intro i I1 J1 hi hF hM
      have hD1 := hF.TD hD
      have hP1 : (fun i w => tdP I1 td i w) = P := by rw [hF.td n1 n2, hPP]
      have hP2 : ∀ j w, tdP I1 td j w = P j w := fun j w => by rw [← hP1]
      obtain ⟨d1, d2, d3, d4, d5⟩ := id hD1
      have N66 : ∀ (I2 : Nat → Nat → Int32) (J2 : Nat → Nat → Int64) (b : Int32), b = b2i (gth P m un (bt set) (i + 1)).2 → FR I I2 J J2 x ro ba be → RM I2 J2 x ba be (gth P m un (bt set) (i + 1)).1 → zV X E S 0 0 (I2, J2, R) 66 [(0, .ref x), (1, .int un), (2, .int set), (3, .int b), (4, .int (nI i))] [] := by
        intro I2 J2 b hb hF2 hM2
        subst hb
        refine z_iinc h dX7_gather_66 rfl (nI_1 i) (by decide) ?_
        refine z_goto h 10 dX7_gather_69 (by decide) ?_
        exact z_lk (ih (i + 1) I2 J2 (by omega) hF2 hM2) ⟨rfl, rfl, rfl, rfl, rfl, trivial⟩
      have SKIP : sel P un (bt set) i = false → zV X E S 0 0 (I1, J1, R) 66 [(0, .ref x), (1, .int un), (2, .int set), (3, .int (b2i (gth P m un (bt set) i).2)), (4, .int (nI i))] [] := by
        intro hs
        have e : gth P m un (bt set) (i + 1) = gth P m un (bt set) i := by
          show (if (gth P m un (bt set) i).2 && sel P un (bt set) i then _ else gth P m un (bt set) i) = _
          rw [hs, Bool.and_false, if_neg (by decide)]
        exact N66 I1 J1 _ (by rw [e]) hF (by rw [e]; exact hM)
      refine z_iload h dX7_gather_10 rfl ?_
      refine z_aload_n h dX7_gather_12 rfl rfl ?_
      refine z_getI h (by assumption) rfl kw7 7 (by decide) rfl kf_RX7_205 dX7_gather_13 ?_
      rw [d4]
      refine z_icmp_ge h 72 dX7_gather_16 (by decide) (fun c16 => ?_) (fun c16 => ?_)
      · exact absurd (nle (by omega) (by omega) c16) (by omega)
      · refine z_iload_n h dX7_gather_19 rfl rfl ?_
        refine z_if_eq h 72 dX7_gather_20 (by decide) (fun c20 => ?_) (fun c20 => ?_)
        · have e := gth_stop (p := P) (m := m) (un := un) (st := bt set) (i := i) (b2i_0.mp c20) (j := m) (by omega)
          rw [← e] at hM
          refine z_iload_n h dX7_gather_72 rfl rfl ?_
          exact ret ⟨I1, J1, rfl, by rw [e], hF, hM⟩ dX7_gather_73 (b2i_nar _)
        · refine z_iload_n h dX7_gather_23 rfl rfl ?_
          refine z_iload h dX7_gather_24 rfl ?_
          refine z_ishr h dX7_gather_26 ?_
          refine z_iconst (v := 1) h dX7_gather_27 (by decide) ?_
          refine z_iand h dX7_gather_28 ?_
          refine z_if_eq h 66 dX7_gather_29 (by decide) (fun c29 => ?_) (fun c29 => ?_)
          · exact z_lk (SKIP (by unfold sel bt; rw [decide_eq_true c29]; rfl)) ⟨rfl, rfl, rfl, rfl, rfl, trivial⟩
          · refine z_aload_n h dX7_gather_32 rfl rfl ?_
            refine z_iload h dX7_gather_33 rfl ?_
            refine z_callVI h (c_X7_isFact l d1 d2 d3 (by omega)) (by assumption) rfl gm_RX7_235 rfl ⟨rfl, rfl⟩ 1 (by decide +kernel) ⟨by decide, by decide⟩ rfl rfl (Nat.le_of_ble_eq_true rfl) ⟨Nat.zero_le _, Nat.zero_le _⟩ dX7_gather_35 ?_
            refine z_if_eq h 66 dX7_gather_38 (by decide) (fun c38 => ?_) (fun c38 => ?_)
            · rw [hP2] at c38
              exact z_lk (SKIP (by unfold sel; rw [b2i_0.mp c38, Bool.and_false]; rfl)) ⟨rfl, rfl, rfl, rfl, rfl, trivial⟩
            · refine z_aload_n h dX7_gather_41 rfl rfl ?_
              refine z_iload h dX7_gather_42 rfl ?_
              refine z_iconst (v := 3) h dX7_gather_44 (by decide) ?_
              refine z_callVI h (c_X7_of l d1 d2 d3 (w := 3) (by omega)) (by assumption) rfl gm_RX7_214 rfl ⟨rfl, rfl⟩ 2 (by decide +kernel) ⟨by decide, by decide⟩ rfl rfl (Nat.le_of_ble_eq_true rfl) ⟨Nat.zero_le _, Nat.zero_le _⟩ dX7_gather_45 ?_
              refine z_iload_n h dX7_gather_48 rfl rfl ?_
              refine z_icmp_eq h 55 dX7_gather_49 (by decide) (fun c49 => ?_) (fun c49 => ?_)
              · rw [hP2] at c38 c49
                have c38 := b2i_n0.mp c38
                have hfac : P i 0 < 5 := of_decide_eq_true c38
                have hsel : sel P un (bt set) i = true := by
                  unfold sel bt
                  rw [c38, decide_eq_true c49, decide_eq_false c29]; rfl
                have hstep : gth P m un (bt set) (i + 1) = ad (gth P m un (bt set) i).1 (fct P m i) := by
                  show (if (gth P m un (bt set) i).2 && sel P un (bt set) i then _ else gth P m un (bt set) i) = _
                  rw [hsel, b2i_n0.mp c20, Bool.and_true, if_pos rfl]
                obtain ⟨r1, r2⟩ := gth_ri hW un (bt set) i (by omega)
                generalize hes : (gth P m un (bt set) i).1 = es at *
                have hK := kk_KC (p := P) hW.1
                have hlen : es.length + ev P m ≤ 9 := by
                  have q1 := nf_lt hfac (show i < m by omega)
                  have q2 := ev_nf P m
                  have q3 := hW.1
                  omega
                obtain ⟨rb1, rb2⟩ := rm_rb hM r1
                have hlaw := c_X7_law (E := E) (J := J1) l hm hD1 (i := i) (by omega) (by rw [hP1]; exact fct_lwf (hW.2 i (by omega)) hfac)
                rw [hP1, hP2, hP2] at hlaw
                have he9 := e9_lwR hW (show i < m by omega) hfac (J1 ro)
                generalize hrow : lwR (J1 ro) (fA P i) (if P i 2 = -1 then none else some (fB P i)) (lwβ (P i 0) (P i 4).toInt64) (lwγ (P i 0) (P i 4).toInt64 (lwD P m i 1) (lwD P m i 2)) = row at *
                have hba : ∀ k, zr J1 ro row ba k = J1 ba k := fun k => zr_ak (Ne.symm m8)
                have hM2 : RM I1 (zr J1 ro row) x ba be es := ⟨hM.1, fun j q hq => ⟨(hM.2 j q hq).1, by rw [← (hM.2 j q hq).2]; exact e9_congr (fun k _ => hba _)⟩⟩
                obtain ⟨rb1, rb2⟩ := rm_rb hM2 r1
                have hA := rd_fact hK r1 hlen (fct_ok hW (by omega) hfac) rb1 (r := zr J1 ro row ro) (by rw [zr_s]; exact he9) es.length (Nat.le_refl _)
                rw [List.take_length] at hA
                have hf8 : fsN (rdR (fun j k => zr J1 ro row ba (9 * j + k)) (bgI I1 be) (zr J1 ro row ro) es.length) 8 0 < 8 → es.length < 8 := by
                  intro hlt
                  have hab := (fct_ok hW (show i < m by omega) hfac).2.2.1
                  have hsp := redu_spec r1.1 (gr_prim (σ := 0) (γ := fγ P m i) (fct_ok hW (show i < m by omega) hfac).1 (α := 1) rfl (by rcases hab with w | w; exact Or.inl w.1; exact Or.inr w.2))
                  have hz : ∀ k, k < 8 → (rdR (fun j k => zr J1 ro row ba (9 * j + k)) (bgI I1 be) (zr J1 ro row ro) es.length k = 0 ↔ redu es (fct P m i) k = 0) := by
                    intro k hk
                    rcases hA with w | ⟨w1, w2, w3⟩
                    · show _ ↔ redu es (gr (fA P i) (fB P i) 1 (fβ P i) 0 (fγ P m i)) k = 0
                      rw [← w, e9_n hk, i64_0]
                    · exact ⟨fun _ => w2 k hk, fun _ => w1 k hk⟩
                  rw [fs_fi hz 8 0 rfl] at hlt
                  exact ri_7 r1 hlt (fun q hq w => fi_ne _ 8 0 (by omega) (by rw [← w]; exact hsp.2.1 q hq))
                refine z_aload_n h dX7_gather_55 rfl rfl ?_
                refine z_iload h dX7_gather_56 rfl ?_
                refine z_callVN h (hlaw) (by assumption) rfl gm_RX7_238 rfl ⟨rfl, rfl⟩ 1 (by decide +kernel) ⟨by decide, by decide⟩ rfl rfl (Nat.le_of_ble_eq_true rfl) ⟨Nat.zero_le _, Nat.zero_le _⟩ dX7_gather_58 ?_
                refine z_aload_n h dX7_gather_61 rfl rfl ?_
                refine z_callVIP h (c_X7_adds l hm hM2.1 (ri_8 r1) rb2 hf8) (by assumption) rfl gm_RX7_241 rfl ⟨rfl, rfl⟩ 0 (by decide +kernel) ⟨by decide, by decide⟩ rfl rfl (Nat.le_of_ble_eq_true rfl) ⟨Nat.zero_le _, Nat.zero_le _⟩ dX7_gather_62 (fun r ν hν => ?_)
                obtain ⟨I2, J2, rfl, hr, f1, f2, f3, hM3⟩ := adds_es (f := fct P m i) hm hM2 hA hν
                refine z_istore_n h dX7_gather_65 rfl (by decide) ?_
                refine z_lk (N66 I2 J2 _ (by rw [hr, hstep]) (hF.tr ⟨f1, f2, fun a h1 h2 => (f3 a h1 h2).trans (zr_a h1)⟩) (by rw [hstep]; exact hM3)) ⟨rfl, rfl, rfl, rfl, rfl, trivial⟩
              · refine z_goto h 66 dX7_gather_52 (by decide) ?_
                rw [hP2] at c49
                exact z_lk (SKIP (by unfold sel; rw [decide_eq_false c49, Bool.and_false])) ⟨rfl, rfl, rfl, rfl, rfl, trivial⟩
  refine z_aload_n h dX7_gather_0 rfl rfl ?_
  refine z_iconst (v := 0) h dX7_gather_1 (by decide) ?_
  refine z_putI h (by assumption) rfl kw7 24 (by decide) rfl rfl (rfl) (rfl) kf_RX7_228 dX7_gather_2 ?_
  refine z_iconst (v := 1) h dX7_gather_5 (by decide) ?_
  refine z_istore_n h dX7_gather_6 rfl (by decide) ?_
  refine z_iconst (v := 0) h dX7_gather_7 (by decide) ?_
  refine z_istore h dX7_gather_8 (by decide) ?_
  have e := LL m 0 (zu I x 24 0) J (by omega) ⟨fun a _ h2 => zu_o h2, fun w hw => zu_k hw, fun _ _ _ => rfl⟩ ⟨zu_s, fun j q hq => by simp [gth] at hq⟩
  exact z_lk e ⟨rfl, rfl, rfl, rfl, rfl, trivial⟩
