/-! THE STORY: an object st, its rows pa (rw i), what is asked ak -/
theorem z_tswI {X : zC} {E : zE} {S : zS} {kc ks : Nat} {μ : zM} {pc : Nat} {lv : List (Nat × Value)} {st : List Value} {l : Launch} {cc : ByteArray} {own : String} {Ts : List Cond} {rm : Room} {nL : Nat} (h : zOK X E l cc own Ts rm nL) {dflt lo hi : Int} {offs : Array Int} {len : Nat} {x : Int32} {off : Int} (tgt : Nat) (hd : decode cc pc = .ok (.tableswitch dflt lo hi offs, len)) (h1 : ¬ x.toInt < lo) (h2 : ¬ hi < x.toInt) (ho : offs[(x.toInt - lo).toNat]? = some off) (ht : (pc : Int) + off = (tgt : Int)) (k : zV X E S kc ks μ tgt lv st) : zV X E S kc ks μ pc lv (.int x :: st) := fun H locs ls hP hD hS hl => lv_tableIn h.1 h.2.1 hd h1 h2 ho ht (k H locs ls hP hD hS hl)
theorem z_tswO {X : zC} {E : zE} {S : zS} {kc ks : Nat} {μ : zM} {pc : Nat} {lv : List (Nat × Value)} {st : List Value} {l : Launch} {cc : ByteArray} {own : String} {Ts : List Cond} {rm : Room} {nL : Nat} (h : zOK X E l cc own Ts rm nL) {dflt lo hi : Int} {offs : Array Int} {len : Nat} {x : Int32} (tgt : Nat) (hd : decode cc pc = .ok (.tableswitch dflt lo hi offs, len)) (h1 : x.toInt < lo ∨ hi < x.toInt) (ht : (pc : Int) + dflt = (tgt : Int)) (k : zV X E S kc ks μ tgt lv st) : zV X E S kc ks μ pc lv (.int x :: st) := fun H locs ls hP hD hS hl => lv_tableOut h.1 h.2.1 hd h1 ht (k H locs ls hP hD hS hl)
def SY (S : zS) (R : Nat → Nat → Option Nat) (st pa ak : Nat) (rw : Nat → Nat) : Prop := zO S st 3 ∧ R st 0 = some pa ∧ R st 1 = some ak ∧ zA S pa 13 10 ∧ zA S ak 9 5 ∧ (∀ i, i < 10 → R pa i = some (rw i) ∧ zA S (rw i) 9 7) ∧ (∀ i j, i < 10 → j < 10 → rw i = rw j → i = j) ∧ ∀ i, i < 10 → rw i ≠ ak
theorem SY.n1 {S : zS} {R : Nat → Nat → Option Nat} {st pa ak : Nat} {rw : Nat → Nat} (h : SY S R st pa ak rw) : ∀ i, i < 10 → st ≠ rw i := fun i hi q => absurd ((h.2.2.2.2.2.1 i hi).2.2.1.symm.trans (q ▸ h.1.2)) (by decide)
theorem SY.n2 {S : zS} {R : Nat → Nat → Option Nat} {st pa ak : Nat} {rw : Nat → Nat} (h : SY S R st pa ak rw) : st ≠ ak := fun q => absurd (h.2.2.2.2.1.2.1.symm.trans (q ▸ h.1.2)) (by decide)
theorem zix_c {j n : Nat} (x : Int32) (e : x = nI j) (h : j < n) (hn : n < 2 ^ 31) : zix x j n := e ▸ zix_nI h hn
/-- by how much a sentence's row changes a name's amount -/
def gby (r : Nat → Int32) (nm : Int32) : Int32 := if r 0 = 5 then (if r 1 = nm then -(r 4) else if r 2 = nm then r 4 else 0) else if r 0 = 6 then (if r 1 = nm then r 4 else 0) else if r 0 = 7 then (if r 1 = nm then -(r 4) else 0) else 0
def gnC (p : Nat → Nat → Int32) (nm un sg : Int32) : Nat → Int64
  | 0 => 0
  | i + 1 => if p i 3 = un ∧ p i 5 < sg then gnC p nm un sg i + (gby (p i) nm).toInt64 else gnC p nm un sg i

set_option maxHeartbeats 4000000 in
set_option maxRecDepth 100000 in
theorem c_X3_size (l : Launch) {E : zE} {S : zS} {I : Nat → Nat → Int32} {J : Nat → Nat → Int64} {R : Nat → Nat → Option Nat} {st : Nat} (y1 : zO S st 3) : zI l yX3_size wsX3_size rmX3_size E S [.ref st] (I, J, R) (I st 2) (I, J, R) := by
  refine z_metI (cc := cX3_size) (maxL := 1) (ty := .int) (by decide) rfl (Nat.le_of_ble_eq_true rfl) (fun X h ret => ?_)
  show zV X E S 0 0 (I, J, R) 0 _ []
  refine z_aload_n h dX3_size_0 rfl rfl ?_
  refine z_getI h (by assumption) rfl kw3 2 (by decide) rfl kf_RX3_20 dX3_size_1 ?_
  exact ret dX3_size_4 rfl

set_option maxHeartbeats 4000000 in
set_option maxRecDepth 100000 in
theorem c_X3_facts (l : Launch) {E : zE} {S : zS} {I : Nat → Nat → Int32} {J : Nat → Nat → Int64} {R : Nat → Nat → Option Nat} {st : Nat} (y1 : zO S st 3) : zI l yX3_facts wsX3_facts rmX3_facts E S [.ref st] (I, J, R) (I st 4) (I, J, R) := by
  refine z_metI (cc := cX3_facts) (maxL := 1) (ty := .int) (by decide) rfl (Nat.le_of_ble_eq_true rfl) (fun X h ret => ?_)
  show zV X E S 0 0 (I, J, R) 0 _ []
  refine z_aload_n h dX3_facts_0 rfl rfl ?_
  refine z_getI h (by assumption) rfl kw3 4 (by decide) rfl kf_RX3_27 dX3_facts_1 ?_
  exact ret dX3_facts_4 rfl

set_option maxHeartbeats 4000000 in
set_option maxRecDepth 100000 in
theorem c_X3_stages (l : Launch) {E : zE} {S : zS} {I : Nat → Nat → Int32} {J : Nat → Nat → Int64} {R : Nat → Nat → Option Nat} {st : Nat} (y1 : zO S st 3) : zI l yX3_stages wsX3_stages rmX3_stages E S [.ref st] (I, J, R) (if I st 5 = 0 then 0 else I st 3 + 1) (I, J, R) := by
  refine z_metI (cc := cX3_stages) (maxL := 1) (ty := .int) (by decide) rfl (Nat.le_of_ble_eq_true rfl) (fun X h ret => ?_)
  show zV X E S 0 0 (I, J, R) 0 _ []
  refine z_aload_n h dX3_stages_0 rfl rfl ?_
  refine z_getI h (by assumption) rfl kw3 5 (by decide) rfl kf_RX3_30 dX3_stages_1 ?_
  refine z_if_eq h 16 dX3_stages_4 (by decide) (fun c4 => ?_) (fun c4 => ?_)
  · rw [if_pos c4] at ret
    refine z_iconst (v := 0) h dX3_stages_16 (by decide) ?_
    exact ret dX3_stages_17 rfl
  · rw [if_neg c4] at ret
    refine z_aload_n h dX3_stages_7 rfl rfl ?_
    refine z_getI h (by assumption) rfl kw3 3 (by decide) rfl kf_RX3_24 dX3_stages_8 ?_
    refine z_iconst (v := 1) h dX3_stages_11 (by decide) ?_
    refine z_iadd h dX3_stages_12 ?_
    refine z_goto h 17 dX3_stages_13 (by decide) ?_
    exact ret dX3_stages_17 rfl

set_option maxHeartbeats 4000000 in
set_option maxRecDepth 100000 in
theorem c_X3_clear (l : Launch) {E : zE} {S : zS} {I : Nat → Nat → Int32} {J : Nat → Nat → Int64} {R : Nat → Nat → Option Nat} {st : Nat} (y1 : zO S st 3) : zN l yX3_clear wsX3_clear rmX3_clear E S [.ref st] (I, J, R) (zu (zu (zu (zu I st 2 0) st 3 0) st 4 0) st 5 0, J, R) := by
  refine z_metN (cc := cX3_clear) (maxL := 1) (by decide) rfl (Nat.le_of_ble_eq_true rfl) (fun X h ret => ?_)
  show zV X E S 0 0 (I, J, R) 0 _ []
  refine z_aload_n h dX3_clear_0 rfl rfl ?_
  refine z_iconst (v := 0) h dX3_clear_1 (by decide) ?_
  refine z_putI h (by assumption) rfl kw3 2 (by decide) rfl rfl (rfl) (rfl) kf_RX3_20 dX3_clear_2 ?_
  refine z_aload_n h dX3_clear_5 rfl rfl ?_
  refine z_iconst (v := 0) h dX3_clear_6 (by decide) ?_
  refine z_putI h (by assumption) rfl kw3 3 (by decide) rfl rfl (rfl) (rfl) kf_RX3_24 dX3_clear_7 ?_
  refine z_aload_n h dX3_clear_10 rfl rfl ?_
  refine z_iconst (v := 0) h dX3_clear_11 (by decide) ?_
  refine z_putI h (by assumption) rfl kw3 4 (by decide) rfl rfl (rfl) (rfl) kf_RX3_27 dX3_clear_12 ?_
  refine z_aload_n h dX3_clear_15 rfl rfl ?_
  refine z_iconst (v := 0) h dX3_clear_16 (by decide) ?_
  refine z_putI h (by assumption) rfl kw3 5 (by decide) rfl rfl (rfl) (rfl) kf_RX3_30 dX3_clear_17 ?_
  exact ret dX3_clear_20

set_option maxHeartbeats 4000000 in
set_option maxRecDepth 100000 in
theorem c_X3_tell (l : Launch) {E : zE} {S : zS} {I : Nat → Nat → Int32} {J : Nat → Nat → Int64} {R : Nat → Nat → Option Nat} {st pa ak : Nat} {rw : Nat → Nat} (hY : SY S R st pa ak rw) {k j : Nat} {v : Int32} (hn : I st 2 = nI k) (hk : k < 10) (hj : j < 7) : zN l yX3_tell wsX3_tell rmX3_tell E S [.ref st, .int (nI j), .int v] (I, J, R) (zu I (rw k) j v, J, R) := by
  refine z_metN (cc := cX3_tell) (maxL := 3) (by decide) rfl (Nat.le_of_ble_eq_true rfl) (fun X h ret => ?_)
  show zV X E S 0 0 (I, J, R) 0 _ []
  obtain ⟨y1, y2, y3, y4, y5, y6, y7, y8⟩ := id hY
  obtain ⟨r1, r2⟩ := y6 k hk
  refine z_aload_n h dX3_tell_0 rfl rfl ?_
  refine z_getI h (by assumption) rfl kw3 2 (by decide) rfl kf_RX3_20 dX3_tell_1 ?_
  rw [hn]
  refine z_bipush (v := 10) h dX3_tell_4 (by decide) ?_
  rw [show (10 : Int32) = nI 10 from rfl]
  refine z_icmp_ge h 31 dX3_tell_6 (by decide) (fun c6 => ?_) (fun c6 => ?_)
  · exact absurd (nle (by decide) (by omega) c6) (by omega)
  · refine z_iload_n h dX3_tell_9 rfl rfl ?_
    refine z_if_lt h 31 dX3_tell_10 (by decide) (fun c10 => ?_) (fun c10 => ?_)
    · exact absurd c10 (nI_pos (by omega))
    · refine z_iload_n h dX3_tell_13 rfl rfl ?_
      refine z_bipush (v := 7) h dX3_tell_14 (by decide) ?_
      rw [show (7 : Int32) = nI 7 from rfl]
      refine z_icmp_ge h 31 dX3_tell_16 (by decide) (fun c16 => ?_) (fun c16 => ?_)
      · exact absurd (nle (by decide) (by omega) c16) (by omega)
      · refine z_aload_n h dX3_tell_19 rfl rfl ?_
        refine z_getR h (by assumption) rfl kw3 0 (by decide) rfl (by assumption) kf_RX3_11 dX3_tell_20 ?_
        refine z_aload_n h dX3_tell_23 rfl rfl ?_
        refine z_getI h (by assumption) rfl kw3 2 (by decide) rfl kf_RX3_20 dX3_tell_24 ?_
        rw [hn]
        refine z_aaldI h (by assumption) (zix_nI hk (by decide)) (r1) dX3_tell_27 ?_
        refine z_iload_n h dX3_tell_28 rfl rfl ?_
        refine z_iload_n h dX3_tell_29 rfl rfl ?_
        refine z_iast h (by assumption) (zix_nI hj (by decide)) dX3_tell_30 ?_
        exact ret dX3_tell_31

set_option maxHeartbeats 4000000 in
set_option maxRecDepth 100000 in
theorem c_X3_open (l : Launch) {E : zE} {S : zS} {I : Nat → Nat → Int32} {J : Nat → Nat → Int64} {R : Nat → Nat → Option Nat} {st pa ak : Nat} {rw : Nat → Nat} (hY : SY S R st pa ak rw) {k : Nat} {v w : Int32} (hn : I st 2 = nI k) (hk : k < 10) : zNP l yX3_open wsX3_open rmX3_open E S [.ref st, .int v, .int w] (I, J, R) (fun ν => ∃ I', ν = (I', J, R) ∧ fr [rw k] I I' ∧ I' (rw k) 0 = -1 ∧ I' (rw k) 1 = v ∧ I' (rw k) 2 = -1 ∧ I' (rw k) 3 = -1 ∧ I' (rw k) 4 = 0 ∧ I' (rw k) 5 = I st 3 ∧ I' (rw k) 6 = w) := by
  refine z_metNP (cc := cX3_open) (maxL := 3) (by decide) rfl (Nat.le_of_ble_eq_true rfl) (fun X h ret => ?_)
  show zV X E S 0 0 (I, J, R) 0 _ []
  obtain ⟨y1, y2, y3, y4, y5, y6, y7, y8⟩ := id hY
  have hne : ∀ i, i < 10 → st ≠ rw i := hY.n1
  refine z_aload_n h dX3_open_0 rfl rfl ?_
  refine z_iconst (v := 0) h dX3_open_1 (by decide) ?_
  refine z_iconst (v := -1) h dX3_open_2 (by decide) ?_
  refine z_callVN h (c_X3_tell l hY (k := k) (j := 0) (hn) hk (by decide)) (by assumption) rfl gm_RX3_34 rfl ⟨rfl, rfl⟩ 2 (by decide +kernel) ⟨by decide, by decide⟩ rfl rfl (Nat.le_of_ble_eq_true rfl) ⟨Nat.zero_le _, Nat.zero_le _⟩ dX3_open_3 ?_
  refine z_aload_n h dX3_open_6 rfl rfl ?_
  refine z_iconst (v := 1) h dX3_open_7 (by decide) ?_
  refine z_iload_n h dX3_open_8 rfl rfl ?_
  refine z_callVN h (c_X3_tell l hY (k := k) (j := 1) ((zu_a (hne k hk)).trans (hn)) hk (by decide)) (by assumption) rfl gm_RX3_34 rfl ⟨rfl, rfl⟩ 2 (by decide +kernel) ⟨by decide, by decide⟩ rfl rfl (Nat.le_of_ble_eq_true rfl) ⟨Nat.zero_le _, Nat.zero_le _⟩ dX3_open_9 ?_
  refine z_aload_n h dX3_open_12 rfl rfl ?_
  refine z_iconst (v := 2) h dX3_open_13 (by decide) ?_
  refine z_iconst (v := -1) h dX3_open_14 (by decide) ?_
  refine z_callVN h (c_X3_tell l hY (k := k) (j := 2) ((zu_a (hne k hk)).trans ((zu_a (hne k hk)).trans (hn))) hk (by decide)) (by assumption) rfl gm_RX3_34 rfl ⟨rfl, rfl⟩ 2 (by decide +kernel) ⟨by decide, by decide⟩ rfl rfl (Nat.le_of_ble_eq_true rfl) ⟨Nat.zero_le _, Nat.zero_le _⟩ dX3_open_15 ?_
  refine z_aload_n h dX3_open_18 rfl rfl ?_
  refine z_iconst (v := 3) h dX3_open_19 (by decide) ?_
  refine z_iconst (v := -1) h dX3_open_20 (by decide) ?_
  refine z_callVN h (c_X3_tell l hY (k := k) (j := 3) ((zu_a (hne k hk)).trans ((zu_a (hne k hk)).trans ((zu_a (hne k hk)).trans (hn)))) hk (by decide)) (by assumption) rfl gm_RX3_34 rfl ⟨rfl, rfl⟩ 2 (by decide +kernel) ⟨by decide, by decide⟩ rfl rfl (Nat.le_of_ble_eq_true rfl) ⟨Nat.zero_le _, Nat.zero_le _⟩ dX3_open_21 ?_
  refine z_aload_n h dX3_open_24 rfl rfl ?_
  refine z_iconst (v := 4) h dX3_open_25 (by decide) ?_
  refine z_iconst (v := 0) h dX3_open_26 (by decide) ?_
  refine z_callVN h (c_X3_tell l hY (k := k) (j := 4) ((zu_a (hne k hk)).trans ((zu_a (hne k hk)).trans ((zu_a (hne k hk)).trans ((zu_a (hne k hk)).trans (hn))))) hk (by decide)) (by assumption) rfl gm_RX3_34 rfl ⟨rfl, rfl⟩ 2 (by decide +kernel) ⟨by decide, by decide⟩ rfl rfl (Nat.le_of_ble_eq_true rfl) ⟨Nat.zero_le _, Nat.zero_le _⟩ dX3_open_27 ?_
  refine z_aload_n h dX3_open_30 rfl rfl ?_
  refine z_iconst (v := 5) h dX3_open_31 (by decide) ?_
  refine z_aload_n h dX3_open_32 rfl rfl ?_
  refine z_getI h (by assumption) rfl kw3 3 (by decide) rfl kf_RX3_24 dX3_open_33 ?_
  refine z_callVN h (c_X3_tell l hY (k := k) (j := 5) ((zu_a (hne k hk)).trans ((zu_a (hne k hk)).trans ((zu_a (hne k hk)).trans ((zu_a (hne k hk)).trans ((zu_a (hne k hk)).trans (hn)))))) hk (by decide)) (by assumption) rfl gm_RX3_34 rfl ⟨rfl, rfl⟩ 2 (by decide +kernel) ⟨by decide, by decide⟩ rfl rfl (Nat.le_of_ble_eq_true rfl) ⟨Nat.zero_le _, Nat.zero_le _⟩ dX3_open_36 ?_
  refine z_aload_n h dX3_open_39 rfl rfl ?_
  refine z_bipush (v := 6) h dX3_open_40 (by decide) ?_
  refine z_iload_n h dX3_open_42 rfl rfl ?_
  refine z_callVN h (c_X3_tell l hY (k := k) (j := 6) ((zu_a (hne k hk)).trans ((zu_a (hne k hk)).trans ((zu_a (hne k hk)).trans ((zu_a (hne k hk)).trans ((zu_a (hne k hk)).trans ((zu_a (hne k hk)).trans (hn))))))) hk (by decide)) (by assumption) rfl gm_RX3_34 rfl ⟨rfl, rfl⟩ 2 (by decide +kernel) ⟨by decide, by decide⟩ rfl rfl (Nat.le_of_ble_eq_true rfl) ⟨Nat.zero_le _, Nat.zero_le _⟩ dX3_open_43 ?_
  refine ret ⟨_, rfl, fun a ha => ?_, ?_, ?_, ?_, ?_, ?_, ?_, ?_⟩ dX3_open_46
  · have q : a ≠ rw k := by simpa using ha
    rw [zu_o q, zu_o q, zu_o q, zu_o q, zu_o q, zu_o q, zu_o q]
  · rw [zu_k (by decide), zu_k (by decide), zu_k (by decide), zu_k (by decide), zu_k (by decide), zu_k (by decide)]; exact zu_s
  · rw [zu_k (by decide), zu_k (by decide), zu_k (by decide), zu_k (by decide), zu_k (by decide)]; exact zu_s
  · rw [zu_k (by decide), zu_k (by decide), zu_k (by decide), zu_k (by decide)]; exact zu_s
  · rw [zu_k (by decide), zu_k (by decide), zu_k (by decide)]; exact zu_s
  · rw [zu_k (by decide), zu_k (by decide)]; exact zu_s
  · rw [zu_k (by decide)]; rw [zu_s, zu_a (hne k hk), zu_a (hne k hk), zu_a (hne k hk), zu_a (hne k hk), zu_a (hne k hk)]
  · exact zu_s

set_option maxHeartbeats 4000000 in
set_option maxRecDepth 100000 in
theorem c_X3_close (l : Launch) {E : zE} {S : zS} {I : Nat → Nat → Int32} {J : Nat → Nat → Int64} {R : Nat → Nat → Option Nat} {st pa ak : Nat} {rw : Nat → Nat} (hY : SY S R st pa ak rw) {k : Nat} (hn : I st 2 = nI k) (hk : k < 10) : zN l yX3_close wsX3_close rmX3_close E S [.ref st] (I, J, R) (zu (if I (rw k) 0 ≤ 4 then zu I st 4 (I st 4 ||| (1 : Int32) <<< (nI k &&& 31)) else zu I st 3 (I st 3 + 1)) st 2 (nI (k + 1)), J, R) := by
  refine z_metN (cc := cX3_close) (maxL := 1) (by decide) rfl (Nat.le_of_ble_eq_true rfl) (fun X h ret => ?_)
  show zV X E S 0 0 (I, J, R) 0 _ []
  obtain ⟨y1, y2, y3, y4, y5, y6, y7, y8⟩ := id hY
  obtain ⟨r1, r2⟩ := y6 k hk
  refine z_aload_n h dX3_close_0 rfl rfl ?_
  refine z_getI h (by assumption) rfl kw3 2 (by decide) rfl kf_RX3_20 dX3_close_1 ?_
  rw [hn]
  refine z_bipush (v := 10) h dX3_close_4 (by decide) ?_
  rw [show (10 : Int32) = nI 10 from rfl]
  refine z_icmp_lt h 10 dX3_close_6 (by decide) (fun c6 => ?_) (fun c6 => ?_)
  · refine z_aload_n h dX3_close_10 rfl rfl ?_
    refine z_getR h (by assumption) rfl kw3 0 (by decide) rfl (by assumption) kf_RX3_11 dX3_close_11 ?_
    refine z_aload_n h dX3_close_14 rfl rfl ?_
    refine z_getI h (by assumption) rfl kw3 2 (by decide) rfl kf_RX3_20 dX3_close_15 ?_
    rw [hn]
    refine z_aaldI h (by assumption) (zix_nI hk (by decide)) (r1) dX3_close_18 ?_
    refine z_iconst (v := 0) h dX3_close_19 (by decide) ?_
    refine z_iald h (by assumption) (zix_c 0 rfl (by decide) (by decide)) dX3_close_20 ?_
    refine z_iconst (v := 4) h dX3_close_21 (by decide) ?_
    refine z_icmp_gt h 43 dX3_close_22 (by decide) (fun c22 => ?_) (fun c22 => ?_)
    · rw [if_neg (Int32.not_le.mpr c22)] at ret
      refine z_aload_n h dX3_close_43 rfl rfl ?_
      refine z_dup h dX3_close_44 rfl ?_
      refine z_getI h (by assumption) rfl kw3 3 (by decide) rfl kf_RX3_24 dX3_close_45 ?_
      refine z_iconst (v := 1) h dX3_close_48 (by decide) ?_
      refine z_iadd h dX3_close_49 ?_
      refine z_putI h (by assumption) rfl kw3 3 (by decide) rfl rfl (rfl) (rfl) kf_RX3_24 dX3_close_50 ?_
      refine z_aload_n h dX3_close_53 rfl rfl ?_
      refine z_dup h dX3_close_54 rfl ?_
      refine z_getI h (by assumption) rfl kw3 2 (by decide) rfl kf_RX3_20 dX3_close_55 ?_
      rw [zu_k (by decide), hn]
      refine z_iconst (v := 1) h dX3_close_58 (by decide) ?_
      refine z_iadd h dX3_close_59 ?_
      rw [nI_1]
      refine z_putI h (by assumption) rfl kw3 2 (by decide) rfl rfl rfl rfl kf_RX3_20 dX3_close_60 ?_
      exact ret dX3_close_63
    · rw [if_pos (Int32.not_lt.mp c22)] at ret
      refine z_aload_n h dX3_close_25 rfl rfl ?_
      refine z_dup h dX3_close_26 rfl ?_
      refine z_getI h (by assumption) rfl kw3 4 (by decide) rfl kf_RX3_27 dX3_close_27 ?_
      refine z_iconst (v := 1) h dX3_close_30 (by decide) ?_
      refine z_aload_n h dX3_close_31 rfl rfl ?_
      refine z_getI h (by assumption) rfl kw3 2 (by decide) rfl kf_RX3_20 dX3_close_32 ?_
      rw [hn]
      refine z_ishl h dX3_close_35 ?_
      refine z_ior h dX3_close_36 ?_
      refine z_putI h (by assumption) rfl kw3 4 (by decide) rfl rfl (rfl) (rfl) kf_RX3_27 dX3_close_37 ?_
      refine z_goto h 53 dX3_close_40 (by decide) ?_
      refine z_aload_n h dX3_close_53 rfl rfl ?_
      refine z_dup h dX3_close_54 rfl ?_
      refine z_getI h (by assumption) rfl kw3 2 (by decide) rfl kf_RX3_20 dX3_close_55 ?_
      rw [zu_k (by decide), hn]
      refine z_iconst (v := 1) h dX3_close_58 (by decide) ?_
      refine z_iadd h dX3_close_59 ?_
      rw [nI_1]
      refine z_putI h (by assumption) rfl kw3 2 (by decide) rfl rfl rfl rfl kf_RX3_20 dX3_close_60 ?_
      exact ret dX3_close_63
  · exact absurd (nI_lt hk (by decide)) c6

set_option maxHeartbeats 4000000 in
set_option maxRecDepth 100000 in
theorem c_X3_ask (l : Launch) {E : zE} {S : zS} {I : Nat → Nat → Int32} {J : Nat → Nat → Int64} {R : Nat → Nat → Option Nat} {st pa ak : Nat} {rw : Nat → Nat} (hY : SY S R st pa ak rw) {a b c d : Int32} : zNP l yX3_ask wsX3_ask rmX3_ask E S [.ref st, .int a, .int b, .int c, .int d] (I, J, R) (fun ν => ∃ I', ν = (I', J, R) ∧ fr [ak, st] I I' ∧ I' ak 0 = a ∧ I' ak 1 = b ∧ I' ak 2 = c ∧ I' ak 3 = d ∧ I' ak 4 = (if a = 2 then 0 else I st 3) ∧ I' st 5 = 1 ∧ ∀ i, i ≠ 5 → I' st i = I st i) := by
  refine z_metNP (cc := cX3_ask) (maxL := 5) (by decide) rfl (Nat.le_of_ble_eq_true rfl) (fun X h ret => ?_)
  show zV X E S 0 0 (I, J, R) 0 _ []
  obtain ⟨y1, y2, y3, y4, y5, y6, y7, y8⟩ := id hY
  have n2 := hY.n2
  refine z_aload_n h dX3_ask_0 rfl rfl ?_
  refine z_getR h (by assumption) rfl kw3 1 (by decide) rfl (by assumption) kf_RX3_16 dX3_ask_1 ?_
  refine z_iconst (v := 0) h dX3_ask_4 (by decide) ?_
  refine z_iload_n h dX3_ask_5 rfl rfl ?_
  refine z_iast h (by assumption) (zix_c 0 rfl (by decide) (by decide)) dX3_ask_6 ?_
  refine z_aload_n h dX3_ask_7 rfl rfl ?_
  refine z_getR h (by assumption) rfl kw3 1 (by decide) rfl (by assumption) kf_RX3_16 dX3_ask_8 ?_
  refine z_iconst (v := 1) h dX3_ask_11 (by decide) ?_
  refine z_iload_n h dX3_ask_12 rfl rfl ?_
  refine z_iast h (by assumption) (zix_c 1 rfl (by decide) (by decide)) dX3_ask_13 ?_
  refine z_aload_n h dX3_ask_14 rfl rfl ?_
  refine z_getR h (by assumption) rfl kw3 1 (by decide) rfl (by assumption) kf_RX3_16 dX3_ask_15 ?_
  refine z_iconst (v := 2) h dX3_ask_18 (by decide) ?_
  refine z_iload_n h dX3_ask_19 rfl rfl ?_
  refine z_iast h (by assumption) (zix_c 2 rfl (by decide) (by decide)) dX3_ask_20 ?_
  refine z_aload_n h dX3_ask_21 rfl rfl ?_
  refine z_getR h (by assumption) rfl kw3 1 (by decide) rfl (by assumption) kf_RX3_16 dX3_ask_22 ?_
  refine z_iconst (v := 3) h dX3_ask_25 (by decide) ?_
  refine z_iload h dX3_ask_26 rfl ?_
  refine z_iast h (by assumption) (zix_c 3 rfl (by decide) (by decide)) dX3_ask_28 ?_
  refine z_aload_n h dX3_ask_29 rfl rfl ?_
  refine z_getR h (by assumption) rfl kw3 1 (by decide) rfl (by assumption) kf_RX3_16 dX3_ask_30 ?_
  refine z_iconst (v := 4) h dX3_ask_33 (by decide) ?_
  refine z_iload_n h dX3_ask_34 rfl rfl ?_
  refine z_iconst (v := 2) h dX3_ask_35 (by decide) ?_
  refine z_icmp_ne h 43 dX3_ask_36 (by decide) (fun c36 => ?_) (fun c36 => ?_)
  · refine z_aload_n h dX3_ask_43 rfl rfl ?_
    refine z_getI h (by assumption) rfl kw3 3 (by decide) rfl kf_RX3_24 dX3_ask_44 ?_
    refine z_iast h (by assumption) (zix_c 4 rfl (by decide) (by decide)) dX3_ask_47 ?_
    refine z_aload_n h dX3_ask_48 rfl rfl ?_
    refine z_iconst (v := 1) h dX3_ask_49 (by decide) ?_
    refine z_putI h (by assumption) rfl kw3 5 (by decide) rfl rfl (by decide) (by decide) kf_RX3_30 dX3_ask_50 ?_
    refine ret ⟨_, rfl, fr_zu (fr_zu (fr_zu (fr_zu (fr_zu (fr_zu fr_rf (by simp)) (by simp)) (by simp)) (by simp)) (by simp)) (by simp), ?_, ?_, ?_, ?_, ?_, zu_s, fun i hi => ?_⟩ dX3_ask_53
    · rw [zu_k (by decide), zu_k (by decide), zu_k (by decide), zu_k (by decide), zu_k (by decide)]; exact zu_s
    · rw [zu_k (by decide), zu_k (by decide), zu_k (by decide), zu_k (by decide)]; exact zu_s
    · rw [zu_k (by decide), zu_k (by decide), zu_k (by decide)]; exact zu_s
    · rw [zu_k (by decide), zu_k (by decide)]; exact zu_s
    · rw [zu_k (by decide), zu_s, if_neg c36, zu_a n2, zu_a n2, zu_a n2, zu_a n2]
    · rw [zu_k hi, zu_a n2, zu_a n2, zu_a n2, zu_a n2, zu_a n2]
  · refine z_iconst (v := 0) h dX3_ask_39 (by decide) ?_
    refine z_goto h 47 dX3_ask_40 (by decide) ?_
    refine z_iast h (by assumption) (zix_c 4 rfl (by decide) (by decide)) dX3_ask_47 ?_
    refine z_aload_n h dX3_ask_48 rfl rfl ?_
    refine z_iconst (v := 1) h dX3_ask_49 (by decide) ?_
    refine z_putI h (by assumption) rfl kw3 5 (by decide) rfl rfl (by decide) (by decide) kf_RX3_30 dX3_ask_50 ?_
    refine ret ⟨_, rfl, fr_zu (fr_zu (fr_zu (fr_zu (fr_zu (fr_zu fr_rf (by simp)) (by simp)) (by simp)) (by simp)) (by simp)) (by simp), ?_, ?_, ?_, ?_, ?_, zu_s, fun i hi => ?_⟩ dX3_ask_53
    · rw [zu_k (by decide), zu_k (by decide), zu_k (by decide), zu_k (by decide), zu_k (by decide)]; exact zu_s
    · rw [zu_k (by decide), zu_k (by decide), zu_k (by decide), zu_k (by decide)]; exact zu_s
    · rw [zu_k (by decide), zu_k (by decide), zu_k (by decide)]; exact zu_s
    · rw [zu_k (by decide), zu_k (by decide)]; exact zu_s
    · rw [zu_k (by decide), zu_s, if_pos c36]
    · rw [zu_k hi, zu_a n2, zu_a n2, zu_a n2, zu_a n2, zu_a n2]

set_option maxHeartbeats 4000000 in
set_option maxRecDepth 100000 in
theorem c_X3_has (l : Launch) {E : zE} {S : zS} {I : Nat → Nat → Int32} {J : Nat → Nat → Int64} {R : Nat → Nat → Option Nat} {st k : Nat} {x : Int32} (y1 : zO S st 3) (hn : I st 2 = nI k) (hk : k ≤ 10) : zI l yX3_has wsX3_has rmX3_has E S [.ref st, .int x] (I, J, R) (b2i (decide (0 ≤ x ∧ x < nI k))) (I, J, R) := by
  refine z_metI (cc := cX3_has) (maxL := 2) (ty := .boolean) (by decide) rfl (Nat.le_of_ble_eq_true rfl) (fun X h ret => ?_)
  show zV X E S 0 0 (I, J, R) 0 _ []
  have hf : (x < 0 ∨ ¬ x < nI k) → b2i (decide (0 ≤ x ∧ x < nI k)) = 0 := fun q => b2i_f (by
    rw [decide_eq_false_iff_not]
    rintro ⟨q1, q2⟩
    rcases q with q | q
    · exact absurd q (Int32.not_lt.mpr q1)
    · exact q q2)
  refine z_iload_n h dX3_has_0 rfl rfl ?_
  refine z_if_lt h 25 dX3_has_1 (by decide) (fun c1 => ?_) (fun c1 => ?_)
  · rw [hf (Or.inl c1)] at ret
    refine z_iconst (v := 0) h dX3_has_25 (by decide) ?_
    exact ret dX3_has_26 rfl
  · refine z_iload_n h dX3_has_4 rfl rfl ?_
    refine z_aload_n h dX3_has_5 rfl rfl ?_
    refine z_getI h (by assumption) rfl kw3 2 (by decide) rfl kf_RX3_20 dX3_has_6 ?_
    rw [hn]
    refine z_icmp_ge h 25 dX3_has_9 (by decide) (fun c9 => ?_) (fun c9 => ?_)
    · rw [hf (Or.inr (Int32.not_lt.mpr c9))] at ret
      refine z_iconst (v := 0) h dX3_has_25 (by decide) ?_
      exact ret dX3_has_26 rfl
    · refine z_aload_n h dX3_has_12 rfl rfl ?_
      refine z_getI h (by assumption) rfl kw3 2 (by decide) rfl kf_RX3_20 dX3_has_13 ?_
      rw [hn]
      refine z_bipush (v := 10) h dX3_has_16 (by decide) ?_
      rw [show (10 : Int32) = nI 10 from rfl]
      refine z_icmp_gt h 25 dX3_has_18 (by decide) (fun c18 => ?_) (fun c18 => ?_)
      · exact absurd (nlt (by decide) (by omega) c18) (by omega)
      · rw [b2i_t (b := decide (0 ≤ x ∧ x < nI k)) (decide_eq_true ⟨Int32.not_lt.mp c1, Int32.not_le.mp c9⟩)] at ret
        refine z_iconst (v := 1) h dX3_has_21 (by decide) ?_
        refine z_goto h 26 dX3_has_22 (by decide) ?_
        exact ret dX3_has_26 rfl

set_option maxHeartbeats 4000000 in
set_option maxRecDepth 100000 in
theorem c_X3_part (l : Launch) {E : zE} {S : zS} {I : Nat → Nat → Int32} {J : Nat → Nat → Int64} {R : Nat → Nat → Option Nat} {st pa ak : Nat} {rw : Nat → Nat} (hY : SY S R st pa ak rw) {k : Nat} {x w : Int32} (hn : I st 2 = nI k) (hk : k ≤ 10) : zI l yX3_part wsX3_part rmX3_part E S [.ref st, .int x, .int w] (I, J, R) (if 0 ≤ x ∧ x < nI k ∧ 0 ≤ w ∧ w < 7 then I (rw x.toNatClampNeg) w.toNatClampNeg else -1) (I, J, R) := by
  refine z_metI (cc := cX3_part) (maxL := 3) (ty := .int) (by decide) rfl (Nat.le_of_ble_eq_true rfl) (fun X h ret => ?_)
  show zV X E S 0 0 (I, J, R) 0 _ []
  obtain ⟨y1, y2, y3, y4, y5, y6, y7, y8⟩ := id hY
  refine z_aload_n h dX3_part_0 rfl rfl ?_
  refine z_iload_n h dX3_part_1 rfl rfl ?_
  refine z_callVI h (c_X3_has l y1 hn hk) (by assumption) rfl gm_RX3_38 rfl ⟨rfl, rfl⟩ 1 (by decide +kernel) ⟨by decide, by decide⟩ rfl rfl (Nat.le_of_ble_eq_true rfl) ⟨Nat.zero_le _, Nat.zero_le _⟩ dX3_part_2 ?_
  refine z_if_eq h 29 dX3_part_5 (by decide) (fun c5 => ?_) (fun c5 => ?_)
  · have hx : (if 0 ≤ x ∧ x < nI k ∧ 0 ≤ w ∧ w < 7 then I (rw x.toNatClampNeg) w.toNatClampNeg else -1) = -1 := if_neg (fun q => of_decide_eq_false (b2i_0.mp c5) ⟨q.1, q.2.1⟩)
    rw [hx] at ret
    refine z_iconst (v := -1) h dX3_part_29 (by decide) ?_
    exact ret dX3_part_30 rfl
  · have c5 := of_decide_eq_true (b2i_n0.mp c5)
    refine z_iload_n h dX3_part_8 rfl rfl ?_
    refine z_if_lt h 29 dX3_part_9 (by decide) (fun c9 => ?_) (fun c9 => ?_)
    · have hx : (if 0 ≤ x ∧ x < nI k ∧ 0 ≤ w ∧ w < 7 then I (rw x.toNatClampNeg) w.toNatClampNeg else -1) = -1 := if_neg (fun q => absurd c9 (Int32.not_lt.mpr q.2.2.1))
      rw [hx] at ret
      refine z_iconst (v := -1) h dX3_part_29 (by decide) ?_
      exact ret dX3_part_30 rfl
    · refine z_iload_n h dX3_part_12 rfl rfl ?_
      refine z_bipush (v := 7) h dX3_part_13 (by decide) ?_
      refine z_icmp_ge h 29 dX3_part_15 (by decide) (fun c15 => ?_) (fun c15 => ?_)
      · have hx : (if 0 ≤ x ∧ x < nI k ∧ 0 ≤ w ∧ w < 7 then I (rw x.toNatClampNeg) w.toNatClampNeg else -1) = -1 := if_neg (fun q => absurd q.2.2.2 (Int32.not_lt.mpr c15))
        rw [hx] at ret
        refine z_iconst (v := -1) h dX3_part_29 (by decide) ?_
        exact ret dX3_part_30 rfl
      · rw [if_pos ⟨c5.1, c5.2, Int32.not_lt.mp c9, Int32.not_le.mp c15⟩] at ret
        obtain ⟨i, hi, rfl⟩ := nI_of (Int32.not_lt.mpr c5.1)
        obtain ⟨j, hj, rfl⟩ := nI_of c9
        have hi2 := nlt hi (by omega) c5.2
        have hj2 := nlt hj (by decide) (show nI j < nI 7 from Int32.not_le.mp c15)
        rw [nI_clamp hi, nI_clamp hj] at ret
        obtain ⟨r1, r2⟩ := y6 i (by omega)
        refine z_aload_n h dX3_part_18 rfl rfl ?_
        refine z_getR h (by assumption) rfl kw3 0 (by decide) rfl (by assumption) kf_RX3_11 dX3_part_19 ?_
        refine z_iload_n h dX3_part_22 rfl rfl ?_
        refine z_aaldI h (by assumption) (zix_nI (by omega) (by decide)) (r1) dX3_part_23 ?_
        refine z_iload_n h dX3_part_24 rfl rfl ?_
        refine z_iald h (by assumption) (zix_nI hj2 (by decide)) dX3_part_25 ?_
        refine z_goto h 30 dX3_part_26 (by decide) ?_
        exact ret dX3_part_30 rfl

set_option maxHeartbeats 4000000 in
set_option maxRecDepth 100000 in
theorem c_X3_asked (l : Launch) {E : zE} {S : zS} {I : Nat → Nat → Int32} {J : Nat → Nat → Int64} {R : Nat → Nat → Option Nat} {st pa ak : Nat} {rw : Nat → Nat} (hY : SY S R st pa ak rw) {w : Int32} : zI l yX3_asked wsX3_asked rmX3_asked E S [.ref st, .int w] (I, J, R) (if I st 5 ≠ 0 ∧ 0 ≤ w ∧ w < 5 then I ak w.toNatClampNeg else -1) (I, J, R) := by
  refine z_metI (cc := cX3_asked) (maxL := 2) (ty := .int) (by decide) rfl (Nat.le_of_ble_eq_true rfl) (fun X h ret => ?_)
  show zV X E S 0 0 (I, J, R) 0 _ []
  obtain ⟨y1, y2, y3, y4, y5, y6, y7, y8⟩ := id hY
  refine z_aload_n h dX3_asked_0 rfl rfl ?_
  refine z_getI h (by assumption) rfl kw3 5 (by decide) rfl kf_RX3_30 dX3_asked_1 ?_
  refine z_if_eq h 25 dX3_asked_4 (by decide) (fun c4 => ?_) (fun c4 => ?_)
  · rw [if_neg (fun q => q.1 c4)] at ret
    refine z_iconst (v := -1) h dX3_asked_25 (by decide) ?_
    exact ret dX3_asked_26 rfl
  · refine z_iload_n h dX3_asked_7 rfl rfl ?_
    refine z_if_lt h 25 dX3_asked_8 (by decide) (fun c8 => ?_) (fun c8 => ?_)
    · rw [if_neg (fun q => absurd c8 (Int32.not_lt.mpr q.2.1))] at ret
      refine z_iconst (v := -1) h dX3_asked_25 (by decide) ?_
      exact ret dX3_asked_26 rfl
    · refine z_iload_n h dX3_asked_11 rfl rfl ?_
      refine z_iconst (v := 5) h dX3_asked_12 (by decide) ?_
      refine z_icmp_ge h 25 dX3_asked_13 (by decide) (fun c13 => ?_) (fun c13 => ?_)
      · rw [if_neg (fun q => absurd q.2.2 (Int32.not_lt.mpr c13))] at ret
        refine z_iconst (v := -1) h dX3_asked_25 (by decide) ?_
        exact ret dX3_asked_26 rfl
      · rw [if_pos ⟨c4, Int32.not_lt.mp c8, Int32.not_le.mp c13⟩] at ret
        obtain ⟨j, hj, rfl⟩ := nI_of c8
        have hj2 := nlt hj (by decide) (show nI j < nI 5 from Int32.not_le.mp c13)
        rw [nI_clamp hj] at ret
        refine z_aload_n h dX3_asked_16 rfl rfl ?_
        refine z_getR h (by assumption) rfl kw3 1 (by decide) rfl (by assumption) kf_RX3_16 dX3_asked_17 ?_
        refine z_iload_n h dX3_asked_20 rfl rfl ?_
        refine z_iald h (by assumption) (zix_nI hj2 (by decide)) dX3_asked_21 ?_
        refine z_goto h 26 dX3_asked_22 (by decide) ?_
        exact ret dX3_asked_26 rfl

set_option maxHeartbeats 4000000 in
set_option maxRecDepth 100000 in
theorem c_X3_setNumber (l : Launch) {E : zE} {S : zS} {I : Nat → Nat → Int32} {J : Nat → Nat → Int64} {R : Nat → Nat → Option Nat} {st pa ak : Nat} {rw : Nat → Nat} (hY : SY S R st pa ak rw) {k : Nat} {x v : Int32} (hn : I st 2 = nI k) (hk : k ≤ 10) : zN l yX3_setNumber wsX3_setNumber rmX3_setNumber E S [.ref st, .int x, .int v] (I, J, R) (if 0 ≤ x ∧ x < nI k then zu I (rw x.toNatClampNeg) 4 v else I, J, R) := by
  refine z_metN (cc := cX3_setNumber) (maxL := 3) (by decide) rfl (Nat.le_of_ble_eq_true rfl) (fun X h ret => ?_)
  show zV X E S 0 0 (I, J, R) 0 _ []
  obtain ⟨y1, y2, y3, y4, y5, y6, y7, y8⟩ := id hY
  refine z_aload_n h dX3_setNumber_0 rfl rfl ?_
  refine z_iload_n h dX3_setNumber_1 rfl rfl ?_
  refine z_callVI h (c_X3_has l y1 hn hk) (by assumption) rfl gm_RX3_38 rfl ⟨rfl, rfl⟩ 1 (by decide +kernel) ⟨by decide, by decide⟩ rfl rfl (Nat.le_of_ble_eq_true rfl) ⟨Nat.zero_le _, Nat.zero_le _⟩ dX3_setNumber_2 ?_
  refine z_if_eq h 17 dX3_setNumber_5 (by decide) (fun c5 => ?_) (fun c5 => ?_)
  · rw [if_neg (of_decide_eq_false (b2i_0.mp c5))] at ret
    exact ret dX3_setNumber_17
  · have c5 := of_decide_eq_true (b2i_n0.mp c5)
    rw [if_pos c5] at ret
    obtain ⟨i, hi, rfl⟩ := nI_of (Int32.not_lt.mpr c5.1)
    have hi2 := nlt hi (by omega) c5.2
    rw [nI_clamp hi] at ret
    obtain ⟨r1, r2⟩ := y6 i (by omega)
    refine z_aload_n h dX3_setNumber_8 rfl rfl ?_
    refine z_getR h (by assumption) rfl kw3 0 (by decide) rfl (by assumption) kf_RX3_11 dX3_setNumber_9 ?_
    refine z_iload_n h dX3_setNumber_12 rfl rfl ?_
    refine z_aaldI h (by assumption) (zix_nI (by omega) (by decide)) (r1) dX3_setNumber_13 ?_
    refine z_iconst (v := 4) h dX3_setNumber_14 (by decide) ?_
    refine z_iload_n h dX3_setNumber_15 rfl rfl ?_
    refine z_iast h (by assumption) (zix_c 4 rfl (by decide) (by decide)) dX3_setNumber_16 ?_
    exact ret dX3_setNumber_17

set_option maxHeartbeats 4000000 in
set_option maxRecDepth 100000 in
theorem c_X3_allows (l : Launch) {E : zE} {S : zS} {I : Nat → Nat → Int32} {J : Nat → Nat → Int64} {R : Nat → Nat → Option Nat} {st pa ak : Nat} {rw : Nat → Nat} (hY : SY S R st pa ak rw) {k : Nat} {x v : Int32} (hn : I st 2 = nI k) (hk : k ≤ 10) : zI l yX3_allows wsX3_allows rmX3_allows E S [.ref st, .int x, .int v] (I, J, R) (b2i (if (if 0 ≤ x ∧ x < nI k ∧ (0 : Int32) ≤ 0 ∧ (0 : Int32) < 7 then I (rw x.toNatClampNeg) (0 : Int32).toNatClampNeg else -1) = 3 then decide (2 ≤ v ∧ v ≤ 9) else decide ((0 ≤ x ∧ x < nI k) ∧ 0 ≤ v ∧ v ≤ 999))) (I, J, R) := by
  refine z_metI (cc := cX3_allows) (maxL := 3) (ty := .boolean) (by decide) rfl (Nat.le_of_ble_eq_true rfl) (fun X h ret => ?_)
  show zV X E S 0 0 (I, J, R) 0 _ []
  obtain ⟨y1, y2, y3, y4, y5, y6, y7, y8⟩ := id hY
  obtain ⟨so, hso⟩ : ∃ so, so = (if 0 ≤ x ∧ x < nI k ∧ (0 : Int32) ≤ 0 ∧ (0 : Int32) < 7 then I (rw x.toNatClampNeg) (0 : Int32).toNatClampNeg else -1) := ⟨_, rfl⟩
  refine z_aload_n h dX3_allows_0 rfl rfl ?_
  refine z_iload_n h dX3_allows_1 rfl rfl ?_
  refine z_iconst (v := 0) h dX3_allows_2 (by decide) ?_
  refine z_callVI h (c_X3_part l hY hn hk) (by assumption) rfl gm_RX3_42 rfl ⟨rfl, rfl⟩ 2 (by decide +kernel) ⟨by decide, by decide⟩ rfl rfl (Nat.le_of_ble_eq_true rfl) ⟨Nat.zero_le _, Nat.zero_le _⟩ dX3_allows_3 ?_
  rw [← hso]
  rw [← hso] at ret
  refine z_iconst (v := 3) h dX3_allows_6 (by decide) ?_
  refine z_icmp_ne h 27 dX3_allows_7 (by decide) (fun c7 => ?_) (fun c7 => ?_)
  · rw [if_neg c7] at ret
    refine z_aload_n h dX3_allows_27 rfl rfl ?_
    refine z_iload_n h dX3_allows_28 rfl rfl ?_
    refine z_callVI h (c_X3_has l y1 hn hk) (by assumption) rfl gm_RX3_38 rfl ⟨rfl, rfl⟩ 1 (by decide +kernel) ⟨by decide, by decide⟩ rfl rfl (Nat.le_of_ble_eq_true rfl) ⟨Nat.zero_le _, Nat.zero_le _⟩ dX3_allows_29 ?_
    refine z_if_eq h 50 dX3_allows_32 (by decide) (fun c32 => ?_) (fun c32 => ?_)
    · rw [b2i_f (show _ = false from decide_eq_false (fun q => of_decide_eq_false (b2i_0.mp c32) q.1))] at ret
      refine z_iconst (v := 0) h dX3_allows_50 (by decide) ?_
      exact ret dX3_allows_51 rfl
    · refine z_iload_n h dX3_allows_35 rfl rfl ?_
      refine z_if_lt h 50 dX3_allows_36 (by decide) (fun c36 => ?_) (fun c36 => ?_)
      · rw [b2i_f (show _ = false from decide_eq_false (fun q => absurd c36 (Int32.not_lt.mpr q.2.1)))] at ret
        refine z_iconst (v := 0) h dX3_allows_50 (by decide) ?_
        exact ret dX3_allows_51 rfl
      · refine z_iload_n h dX3_allows_39 rfl rfl ?_
        refine z_sipush (v := 999) h dX3_allows_40 (by decide) ?_
        refine z_icmp_gt h 50 dX3_allows_43 (by decide) (fun c43 => ?_) (fun c43 => ?_)
        · rw [b2i_f (show _ = false from decide_eq_false (fun q => absurd c43 (Int32.not_lt.mpr q.2.2)))] at ret
          refine z_iconst (v := 0) h dX3_allows_50 (by decide) ?_
          exact ret dX3_allows_51 rfl
        · rw [b2i_t (show _ = true from decide_eq_true ⟨of_decide_eq_true (b2i_n0.mp c32), Int32.not_lt.mp c36, Int32.not_lt.mp c43⟩)] at ret
          refine z_iconst (v := 1) h dX3_allows_46 (by decide) ?_
          refine z_goto h 51 dX3_allows_47 (by decide) ?_
          exact ret dX3_allows_51 rfl
  · rw [if_pos c7] at ret
    refine z_iload_n h dX3_allows_10 rfl rfl ?_
    refine z_iconst (v := 2) h dX3_allows_11 (by decide) ?_
    refine z_icmp_lt h 25 dX3_allows_12 (by decide) (fun c12 => ?_) (fun c12 => ?_)
    · rw [b2i_f (show _ = false from decide_eq_false (fun q => absurd c12 (Int32.not_lt.mpr q.1)))] at ret
      refine z_iconst (v := 0) h dX3_allows_25 (by decide) ?_
      exact ret dX3_allows_26 rfl
    · refine z_iload_n h dX3_allows_15 rfl rfl ?_
      refine z_bipush (v := 9) h dX3_allows_16 (by decide) ?_
      refine z_icmp_gt h 25 dX3_allows_18 (by decide) (fun c18 => ?_) (fun c18 => ?_)
      · rw [b2i_f (show _ = false from decide_eq_false (fun q => absurd c18 (Int32.not_lt.mpr q.2)))] at ret
        refine z_iconst (v := 0) h dX3_allows_25 (by decide) ?_
        exact ret dX3_allows_26 rfl
      · rw [b2i_t (show _ = true from decide_eq_true ⟨Int32.not_lt.mp c12, Int32.not_lt.mp c18⟩)] at ret
        refine z_iconst (v := 1) h dX3_allows_21 (by decide) ?_
        refine z_goto h 26 dX3_allows_22 (by decide) ?_
        exact ret dX3_allows_26 rfl

set_option maxHeartbeats 4000000 in
set_option maxRecDepth 100000 in
theorem c_X3_gainBy (l : Launch) {E : zE} {S : zS} {I : Nat → Nat → Int32} {J : Nat → Nat → Int64} {R : Nat → Nat → Option Nat} {a : Nat} {nm : Int32} (ha : zA S a 9 7) : zI l yX3_gainBy wsX3_gainBy rmX3_gainBy E S [.ref a, .int nm] (I, J, R) (gby (I a) nm) (I, J, R) := by
  refine z_metI (cc := cX3_gainBy) (maxL := 4) (ty := .int) (by decide) rfl (Nat.le_of_ble_eq_true rfl) (fun X h ret => ?_)
  show zV X E S 0 0 (I, J, R) 0 _ []
  have J16 : zV X E S 0 0 (I, J, R) 16 [(0, .ref a), (1, .int nm), (2, .int (I a 4))] [.int (b2i (decide (I a 1 = nm)))] := by
    refine z_istore_n h dX3_gainBy_16 rfl (by decide) ?_
    refine z_aload_n h dX3_gainBy_17 rfl rfl ?_
    refine z_iconst (v := 0) h dX3_gainBy_18 (by decide) ?_
    refine z_iald h (by assumption) (zix_c 0 rfl (by decide) (by decide)) dX3_gainBy_19 ?_
    by_cases s5 : I a 0 = 5
    · have e : gby (I a) nm = (if I a 1 = nm then -(I a 4) else if I a 2 = nm then I a 4 else 0) := if_pos s5
      rw [e] at ret
      rw [s5]
      refine z_tswI h 48 dX3_gainBy_20 (by decide) (by decide) (off := 28) (by decide) (by decide) ?_
      refine z_iload_n h dX3_gainBy_48 rfl rfl ?_
      refine z_if_eq h 55 dX3_gainBy_49 (by decide) (fun c49 => ?_) (fun c49 => ?_)
      · have c49 := of_decide_eq_false (b2i_0.mp c49)
        rw [if_neg c49] at ret
        refine z_aload_n h dX3_gainBy_55 rfl rfl ?_
        refine z_iconst (v := 2) h dX3_gainBy_56 (by decide) ?_
        refine z_iald h ha (zix_c 2 rfl (by decide) (by decide)) dX3_gainBy_57 ?_
        refine z_iload_n h dX3_gainBy_58 rfl rfl ?_
        refine z_icmp_ne h 66 dX3_gainBy_59 (by decide) (fun c59 => ?_) (fun c59 => ?_)
        · rw [if_neg c59] at ret
          refine z_iconst (v := 0) h dX3_gainBy_66 (by decide) ?_
          exact ret dX3_gainBy_67 rfl
        · rw [if_pos c59] at ret
          refine z_iload_n h dX3_gainBy_62 rfl rfl ?_
          refine z_goto h 67 dX3_gainBy_63 (by decide) ?_
          exact ret dX3_gainBy_67 rfl
      · have c49 := of_decide_eq_true (b2i_n0.mp c49)
        rw [if_pos c49] at ret
        refine z_iload_n h dX3_gainBy_52 rfl rfl ?_
        refine z_ineg h dX3_gainBy_53 ?_
        exact ret dX3_gainBy_54 rfl
    · by_cases s6 : I a 0 = 6
      · have e : gby (I a) nm = (if I a 1 = nm then I a 4 else 0) := by unfold gby; rw [if_neg s5, if_pos s6]
        rw [e] at ret
        rw [s6]
        refine z_tswI h 68 dX3_gainBy_20 (by decide) (by decide) (off := 48) (by decide) (by decide) ?_
        refine z_iload_n h dX3_gainBy_68 rfl rfl ?_
        refine z_if_eq h 76 dX3_gainBy_69 (by decide) (fun c69 => ?_) (fun c69 => ?_)
        · rw [if_neg (of_decide_eq_false (b2i_0.mp c69))] at ret
          refine z_iconst (v := 0) h dX3_gainBy_76 (by decide) ?_
          exact ret dX3_gainBy_77 rfl
        · rw [if_pos (of_decide_eq_true (b2i_n0.mp c69))] at ret
          refine z_iload_n h dX3_gainBy_72 rfl rfl ?_
          refine z_goto h 77 dX3_gainBy_73 (by decide) ?_
          exact ret dX3_gainBy_77 rfl
      · by_cases s7 : I a 0 = 7
        · have e : gby (I a) nm = (if I a 1 = nm then -(I a 4) else 0) := by unfold gby; rw [if_neg s5, if_neg s6, if_pos s7]
          rw [e] at ret
          rw [s7]
          refine z_tswI h 78 dX3_gainBy_20 (by decide) (by decide) (off := 58) (by decide) (by decide) ?_
          refine z_iload_n h dX3_gainBy_78 rfl rfl ?_
          refine z_if_eq h 87 dX3_gainBy_79 (by decide) (fun c79 => ?_) (fun c79 => ?_)
          · rw [if_neg (of_decide_eq_false (b2i_0.mp c79))] at ret
            refine z_iconst (v := 0) h dX3_gainBy_87 (by decide) ?_
            exact ret dX3_gainBy_88 rfl
          · rw [if_pos (of_decide_eq_true (b2i_n0.mp c79))] at ret
            refine z_iload_n h dX3_gainBy_82 rfl rfl ?_
            refine z_ineg h dX3_gainBy_83 ?_
            refine z_goto h 88 dX3_gainBy_84 (by decide) ?_
            exact ret dX3_gainBy_88 rfl
        · have e : gby (I a) nm = 0 := by unfold gby; rw [if_neg s5, if_neg s6, if_neg s7]
          rw [e] at ret
          refine z_tswO h 89 dX3_gainBy_20 ?_ (by decide) ?_
          · have q5 : (I a 0).toInt ≠ 5 := fun q => s5 (Int32.toInt_inj.mp q)
            have q6 : (I a 0).toInt ≠ 6 := fun q => s6 (Int32.toInt_inj.mp q)
            have q7 : (I a 0).toInt ≠ 7 := fun q => s7 (Int32.toInt_inj.mp q)
            show (I a 0).toInt < 5 ∨ 7 < (I a 0).toInt
            generalize (I a 0).toInt = w at q5 q6 q7 ⊢
            omega
          · refine z_iconst (v := 0) h dX3_gainBy_89 (by decide) ?_
            exact ret dX3_gainBy_90 rfl
  refine z_aload_n h dX3_gainBy_0 rfl rfl ?_
  refine z_iconst (v := 4) h dX3_gainBy_1 (by decide) ?_
  refine z_iald h (by assumption) (zix_c 4 rfl (by decide) (by decide)) dX3_gainBy_2 ?_
  refine z_istore_n h dX3_gainBy_3 rfl (by decide) ?_
  refine z_aload_n h dX3_gainBy_4 rfl rfl ?_
  refine z_iconst (v := 1) h dX3_gainBy_5 (by decide) ?_
  refine z_iald h (by assumption) (zix_c 1 rfl (by decide) (by decide)) dX3_gainBy_6 ?_
  refine z_iload_n h dX3_gainBy_7 rfl rfl ?_
  refine z_icmp_ne h 15 dX3_gainBy_8 (by decide) (fun c8 => ?_) (fun c8 => ?_)
  · rw [b2i_f (decide_eq_false c8)] at J16
    refine z_iconst (v := 0) h dX3_gainBy_15 (by decide) ?_
    exact z_lk J16 ⟨rfl, rfl, rfl, trivial⟩
  · rw [b2i_t (decide_eq_true c8)] at J16
    refine z_iconst (v := 1) h dX3_gainBy_11 (by decide) ?_
    refine z_goto h 16 dX3_gainBy_12 (by decide) ?_
    exact z_lk J16 ⟨rfl, rfl, rfl, trivial⟩

set_option maxHeartbeats 4000000 in
set_option maxRecDepth 100000 in
theorem c_X3_gain (l : Launch) {E : zE} {S : zS} {I : Nat → Nat → Int32} {J : Nat → Nat → Int64} {R : Nat → Nat → Option Nat} {st pa ak : Nat} {rw : Nat → Nat} (hY : SY S R st pa ak rw) {k : Nat} {nm un sg : Int32} (hn : I st 2 = nI k) (hk : k ≤ 10) : zL l yX3_gain wsX3_gain rmX3_gain E S [.ref st, .int nm, .int un, .int sg] (I, J, R) (gnC (fun i => I (rw i)) nm un sg k) (I, J, R) := by
  refine z_metL (cc := cX3_gain) (maxL := 8) (by decide) rfl (Nat.le_of_ble_eq_true rfl) (fun X h ret => ?_)
  show zV X E S 0 0 (I, J, R) 0 _ []
  obtain ⟨y1, y2, y3, y4, y5, y6, y7, y8⟩ := id hY
  have L6 : ∀ (d i : Nat), i + d = k → zV X E S 0 0 (I, J, R) 6 [(0, .ref st), (1, .int nm), (2, .int un), (3, .int sg), (4, .long (gnC (fun i => I (rw i)) nm un sg i)), (6, .int (nI i))] [] := by
    intro d
    induction d with
    | zero =>
      intro i hi
      have hik : i = k := by omega
      subst hik
      refine z_iload h dX3_gain_6 rfl ?_
      refine z_aload_n h dX3_gain_8 rfl rfl ?_
      refine z_getI h (by assumption) rfl kw3 2 (by decide) rfl kf_RX3_20 dX3_gain_9 ?_
      rw [hn]
      refine z_icmp_ge h 65 dX3_gain_12 (by decide) (fun c12 => ?_) (fun c12 => ?_)
      · refine z_lload h dX3_gain_65 rfl ?_
        exact ret dX3_gain_67
      · exact absurd (nI_le (by omega) (by omega)) c12
    | succ d ih =>
      intro i hi
      obtain ⟨r1, r2⟩ := y6 i (by omega)
      refine z_iload h dX3_gain_6 rfl ?_
      refine z_aload_n h dX3_gain_8 rfl rfl ?_
      refine z_getI h (by assumption) rfl kw3 2 (by decide) rfl kf_RX3_20 dX3_gain_9 ?_
      rw [hn]
      refine z_icmp_ge h 65 dX3_gain_12 (by decide) (fun c12 => ?_) (fun c12 => ?_)
      · exact absurd (nle (by omega) (by omega) c12) (by omega)
      · refine z_iload h dX3_gain_15 rfl ?_
        refine z_bipush (v := 10) h dX3_gain_17 (by decide) ?_
        rw [show (10 : Int32) = nI 10 from rfl]
        refine z_icmp_ge h 65 dX3_gain_19 (by decide) (fun c19 => ?_) (fun c19 => ?_)
        · exact absurd (nle (by decide) (by omega) c19) (by omega)
        · refine z_aload_n h dX3_gain_22 rfl rfl ?_
          refine z_getR h (by assumption) rfl kw3 0 (by decide) rfl (by assumption) kf_RX3_11 dX3_gain_23 ?_
          refine z_iload h dX3_gain_26 rfl ?_
          refine z_aaldI h (by assumption) (zix_nI (by omega) (by decide)) (r1) dX3_gain_28 ?_
          refine z_astore h dX3_gain_29 (by decide) ?_
          refine z_aload h dX3_gain_31 rfl ?_
          refine z_iconst (v := 3) h dX3_gain_33 (by decide) ?_
          refine z_iald h (by assumption) (zix_c 3 rfl (by decide) (by decide)) dX3_gain_34 ?_
          refine z_iload_n h dX3_gain_35 rfl rfl ?_
          refine z_icmp_ne h 59 dX3_gain_36 (by decide) (fun c36 => ?_) (fun c36 => ?_)
          · refine z_iinc h dX3_gain_59 rfl (nI_1 i) (by decide) ?_
            refine z_goto h 6 dX3_gain_62 (by decide) ?_
            have ih2 := ih (i + 1) (by omega)
            rw [show gnC (fun i => I (rw i)) nm un sg (i + 1) = gnC (fun i => I (rw i)) nm un sg i from if_neg (fun q => c36 q.1)] at ih2
            exact z_lk ih2 ⟨rfl, rfl, rfl, rfl, rfl, rfl, trivial⟩
          · refine z_aload h dX3_gain_39 rfl ?_
            refine z_iconst (v := 5) h dX3_gain_41 (by decide) ?_
            refine z_iald h (by assumption) (zix_c 5 rfl (by decide) (by decide)) dX3_gain_42 ?_
            refine z_iload_n h dX3_gain_43 rfl rfl ?_
            refine z_icmp_ge h 59 dX3_gain_44 (by decide) (fun c44 => ?_) (fun c44 => ?_)
            · refine z_iinc h dX3_gain_59 rfl (nI_1 i) (by decide) ?_
              refine z_goto h 6 dX3_gain_62 (by decide) ?_
              have ih2 := ih (i + 1) (by omega)
              rw [show gnC (fun i => I (rw i)) nm un sg (i + 1) = gnC (fun i => I (rw i)) nm un sg i from if_neg (fun q => absurd q.2 (Int32.not_lt.mpr c44))] at ih2
              exact z_lk ih2 ⟨rfl, rfl, rfl, rfl, rfl, rfl, trivial⟩
            · refine z_lload h dX3_gain_47 rfl ?_
              refine z_aload h dX3_gain_49 rfl ?_
              refine z_iload_n h dX3_gain_51 rfl rfl ?_
              refine z_callSI h (c_X3_gainBy l r2) (va_cwS 2 h.2.2.2.2.1 gm_RX3_46 rfl rfl rfl (by decide +kernel) ⟨by decide, by decide⟩) rfl rfl (Nat.le_of_ble_eq_true rfl) ⟨Nat.zero_le _, Nat.zero_le _⟩ dX3_gain_52 ?_
              refine z_i2l h dX3_gain_55 rfl ?_
              refine z_ladd h dX3_gain_56 ?_
              refine z_lstore h dX3_gain_57 (by decide) ?_
              refine z_iinc h dX3_gain_59 rfl (nI_1 i) (by decide) ?_
              refine z_goto h 6 dX3_gain_62 (by decide) ?_
              have ih2 := ih (i + 1) (by omega)
              rw [show gnC (fun i => I (rw i)) nm un sg (i + 1) = gnC (fun i => I (rw i)) nm un sg i + (gby (I (rw i)) nm).toInt64 from if_pos ⟨c36, Int32.not_le.mp c44⟩] at ih2
              exact z_lk ih2 ⟨rfl, rfl, rfl, rfl, rfl, rfl, trivial⟩
  refine z_lconst (v := 0) h dX3_gain_0 (by decide) ?_
  refine z_lstore h dX3_gain_1 (by decide) ?_
  refine z_iconst (v := 0) h dX3_gain_3 (by decide) ?_
  refine z_istore h dX3_gain_4 (by decide) ?_
  exact z_lk (L6 k 0 (by omega)) ⟨rfl, rfl, rfl, rfl, rfl, rfl, trivial⟩
