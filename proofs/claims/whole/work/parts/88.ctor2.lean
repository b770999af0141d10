/-! THE CONSTRUCTOR of Sums -/
theorem kn {S : zS} {a b i j : Nat} (h : S.2.1 a = i) (k : S.2.1 b = j) (hij : i ≠ j) : a ≠ b := fun q => hij (h.symm.trans (q ▸ k))
theorem zu_row {α : Type} {f : Nat → Nat → α} {a k : Nat} {v : α} : zu f a k v a = fun j => if j = k then v else f a j := funext fun j => by by_cases e : j = k <;> simp [zu, e]
theorem LA.mv {S S' : zS} {R R' : Nat → Nat → Option Nat} {la rs le : Nat} {ro : Nat → Nat} (h : LA S R la rs le ro) (hs : zSub S S') (h1 : R' la = R la) (h2 : R' rs = R rs) : LA S' R' la rs le ro :=
  ⟨hs.O h.1, by rw [h1]; exact h.2.1, by rw [h1]; exact h.2.2.1, hs.A h.2.2.2.1, hs.A h.2.2.2.2.1, fun j hj => ⟨by rw [h2]; exact (h.2.2.2.2.2.1 j hj).1, hs.A (h.2.2.2.2.2.1 j hj).2⟩, h.2.2.2.2.2.2⟩
def sl5 {α : Type} (a b c d e : α) (u : Nat) : α := if u = 0 then a else if u = 1 then b else if u = 2 then c else if u = 3 then d else e
def gSu (r0 r1 r2 r3 r4 fr : Nat → Nat) (a b c d e : Nat) : Nat → Nat := fun i => if i < 8 then r0 i else if i < 16 then r1 (i - 8) else if i < 24 then r2 (i - 16) else if i < 32 then r3 (i - 24) else if i < 40 then r4 (i - 32) else if i < 50 then fr (i - 40) else if i = 50 then a else if i = 51 then b else if i = 52 then c else if i = 53 then d else e
section GSU
variable {r0 r1 r2 r3 r4 fr : Nat → Nat} {a b c d e : Nat}
theorem gSu_u {u j : Nat} (hu : u < 5) (hj : j < 8) : gSu r0 r1 r2 r3 r4 fr a b c d e (8 * u + j) = sl5 r0 r1 r2 r3 r4 u j := by
  unfold gSu sl5
  rcases (show u = 0 ∨ u = 1 ∨ u = 2 ∨ u = 3 ∨ u = 4 by omega) with rfl | rfl | rfl | rfl | rfl
  · rw [if_pos (by omega)]; exact congrArg r0 (by omega)
  · rw [if_neg (by omega), if_pos (by omega)]; exact congrArg r1 (by omega)
  · rw [if_neg (by omega), if_neg (by omega), if_pos (by omega)]; exact congrArg r2 (by omega)
  · rw [if_neg (by omega), if_neg (by omega), if_neg (by omega), if_pos (by omega)]; exact congrArg r3 (by omega)
  · rw [if_neg (by omega), if_neg (by omega), if_neg (by omega), if_neg (by omega), if_pos (by omega)]; exact congrArg r4 (by omega)
theorem gSu_f {i : Nat} (hi : i < 10) : gSu r0 r1 r2 r3 r4 fr a b c d e (40 + i) = fr i := by
  unfold gSu
  rw [if_neg (by omega), if_neg (by omega), if_neg (by omega), if_neg (by omega), if_neg (by omega), if_pos (by omega)]
  exact congrArg fr (by omega)
/-- a property of all 55 -/
theorem gSu_all {P : Nat → Prop} (h0 : ∀ j, j < 8 → P (r0 j)) (h1 : ∀ j, j < 8 → P (r1 j)) (h2 : ∀ j, j < 8 → P (r2 j)) (h3 : ∀ j, j < 8 → P (r3 j)) (h4 : ∀ j, j < 8 → P (r4 j)) (hf : ∀ j, j < 10 → P (fr j)) (ha : P a) (hb : P b) (hc : P c) (hd : P d) (he : P e) {i : Nat} (hi : i < 55) : P (gSu r0 r1 r2 r3 r4 fr a b c d e i) := by
  unfold gSu
  split
  · exact h0 _ (by omega)
  · split
    · exact h1 _ (by omega)
    · split
      · exact h2 _ (by omega)
      · split
        · exact h3 _ (by omega)
        · split
          · exact h4 _ (by omega)
          · split
            · exact hf _ (by omega)
            · split
              · exact ha
              · split
                · exact hb
                · split
                  · exact hc
                  · split
                    · exact hd
                    · exact he
theorem gSu_lab {lab : Nat → Nat} (h0 : ∀ j, j < 8 → lab (r0 j) = 0) (h1 : ∀ j, j < 8 → lab (r1 j) = 1) (h2 : ∀ j, j < 8 → lab (r2 j) = 2) (h3 : ∀ j, j < 8 → lab (r3 j) = 3) (h4 : ∀ j, j < 8 → lab (r4 j) = 4) (hf : ∀ j, j < 10 → lab (fr j) = 5) (ha : lab a = 6) (hb : lab b = 7) (hc : lab c = 8) (hd : lab d = 9) (he : lab e = 10) {i : Nat} (hi : i < 55) : lab (gSu r0 r1 r2 r3 r4 fr a b c d e i) = if i < 40 then i / 8 else if i < 50 then 5 else i - 44 := by
  by_cases q : i < 40
  · rw [if_pos q]
    have z : ∀ u, u < 5 → ∀ j, j < 8 → lab (sl5 r0 r1 r2 r3 r4 u j) = u := fun u hu j hj => by
      rcases (show u = 0 ∨ u = 1 ∨ u = 2 ∨ u = 3 ∨ u = 4 by omega) with rfl | rfl | rfl | rfl | rfl
      · exact h0 j hj
      · exact h1 j hj
      · exact h2 j hj
      · exact h3 j hj
      · exact h4 j hj
    have e1 := gSu_u (r0 := r0) (r1 := r1) (r2 := r2) (r3 := r3) (r4 := r4) (fr := fr) (a := a) (b := b) (c := c) (d := d) (e := e) (u := i / 8) (j := i % 8) (by omega) (by omega)
    rw [show 8 * (i / 8) + i % 8 = i by omega] at e1
    rw [e1]
    exact z _ (by omega) _ (by omega)
  · rw [if_neg q]
    by_cases q2 : i < 50
    · rw [if_pos q2]
      have e1 := gSu_f (r0 := r0) (r1 := r1) (r2 := r2) (r3 := r3) (r4 := r4) (fr := fr) (a := a) (b := b) (c := c) (d := d) (e := e) (i := i - 40) (by omega)
      rw [show 40 + (i - 40) = i by omega] at e1
      rw [e1]
      exact hf _ (by omega)
    · rw [if_neg q2]
      rcases (show i = 50 ∨ i = 51 ∨ i = 52 ∨ i = 53 ∨ i = 54 by omega) with rfl | rfl | rfl | rfl | rfl
      · exact ha
      · exact hb
      · exact hc
      · exact hd
      · exact he
theorem SU_make {S : zS} {R : Nat → Nat → Option Nat} {su st lo fl l0 l1 l2 l3 l4 s0 s1 s2 s3 s4 e0 e1 e2 e3 e4 : Nat} {lab : Nat → Nat} (hsu : zO S su 4) (q : R su 0 = some lo ∧ R su 1 = some l4 ∧ R su 2 = some fl ∧ R su 3 = some a ∧ R su 4 = some b ∧ R su 5 = some c ∧ R su 6 = some d ∧ R su 7 = some e ∧ R su 8 = some st) (hlo : zA S lo 12 4) (p : R lo 0 = some l0 ∧ R lo 1 = some l1 ∧ R lo 2 = some l2 ∧ R lo 3 = some l3)
    (L0 : LA S R l0 s0 e0 r0) (L1 : LA S R l1 s1 e1 r1) (L2 : LA S R l2 s2 e2 r2) (L3 : LA S R l3 s3 e3 r3) (L4 : LA S R l4 s4 e4 r4) (hfl : zA S fl 14 10) (hfr : ∀ i, i < 10 → R fl i = some (fr i) ∧ zA S (fr i) 10 10) (hfi : ∀ i j, i < 10 → j < 10 → fr i = fr j → i = j) (ga : zA S a 10 10) (gb : zA S b 10 10) (gc : zA S c 10 10) (gd : zA S d 10 32) (ge : zA S e 10 32)
    (h0 : ∀ j, j < 8 → lab (r0 j) = 0) (h1 : ∀ j, j < 8 → lab (r1 j) = 1) (h2 : ∀ j, j < 8 → lab (r2 j) = 2) (h3 : ∀ j, j < 8 → lab (r3 j) = 3) (h4 : ∀ j, j < 8 → lab (r4 j) = 4) (hf : ∀ j, j < 10 → lab (fr j) = 5) (ha : lab a = 6) (hb : lab b = 7) (hc : lab c = 8) (hd : lab d = 9) (he : lab e = 10) (k0 : lab e0 = 0) (k1 : lab e1 = 1) (k2 : lab e2 = 2) (k3 : lab e3 = 3) (k4 : lab e4 = 4) :
    SU S R su st lo fl (sl5 l0 l1 l2 l3 l4) (sl5 s0 s1 s2 s3 s4) (sl5 e0 e1 e2 e3 e4) (gSu r0 r1 r2 r3 r4 fr a b c d e) := by
  have hL : ∀ u, u < 5 → LA S R (sl5 l0 l1 l2 l3 l4 u) (sl5 s0 s1 s2 s3 s4 u) (sl5 e0 e1 e2 e3 e4 u) (fun j => sl5 r0 r1 r2 r3 r4 u j) := fun u hu => by
    rcases (show u = 0 ∨ u = 1 ∨ u = 2 ∨ u = 3 ∨ u = 4 by omega) with rfl | rfl | rfl | rfl | rfl
    · exact L0
    · exact L1
    · exact L2
    · exact L3
    · exact L4
  refine ⟨hsu, q.1, q.2.1, q.2.2.1, q.2.2.2.1, q.2.2.2.2.1, q.2.2.2.2.2.1, q.2.2.2.2.2.2.1, q.2.2.2.2.2.2.2.1, q.2.2.2.2.2.2.2.2, hlo, fun u hu => ?_, fun u hu => ?_, hfl, fun i hi => ?_, fun i hi => ?_, gd, ge, fun i j hi hj w => ?_, fun u v hu hv w => ?_⟩
  · rcases (show u = 0 ∨ u = 1 ∨ u = 2 ∨ u = 3 by omega) with rfl | rfl | rfl | rfl
    · exact p.1
    · exact p.2.1
    · exact p.2.2.1
    · exact p.2.2.2
  · have h := hL u hu
    refine ⟨h.1, h.2.1, h.2.2.1, h.2.2.2.1, h.2.2.2.2.1, fun j hj => ?_, fun i j hi hj w => ?_⟩
    · show R (sl5 s0 s1 s2 s3 s4 u) j = some (gSu r0 r1 r2 r3 r4 fr a b c d e (8 * u + j)) ∧ zA S (gSu r0 r1 r2 r3 r4 fr a b c d e (8 * u + j)) 10 10
      rw [gSu_u hu hj]; exact h.2.2.2.2.2.1 j hj
    · have w : gSu r0 r1 r2 r3 r4 fr a b c d e (8 * u + i) = gSu r0 r1 r2 r3 r4 fr a b c d e (8 * u + j) := w
      rw [gSu_u hu hi, gSu_u hu hj] at w
      exact h.2.2.2.2.2.2 i j hi hj w
  · rw [gSu_f hi]; exact (hfr i hi).1
  · by_cases q : i < 40
    · have h := hL (i / 8) (by omega)
      rw [show i = 8 * (i / 8) + i % 8 by omega, gSu_u (by omega) (by omega)]
      exact (h.2.2.2.2.2.1 (i % 8) (by omega)).2
    · by_cases q2 : i < 50
      · rw [show i = 40 + (i - 40) by omega, gSu_f (by omega)]; exact (hfr _ (by omega)).2
      · rcases (show i = 50 ∨ i = 51 ∨ i = 52 by omega) with rfl | rfl | rfl
        · exact ga
        · exact gb
        · exact gc
  · have g1 := gSu_lab h0 h1 h2 h3 h4 hf ha hb hc hd he hi
    have g2 := gSu_lab h0 h1 h2 h3 h4 hf ha hb hc hd he hj
    rw [w] at g1
    have g3 := g1.symm.trans g2
    by_cases q : i < 40
    · have q2 : j < 40 := Nat.not_le.mp fun z => by
        rw [if_pos q, if_neg (by omega)] at g3
        split at g3 <;> omega
      rw [if_pos q, if_pos q2] at g3
      have h := hL (i / 8) (by omega)
      rw [show i = 8 * (i / 8) + i % 8 by omega, show j = 8 * (i / 8) + j % 8 by omega, gSu_u (by omega) (by omega), gSu_u (by omega) (by omega)] at w
      have := h.2.2.2.2.2.2 (i % 8) (j % 8) (by omega) (by omega) w
      omega
    · have q2 : ¬ j < 40 := fun z => by
        rw [if_neg q, if_pos z] at g3
        split at g3 <;> omega
      rw [if_neg q, if_neg q2] at g3
      by_cases q3 : i < 50
      · have q4 : j < 50 := Nat.not_le.mp fun z => by
          rw [if_pos q3, if_neg (by omega)] at g3
          omega
        rw [show i = 40 + (i - 40) by omega, show j = 40 + (j - 40) by omega, gSu_f (by omega), gSu_f (by omega)] at w
        have := hfi (i - 40) (j - 40) (by omega) (by omega) w
        omega
      · have q4 : ¬ j < 50 := fun z => by
          rw [if_neg q3, if_pos z] at g3
          omega
        rw [if_neg q3, if_neg q4] at g3
        omega
  · have z : ∀ u, u < 5 → lab (sl5 e0 e1 e2 e3 e4 u) = u := fun u hu => by
      rcases (show u = 0 ∨ u = 1 ∨ u = 2 ∨ u = 3 ∨ u = 4 by omega) with rfl | rfl | rfl | rfl | rfl
      · exact k0
      · exact k1
      · exact k2
      · exact k3
      · exact k4
    have := z u hu
    rw [w, z v hv] at this
    exact this.symm
end GSU
abbrev rmC4 : Room := { frames := 2, cells := 72, slots := 698, locals := 40 }

set_option maxHeartbeats 4000000 in
set_option maxRecDepth 100000 in
theorem c_X4_init (l : Launch) {E : zE} {S0 : zS} {I : Nat → Nat → Int32} {J : Nat → Nat → Int64} {R0 : Nat → Nat → Option Nat} {su st : Nat} (ha : zO S0 su 4) (hN : zNul S0 (I, J, R0)) (hJ : J su = fun _ => 0) : zNS l yX4_init wsX4_init rmC4 E S0 [.ref su, .ref st] (I, J, R0) (fun S' ν => ∃ (lo fl : Nat) (lw rs le g : Nat → Nat) (R' : Nat → Nat → Option Nat), ν = (zu (zu (zu I su 9 (-1)) su 12 (-1)) su 13 (-1), J, R') ∧ Gw S0 S' su R0 R' ∧ zNul S' (zu (zu (zu I su 9 (-1)) su 12 (-1)) su 13 (-1), J, R') ∧ SU S' R' su st lo fl lw rs le g ∧ lo ∉ S0.1 ∧ fl ∉ S0.1 ∧ (∀ u, u < 5 → lw u ∉ S0.1 ∧ rs u ∉ S0.1 ∧ le u ∉ S0.1) ∧ ∀ i, i < 55 → g i ∉ S0.1) 72 698 := by
  refine z_metNS (cc := cX4_init) (maxL := 3) (by decide) rfl rfl (Nat.le_of_ble_eq_true rfl) (fun X h hao hin ret => ?_)
  refine z_aload_n h dX4_init_0 rfl rfl ?_
  refine z_objInit h kq_4 (by decide) (by decide) (Nat.le_of_ble_eq_true rfl) dX4_init_1 ?_
  refine z_aload_n h dX4_init_4 rfl rfl ?_
  refine z_iconst (v := 4) h dX4_init_5 (by decide) ?_
  refine z_narL h hao hN (n := 4) (by decide) (by decide) kk_RX4_9 (by decide) (by decide) dX4_init_6 (fun lo S1 hlo hs1 loA hN1 => ?_)
  have ha_1 := hs1.O ha
  refine z_putRF h hin ha_1 rfl kw4 0 (by decide) rfl rfl rfl rfl rfl kf_RX4_11 dX4_init_9 ?_
  have hNp1 := zNul_puR (k := 0) (v := some lo) hN1 ha_1.1
  generalize e1 : zu R0 su 0 (some lo) = R1 at hNp1 ⊢
  have q1 : R1 su = fun j => if j = 0 then some lo else R0 su j := by rw [← e1]; exact zu_row
  have rl1 : R1 su 0 = some lo := by rw [q1]; rfl
  refine z_aload_n h dX4_init_12 rfl rfl ?_
  refine z_new (ci := 1) h hNp1 rfl kw1 zdf1 kk_RX4_9 kt_1 kn_RX1 (by decide) (by decide) dX4_init_13 (fun la4 S2 hla4 hs2 la4O hN2 => ?_)
  have ha_2 := hs2.O ha_1
  have loA_2 := hs2.A loA
  refine z_dup h dX4_init_16 rfl ?_
  refine z_callNN h hao (c_X1_init l la4O hN2) (zgI kc_X1_init) rfl ⟨rfl, rfl⟩ kn_RX1 zNW_3 ki_X1_init rfl 0 (by decide +kernel) ⟨by decide, by decide⟩ rfl rfl (Nat.le_of_ble_eq_true rfl) ⟨by decide, by decide⟩ dX4_init_17 (fun S3 ν hp => ?_)
  obtain ⟨rs4, le4, ro4, R2, rfl, Gla4, hN3, LA4, frs4, fle4, fro4⟩ := hp
  have hs3 := Gla4.1
  have ha_3 := hs3.O ha_2
  have loA_3 := hs3.A loA_2
  have la4O_3 := hs3.O la4O
  have q2 : R2 su = R1 su := Gla4.2 su ha_2.1 (ne_in ha_1.1 hla4)
  have rl2 : R2 su 0 = some lo := by rw [q2]; exact rl1
  refine z_putRF h hin ha_3 rfl kw4 1 (by decide) rfl rfl rfl rfl rfl kf_RX4_18 dX4_init_20 ?_
  have hNp3 := zNul_puR (k := 1) (v := some la4) hN3 ha_3.1
  generalize e3 : zu R2 su 1 (some la4) = R3 at hNp3 ⊢
  have q3 : R3 su = fun j => if j = 1 then some la4 else R2 su j := by rw [← e3]; exact zu_row
  have rl3 : R3 su 0 = some lo := by rw [q3]; exact rl2
  refine z_aload_n h dX4_init_23 rfl rfl ?_
  refine z_bipush (v := 10) h dX4_init_24 (by decide) ?_
  refine z_bipush (v := 10) h dX4_init_26 (by decide) ?_
  refine z_mnaJ h hao hNp3 (n := 10) (m := 10) (by decide) (by decide) (by decide) (by decide) kk_RX4_22 (by decide) (by decide) dX4_init_28 (fun fl fr S4 hfl hfr fri hs4 flA frA hN4 => ?_)
  generalize e4 : zr R3 fl (fun i => if i < 10 then some (fr i) else none) = R4 at hN4 ⊢
  have ha_4 := hs4.O ha_3
  have loA_4 := hs4.A loA_3
  have la4O_4 := hs4.O la4O_3
  have q4 : R4 su = R3 su := by rw [← e4]; exact zr_a (ne_in ha_3.1 hfl)
  have rl4 : R4 su 0 = some lo := by rw [q4]; exact rl3
  refine z_putRF h hin ha_4 rfl kw4 2 (by decide) rfl rfl rfl rfl rfl kf_RX4_24 dX4_init_32 ?_
  have hNp5 := zNul_puR (k := 2) (v := some fl) hN4 ha_4.1
  generalize e5 : zu R4 su 2 (some fl) = R5 at hNp5 ⊢
  have q5 : R5 su = fun j => if j = 2 then some fl else R4 su j := by rw [← e5]; exact zu_row
  have rl5 : R5 su 0 = some lo := by rw [q5]; exact rl4
  refine z_aload_n h dX4_init_35 rfl rfl ?_
  refine z_bipush (v := 10) h dX4_init_36 (by decide) ?_
  refine z_narJ h hNp5 (n := 10) (by decide) (by decide) (by decide) (by decide) dX4_init_38 (fun a0 S5 ha0 hs5 a0A hN5 => ?_)
  have ha_5 := hs5.O ha_4
  have loA_5 := hs5.A loA_4
  have la4O_5 := hs5.O la4O_4
  have flA_5 := hs5.A flA
  refine z_putRF h hin ha_5 rfl kw4 3 (by decide) rfl rfl rfl rfl rfl kf_RX4_27 dX4_init_40 ?_
  have hNp6 := zNul_puR (k := 3) (v := some a0) hN5 ha_5.1
  generalize e6 : zu R5 su 3 (some a0) = R6 at hNp6 ⊢
  have q6 : R6 su = fun j => if j = 3 then some a0 else R5 su j := by rw [← e6]; exact zu_row
  have rl6 : R6 su 0 = some lo := by rw [q6]; exact rl5
  refine z_aload_n h dX4_init_43 rfl rfl ?_
  refine z_bipush (v := 10) h dX4_init_44 (by decide) ?_
  refine z_narJ h hNp6 (n := 10) (by decide) (by decide) (by decide) (by decide) dX4_init_46 (fun a1 S6 ha1 hs6 a1A hN6 => ?_)
  have ha_6 := hs6.O ha_5
  have loA_6 := hs6.A loA_5
  have la4O_6 := hs6.O la4O_5
  have flA_6 := hs6.A flA_5
  have a0A_6 := hs6.A a0A
  refine z_putRF h hin ha_6 rfl kw4 4 (by decide) rfl rfl rfl rfl rfl kf_RX4_31 dX4_init_48 ?_
  have hNp7 := zNul_puR (k := 4) (v := some a1) hN6 ha_6.1
  generalize e7 : zu R6 su 4 (some a1) = R7 at hNp7 ⊢
  have q7 : R7 su = fun j => if j = 4 then some a1 else R6 su j := by rw [← e7]; exact zu_row
  have rl7 : R7 su 0 = some lo := by rw [q7]; exact rl6
  refine z_aload_n h dX4_init_51 rfl rfl ?_
  refine z_bipush (v := 10) h dX4_init_52 (by decide) ?_
  refine z_narJ h hNp7 (n := 10) (by decide) (by decide) (by decide) (by decide) dX4_init_54 (fun a2 S7 ha2 hs7 a2A hN7 => ?_)
  have ha_7 := hs7.O ha_6
  have loA_7 := hs7.A loA_6
  have la4O_7 := hs7.O la4O_6
  have flA_7 := hs7.A flA_6
  have a0A_7 := hs7.A a0A_6
  have a1A_7 := hs7.A a1A
  refine z_putRF h hin ha_7 rfl kw4 5 (by decide) rfl rfl rfl rfl rfl kf_RX4_34 dX4_init_56 ?_
  have hNp8 := zNul_puR (k := 5) (v := some a2) hN7 ha_7.1
  generalize e8 : zu R7 su 5 (some a2) = R8 at hNp8 ⊢
  have q8 : R8 su = fun j => if j = 5 then some a2 else R7 su j := by rw [← e8]; exact zu_row
  have rl8 : R8 su 0 = some lo := by rw [q8]; exact rl7
  refine z_aload_n h dX4_init_59 rfl rfl ?_
  refine z_bipush (v := 32) h dX4_init_60 (by decide) ?_
  refine z_narJ h hNp8 (n := 32) (by decide) (by decide) (by decide) (by decide) dX4_init_62 (fun a3 S8 ha3 hs8 a3A hN8 => ?_)
  have ha_8 := hs8.O ha_7
  have loA_8 := hs8.A loA_7
  have la4O_8 := hs8.O la4O_7
  have flA_8 := hs8.A flA_7
  have a0A_8 := hs8.A a0A_7
  have a1A_8 := hs8.A a1A_7
  have a2A_8 := hs8.A a2A
  refine z_putRF h hin ha_8 rfl kw4 6 (by decide) rfl rfl rfl rfl rfl kf_RX4_37 dX4_init_64 ?_
  have hNp9 := zNul_puR (k := 6) (v := some a3) hN8 ha_8.1
  generalize e9 : zu R8 su 6 (some a3) = R9 at hNp9 ⊢
  have q9 : R9 su = fun j => if j = 6 then some a3 else R8 su j := by rw [← e9]; exact zu_row
  have rl9 : R9 su 0 = some lo := by rw [q9]; exact rl8
  refine z_aload_n h dX4_init_67 rfl rfl ?_
  refine z_bipush (v := 32) h dX4_init_68 (by decide) ?_
  refine z_narJ h hNp9 (n := 32) (by decide) (by decide) (by decide) (by decide) dX4_init_70 (fun a4 S9 ha4 hs9 a4A hN9 => ?_)
  have ha_9 := hs9.O ha_8
  have loA_9 := hs9.A loA_8
  have la4O_9 := hs9.O la4O_8
  have flA_9 := hs9.A flA_8
  have a0A_9 := hs9.A a0A_8
  have a1A_9 := hs9.A a1A_8
  have a2A_9 := hs9.A a2A_8
  have a3A_9 := hs9.A a3A
  refine z_putRF h hin ha_9 rfl kw4 7 (by decide) rfl rfl rfl rfl rfl kf_RX4_40 dX4_init_72 ?_
  have hNp10 := zNul_puR (k := 7) (v := some a4) hN9 ha_9.1
  generalize e10 : zu R9 su 7 (some a4) = R10 at hNp10 ⊢
  have q10 : R10 su = fun j => if j = 7 then some a4 else R9 su j := by rw [← e10]; exact zu_row
  have rl10 : R10 su 0 = some lo := by rw [q10]; exact rl9
  refine z_aload_n h dX4_init_75 rfl rfl ?_
  refine z_iconst (v := -1) h dX4_init_76 (by decide) ?_
  refine z_putI h ha_9 rfl kw4 9 (by decide) rfl rfl rfl rfl kf_RX4_43 dX4_init_77 ?_
  have hNi1 := zNul_puI (k := 9) (v := -1) hNp10 ha_9.1
  refine z_aload_n h dX4_init_80 rfl rfl ?_
  refine z_lconst (v := 0) h dX4_init_81 (by decide) ?_
  refine z_putJ h ha_9 rfl kw4 10 (by decide) rfl rfl rfl rfl kf_RX4_47 dX4_init_82 ?_
  rw [zu0J (congrFun hJ 10)]
  refine z_aload_n h dX4_init_85 rfl rfl ?_
  refine z_lconst (v := 0) h dX4_init_86 (by decide) ?_
  refine z_putJ h ha_9 rfl kw4 11 (by decide) rfl rfl rfl rfl kf_RX4_51 dX4_init_87 ?_
  rw [zu0J (congrFun hJ 11)]
  refine z_aload_n h dX4_init_90 rfl rfl ?_
  refine z_iconst (v := -1) h dX4_init_91 (by decide) ?_
  refine z_putI h ha_9 rfl kw4 12 (by decide) rfl rfl rfl rfl kf_RX4_54 dX4_init_92 ?_
  have hNi2 := zNul_puI (k := 12) (v := -1) hNi1 ha_9.1
  refine z_aload_n h dX4_init_95 rfl rfl ?_
  refine z_iconst (v := -1) h dX4_init_96 (by decide) ?_
  refine z_putI h ha_9 rfl kw4 13 (by decide) rfl rfl rfl rfl kf_RX4_57 dX4_init_97 ?_
  have hNi3 := zNul_puI (k := 13) (v := -1) hNi2 ha_9.1
  refine z_iconst (v := 0) h dX4_init_100 (by decide) ?_
  refine z_istore_n h dX4_init_101 rfl (by decide) ?_
  refine z_iload_n h dX4_init_102 rfl rfl ?_
  refine z_iconst (v := 4) h dX4_init_103 (by decide) ?_
  refine z_icmp_ge h 126 dX4_init_104 (by decide) (fun z => absurd z (by decide)) (fun _ => ?_)
  refine z_aload_n h dX4_init_107 rfl rfl ?_
  refine z_getR h ha_9 rfl kw4 0 (by decide) rfl rl10 kf_RX4_11 dX4_init_108 ?_
  refine z_iload_n h dX4_init_111 rfl rfl ?_
  refine z_new (ci := 1) h hNi3 rfl kw1 zdf1 kk_RX4_9 kt_1 kn_RX1 (by decide) (by decide) dX4_init_112 (fun la0 S10 hla0 hs10 la0O hN10 => ?_)
  have ha_10 := hs10.O ha_9
  have loA_10 := hs10.A loA_9
  have la4O_10 := hs10.O la4O_9
  have flA_10 := hs10.A flA_9
  have a0A_10 := hs10.A a0A_9
  have a1A_10 := hs10.A a1A_9
  have a2A_10 := hs10.A a2A_9
  have a3A_10 := hs10.A a3A_9
  have a4A_10 := hs10.A a4A
  refine z_dup h dX4_init_115 rfl ?_
  refine z_callNN h hao (c_X1_init l la0O hN10) (zgI kc_X1_init) rfl ⟨rfl, rfl⟩ kn_RX1 zNW_3 ki_X1_init rfl 0 (by decide +kernel) ⟨by decide, by decide⟩ rfl rfl (Nat.le_of_ble_eq_true rfl) ⟨by decide, by decide⟩ dX4_init_116 (fun S11 ν hp => ?_)
  obtain ⟨rs0, le0, ro0, R11, rfl, Gla0, hN11, LA0, frs0, fle0, fro0⟩ := hp
  have hs11 := Gla0.1
  have ha_11 := hs11.O ha_10
  have loA_11 := hs11.A loA_10
  have la4O_11 := hs11.O la4O_10
  have flA_11 := hs11.A flA_10
  have a0A_11 := hs11.A a0A_10
  have a1A_11 := hs11.A a1A_10
  have a2A_11 := hs11.A a2A_10
  have a3A_11 := hs11.A a3A_10
  have a4A_11 := hs11.A a4A_10
  have la0O_11 := hs11.O la0O
  have q11 : R11 su = R10 su := Gla0.2 su ha_10.1 (ne_in ha_9.1 hla0)
  have rl11 : R11 su 0 = some lo := by rw [q11]; exact rl10
  refine z_aastL h loA_11 la0O_11 (zix_e (j := 0) (by decide) (by decide) (by decide)) dX4_init_119 ?_
  have hNp12 := zNul_puR (k := 0) (v := some la0) hN11 loA_11.1
  generalize e12 : zu R11 lo 0 (some la0) = R12 at hNp12 ⊢
  have q12 : R12 su = R11 su := by rw [← e12]; exact zu_o (kn ha_11.2 loA_11.2.1 (by decide))
  have rl12 : R12 su 0 = some lo := by rw [q12]; exact rl11
  refine z_iinc (v := 1) h dX4_init_120 rfl (by decide) (by decide) ?_
  refine z_goto h 102 dX4_init_123 (by decide) ?_
  refine z_iload_n h dX4_init_102 rfl rfl ?_
  refine z_iconst (v := 4) h dX4_init_103 (by decide) ?_
  refine z_icmp_ge h 126 dX4_init_104 (by decide) (fun z => absurd z (by decide)) (fun _ => ?_)
  refine z_aload_n h dX4_init_107 rfl rfl ?_
  refine z_getR h ha_11 rfl kw4 0 (by decide) rfl rl12 kf_RX4_11 dX4_init_108 ?_
  refine z_iload_n h dX4_init_111 rfl rfl ?_
  refine z_new (ci := 1) h hNp12 rfl kw1 zdf1 kk_RX4_9 kt_1 kn_RX1 (by decide) (by decide) dX4_init_112 (fun la1 S12 hla1 hs12 la1O hN12 => ?_)
  have ha_12 := hs12.O ha_11
  have loA_12 := hs12.A loA_11
  have la4O_12 := hs12.O la4O_11
  have flA_12 := hs12.A flA_11
  have a0A_12 := hs12.A a0A_11
  have a1A_12 := hs12.A a1A_11
  have a2A_12 := hs12.A a2A_11
  have a3A_12 := hs12.A a3A_11
  have a4A_12 := hs12.A a4A_11
  have la0O_12 := hs12.O la0O_11
  refine z_dup h dX4_init_115 rfl ?_
  refine z_callNN h hao (c_X1_init l la1O hN12) (zgI kc_X1_init) rfl ⟨rfl, rfl⟩ kn_RX1 zNW_3 ki_X1_init rfl 0 (by decide +kernel) ⟨by decide, by decide⟩ rfl rfl (Nat.le_of_ble_eq_true rfl) ⟨by decide, by decide⟩ dX4_init_116 (fun S13 ν hp => ?_)
  obtain ⟨rs1, le1, ro1, R13, rfl, Gla1, hN13, LA1, frs1, fle1, fro1⟩ := hp
  have hs13 := Gla1.1
  have ha_13 := hs13.O ha_12
  have loA_13 := hs13.A loA_12
  have la4O_13 := hs13.O la4O_12
  have flA_13 := hs13.A flA_12
  have a0A_13 := hs13.A a0A_12
  have a1A_13 := hs13.A a1A_12
  have a2A_13 := hs13.A a2A_12
  have a3A_13 := hs13.A a3A_12
  have a4A_13 := hs13.A a4A_12
  have la0O_13 := hs13.O la0O_12
  have la1O_13 := hs13.O la1O
  have q13 : R13 su = R12 su := Gla1.2 su ha_12.1 (ne_in ha_11.1 hla1)
  have rl13 : R13 su 0 = some lo := by rw [q13]; exact rl12
  refine z_aastL h loA_13 la1O_13 (zix_e (j := 1) (by decide) (by decide) (by decide)) dX4_init_119 ?_
  have hNp14 := zNul_puR (k := 1) (v := some la1) hN13 loA_13.1
  generalize e14 : zu R13 lo 1 (some la1) = R14 at hNp14 ⊢
  have q14 : R14 su = R13 su := by rw [← e14]; exact zu_o (kn ha_13.2 loA_13.2.1 (by decide))
  have rl14 : R14 su 0 = some lo := by rw [q14]; exact rl13
  refine z_iinc (v := 2) h dX4_init_120 rfl (by decide) (by decide) ?_
  refine z_goto h 102 dX4_init_123 (by decide) ?_
  refine z_iload_n h dX4_init_102 rfl rfl ?_
  refine z_iconst (v := 4) h dX4_init_103 (by decide) ?_
  refine z_icmp_ge h 126 dX4_init_104 (by decide) (fun z => absurd z (by decide)) (fun _ => ?_)
  refine z_aload_n h dX4_init_107 rfl rfl ?_
  refine z_getR h ha_13 rfl kw4 0 (by decide) rfl rl14 kf_RX4_11 dX4_init_108 ?_
  refine z_iload_n h dX4_init_111 rfl rfl ?_
  refine z_new (ci := 1) h hNp14 rfl kw1 zdf1 kk_RX4_9 kt_1 kn_RX1 (by decide) (by decide) dX4_init_112 (fun la2 S14 hla2 hs14 la2O hN14 => ?_)
  have ha_14 := hs14.O ha_13
  have loA_14 := hs14.A loA_13
  have la4O_14 := hs14.O la4O_13
  have flA_14 := hs14.A flA_13
  have a0A_14 := hs14.A a0A_13
  have a1A_14 := hs14.A a1A_13
  have a2A_14 := hs14.A a2A_13
  have a3A_14 := hs14.A a3A_13
  have a4A_14 := hs14.A a4A_13
  have la0O_14 := hs14.O la0O_13
  have la1O_14 := hs14.O la1O_13
  refine z_dup h dX4_init_115 rfl ?_
  refine z_callNN h hao (c_X1_init l la2O hN14) (zgI kc_X1_init) rfl ⟨rfl, rfl⟩ kn_RX1 zNW_3 ki_X1_init rfl 0 (by decide +kernel) ⟨by decide, by decide⟩ rfl rfl (Nat.le_of_ble_eq_true rfl) ⟨by decide, by decide⟩ dX4_init_116 (fun S15 ν hp => ?_)
  obtain ⟨rs2, le2, ro2, R15, rfl, Gla2, hN15, LA2, frs2, fle2, fro2⟩ := hp
  have hs15 := Gla2.1
  have ha_15 := hs15.O ha_14
  have loA_15 := hs15.A loA_14
  have la4O_15 := hs15.O la4O_14
  have flA_15 := hs15.A flA_14
  have a0A_15 := hs15.A a0A_14
  have a1A_15 := hs15.A a1A_14
  have a2A_15 := hs15.A a2A_14
  have a3A_15 := hs15.A a3A_14
  have a4A_15 := hs15.A a4A_14
  have la0O_15 := hs15.O la0O_14
  have la1O_15 := hs15.O la1O_14
  have la2O_15 := hs15.O la2O
  have q15 : R15 su = R14 su := Gla2.2 su ha_14.1 (ne_in ha_13.1 hla2)
  have rl15 : R15 su 0 = some lo := by rw [q15]; exact rl14
  refine z_aastL h loA_15 la2O_15 (zix_e (j := 2) (by decide) (by decide) (by decide)) dX4_init_119 ?_
  have hNp16 := zNul_puR (k := 2) (v := some la2) hN15 loA_15.1
  generalize e16 : zu R15 lo 2 (some la2) = R16 at hNp16 ⊢
  have q16 : R16 su = R15 su := by rw [← e16]; exact zu_o (kn ha_15.2 loA_15.2.1 (by decide))
  have rl16 : R16 su 0 = some lo := by rw [q16]; exact rl15
  refine z_iinc (v := 3) h dX4_init_120 rfl (by decide) (by decide) ?_
  refine z_goto h 102 dX4_init_123 (by decide) ?_
  refine z_iload_n h dX4_init_102 rfl rfl ?_
  refine z_iconst (v := 4) h dX4_init_103 (by decide) ?_
  refine z_icmp_ge h 126 dX4_init_104 (by decide) (fun z => absurd z (by decide)) (fun _ => ?_)
  refine z_aload_n h dX4_init_107 rfl rfl ?_
  refine z_getR h ha_15 rfl kw4 0 (by decide) rfl rl16 kf_RX4_11 dX4_init_108 ?_
  refine z_iload_n h dX4_init_111 rfl rfl ?_
  refine z_new (ci := 1) h hNp16 rfl kw1 zdf1 kk_RX4_9 kt_1 kn_RX1 (by decide) (by decide) dX4_init_112 (fun la3 S16 hla3 hs16 la3O hN16 => ?_)
  have ha_16 := hs16.O ha_15
  have loA_16 := hs16.A loA_15
  have la4O_16 := hs16.O la4O_15
  have flA_16 := hs16.A flA_15
  have a0A_16 := hs16.A a0A_15
  have a1A_16 := hs16.A a1A_15
  have a2A_16 := hs16.A a2A_15
  have a3A_16 := hs16.A a3A_15
  have a4A_16 := hs16.A a4A_15
  have la0O_16 := hs16.O la0O_15
  have la1O_16 := hs16.O la1O_15
  have la2O_16 := hs16.O la2O_15
  refine z_dup h dX4_init_115 rfl ?_
  refine z_callNN h hao (c_X1_init l la3O hN16) (zgI kc_X1_init) rfl ⟨rfl, rfl⟩ kn_RX1 zNW_3 ki_X1_init rfl 0 (by decide +kernel) ⟨by decide, by decide⟩ rfl rfl (Nat.le_of_ble_eq_true rfl) ⟨by decide, by decide⟩ dX4_init_116 (fun S17 ν hp => ?_)
  obtain ⟨rs3, le3, ro3, R17, rfl, Gla3, hN17, LA3, frs3, fle3, fro3⟩ := hp
  have hs17 := Gla3.1
  have ha_17 := hs17.O ha_16
  have loA_17 := hs17.A loA_16
  have la4O_17 := hs17.O la4O_16
  have flA_17 := hs17.A flA_16
  have a0A_17 := hs17.A a0A_16
  have a1A_17 := hs17.A a1A_16
  have a2A_17 := hs17.A a2A_16
  have a3A_17 := hs17.A a3A_16
  have a4A_17 := hs17.A a4A_16
  have la0O_17 := hs17.O la0O_16
  have la1O_17 := hs17.O la1O_16
  have la2O_17 := hs17.O la2O_16
  have la3O_17 := hs17.O la3O
  have q17 : R17 su = R16 su := Gla3.2 su ha_16.1 (ne_in ha_15.1 hla3)
  have rl17 : R17 su 0 = some lo := by rw [q17]; exact rl16
  refine z_aastL h loA_17 la3O_17 (zix_e (j := 3) (by decide) (by decide) (by decide)) dX4_init_119 ?_
  have hNp18 := zNul_puR (k := 3) (v := some la3) hN17 loA_17.1
  generalize e18 : zu R17 lo 3 (some la3) = R18 at hNp18 ⊢
  have q18 : R18 su = R17 su := by rw [← e18]; exact zu_o (kn ha_17.2 loA_17.2.1 (by decide))
  have rl18 : R18 su 0 = some lo := by rw [q18]; exact rl17
  refine z_iinc (v := 4) h dX4_init_120 rfl (by decide) (by decide) ?_
  refine z_goto h 102 dX4_init_123 (by decide) ?_
  refine z_iload_n h dX4_init_102 rfl rfl ?_
  refine z_iconst (v := 4) h dX4_init_103 (by decide) ?_
  refine z_icmp_ge h 126 dX4_init_104 (by decide) (fun _ => ?_) (fun z => absurd (by decide) z)
  refine z_aload_n h dX4_init_126 rfl rfl ?_
  refine z_aload_n h dX4_init_127 rfl rfl ?_
  refine z_putR h ha_17 rfl kw4 8 (by decide) rfl rfl rfl rfl kf_RX4_60 dX4_init_128 ?_
  have hNp19 := zNul_puR (k := 8) (v := some st) hNp18 ha_17.1
  generalize e19 : zu R18 su 8 (some st) = R19 at hNp19 ⊢
  have q19 : R19 su = fun j => if j = 8 then some st else R18 su j := by rw [← e19]; exact zu_row
  have rl19 : R19 su 0 = some lo := by rw [q19]; exact rl18
  have T17 : zSub S17 S17 := zSub.refl
  have T16 := hs17.trans T17
  have T15 := hs16.trans T16
  have T14 := hs15.trans T15
  have T13 := hs14.trans T14
  have T12 := hs13.trans T13
  have T11 := hs12.trans T12
  have T10 := hs11.trans T11
  have T9 := hs10.trans T10
  have T8 := hs9.trans T9
  have T7 := hs8.trans T8
  have T6 := hs7.trans T7
  have T5 := hs6.trans T6
  have T4 := hs5.trans T5
  have T3 := hs4.trans T4
  have T2 := hs3.trans T3
  have T1 := hs2.trans T2
  have T0 := hs1.trans T1
  have A19 : ∀ b, b ∈ S17.1 → b ≠ su → b ≠ lo → R19 b = R19 b := fun _ _ _ _ => rfl
  have A18 : ∀ b, b ∈ S17.1 → b ≠ su → b ≠ lo → R19 b = R18 b := fun b hb h1 h2 => (A19 b (hb) h1 h2).trans (show R19 b = R18 b by rw [← e19]; exact zu_o h1)
  have A17 : ∀ b, b ∈ S17.1 → b ≠ su → b ≠ lo → R19 b = R17 b := fun b hb h1 h2 => (A18 b (hb) h1 h2).trans (show R18 b = R17 b by rw [← e18]; exact zu_o h2)
  have A16 : ∀ b, b ∈ S15.1 → b ≠ su → b ≠ lo → R19 b = R16 b := fun b hb h1 h2 => (A17 b (((hs16.trans hs17) b hb).1) h1 h2).trans (Gla3.2 b ((hs16 b hb).1) (ne_in (hb) hla3))
  have A15 : ∀ b, b ∈ S15.1 → b ≠ su → b ≠ lo → R19 b = R15 b := fun b hb h1 h2 => (A16 b (hb) h1 h2).trans (show R16 b = R15 b by rw [← e16]; exact zu_o h2)
  have A14 : ∀ b, b ∈ S13.1 → b ≠ su → b ≠ lo → R19 b = R14 b := fun b hb h1 h2 => (A15 b (((hs14.trans hs15) b hb).1) h1 h2).trans (Gla2.2 b ((hs14 b hb).1) (ne_in (hb) hla2))
  have A13 : ∀ b, b ∈ S13.1 → b ≠ su → b ≠ lo → R19 b = R13 b := fun b hb h1 h2 => (A14 b (hb) h1 h2).trans (show R14 b = R13 b by rw [← e14]; exact zu_o h2)
  have A12 : ∀ b, b ∈ S11.1 → b ≠ su → b ≠ lo → R19 b = R12 b := fun b hb h1 h2 => (A13 b (((hs12.trans hs13) b hb).1) h1 h2).trans (Gla1.2 b ((hs12 b hb).1) (ne_in (hb) hla1))
  have A11 : ∀ b, b ∈ S11.1 → b ≠ su → b ≠ lo → R19 b = R11 b := fun b hb h1 h2 => (A12 b (hb) h1 h2).trans (show R12 b = R11 b by rw [← e12]; exact zu_o h2)
  have A10 : ∀ b, b ∈ S9.1 → b ≠ su → b ≠ lo → R19 b = R10 b := fun b hb h1 h2 => (A11 b (((hs10.trans hs11) b hb).1) h1 h2).trans (Gla0.2 b ((hs10 b hb).1) (ne_in (hb) hla0))
  have A9 : ∀ b, b ∈ S8.1 → b ≠ su → b ≠ lo → R19 b = R9 b := fun b hb h1 h2 => (A10 b ((hs9 b hb).1) h1 h2).trans (show R10 b = R9 b by rw [← e10]; exact zu_o h1)
  have A8 : ∀ b, b ∈ S7.1 → b ≠ su → b ≠ lo → R19 b = R8 b := fun b hb h1 h2 => (A9 b ((hs8 b hb).1) h1 h2).trans (show R9 b = R8 b by rw [← e9]; exact zu_o h1)
  have A7 : ∀ b, b ∈ S6.1 → b ≠ su → b ≠ lo → R19 b = R7 b := fun b hb h1 h2 => (A8 b ((hs7 b hb).1) h1 h2).trans (show R8 b = R7 b by rw [← e8]; exact zu_o h1)
  have A6 : ∀ b, b ∈ S5.1 → b ≠ su → b ≠ lo → R19 b = R6 b := fun b hb h1 h2 => (A7 b ((hs6 b hb).1) h1 h2).trans (show R7 b = R6 b by rw [← e7]; exact zu_o h1)
  have A5 : ∀ b, b ∈ S4.1 → b ≠ su → b ≠ lo → R19 b = R5 b := fun b hb h1 h2 => (A6 b ((hs5 b hb).1) h1 h2).trans (show R6 b = R5 b by rw [← e6]; exact zu_o h1)
  have A4 : ∀ b, b ∈ S4.1 → b ≠ su → b ≠ lo → R19 b = R4 b := fun b hb h1 h2 => (A5 b (hb) h1 h2).trans (show R5 b = R4 b by rw [← e5]; exact zu_o h1)
  have A3 : ∀ b, b ∈ S3.1 → b ≠ su → b ≠ lo → R19 b = R3 b := fun b hb h1 h2 => (A4 b ((hs4 b hb).1) h1 h2).trans (show R4 b = R3 b by rw [← e4]; exact zr_a (ne_in (hb) hfl))
  have A2 : ∀ b, b ∈ S3.1 → b ≠ su → b ≠ lo → R19 b = R2 b := fun b hb h1 h2 => (A3 b (hb) h1 h2).trans (show R3 b = R2 b by rw [← e3]; exact zu_o h1)
  have A1 : ∀ b, b ∈ S1.1 → b ≠ su → b ≠ lo → R19 b = R1 b := fun b hb h1 h2 => (A2 b (((hs2.trans hs3) b hb).1) h1 h2).trans (Gla4.2 b ((hs2 b hb).1) (ne_in (hb) hla4))
  have A0 : ∀ b, b ∈ S0.1 → b ≠ su → b ≠ lo → R19 b = R0 b := fun b hb h1 h2 => (A1 b ((hs1 b hb).1) h1 h2).trans (show R1 b = R0 b by rw [← e1]; exact zu_o h1)
  have L0 := LA0.mv T11 (A11 la0 LA0.1.1 (kn (T11.O LA0.1).2 ha_17.2 (by decide)) (kn (T11.O LA0.1).2 loA_17.2.1 (by decide))) (A11 rs0 LA0.2.2.2.1.1 (kn (T11.A LA0.2.2.2.1).2.1 ha_17.2 (by decide)) (kn (T11.A LA0.2.2.2.1).2.1 loA_17.2.1 (by decide)))
  have L1 := LA1.mv T13 (A13 la1 LA1.1.1 (kn (T13.O LA1.1).2 ha_17.2 (by decide)) (kn (T13.O LA1.1).2 loA_17.2.1 (by decide))) (A13 rs1 LA1.2.2.2.1.1 (kn (T13.A LA1.2.2.2.1).2.1 ha_17.2 (by decide)) (kn (T13.A LA1.2.2.2.1).2.1 loA_17.2.1 (by decide)))
  have L2 := LA2.mv T15 (A15 la2 LA2.1.1 (kn (T15.O LA2.1).2 ha_17.2 (by decide)) (kn (T15.O LA2.1).2 loA_17.2.1 (by decide))) (A15 rs2 LA2.2.2.2.1.1 (kn (T15.A LA2.2.2.2.1).2.1 ha_17.2 (by decide)) (kn (T15.A LA2.2.2.2.1).2.1 loA_17.2.1 (by decide)))
  have L3 := LA3.mv T17 (A17 la3 LA3.1.1 (kn (T17.O LA3.1).2 ha_17.2 (by decide)) (kn (T17.O LA3.1).2 loA_17.2.1 (by decide))) (A17 rs3 LA3.2.2.2.1.1 (kn (T17.A LA3.2.2.2.1).2.1 ha_17.2 (by decide)) (kn (T17.A LA3.2.2.2.1).2.1 loA_17.2.1 (by decide)))
  have L4 := LA4.mv T3 (A2 la4 LA4.1.1 (kn (T3.O LA4.1).2 ha_17.2 (by decide)) (kn (T3.O LA4.1).2 loA_17.2.1 (by decide))) (A2 rs4 LA4.2.2.2.1.1 (kn (T3.A LA4.2.2.2.1).2.1 ha_17.2 (by decide)) (kn (T3.A LA4.2.2.2.1).2.1 loA_17.2.1 (by decide)))
  have ksu : R19 su = fun j => if j = 8 then some st else if j = 7 then some a4 else if j = 6 then some a3 else if j = 5 then some a2 else if j = 4 then some a1 else if j = 3 then some a0 else if j = 2 then some fl else if j = 1 then some la4 else if j = 0 then some lo else R0 su j := by
    rw [q19, q18, q17, q16, q15, q14, q13, q12, q11, q10, q9, q8, q7, q6, q5, q4, q3, q2, q1]
  have p12 : R12 lo = fun j => if j = 0 then some la0 else R11 lo j := by rw [← e12]; exact zu_row
  have p11 : R11 lo = R10 lo := Gla0.2 lo (((hs2.trans (hs3.trans (hs4.trans (hs5.trans (hs6.trans (hs7.trans (hs8.trans (hs9.trans hs10)))))))) lo loA.1).1) (ne_in (((hs2.trans (hs3.trans (hs4.trans (hs5.trans (hs6.trans (hs7.trans (hs8.trans hs9))))))) lo loA.1).1) hla0)
  have p14 : R14 lo = fun j => if j = 1 then some la1 else R13 lo j := by rw [← e14]; exact zu_row
  have p13 : R13 lo = R12 lo := Gla1.2 lo (((hs2.trans (hs3.trans (hs4.trans (hs5.trans (hs6.trans (hs7.trans (hs8.trans (hs9.trans (hs10.trans (hs11.trans hs12)))))))))) lo loA.1).1) (ne_in (((hs2.trans (hs3.trans (hs4.trans (hs5.trans (hs6.trans (hs7.trans (hs8.trans (hs9.trans (hs10.trans hs11))))))))) lo loA.1).1) hla1)
  have p16 : R16 lo = fun j => if j = 2 then some la2 else R15 lo j := by rw [← e16]; exact zu_row
  have p15 : R15 lo = R14 lo := Gla2.2 lo (((hs2.trans (hs3.trans (hs4.trans (hs5.trans (hs6.trans (hs7.trans (hs8.trans (hs9.trans (hs10.trans (hs11.trans (hs12.trans (hs13.trans hs14)))))))))))) lo loA.1).1) (ne_in (((hs2.trans (hs3.trans (hs4.trans (hs5.trans (hs6.trans (hs7.trans (hs8.trans (hs9.trans (hs10.trans (hs11.trans (hs12.trans hs13))))))))))) lo loA.1).1) hla2)
  have p18 : R18 lo = fun j => if j = 3 then some la3 else R17 lo j := by rw [← e18]; exact zu_row
  have p17 : R17 lo = R16 lo := Gla3.2 lo (((hs2.trans (hs3.trans (hs4.trans (hs5.trans (hs6.trans (hs7.trans (hs8.trans (hs9.trans (hs10.trans (hs11.trans (hs12.trans (hs13.trans (hs14.trans (hs15.trans hs16)))))))))))))) lo loA.1).1) (ne_in (((hs2.trans (hs3.trans (hs4.trans (hs5.trans (hs6.trans (hs7.trans (hs8.trans (hs9.trans (hs10.trans (hs11.trans (hs12.trans (hs13.trans (hs14.trans hs15))))))))))))) lo loA.1).1) hla3)
  have p19 : R19 lo = R18 lo := by rw [← e19]; exact zu_o (kn loA_17.2.1 ha_17.2 (by decide))
  have klo : R19 lo = fun j => if j = 3 then some la3 else if j = 2 then some la2 else if j = 1 then some la1 else if j = 0 then some la0 else R10 lo j := by
    rw [p19, p18, p17, p16, p15, p14, p13, p12, p11]
  have kfl : ∀ i, i < 10 → R19 fl i = some (fr i) := fun i hi => by
    rw [A4 fl flA.1 (kn (T4.A flA).2.1 ha_17.2 (by decide)) (kn (T4.A flA).2.1 loA_17.2.1 (by decide)), ← e4, zr_sk, if_pos hi]
  have lab0 : ∃ lab : Nat → Nat, lab = fun b => if b ∈ S3.1 then 4 else if b ∈ S4.1 then 5 else if b ∈ S5.1 then 6 else if b ∈ S6.1 then 7 else if b ∈ S7.1 then 8 else if b ∈ S8.1 then 9 else if b ∈ S9.1 then 10 else if b ∈ S11.1 then 0 else if b ∈ S13.1 then 1 else if b ∈ S15.1 then 2 else 3 := ⟨_, rfl⟩
  obtain ⟨lab, hlab⟩ := lab0
  have lr0 : ∀ j, j < 8 → lab (ro0 j) = 0 := by rw [hlab]; exact fun j hj => (if_neg ((hs4.trans (hs5.trans (hs6.trans (hs7.trans (hs8.trans (hs9.trans hs10)))))).no (fro0 j hj))).trans ((if_neg ((hs5.trans (hs6.trans (hs7.trans (hs8.trans (hs9.trans hs10))))).no (fro0 j hj))).trans ((if_neg ((hs6.trans (hs7.trans (hs8.trans (hs9.trans hs10)))).no (fro0 j hj))).trans ((if_neg ((hs7.trans (hs8.trans (hs9.trans hs10))).no (fro0 j hj))).trans ((if_neg ((hs8.trans (hs9.trans hs10)).no (fro0 j hj))).trans ((if_neg ((hs9.trans hs10).no (fro0 j hj))).trans ((if_neg (hs10.no (fro0 j hj))).trans (if_pos ((LA0.2.2.2.2.2.1 j hj).2.1))))))))
  have ll0 : lab le0 = 0 := by rw [hlab]; exact (if_neg ((hs4.trans (hs5.trans (hs6.trans (hs7.trans (hs8.trans (hs9.trans hs10)))))).no (fle0))).trans ((if_neg ((hs5.trans (hs6.trans (hs7.trans (hs8.trans (hs9.trans hs10))))).no (fle0))).trans ((if_neg ((hs6.trans (hs7.trans (hs8.trans (hs9.trans hs10)))).no (fle0))).trans ((if_neg ((hs7.trans (hs8.trans (hs9.trans hs10))).no (fle0))).trans ((if_neg ((hs8.trans (hs9.trans hs10)).no (fle0))).trans ((if_neg ((hs9.trans hs10).no (fle0))).trans ((if_neg (hs10.no (fle0))).trans (if_pos (LA0.2.2.2.2.1.1))))))))
  have lr1 : ∀ j, j < 8 → lab (ro1 j) = 1 := by rw [hlab]; exact fun j hj => (if_neg ((hs4.trans (hs5.trans (hs6.trans (hs7.trans (hs8.trans (hs9.trans (hs10.trans (hs11.trans hs12)))))))).no (fro1 j hj))).trans ((if_neg ((hs5.trans (hs6.trans (hs7.trans (hs8.trans (hs9.trans (hs10.trans (hs11.trans hs12))))))).no (fro1 j hj))).trans ((if_neg ((hs6.trans (hs7.trans (hs8.trans (hs9.trans (hs10.trans (hs11.trans hs12)))))).no (fro1 j hj))).trans ((if_neg ((hs7.trans (hs8.trans (hs9.trans (hs10.trans (hs11.trans hs12))))).no (fro1 j hj))).trans ((if_neg ((hs8.trans (hs9.trans (hs10.trans (hs11.trans hs12)))).no (fro1 j hj))).trans ((if_neg ((hs9.trans (hs10.trans (hs11.trans hs12))).no (fro1 j hj))).trans ((if_neg ((hs10.trans (hs11.trans hs12)).no (fro1 j hj))).trans ((if_neg (hs12.no (fro1 j hj))).trans (if_pos ((LA1.2.2.2.2.2.1 j hj).2.1)))))))))
  have ll1 : lab le1 = 1 := by rw [hlab]; exact (if_neg ((hs4.trans (hs5.trans (hs6.trans (hs7.trans (hs8.trans (hs9.trans (hs10.trans (hs11.trans hs12)))))))).no (fle1))).trans ((if_neg ((hs5.trans (hs6.trans (hs7.trans (hs8.trans (hs9.trans (hs10.trans (hs11.trans hs12))))))).no (fle1))).trans ((if_neg ((hs6.trans (hs7.trans (hs8.trans (hs9.trans (hs10.trans (hs11.trans hs12)))))).no (fle1))).trans ((if_neg ((hs7.trans (hs8.trans (hs9.trans (hs10.trans (hs11.trans hs12))))).no (fle1))).trans ((if_neg ((hs8.trans (hs9.trans (hs10.trans (hs11.trans hs12)))).no (fle1))).trans ((if_neg ((hs9.trans (hs10.trans (hs11.trans hs12))).no (fle1))).trans ((if_neg ((hs10.trans (hs11.trans hs12)).no (fle1))).trans ((if_neg (hs12.no (fle1))).trans (if_pos (LA1.2.2.2.2.1.1)))))))))
  have lr2 : ∀ j, j < 8 → lab (ro2 j) = 2 := by rw [hlab]; exact fun j hj => (if_neg ((hs4.trans (hs5.trans (hs6.trans (hs7.trans (hs8.trans (hs9.trans (hs10.trans (hs11.trans (hs12.trans (hs13.trans hs14)))))))))).no (fro2 j hj))).trans ((if_neg ((hs5.trans (hs6.trans (hs7.trans (hs8.trans (hs9.trans (hs10.trans (hs11.trans (hs12.trans (hs13.trans hs14))))))))).no (fro2 j hj))).trans ((if_neg ((hs6.trans (hs7.trans (hs8.trans (hs9.trans (hs10.trans (hs11.trans (hs12.trans (hs13.trans hs14)))))))).no (fro2 j hj))).trans ((if_neg ((hs7.trans (hs8.trans (hs9.trans (hs10.trans (hs11.trans (hs12.trans (hs13.trans hs14))))))).no (fro2 j hj))).trans ((if_neg ((hs8.trans (hs9.trans (hs10.trans (hs11.trans (hs12.trans (hs13.trans hs14)))))).no (fro2 j hj))).trans ((if_neg ((hs9.trans (hs10.trans (hs11.trans (hs12.trans (hs13.trans hs14))))).no (fro2 j hj))).trans ((if_neg ((hs10.trans (hs11.trans (hs12.trans (hs13.trans hs14)))).no (fro2 j hj))).trans ((if_neg ((hs12.trans (hs13.trans hs14)).no (fro2 j hj))).trans ((if_neg (hs14.no (fro2 j hj))).trans (if_pos ((LA2.2.2.2.2.2.1 j hj).2.1))))))))))
  have ll2 : lab le2 = 2 := by rw [hlab]; exact (if_neg ((hs4.trans (hs5.trans (hs6.trans (hs7.trans (hs8.trans (hs9.trans (hs10.trans (hs11.trans (hs12.trans (hs13.trans hs14)))))))))).no (fle2))).trans ((if_neg ((hs5.trans (hs6.trans (hs7.trans (hs8.trans (hs9.trans (hs10.trans (hs11.trans (hs12.trans (hs13.trans hs14))))))))).no (fle2))).trans ((if_neg ((hs6.trans (hs7.trans (hs8.trans (hs9.trans (hs10.trans (hs11.trans (hs12.trans (hs13.trans hs14)))))))).no (fle2))).trans ((if_neg ((hs7.trans (hs8.trans (hs9.trans (hs10.trans (hs11.trans (hs12.trans (hs13.trans hs14))))))).no (fle2))).trans ((if_neg ((hs8.trans (hs9.trans (hs10.trans (hs11.trans (hs12.trans (hs13.trans hs14)))))).no (fle2))).trans ((if_neg ((hs9.trans (hs10.trans (hs11.trans (hs12.trans (hs13.trans hs14))))).no (fle2))).trans ((if_neg ((hs10.trans (hs11.trans (hs12.trans (hs13.trans hs14)))).no (fle2))).trans ((if_neg ((hs12.trans (hs13.trans hs14)).no (fle2))).trans ((if_neg (hs14.no (fle2))).trans (if_pos (LA2.2.2.2.2.1.1))))))))))
  have lr3 : ∀ j, j < 8 → lab (ro3 j) = 3 := by rw [hlab]; exact fun j hj => (if_neg ((hs4.trans (hs5.trans (hs6.trans (hs7.trans (hs8.trans (hs9.trans (hs10.trans (hs11.trans (hs12.trans (hs13.trans (hs14.trans (hs15.trans hs16)))))))))))).no (fro3 j hj))).trans ((if_neg ((hs5.trans (hs6.trans (hs7.trans (hs8.trans (hs9.trans (hs10.trans (hs11.trans (hs12.trans (hs13.trans (hs14.trans (hs15.trans hs16))))))))))).no (fro3 j hj))).trans ((if_neg ((hs6.trans (hs7.trans (hs8.trans (hs9.trans (hs10.trans (hs11.trans (hs12.trans (hs13.trans (hs14.trans (hs15.trans hs16)))))))))).no (fro3 j hj))).trans ((if_neg ((hs7.trans (hs8.trans (hs9.trans (hs10.trans (hs11.trans (hs12.trans (hs13.trans (hs14.trans (hs15.trans hs16))))))))).no (fro3 j hj))).trans ((if_neg ((hs8.trans (hs9.trans (hs10.trans (hs11.trans (hs12.trans (hs13.trans (hs14.trans (hs15.trans hs16)))))))).no (fro3 j hj))).trans ((if_neg ((hs9.trans (hs10.trans (hs11.trans (hs12.trans (hs13.trans (hs14.trans (hs15.trans hs16))))))).no (fro3 j hj))).trans ((if_neg ((hs10.trans (hs11.trans (hs12.trans (hs13.trans (hs14.trans (hs15.trans hs16)))))).no (fro3 j hj))).trans ((if_neg ((hs12.trans (hs13.trans (hs14.trans (hs15.trans hs16)))).no (fro3 j hj))).trans ((if_neg ((hs14.trans (hs15.trans hs16)).no (fro3 j hj))).trans (if_neg (hs16.no (fro3 j hj)))))))))))
  have ll3 : lab le3 = 3 := by rw [hlab]; exact (if_neg ((hs4.trans (hs5.trans (hs6.trans (hs7.trans (hs8.trans (hs9.trans (hs10.trans (hs11.trans (hs12.trans (hs13.trans (hs14.trans (hs15.trans hs16)))))))))))).no (fle3))).trans ((if_neg ((hs5.trans (hs6.trans (hs7.trans (hs8.trans (hs9.trans (hs10.trans (hs11.trans (hs12.trans (hs13.trans (hs14.trans (hs15.trans hs16))))))))))).no (fle3))).trans ((if_neg ((hs6.trans (hs7.trans (hs8.trans (hs9.trans (hs10.trans (hs11.trans (hs12.trans (hs13.trans (hs14.trans (hs15.trans hs16)))))))))).no (fle3))).trans ((if_neg ((hs7.trans (hs8.trans (hs9.trans (hs10.trans (hs11.trans (hs12.trans (hs13.trans (hs14.trans (hs15.trans hs16))))))))).no (fle3))).trans ((if_neg ((hs8.trans (hs9.trans (hs10.trans (hs11.trans (hs12.trans (hs13.trans (hs14.trans (hs15.trans hs16)))))))).no (fle3))).trans ((if_neg ((hs9.trans (hs10.trans (hs11.trans (hs12.trans (hs13.trans (hs14.trans (hs15.trans hs16))))))).no (fle3))).trans ((if_neg ((hs10.trans (hs11.trans (hs12.trans (hs13.trans (hs14.trans (hs15.trans hs16)))))).no (fle3))).trans ((if_neg ((hs12.trans (hs13.trans (hs14.trans (hs15.trans hs16)))).no (fle3))).trans ((if_neg ((hs14.trans (hs15.trans hs16)).no (fle3))).trans (if_neg (hs16.no (fle3)))))))))))
  have lr4 : ∀ j, j < 8 → lab (ro4 j) = 4 := by rw [hlab]; exact fun j hj => if_pos ((LA4.2.2.2.2.2.1 j hj).2.1)
  have ll4 : lab le4 = 4 := by rw [hlab]; exact if_pos (LA4.2.2.2.2.1.1)
  have lf : ∀ j, j < 10 → lab (fr j) = 5 := by rw [hlab]; exact fun j hj => (if_neg (hfr j hj)).trans (if_pos ((frA j hj).1))
  have la0_ : lab a0 = 6 := by rw [hlab]; exact (if_neg (hs4.no (ha0))).trans ((if_neg (ha0)).trans (if_pos (a0A.1)))
  have la1_ : lab a1 = 7 := by rw [hlab]; exact (if_neg ((hs4.trans hs5).no (ha1))).trans ((if_neg (hs5.no (ha1))).trans ((if_neg (ha1)).trans (if_pos (a1A.1))))
  have la2_ : lab a2 = 8 := by rw [hlab]; exact (if_neg ((hs4.trans (hs5.trans hs6)).no (ha2))).trans ((if_neg ((hs5.trans hs6).no (ha2))).trans ((if_neg (hs6.no (ha2))).trans ((if_neg (ha2)).trans (if_pos (a2A.1)))))
  have la3_ : lab a3 = 9 := by rw [hlab]; exact (if_neg ((hs4.trans (hs5.trans (hs6.trans hs7))).no (ha3))).trans ((if_neg ((hs5.trans (hs6.trans hs7)).no (ha3))).trans ((if_neg ((hs6.trans hs7).no (ha3))).trans ((if_neg (hs7.no (ha3))).trans ((if_neg (ha3)).trans (if_pos (a3A.1))))))
  have la4_ : lab a4 = 10 := by rw [hlab]; exact (if_neg ((hs4.trans (hs5.trans (hs6.trans (hs7.trans hs8)))).no (ha4))).trans ((if_neg ((hs5.trans (hs6.trans (hs7.trans hs8))).no (ha4))).trans ((if_neg ((hs6.trans (hs7.trans hs8)).no (ha4))).trans ((if_neg ((hs7.trans hs8).no (ha4))).trans ((if_neg (hs8.no (ha4))).trans ((if_neg (ha4)).trans (if_pos (a4A.1)))))))
  have hSU := SU_make (st := st) (lab := lab) ha_17 (by rw [ksu]; exact ⟨rfl, rfl, rfl, rfl, rfl, rfl, rfl, rfl, rfl⟩) loA_17 (by rw [klo]; exact ⟨rfl, rfl, rfl, rfl⟩) L0 L1 L2 L3 L4 flA_17 (fun i hi => ⟨kfl i hi, T4.A (frA i hi)⟩) fri a0A_17 a1A_17 a2A_17 a3A_17 a4A_17 lr0 lr1 lr2 lr3 lr4 lf la0_ la1_ la2_ la3_ la4_ ll0 ll1 ll2 ll3 ll4
  have nlw : ∀ u, u < 5 → sl5 la0 la1 la2 la3 la4 u ∉ S0.1 ∧ sl5 rs0 rs1 rs2 rs3 rs4 u ∉ S0.1 ∧ sl5 le0 le1 le2 le3 le4 u ∉ S0.1 := fun u hu => by
    rcases (show u = 0 ∨ u = 1 ∨ u = 2 ∨ u = 3 ∨ u = 4 by omega) with rfl | rfl | rfl | rfl | rfl
    · exact ⟨(hs1.trans (hs2.trans (hs3.trans (hs4.trans (hs5.trans (hs6.trans (hs7.trans (hs8.trans hs9)))))))).no (hla0), (hs1.trans (hs2.trans (hs3.trans (hs4.trans (hs5.trans (hs6.trans (hs7.trans (hs8.trans (hs9.trans hs10))))))))).no (frs0), (hs1.trans (hs2.trans (hs3.trans (hs4.trans (hs5.trans (hs6.trans (hs7.trans (hs8.trans (hs9.trans hs10))))))))).no (fle0)⟩
    · exact ⟨(hs1.trans (hs2.trans (hs3.trans (hs4.trans (hs5.trans (hs6.trans (hs7.trans (hs8.trans (hs9.trans (hs10.trans hs11)))))))))).no (hla1), (hs1.trans (hs2.trans (hs3.trans (hs4.trans (hs5.trans (hs6.trans (hs7.trans (hs8.trans (hs9.trans (hs10.trans (hs11.trans hs12))))))))))).no (frs1), (hs1.trans (hs2.trans (hs3.trans (hs4.trans (hs5.trans (hs6.trans (hs7.trans (hs8.trans (hs9.trans (hs10.trans (hs11.trans hs12))))))))))).no (fle1)⟩
    · exact ⟨(hs1.trans (hs2.trans (hs3.trans (hs4.trans (hs5.trans (hs6.trans (hs7.trans (hs8.trans (hs9.trans (hs10.trans (hs11.trans (hs12.trans hs13)))))))))))).no (hla2), (hs1.trans (hs2.trans (hs3.trans (hs4.trans (hs5.trans (hs6.trans (hs7.trans (hs8.trans (hs9.trans (hs10.trans (hs11.trans (hs12.trans (hs13.trans hs14))))))))))))).no (frs2), (hs1.trans (hs2.trans (hs3.trans (hs4.trans (hs5.trans (hs6.trans (hs7.trans (hs8.trans (hs9.trans (hs10.trans (hs11.trans (hs12.trans (hs13.trans hs14))))))))))))).no (fle2)⟩
    · exact ⟨(hs1.trans (hs2.trans (hs3.trans (hs4.trans (hs5.trans (hs6.trans (hs7.trans (hs8.trans (hs9.trans (hs10.trans (hs11.trans (hs12.trans (hs13.trans (hs14.trans hs15)))))))))))))).no (hla3), (hs1.trans (hs2.trans (hs3.trans (hs4.trans (hs5.trans (hs6.trans (hs7.trans (hs8.trans (hs9.trans (hs10.trans (hs11.trans (hs12.trans (hs13.trans (hs14.trans (hs15.trans hs16))))))))))))))).no (frs3), (hs1.trans (hs2.trans (hs3.trans (hs4.trans (hs5.trans (hs6.trans (hs7.trans (hs8.trans (hs9.trans (hs10.trans (hs11.trans (hs12.trans (hs13.trans (hs14.trans (hs15.trans hs16))))))))))))))).no (fle3)⟩
    · exact ⟨hs1.no (hla4), (hs1.trans hs2).no (frs4), (hs1.trans hs2).no (fle4)⟩
  have ng : ∀ i, i < 55 → gSu ro0 ro1 ro2 ro3 ro4 fr a0 a1 a2 a3 a4 i ∉ S0.1 := fun i hi => gSu_all (P := fun b => b ∉ S0.1) (fun j hj => (hs1.trans (hs2.trans (hs3.trans (hs4.trans (hs5.trans (hs6.trans (hs7.trans (hs8.trans (hs9.trans hs10))))))))).no (fro0 j hj)) (fun j hj => (hs1.trans (hs2.trans (hs3.trans (hs4.trans (hs5.trans (hs6.trans (hs7.trans (hs8.trans (hs9.trans (hs10.trans (hs11.trans hs12))))))))))).no (fro1 j hj)) (fun j hj => (hs1.trans (hs2.trans (hs3.trans (hs4.trans (hs5.trans (hs6.trans (hs7.trans (hs8.trans (hs9.trans (hs10.trans (hs11.trans (hs12.trans (hs13.trans hs14))))))))))))).no (fro2 j hj)) (fun j hj => (hs1.trans (hs2.trans (hs3.trans (hs4.trans (hs5.trans (hs6.trans (hs7.trans (hs8.trans (hs9.trans (hs10.trans (hs11.trans (hs12.trans (hs13.trans (hs14.trans (hs15.trans hs16))))))))))))))).no (fro3 j hj)) (fun j hj => (hs1.trans hs2).no (fro4 j hj)) (fun j hj => (hs1.trans (hs2.trans hs3)).no (hfr j hj)) ((hs1.trans (hs2.trans (hs3.trans hs4))).no (ha0)) ((hs1.trans (hs2.trans (hs3.trans (hs4.trans hs5)))).no (ha1)) ((hs1.trans (hs2.trans (hs3.trans (hs4.trans (hs5.trans hs6))))).no (ha2)) ((hs1.trans (hs2.trans (hs3.trans (hs4.trans (hs5.trans (hs6.trans hs7)))))).no (ha3)) ((hs1.trans (hs2.trans (hs3.trans (hs4.trans (hs5.trans (hs6.trans (hs7.trans hs8))))))).no (ha4)) hi
  refine ret ⟨lo, fl, _, _, _, _, R19, rfl, ⟨T0, fun b hb hbs => A0 b hb hbs (ne_in hb hlo)⟩, hNp19, hSU, hlo, (hs1.trans (hs2.trans hs3)).no (hfl), nlw, ng⟩ dX4_init_131
