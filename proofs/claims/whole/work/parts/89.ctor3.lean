/-! THE LAYOUTS of both sides: who is where; labels keep the arrays apart: below 100 the class, from 100 on the reference -/
def CL (lab : Nat → Nat) (c d : Nat) (S : zS) (R : Nat → Nat → Option Nat) (x t b rd ch sa na su lo fl st pa ak dr pa2 ak2 : Nat) (rw rw2 lw rs le g : Nat → Nat) : Prop :=
  (zO S x 6 ∧ R x 0 = some t ∧ R x 1 = some rd ∧ R x 2 = some ch ∧ R x 3 = some su ∧ R x 4 = some st ∧ R x 5 = some dr) ∧
  (zO S t 5 ∧ R t 0 = some b ∧ zA S b 9 400) ∧ (zO S rd 2 ∧ R rd 0 = some t) ∧
  (zO S ch 0 ∧ R ch 0 = some sa ∧ R ch 1 = some na ∧ zA S sa 9 50 ∧ zA S na 9 50 ∧ sa ≠ na) ∧
  SY S R st pa ak rw ∧ SY S R dr pa2 ak2 rw2 ∧ SU S R su st lo fl lw rs le g ∧
  (lab x = 5 ∧ lab t = 5 ∧ lab b = 1 ∧ lab rd = 5 ∧ lab ch = 5 ∧ lab sa = 2 ∧ lab na = 3 ∧ lab su = 5) ∧
  (lab st = c ∧ lab ak = c ∧ ∀ i, lab (rw i) = c) ∧ (lab dr = d ∧ lab ak2 = d ∧ ∀ i, lab (rw2 i) = d) ∧
  (∀ u, u < 5 → lab (le u) = 6) ∧ (∀ i, i < 55 → lab (g i) = 6) ∧ ((c = 10 ∧ d = 20) ∨ (c = 20 ∧ d = 10)) ∧ (∀ i, 10 ≤ i → rw i = rw 0) ∧ ∀ i, 10 ≤ i → rw2 i = rw2 0
def ML (lab : Nat → Nat) (S : zS) (R : Nat → Nat → Option Nat) (y tp td rm ra am ks kn ro ba be : Nat) : Prop :=
  zO S y 7 ∧ (R y 1 = some tp ∧ zA S tp 8 400) ∧ (R y 3 = some td ∧ zA S td 9 70) ∧ (R y 4 = some rm ∧ zA S rm 9 70) ∧ (R y 5 = some am ∧ zA S am 9 5) ∧ (R y 6 = some ra ∧ zA S ra 9 5) ∧ (R y 10 = some ks ∧ zA S ks 9 50) ∧ (R y 11 = some kn ∧ zA S kn 9 50) ∧ (R y 21 = some ba ∧ zA S ba 10 72) ∧ (R y 22 = some ro ∧ zA S ro 10 9) ∧ (R y 23 = some be ∧ zA S be 9 8) ∧ ro ≠ ba ∧
  (lab y = 109 ∧ lab tp = 100 ∧ lab td = 101 ∧ lab rm = 102 ∧ lab am = 103 ∧ lab ra = 104 ∧ lab ks = 105 ∧ lab kn = 106 ∧ lab ba = 108 ∧ lab ro = 108 ∧ lab be = 107)
theorem SY.mv {S S' : zS} {R R' : Nat → Nat → Option Nat} {st pa ak : Nat} {rw : Nat → Nat} (h : SY S R st pa ak rw) (hs : zSub S S') (h1 : R' st = R st) (h2 : R' pa = R pa) : SY S' R' st pa ak rw :=
  ⟨hs.O h.1, by rw [h1]; exact h.2.1, by rw [h1]; exact h.2.2.1, hs.A h.2.2.2.1, hs.A h.2.2.2.2.1, fun i hi => ⟨by rw [h2]; exact (h.2.2.2.2.2.1 i hi).1, hs.A (h.2.2.2.2.2.1 i hi).2⟩, h.2.2.2.2.2.2⟩
theorem SU.mv {S S' : zS} {R R' : Nat → Nat → Option Nat} {su st lo fl : Nat} {lw rs le g : Nat → Nat} (h : SU S R su st lo fl lw rs le g) (hs : zSub S S') (hR : ∀ b, b ∈ S.1 → S.2.1 b ≠ 6 → R' b = R b) : SU S' R' su st lo fl lw rs le g := by
  obtain ⟨u1, u2, u3, u4, u5, u6, u7, u8, u9, u10, u11, u12, u13, u14, u15, u16, u17, u18, u19, u20⟩ := h
  have e1 : R' su = R su := hR su u1.1 (by rw [u1.2]; decide)
  have e2 : R' lo = R lo := hR lo u11.1 (by rw [u11.2.1]; decide)
  have e3 : R' fl = R fl := hR fl u14.1 (by rw [u14.2.1]; decide)
  rw [← e1] at u2 u3 u4 u5 u6 u7 u8 u9 u10
  refine ⟨hs.O u1, u2, u3, u4, u5, u6, u7, u8, u9, u10, hs.A u11, fun u hu => ?_, fun u hu => ?_, hs.A u14, fun i hi => ?_, fun i hi => hs.A (u16 i hi), hs.A u17, hs.A u18, u19, u20⟩
  · rw [e2]; exact u12 u hu
  · have L := u13 u hu
    exact L.mv hs (hR _ L.1.1 (by rw [L.1.2]; decide)) (hR _ L.2.2.2.1.1 (by rw [L.2.2.2.1.2.1]; decide))
  · rw [e3]; exact u15 i hi
abbrev rmC6 : Room := { frames := 3, cells := 105, slots := 1402, locals := 62 }
abbrev rmC7 : Room := { frames := 1, cells := 10, slots := 739, locals := 20 }

set_option maxHeartbeats 4000000 in
set_option maxRecDepth 100000 in
theorem c_X6_init (l : Launch) {E : zE} {S0 : zS} {I : Nat → Nat → Int32} {J : Nat → Nat → Int64} {R0 : Nat → Nat → Option Nat} {x : Nat} (ha : zO S0 x 6) (hN : zNul S0 (I, J, R0)) : zNS l yX6_init wsX6_init rmC6 E S0 [.ref x] (I, J, R0) (fun S' ν => ∃ (lab : Nat → Nat) (t b rd ch sa na su lo fl st pa ak dr pa2 ak2 : Nat) (rw rw2 lw rs le g : Nat → Nat) (R' : Nat → Nat → Option Nat), ν = (zu (zu (zu I su 9 (-1)) su 12 (-1)) su 13 (-1), J, R') ∧ Gw S0 S' x R0 R' ∧ zNul S' (zu (zu (zu I su 9 (-1)) su 12 (-1)) su 13 (-1), J, R') ∧ CL lab 10 20 S' R' x t b rd ch sa na su lo fl st pa ak dr pa2 ak2 rw rw2 lw rs le g) 105 1402 := by
  refine z_metNS (cc := cX6_init) (maxL := 1) (by decide) rfl rfl (Nat.le_of_ble_eq_true rfl) (fun X h hao hin ret => ?_)
  have hx_0 := ha
  refine z_aload_n h dX6_init_0 rfl rfl ?_
  refine z_objInit h kq_6 (by decide) (by decide) (Nat.le_of_ble_eq_true rfl) dX6_init_1 ?_
  refine z_aload_n h dX6_init_4 rfl rfl ?_
  refine z_new (ci := 5) h hN rfl kw5 zdf5 kk_RX6_9 kt_5 kn_RX5 (by decide) (by decide) dX6_init_5 (fun t S1 ht hs1 tO hN1 => ?_)
  have hx_1 := hs1.O hx_0
  have zt := hN t ht
  refine z_dup h dX6_init_8 rfl ?_
  refine z_callNN h hao (c_X5_init l tO hN1 zt.1) (zgI kc_X5_init) rfl ⟨rfl, rfl⟩ kn_RX5 zNW_0 ki_X5_init rfl 0 (by decide +kernel) ⟨by decide, by decide⟩ rfl rfl (Nat.le_of_ble_eq_true rfl) ⟨by decide, by decide⟩ dX6_init_9 (fun S2 ν hp => ?_)
  obtain ⟨b, R1, rfl, Gt, hN2, fb, Rt, bA⟩ := hp
  have hs2 := Gt.1
  have hx_2 := hs2.O hx_1
  have tO_2 := hs2.O tO
  have q1 : R1 x = R0 x := Gt.2 x hx_1.1 (ne_in hx_0.1 ht)
  refine z_putRF h hin hx_2 rfl kw6 0 (by decide) rfl rfl rfl rfl rfl kf_RX6_12 dX6_init_12 ?_
  have hNp2 := zNul_puR (k := 0) (v := some t) hN2 hx_2.1
  generalize e2 : zu R1 x 0 (some t) = R2 at hNp2 ⊢
  have q2 : R2 x = fun j => if j = 0 then some t else R1 x j := by rw [← e2]; exact zu_row
  refine z_aload_n h dX6_init_15 rfl rfl ?_
  refine z_new (ci := 2) h hNp2 rfl kw2 zdf2 kk_RX6_16 kt_2 kn_RX2 (by decide) (by decide) dX6_init_16 (fun rd S3 hrd hs3 rdO hN3 => ?_)
  have hx_3 := hs3.O hx_2
  have tO_3 := hs3.O tO_2
  have zrd := hNp2 rd hrd
  refine z_dup h dX6_init_19 rfl ?_
  refine z_aload_n h dX6_init_20 rfl rfl ?_
  refine z_getR h hx_3 rfl kw6 0 (by decide) rfl (show R2 x 0 = some t by rw [q2]; rfl) kf_RX6_12 dX6_init_21 ?_
  refine z_callNS h hao (c_X2_init l (t := t) rdO hN3) (zgI kc_X2_init) rfl ⟨rfl, rfl⟩ kn_RX2 km_RX6_18 ki_X2_init rfl 1 (by decide +kernel) ⟨by decide, by decide⟩ rfl rfl (Nat.le_of_ble_eq_true rfl) ⟨by decide, by decide⟩ dX6_init_24 (fun S4 ν hp => ?_)
  obtain ⟨R3, rfl, Grd, hN4, Rrd⟩ := hp
  have hs4 := Grd.1
  have hx_4 := hs4.O hx_3
  have tO_4 := hs4.O tO_3
  have rdO_4 := hs4.O rdO
  have q3 : R3 x = R2 x := Grd.2 x hx_3.1 (ne_in hx_2.1 hrd)
  refine z_putRF h hin hx_4 rfl kw6 1 (by decide) rfl rfl rfl rfl rfl kf_RX6_21 dX6_init_27 ?_
  have hNp4 := zNul_puR (k := 1) (v := some rd) hN4 hx_4.1
  generalize e4 : zu R3 x 1 (some rd) = R4 at hNp4 ⊢
  have q4 : R4 x = fun j => if j = 1 then some rd else R3 x j := by rw [← e4]; exact zu_row
  refine z_aload_n h dX6_init_30 rfl rfl ?_
  refine z_new (ci := 0) h hNp4 rfl kw0 zdf0 kk_RX6_25 kt_0 kn_RX0 (by decide) (by decide) dX6_init_31 (fun ch S5 hch hs5 chO hN5 => ?_)
  have hx_5 := hs5.O hx_4
  have tO_5 := hs5.O tO_4
  have rdO_5 := hs5.O rdO_4
  have zch := hNp4 ch hch
  refine z_dup h dX6_init_34 rfl ?_
  refine z_callNN h hao (c_X0_init l chO hN5 zch.1) (zgI kc_X0_init) rfl ⟨rfl, rfl⟩ kn_RX0 zNW_1 ki_X0_init rfl 0 (by decide +kernel) ⟨by decide, by decide⟩ rfl rfl (Nat.le_of_ble_eq_true rfl) ⟨by decide, by decide⟩ dX6_init_35 (fun S6 ν hp => ?_)
  obtain ⟨sa, na, R5, rfl, Gch, hN6, fsa, fna, Rch0, Rch1, saA, naA, sana⟩ := hp
  have hs6 := Gch.1
  have hx_6 := hs6.O hx_5
  have tO_6 := hs6.O tO_5
  have rdO_6 := hs6.O rdO_5
  have chO_6 := hs6.O chO
  have q5 : R5 x = R4 x := Gch.2 x hx_5.1 (ne_in hx_4.1 hch)
  refine z_putRF h hin hx_6 rfl kw6 2 (by decide) rfl rfl rfl rfl rfl kf_RX6_28 dX6_init_38 ?_
  have hNp6 := zNul_puR (k := 2) (v := some ch) hN6 hx_6.1
  generalize e6 : zu R5 x 2 (some ch) = R6 at hNp6 ⊢
  have q6 : R6 x = fun j => if j = 2 then some ch else R5 x j := by rw [← e6]; exact zu_row
  refine z_aload_n h dX6_init_41 rfl rfl ?_
  refine z_new (ci := 3) h hNp6 rfl kw3 zdf3 kk_RX6_32 kt_3 kn_RX3 (by decide) (by decide) dX6_init_42 (fun st S7 hst hs7 stO hN7 => ?_)
  have hx_7 := hs7.O hx_6
  have tO_7 := hs7.O tO_6
  have rdO_7 := hs7.O rdO_6
  have chO_7 := hs7.O chO_6
  have zst := hNp6 st hst
  refine z_dup h dX6_init_45 rfl ?_
  refine z_callNN h hao (c_X3_init l stO hN7 zst.1) (zgI kc_X3_init) rfl ⟨rfl, rfl⟩ kn_RX3 zNW_2 ki_X3_init rfl 0 (by decide +kernel) ⟨by decide, by decide⟩ rfl rfl (Nat.le_of_ble_eq_true rfl) ⟨by decide, by decide⟩ dX6_init_46 (fun S8 ν hp => ?_)
  obtain ⟨pa, ak, rw, R7, rfl, Gst, hN8, Y1, fpa, fak, frw, erw⟩ := hp
  have hs8 := Gst.1
  have hx_8 := hs8.O hx_7
  have tO_8 := hs8.O tO_7
  have rdO_8 := hs8.O rdO_7
  have chO_8 := hs8.O chO_7
  have stO_8 := hs8.O stO
  have q7 : R7 x = R6 x := Gst.2 x hx_7.1 (ne_in hx_6.1 hst)
  refine z_putR h hx_8 rfl kw6 4 (by decide) rfl rfl rfl rfl kf_RX6_35 dX6_init_49 ?_
  have hNp8 := zNul_puR (k := 4) (v := some st) hN8 hx_8.1
  generalize e8 : zu R7 x 4 (some st) = R8 at hNp8 ⊢
  have q8 : R8 x = fun j => if j = 4 then some st else R7 x j := by rw [← e8]; exact zu_row
  refine z_aload_n h dX6_init_52 rfl rfl ?_
  refine z_new (ci := 3) h hNp8 rfl kw3 zdf3 kk_RX6_32 kt_3 kn_RX3 (by decide) (by decide) dX6_init_53 (fun dr S9 hdr hs9 drO hN9 => ?_)
  have hx_9 := hs9.O hx_8
  have tO_9 := hs9.O tO_8
  have rdO_9 := hs9.O rdO_8
  have chO_9 := hs9.O chO_8
  have stO_9 := hs9.O stO_8
  have zdr := hNp8 dr hdr
  refine z_dup h dX6_init_56 rfl ?_
  refine z_callNN h hao (c_X3_init l drO hN9 zdr.1) (zgI kc_X3_init) rfl ⟨rfl, rfl⟩ kn_RX3 zNW_2 ki_X3_init rfl 0 (by decide +kernel) ⟨by decide, by decide⟩ rfl rfl (Nat.le_of_ble_eq_true rfl) ⟨by decide, by decide⟩ dX6_init_57 (fun S10 ν hp => ?_)
  obtain ⟨pa2, ak2, rw2, R9, rfl, Gdr, hN10, Y2, fpa2, fak2, frw2, erw2⟩ := hp
  have hs10 := Gdr.1
  have hx_10 := hs10.O hx_9
  have tO_10 := hs10.O tO_9
  have rdO_10 := hs10.O rdO_9
  have chO_10 := hs10.O chO_9
  have stO_10 := hs10.O stO_9
  have drO_10 := hs10.O drO
  have q9 : R9 x = R8 x := Gdr.2 x hx_9.1 (ne_in hx_8.1 hdr)
  refine z_putR h hx_10 rfl kw6 5 (by decide) rfl rfl rfl rfl kf_RX6_39 dX6_init_60 ?_
  have hNp10 := zNul_puR (k := 5) (v := some dr) hN10 hx_10.1
  generalize e10 : zu R9 x 5 (some dr) = R10 at hNp10 ⊢
  have q10 : R10 x = fun j => if j = 5 then some dr else R9 x j := by rw [← e10]; exact zu_row
  refine z_aload_n h dX6_init_63 rfl rfl ?_
  refine z_new (ci := 4) h hNp10 rfl kw4 zdf4 kk_RX6_42 kt_4 kn_RX4 (by decide) (by decide) dX6_init_64 (fun su S11 hsu hs11 suO hN11 => ?_)
  have hx_11 := hs11.O hx_10
  have tO_11 := hs11.O tO_10
  have rdO_11 := hs11.O rdO_10
  have chO_11 := hs11.O chO_10
  have stO_11 := hs11.O stO_10
  have drO_11 := hs11.O drO_10
  have zsu := hNp10 su hsu
  refine z_dup h dX6_init_67 rfl ?_
  refine z_aload_n h dX6_init_68 rfl rfl ?_
  refine z_getR h hx_11 rfl kw6 4 (by decide) rfl (show R10 x 4 = some st by rw [q10, q9, q8]; rfl) kf_RX6_35 dX6_init_69 ?_
  refine z_callNS h hao (c_X4_init l (st := st) suO hN11 zsu.2.1) (zgI kc_X4_init) rfl ⟨rfl, rfl⟩ kn_RX4 km_RX6_44 ki_X4_init rfl 1 (by decide +kernel) ⟨by decide, by decide⟩ rfl rfl (Nat.le_of_ble_eq_true rfl) ⟨by decide, by decide⟩ dX6_init_72 (fun S12 ν hp => ?_)
  obtain ⟨lo, fl, lw, rs, le, g, R11, rfl, Gsu, hN12, U1, flo, ffl, flw, fg⟩ := hp
  have hs12 := Gsu.1
  have hx_12 := hs12.O hx_11
  have tO_12 := hs12.O tO_11
  have rdO_12 := hs12.O rdO_11
  have chO_12 := hs12.O chO_11
  have stO_12 := hs12.O stO_11
  have drO_12 := hs12.O drO_11
  have suO_12 := hs12.O suO
  have q11 : R11 x = R10 x := Gsu.2 x hx_11.1 (ne_in hx_10.1 hsu)
  refine z_putRF h hin hx_12 rfl kw6 3 (by decide) rfl rfl rfl rfl rfl kf_RX6_47 dX6_init_75 ?_
  have hNp12 := zNul_puR (k := 3) (v := some su) hN12 hx_12.1
  generalize e12 : zu R11 x 3 (some su) = R12 at hNp12 ⊢
  have q12 : R12 x = fun j => if j = 3 then some su else R11 x j := by rw [← e12]; exact zu_row
  have T12 : zSub S12 S12 := zSub.refl
  have T11 := hs12.trans T12
  have T10 := hs11.trans T11
  have T9 := hs10.trans T10
  have T8 := hs9.trans T9
  have T7 := hs8.trans T8
  have T6 := hs7.trans T7
  have T5 := hs6.trans T6
  have T4 := hs5.trans T5
  have T3 := hs4.trans T4
  have T2 := hs3.trans T3
  have T1 := hs2.trans T2
  have T0 := hs1.trans T1
  have A12 : ∀ b, b ∈ S12.1 → b ≠ x → R12 b = R12 b := fun _ _ _ => rfl
  have A11 : ∀ b, b ∈ S12.1 → b ≠ x → R12 b = R11 b := fun b hb h1 => (A12 b (hb) h1).trans (show R12 b = R11 b by rw [← e12]; exact zu_o h1)
  have A10 : ∀ b, b ∈ S10.1 → b ≠ x → R12 b = R10 b := fun b hb h1 => (A11 b (((hs11.trans hs12) b hb).1) h1).trans (Gsu.2 b ((hs11 b hb).1) (ne_in (hb) hsu))
  have A9 : ∀ b, b ∈ S10.1 → b ≠ x → R12 b = R9 b := fun b hb h1 => (A10 b (hb) h1).trans (show R10 b = R9 b by rw [← e10]; exact zu_o h1)
  have A8 : ∀ b, b ∈ S8.1 → b ≠ x → R12 b = R8 b := fun b hb h1 => (A9 b (((hs9.trans hs10) b hb).1) h1).trans (Gdr.2 b ((hs9 b hb).1) (ne_in (hb) hdr))
  have A7 : ∀ b, b ∈ S8.1 → b ≠ x → R12 b = R7 b := fun b hb h1 => (A8 b (hb) h1).trans (show R8 b = R7 b by rw [← e8]; exact zu_o h1)
  have A6 : ∀ b, b ∈ S6.1 → b ≠ x → R12 b = R6 b := fun b hb h1 => (A7 b (((hs7.trans hs8) b hb).1) h1).trans (Gst.2 b ((hs7 b hb).1) (ne_in (hb) hst))
  have A5 : ∀ b, b ∈ S6.1 → b ≠ x → R12 b = R5 b := fun b hb h1 => (A6 b (hb) h1).trans (show R6 b = R5 b by rw [← e6]; exact zu_o h1)
  have A4 : ∀ b, b ∈ S4.1 → b ≠ x → R12 b = R4 b := fun b hb h1 => (A5 b (((hs5.trans hs6) b hb).1) h1).trans (Gch.2 b ((hs5 b hb).1) (ne_in (hb) hch))
  have A3 : ∀ b, b ∈ S4.1 → b ≠ x → R12 b = R3 b := fun b hb h1 => (A4 b (hb) h1).trans (show R4 b = R3 b by rw [← e4]; exact zu_o h1)
  have A2 : ∀ b, b ∈ S2.1 → b ≠ x → R12 b = R2 b := fun b hb h1 => (A3 b (((hs3.trans hs4) b hb).1) h1).trans (Grd.2 b ((hs3 b hb).1) (ne_in (hb) hrd))
  have A1 : ∀ b, b ∈ S2.1 → b ≠ x → R12 b = R1 b := fun b hb h1 => (A2 b (hb) h1).trans (show R2 b = R1 b by rw [← e2]; exact zu_o h1)
  have A0 : ∀ b, b ∈ S0.1 → b ≠ x → R12 b = R0 b := fun b hb h1 => (A1 b (((hs1.trans hs2) b hb).1) h1).trans (Gt.2 b ((hs1 b hb).1) (ne_in (hb) ht))
  have kx : R12 x = fun j => if j = 3 then some su else if j = 5 then some dr else if j = 4 then some st else if j = 2 then some ch else if j = 1 then some rd else if j = 0 then some t else R0 x j := by
    rw [q12, q11, q10, q9, q8, q7, q6, q5, q4, q3, q2, q1]
  have t0 : R12 t 0 = some b := by rw [A1 t (Gt.1 t tO.1 |>.1) (kn (T2.O (Gt.1.O tO) |>.2) hx_12.2 (by decide))]; exact Rt
  have rd0 : R12 rd 0 = some t := by rw [A3 rd (Grd.1 rd rdO.1 |>.1) (kn (T4.O (Grd.1.O rdO) |>.2) hx_12.2 (by decide))]; exact Rrd
  have ch_ : R12 ch = R5 ch := A5 ch (Gch.1 ch chO.1 |>.1) (kn (T6.O (Gch.1.O chO) |>.2) hx_12.2 (by decide))
  have Y1f := Y1.mv T8 (A7 st (Y1.1.1) (kn (T8.O Y1.1 |>.2) hx_12.2 (by decide))) (A7 pa (Y1.2.2.2.1.1) (kn ((T8.A Y1.2.2.2.1).2.1) hx_12.2 (by decide)))
  have Y2f := Y2.mv T10 (A9 dr (Y2.1.1) (kn (T10.O Y2.1 |>.2) hx_12.2 (by decide))) (A9 pa2 (Y2.2.2.2.1.1) (kn ((T10.A Y2.2.2.2.1).2.1) hx_12.2 (by decide)))
  have U1f := U1.mv (zSub.refl) (R' := R12) (fun b hb h6 => A11 b hb (fun q => h6 (q ▸ hx_12.2)))
  have lab0 : ∃ lab : Nat → Nat, lab = fun b' => if b' ∈ S0.1 then 5 else if b' ∈ S1.1 then 5 else if b' ∈ S2.1 then 1 else if b' ∈ S5.1 then 5 else if b' ∈ S6.1 then (if b' = na then 3 else 2) else if b' ∈ S8.1 then 10 else if b' ∈ S10.1 then 20 else if b' ∈ S11.1 then 5 else 6 := ⟨_, rfl⟩
  obtain ⟨lab, hlab⟩ := lab0
  have l_x : lab x = 5 := by rw [hlab]; exact if_pos ha.1
  have l_t : lab t = 5 := by rw [hlab]; exact (if_neg (ht)).trans (if_pos (tO.1))
  have l_b : lab b = 1 := by rw [hlab]; exact (if_neg (hs1.no (fb))).trans ((if_neg (fb)).trans (if_pos (bA.1)))
  have l_rd : lab rd = 5 := by rw [hlab]; exact (if_neg ((hs1.trans hs2).no (hrd))).trans ((if_neg (hs2.no (hrd))).trans ((if_neg (hrd)).trans (if_pos (((hs4.trans hs5) _ (rdO.1)).1))))
  have l_ch : lab ch = 5 := by rw [hlab]; exact (if_neg ((hs1.trans (hs2.trans (hs3.trans hs4))).no (hch))).trans ((if_neg ((hs2.trans (hs3.trans hs4)).no (hch))).trans ((if_neg ((hs3.trans hs4).no (hch))).trans (if_pos (chO.1))))
  have l_sa : lab sa = 2 := by rw [hlab]; exact (if_neg ((hs1.trans (hs2.trans (hs3.trans (hs4.trans hs5)))).no (fsa))).trans ((if_neg ((hs2.trans (hs3.trans (hs4.trans hs5))).no (fsa))).trans ((if_neg ((hs3.trans (hs4.trans hs5)).no (fsa))).trans ((if_neg (fsa)).trans ((if_pos (saA.1)).trans (if_neg sana)))))
  have l_na : lab na = 3 := by rw [hlab]; exact (if_neg ((hs1.trans (hs2.trans (hs3.trans (hs4.trans hs5)))).no (fna))).trans ((if_neg ((hs2.trans (hs3.trans (hs4.trans hs5))).no (fna))).trans ((if_neg ((hs3.trans (hs4.trans hs5)).no (fna))).trans ((if_neg (fna)).trans ((if_pos (naA.1)).trans (if_pos rfl)))))
  have l_st : lab st = 10 := by rw [hlab]; exact (if_neg ((hs1.trans (hs2.trans (hs3.trans (hs4.trans (hs5.trans hs6))))).no (hst))).trans ((if_neg ((hs2.trans (hs3.trans (hs4.trans (hs5.trans hs6)))).no (hst))).trans ((if_neg ((hs3.trans (hs4.trans (hs5.trans hs6))).no (hst))).trans ((if_neg (hs6.no (hst))).trans ((if_neg (hst)).trans (if_pos ((hs8 _ (stO.1)).1))))))
  have l_ak : lab ak = 10 := by rw [hlab]; exact (if_neg ((hs1.trans (hs2.trans (hs3.trans (hs4.trans (hs5.trans (hs6.trans hs7)))))).no (fak))).trans ((if_neg ((hs2.trans (hs3.trans (hs4.trans (hs5.trans (hs6.trans hs7))))).no (fak))).trans ((if_neg ((hs3.trans (hs4.trans (hs5.trans (hs6.trans hs7)))).no (fak))).trans ((if_neg ((hs6.trans hs7).no (fak))).trans ((if_neg (hs7.no (fak))).trans (if_pos (Y1.2.2.2.2.1.1))))))
  have mrw : ∀ i, rw i ∈ S8.1 := fun i => by
    by_cases w : i < 10
    · exact (Y1.2.2.2.2.2.1 i w).2.1
    · rw [erw i (by omega)]; exact (Y1.2.2.2.2.2.1 0 (by omega)).2.1
  have l_rw : ∀ i, lab (rw i) = 10 := by rw [hlab]; exact fun i => (if_neg ((hs1.trans (hs2.trans (hs3.trans (hs4.trans (hs5.trans (hs6.trans hs7)))))).no (frw i))).trans ((if_neg ((hs2.trans (hs3.trans (hs4.trans (hs5.trans (hs6.trans hs7))))).no (frw i))).trans ((if_neg ((hs3.trans (hs4.trans (hs5.trans (hs6.trans hs7)))).no (frw i))).trans ((if_neg ((hs6.trans hs7).no (frw i))).trans ((if_neg (hs7.no (frw i))).trans (if_pos (mrw i))))))
  have l_dr : lab dr = 20 := by rw [hlab]; exact (if_neg ((hs1.trans (hs2.trans (hs3.trans (hs4.trans (hs5.trans (hs6.trans (hs7.trans hs8))))))).no (hdr))).trans ((if_neg ((hs2.trans (hs3.trans (hs4.trans (hs5.trans (hs6.trans (hs7.trans hs8)))))).no (hdr))).trans ((if_neg ((hs3.trans (hs4.trans (hs5.trans (hs6.trans (hs7.trans hs8))))).no (hdr))).trans ((if_neg ((hs6.trans (hs7.trans hs8)).no (hdr))).trans ((if_neg ((hs7.trans hs8).no (hdr))).trans ((if_neg (hdr)).trans (if_pos ((hs10 _ (drO.1)).1)))))))
  have l_ak2 : lab ak2 = 20 := by rw [hlab]; exact (if_neg ((hs1.trans (hs2.trans (hs3.trans (hs4.trans (hs5.trans (hs6.trans (hs7.trans (hs8.trans hs9)))))))).no (fak2))).trans ((if_neg ((hs2.trans (hs3.trans (hs4.trans (hs5.trans (hs6.trans (hs7.trans (hs8.trans hs9))))))).no (fak2))).trans ((if_neg ((hs3.trans (hs4.trans (hs5.trans (hs6.trans (hs7.trans (hs8.trans hs9)))))).no (fak2))).trans ((if_neg ((hs6.trans (hs7.trans (hs8.trans hs9))).no (fak2))).trans ((if_neg ((hs7.trans (hs8.trans hs9)).no (fak2))).trans ((if_neg (hs9.no (fak2))).trans (if_pos (Y2.2.2.2.2.1.1)))))))
  have mrw2 : ∀ i, rw2 i ∈ S10.1 := fun i => by
    by_cases w : i < 10
    · exact (Y2.2.2.2.2.2.1 i w).2.1
    · rw [erw2 i (by omega)]; exact (Y2.2.2.2.2.2.1 0 (by omega)).2.1
  have l_rw2 : ∀ i, lab (rw2 i) = 20 := by rw [hlab]; exact fun i => (if_neg ((hs1.trans (hs2.trans (hs3.trans (hs4.trans (hs5.trans (hs6.trans (hs7.trans (hs8.trans hs9)))))))).no (frw2 i))).trans ((if_neg ((hs2.trans (hs3.trans (hs4.trans (hs5.trans (hs6.trans (hs7.trans (hs8.trans hs9))))))).no (frw2 i))).trans ((if_neg ((hs3.trans (hs4.trans (hs5.trans (hs6.trans (hs7.trans (hs8.trans hs9)))))).no (frw2 i))).trans ((if_neg ((hs6.trans (hs7.trans (hs8.trans hs9))).no (frw2 i))).trans ((if_neg ((hs7.trans (hs8.trans hs9)).no (frw2 i))).trans ((if_neg (hs9.no (frw2 i))).trans (if_pos (mrw2 i)))))))
  have l_su : lab su = 5 := by rw [hlab]; exact (if_neg ((hs1.trans (hs2.trans (hs3.trans (hs4.trans (hs5.trans (hs6.trans (hs7.trans (hs8.trans (hs9.trans hs10))))))))).no (hsu))).trans ((if_neg ((hs2.trans (hs3.trans (hs4.trans (hs5.trans (hs6.trans (hs7.trans (hs8.trans (hs9.trans hs10)))))))).no (hsu))).trans ((if_neg ((hs3.trans (hs4.trans (hs5.trans (hs6.trans (hs7.trans (hs8.trans (hs9.trans hs10))))))).no (hsu))).trans ((if_neg ((hs6.trans (hs7.trans (hs8.trans (hs9.trans hs10)))).no (hsu))).trans ((if_neg ((hs7.trans (hs8.trans (hs9.trans hs10))).no (hsu))).trans ((if_neg ((hs9.trans hs10).no (hsu))).trans ((if_neg (hsu)).trans (if_pos (suO.1))))))))
  have l_le : ∀ u, u < 5 → lab (le u) = 6 := by rw [hlab]; exact fun u hu => (if_neg ((hs1.trans (hs2.trans (hs3.trans (hs4.trans (hs5.trans (hs6.trans (hs7.trans (hs8.trans (hs9.trans (hs10.trans hs11)))))))))).no ((flw u hu).2.2))).trans ((if_neg ((hs2.trans (hs3.trans (hs4.trans (hs5.trans (hs6.trans (hs7.trans (hs8.trans (hs9.trans (hs10.trans hs11))))))))).no ((flw u hu).2.2))).trans ((if_neg ((hs3.trans (hs4.trans (hs5.trans (hs6.trans (hs7.trans (hs8.trans (hs9.trans (hs10.trans hs11)))))))).no ((flw u hu).2.2))).trans ((if_neg ((hs6.trans (hs7.trans (hs8.trans (hs9.trans (hs10.trans hs11))))).no ((flw u hu).2.2))).trans ((if_neg ((hs7.trans (hs8.trans (hs9.trans (hs10.trans hs11)))).no ((flw u hu).2.2))).trans ((if_neg ((hs9.trans (hs10.trans hs11)).no ((flw u hu).2.2))).trans ((if_neg (hs11.no ((flw u hu).2.2))).trans (if_neg ((flw u hu).2.2))))))))
  have l_g : ∀ i, i < 55 → lab (g i) = 6 := by rw [hlab]; exact fun i hi => (if_neg ((hs1.trans (hs2.trans (hs3.trans (hs4.trans (hs5.trans (hs6.trans (hs7.trans (hs8.trans (hs9.trans (hs10.trans hs11)))))))))).no (fg i hi))).trans ((if_neg ((hs2.trans (hs3.trans (hs4.trans (hs5.trans (hs6.trans (hs7.trans (hs8.trans (hs9.trans (hs10.trans hs11))))))))).no (fg i hi))).trans ((if_neg ((hs3.trans (hs4.trans (hs5.trans (hs6.trans (hs7.trans (hs8.trans (hs9.trans (hs10.trans hs11)))))))).no (fg i hi))).trans ((if_neg ((hs6.trans (hs7.trans (hs8.trans (hs9.trans (hs10.trans hs11))))).no (fg i hi))).trans ((if_neg ((hs7.trans (hs8.trans (hs9.trans (hs10.trans hs11)))).no (fg i hi))).trans ((if_neg ((hs9.trans (hs10.trans hs11)).no (fg i hi))).trans ((if_neg (hs11.no (fg i hi))).trans (if_neg (fg i hi))))))))
  refine ret ⟨lab, t, b, rd, ch, sa, na, su, lo, fl, st, pa, ak, dr, pa2, ak2, rw, rw2, lw, rs, le, g, R12, rfl, ⟨T0, fun b hb h1 => A0 b hb h1⟩, hNp12, ⟨⟨hx_12, ?_⟩, ⟨tO_12, t0, T2.A bA⟩, ⟨rdO_12, rd0⟩, ⟨chO_12, by rw [ch_]; exact Rch0, by rw [ch_]; exact Rch1, T6.A saA, T6.A naA, sana⟩, Y1f, Y2f, U1f, ⟨l_x, l_t, l_b, l_rd, l_ch, l_sa, l_na, l_su⟩, ⟨l_st, l_ak, l_rw⟩, ⟨l_dr, l_ak2, l_rw2⟩, l_le, l_g, Or.inl ⟨rfl, rfl⟩, erw, erw2⟩⟩ dX6_init_78
  rw [kx]; exact ⟨rfl, rfl, rfl, rfl, rfl, rfl⟩
set_option maxHeartbeats 4000000 in
set_option maxRecDepth 100000 in
theorem c_X7_init (l : Launch) {E : zE} {S0 : zS} {I : Nat → Nat → Int32} {J : Nat → Nat → Int64} {R0 : Nat → Nat → Option Nat} {y : Nat} (ha : zO S0 y 7) (hN : zNul S0 (I, J, R0)) : zNS l yX7_init wsX7_init rmC7 E S0 [.ref y] (I, J, R0) (fun S' ν => ∃ (lab : Nat → Nat) (tp td rm ra am ks kn ro ba be : Nat) (R' : Nat → Nat → Option Nat), ν = (I, J, R') ∧ Gw S0 S' y R0 R' ∧ zNul S' (I, J, R') ∧ ML lab S' R' y tp td rm ra am ks kn ro ba be ∧ ∀ b, b ∈ S0.1 → lab b = 109) 10 739 := by
  refine z_metNS (cc := cX7_init) (maxL := 1) (by decide) rfl rfl (Nat.le_of_ble_eq_true rfl) (fun X h hao hin ret => ?_)
  have hy_0 := ha
  refine z_aload_n h dX7_init_0 rfl rfl ?_
  refine z_objInit h kq_7 (by decide) (by decide) (Nat.le_of_ble_eq_true rfl) dX7_init_1 ?_
  refine z_aload_n h dX7_init_4 rfl rfl ?_
  refine z_sipush (v := 400) h dX7_init_5 (by decide) ?_
  refine z_narB h hN (n := 400) (by decide) (by decide) (by decide) (by decide) dX7_init_8 (fun tp S1 htp hs1 tpA hN1 => ?_)
  have hy_1 := hs1.O hy_0
  refine z_putRF h hin hy_1 rfl kw7 1 (by decide) rfl rfl rfl rfl rfl kf_RX7_9 dX7_init_10 ?_
  have hNp1 := zNul_puR (k := 1) (v := some tp) hN1 hy_1.1
  generalize e1 : zu R0 y 1 (some tp) = R1 at hNp1 ⊢
  have q1 : R1 y = fun j => if j = 1 then some tp else R0 y j := by rw [← e1]; exact zu_row
  refine z_aload_n h dX7_init_13 rfl rfl ?_
  refine z_bipush (v := 70) h dX7_init_14 (by decide) ?_
  refine z_narI h hNp1 (n := 70) (by decide) (by decide) (by decide) (by decide) dX7_init_16 (fun td S2 htd hs2 tdA hN2 => ?_)
  have hy_2 := hs2.O hy_1
  have tpA_2 := hs2.A tpA
  refine z_putRF h hin hy_2 rfl kw7 3 (by decide) rfl rfl rfl rfl rfl kf_RX7_13 dX7_init_18 ?_
  have hNp2 := zNul_puR (k := 3) (v := some td) hN2 hy_2.1
  generalize e2 : zu R1 y 3 (some td) = R2 at hNp2 ⊢
  have q2 : R2 y = fun j => if j = 3 then some td else R1 y j := by rw [← e2]; exact zu_row
  refine z_aload_n h dX7_init_21 rfl rfl ?_
  refine z_bipush (v := 70) h dX7_init_22 (by decide) ?_
  refine z_narI h hNp2 (n := 70) (by decide) (by decide) (by decide) (by decide) dX7_init_24 (fun rm S3 hrm hs3 rmA hN3 => ?_)
  have hy_3 := hs3.O hy_2
  have tpA_3 := hs3.A tpA_2
  have tdA_3 := hs3.A tdA
  refine z_putRF h hin hy_3 rfl kw7 4 (by decide) rfl rfl rfl rfl rfl kf_RX7_17 dX7_init_26 ?_
  have hNp3 := zNul_puR (k := 4) (v := some rm) hN3 hy_3.1
  generalize e3 : zu R2 y 4 (some rm) = R3 at hNp3 ⊢
  have q3 : R3 y = fun j => if j = 4 then some rm else R2 y j := by rw [← e3]; exact zu_row
  refine z_aload_n h dX7_init_29 rfl rfl ?_
  refine z_iconst (v := 5) h dX7_init_30 (by decide) ?_
  refine z_narI h hNp3 (n := 5) (by decide) (by decide) (by decide) (by decide) dX7_init_31 (fun am S4 ham hs4 amA hN4 => ?_)
  have hy_4 := hs4.O hy_3
  have tpA_4 := hs4.A tpA_3
  have tdA_4 := hs4.A tdA_3
  have rmA_4 := hs4.A rmA
  refine z_putRF h hin hy_4 rfl kw7 5 (by decide) rfl rfl rfl rfl rfl kf_RX7_20 dX7_init_33 ?_
  have hNp4 := zNul_puR (k := 5) (v := some am) hN4 hy_4.1
  generalize e4 : zu R3 y 5 (some am) = R4 at hNp4 ⊢
  have q4 : R4 y = fun j => if j = 5 then some am else R3 y j := by rw [← e4]; exact zu_row
  refine z_aload_n h dX7_init_36 rfl rfl ?_
  refine z_iconst (v := 5) h dX7_init_37 (by decide) ?_
  refine z_narI h hNp4 (n := 5) (by decide) (by decide) (by decide) (by decide) dX7_init_38 (fun ra S5 hra hs5 raA hN5 => ?_)
  have hy_5 := hs5.O hy_4
  have tpA_5 := hs5.A tpA_4
  have tdA_5 := hs5.A tdA_4
  have rmA_5 := hs5.A rmA_4
  have amA_5 := hs5.A amA
  refine z_putRF h hin hy_5 rfl kw7 6 (by decide) rfl rfl rfl rfl rfl kf_RX7_23 dX7_init_40 ?_
  have hNp5 := zNul_puR (k := 6) (v := some ra) hN5 hy_5.1
  generalize e5 : zu R4 y 6 (some ra) = R5 at hNp5 ⊢
  have q5 : R5 y = fun j => if j = 6 then some ra else R4 y j := by rw [← e5]; exact zu_row
  refine z_aload_n h dX7_init_43 rfl rfl ?_
  refine z_bipush (v := 50) h dX7_init_44 (by decide) ?_
  refine z_narI h hNp5 (n := 50) (by decide) (by decide) (by decide) (by decide) dX7_init_46 (fun ks S6 hks hs6 ksA hN6 => ?_)
  have hy_6 := hs6.O hy_5
  have tpA_6 := hs6.A tpA_5
  have tdA_6 := hs6.A tdA_5
  have rmA_6 := hs6.A rmA_5
  have amA_6 := hs6.A amA_5
  have raA_6 := hs6.A raA
  refine z_putRF h hin hy_6 rfl kw7 10 (by decide) rfl rfl rfl rfl rfl kf_RX7_26 dX7_init_48 ?_
  have hNp6 := zNul_puR (k := 10) (v := some ks) hN6 hy_6.1
  generalize e6 : zu R5 y 10 (some ks) = R6 at hNp6 ⊢
  have q6 : R6 y = fun j => if j = 10 then some ks else R5 y j := by rw [← e6]; exact zu_row
  refine z_aload_n h dX7_init_51 rfl rfl ?_
  refine z_bipush (v := 50) h dX7_init_52 (by decide) ?_
  refine z_narI h hNp6 (n := 50) (by decide) (by decide) (by decide) (by decide) dX7_init_54 (fun kn S7 hkn hs7 knA hN7 => ?_)
  have hy_7 := hs7.O hy_6
  have tpA_7 := hs7.A tpA_6
  have tdA_7 := hs7.A tdA_6
  have rmA_7 := hs7.A rmA_6
  have amA_7 := hs7.A amA_6
  have raA_7 := hs7.A raA_6
  have ksA_7 := hs7.A ksA
  refine z_putRF h hin hy_7 rfl kw7 11 (by decide) rfl rfl rfl rfl rfl kf_RX7_29 dX7_init_56 ?_
  have hNp7 := zNul_puR (k := 11) (v := some kn) hN7 hy_7.1
  generalize e7 : zu R6 y 11 (some kn) = R7 at hNp7 ⊢
  have q7 : R7 y = fun j => if j = 11 then some kn else R6 y j := by rw [← e7]; exact zu_row
  refine z_aload_n h dX7_init_59 rfl rfl ?_
  refine z_bipush (v := 72) h dX7_init_60 (by decide) ?_
  refine z_narJ h hNp7 (n := 72) (by decide) (by decide) (by decide) (by decide) dX7_init_62 (fun ba S8 hba hs8 baA hN8 => ?_)
  have hy_8 := hs8.O hy_7
  have tpA_8 := hs8.A tpA_7
  have tdA_8 := hs8.A tdA_7
  have rmA_8 := hs8.A rmA_7
  have amA_8 := hs8.A amA_7
  have raA_8 := hs8.A raA_7
  have ksA_8 := hs8.A ksA_7
  have knA_8 := hs8.A knA
  refine z_putRF h hin hy_8 rfl kw7 21 (by decide) rfl rfl rfl rfl rfl kf_RX7_32 dX7_init_64 ?_
  have hNp8 := zNul_puR (k := 21) (v := some ba) hN8 hy_8.1
  generalize e8 : zu R7 y 21 (some ba) = R8 at hNp8 ⊢
  have q8 : R8 y = fun j => if j = 21 then some ba else R7 y j := by rw [← e8]; exact zu_row
  refine z_aload_n h dX7_init_67 rfl rfl ?_
  refine z_bipush (v := 9) h dX7_init_68 (by decide) ?_
  refine z_narJ h hNp8 (n := 9) (by decide) (by decide) (by decide) (by decide) dX7_init_70 (fun ro S9 hro hs9 roA hN9 => ?_)
  have hy_9 := hs9.O hy_8
  have tpA_9 := hs9.A tpA_8
  have tdA_9 := hs9.A tdA_8
  have rmA_9 := hs9.A rmA_8
  have amA_9 := hs9.A amA_8
  have raA_9 := hs9.A raA_8
  have ksA_9 := hs9.A ksA_8
  have knA_9 := hs9.A knA_8
  have baA_9 := hs9.A baA
  refine z_putRF h hin hy_9 rfl kw7 22 (by decide) rfl rfl rfl rfl rfl kf_RX7_36 dX7_init_72 ?_
  have hNp9 := zNul_puR (k := 22) (v := some ro) hN9 hy_9.1
  generalize e9 : zu R8 y 22 (some ro) = R9 at hNp9 ⊢
  have q9 : R9 y = fun j => if j = 22 then some ro else R8 y j := by rw [← e9]; exact zu_row
  refine z_aload_n h dX7_init_75 rfl rfl ?_
  refine z_bipush (v := 8) h dX7_init_76 (by decide) ?_
  refine z_narI h hNp9 (n := 8) (by decide) (by decide) (by decide) (by decide) dX7_init_78 (fun be S10 hbe hs10 beA hN10 => ?_)
  have hy_10 := hs10.O hy_9
  have tpA_10 := hs10.A tpA_9
  have tdA_10 := hs10.A tdA_9
  have rmA_10 := hs10.A rmA_9
  have amA_10 := hs10.A amA_9
  have raA_10 := hs10.A raA_9
  have ksA_10 := hs10.A ksA_9
  have knA_10 := hs10.A knA_9
  have baA_10 := hs10.A baA_9
  have roA_10 := hs10.A roA
  refine z_putRF h hin hy_10 rfl kw7 23 (by decide) rfl rfl rfl rfl rfl kf_RX7_39 dX7_init_80 ?_
  have hNp10 := zNul_puR (k := 23) (v := some be) hN10 hy_10.1
  generalize e10 : zu R9 y 23 (some be) = R10 at hNp10 ⊢
  have q10 : R10 y = fun j => if j = 23 then some be else R9 y j := by rw [← e10]; exact zu_row
  have T10 : zSub S10 S10 := zSub.refl
  have T9 := hs10.trans T10
  have T8 := hs9.trans T9
  have T7 := hs8.trans T8
  have T6 := hs7.trans T7
  have T5 := hs6.trans T6
  have T4 := hs5.trans T5
  have T3 := hs4.trans T4
  have T2 := hs3.trans T3
  have T1 := hs2.trans T2
  have T0 := hs1.trans T1
  have ky : R10 y = fun j => if j = 23 then some be else if j = 22 then some ro else if j = 21 then some ba else if j = 11 then some kn else if j = 10 then some ks else if j = 6 then some ra else if j = 5 then some am else if j = 4 then some rm else if j = 3 then some td else if j = 1 then some tp else R0 y j := by
    rw [q10, q9, q8, q7, q6, q5, q4, q3, q2, q1]
  have hA : ∀ b, b ≠ y → R10 b = R0 b := fun b hb => by
    rw [← e10, zu_o hb, ← e9, zu_o hb, ← e8, zu_o hb, ← e7, zu_o hb, ← e6, zu_o hb, ← e5, zu_o hb, ← e4, zu_o hb, ← e3, zu_o hb, ← e2, zu_o hb, ← e1, zu_o hb]
  have lab0 : ∃ lab : Nat → Nat, lab = fun b' => if b' ∈ S0.1 then 109 else if b' ∈ S1.1 then 100 else if b' ∈ S2.1 then 101 else if b' ∈ S3.1 then 102 else if b' ∈ S4.1 then 103 else if b' ∈ S5.1 then 104 else if b' ∈ S6.1 then 105 else if b' ∈ S7.1 then 106 else if b' ∈ S8.1 then 108 else if b' ∈ S9.1 then 108 else 107 := ⟨_, rfl⟩
  obtain ⟨lab, hlab⟩ := lab0
  have l_y : lab y = 109 := by rw [hlab]; exact if_pos ha.1
  have l_tp : lab tp = 100 := by rw [hlab]; exact (if_neg (htp)).trans (if_pos (tpA.1))
  have l_td : lab td = 101 := by rw [hlab]; exact (if_neg (hs1.no (htd))).trans ((if_neg (htd)).trans (if_pos (tdA.1)))
  have l_rm : lab rm = 102 := by rw [hlab]; exact (if_neg ((hs1.trans hs2).no (hrm))).trans ((if_neg (hs2.no (hrm))).trans ((if_neg (hrm)).trans (if_pos (rmA.1))))
  have l_am : lab am = 103 := by rw [hlab]; exact (if_neg ((hs1.trans (hs2.trans hs3)).no (ham))).trans ((if_neg ((hs2.trans hs3).no (ham))).trans ((if_neg (hs3.no (ham))).trans ((if_neg (ham)).trans (if_pos (amA.1)))))
  have l_ra : lab ra = 104 := by rw [hlab]; exact (if_neg ((hs1.trans (hs2.trans (hs3.trans hs4))).no (hra))).trans ((if_neg ((hs2.trans (hs3.trans hs4)).no (hra))).trans ((if_neg ((hs3.trans hs4).no (hra))).trans ((if_neg (hs4.no (hra))).trans ((if_neg (hra)).trans (if_pos (raA.1))))))
  have l_ks : lab ks = 105 := by rw [hlab]; exact (if_neg ((hs1.trans (hs2.trans (hs3.trans (hs4.trans hs5)))).no (hks))).trans ((if_neg ((hs2.trans (hs3.trans (hs4.trans hs5))).no (hks))).trans ((if_neg ((hs3.trans (hs4.trans hs5)).no (hks))).trans ((if_neg ((hs4.trans hs5).no (hks))).trans ((if_neg (hs5.no (hks))).trans ((if_neg (hks)).trans (if_pos (ksA.1)))))))
  have l_kn : lab kn = 106 := by rw [hlab]; exact (if_neg ((hs1.trans (hs2.trans (hs3.trans (hs4.trans (hs5.trans hs6))))).no (hkn))).trans ((if_neg ((hs2.trans (hs3.trans (hs4.trans (hs5.trans hs6)))).no (hkn))).trans ((if_neg ((hs3.trans (hs4.trans (hs5.trans hs6))).no (hkn))).trans ((if_neg ((hs4.trans (hs5.trans hs6)).no (hkn))).trans ((if_neg ((hs5.trans hs6).no (hkn))).trans ((if_neg (hs6.no (hkn))).trans ((if_neg (hkn)).trans (if_pos (knA.1))))))))
  have l_ba : lab ba = 108 := by rw [hlab]; exact (if_neg ((hs1.trans (hs2.trans (hs3.trans (hs4.trans (hs5.trans (hs6.trans hs7)))))).no (hba))).trans ((if_neg ((hs2.trans (hs3.trans (hs4.trans (hs5.trans (hs6.trans hs7))))).no (hba))).trans ((if_neg ((hs3.trans (hs4.trans (hs5.trans (hs6.trans hs7)))).no (hba))).trans ((if_neg ((hs4.trans (hs5.trans (hs6.trans hs7))).no (hba))).trans ((if_neg ((hs5.trans (hs6.trans hs7)).no (hba))).trans ((if_neg ((hs6.trans hs7).no (hba))).trans ((if_neg (hs7.no (hba))).trans ((if_neg (hba)).trans (if_pos (baA.1)))))))))
  have l_ro : lab ro = 108 := by rw [hlab]; exact (if_neg ((hs1.trans (hs2.trans (hs3.trans (hs4.trans (hs5.trans (hs6.trans (hs7.trans hs8))))))).no (hro))).trans ((if_neg ((hs2.trans (hs3.trans (hs4.trans (hs5.trans (hs6.trans (hs7.trans hs8)))))).no (hro))).trans ((if_neg ((hs3.trans (hs4.trans (hs5.trans (hs6.trans (hs7.trans hs8))))).no (hro))).trans ((if_neg ((hs4.trans (hs5.trans (hs6.trans (hs7.trans hs8)))).no (hro))).trans ((if_neg ((hs5.trans (hs6.trans (hs7.trans hs8))).no (hro))).trans ((if_neg ((hs6.trans (hs7.trans hs8)).no (hro))).trans ((if_neg ((hs7.trans hs8).no (hro))).trans ((if_neg (hs8.no (hro))).trans ((if_neg (hro)).trans (if_pos (roA.1))))))))))
  have l_be : lab be = 107 := by rw [hlab]; exact (if_neg ((hs1.trans (hs2.trans (hs3.trans (hs4.trans (hs5.trans (hs6.trans (hs7.trans (hs8.trans hs9)))))))).no (hbe))).trans ((if_neg ((hs2.trans (hs3.trans (hs4.trans (hs5.trans (hs6.trans (hs7.trans (hs8.trans hs9))))))).no (hbe))).trans ((if_neg ((hs3.trans (hs4.trans (hs5.trans (hs6.trans (hs7.trans (hs8.trans hs9)))))).no (hbe))).trans ((if_neg ((hs4.trans (hs5.trans (hs6.trans (hs7.trans (hs8.trans hs9))))).no (hbe))).trans ((if_neg ((hs5.trans (hs6.trans (hs7.trans (hs8.trans hs9)))).no (hbe))).trans ((if_neg ((hs6.trans (hs7.trans (hs8.trans hs9))).no (hbe))).trans ((if_neg ((hs7.trans (hs8.trans hs9)).no (hbe))).trans ((if_neg ((hs8.trans hs9).no (hbe))).trans ((if_neg (hs9.no (hbe))).trans (if_neg (hbe))))))))))
  refine ret ⟨lab, tp, td, rm, ra, am, ks, kn, ro, ba, be, R10, rfl, ⟨T0, fun b _ h1 => hA b h1⟩, hNp10, ⟨hy_10, ⟨by rw [ky]; rfl, tpA_10⟩, ⟨by rw [ky]; rfl, tdA_10⟩, ⟨by rw [ky]; rfl, rmA_10⟩, ⟨by rw [ky]; rfl, amA_10⟩, ⟨by rw [ky]; rfl, raA_10⟩, ⟨by rw [ky]; rfl, ksA_10⟩, ⟨by rw [ky]; rfl, knA_10⟩, ⟨by rw [ky]; rfl, baA_10⟩, ⟨by rw [ky]; rfl, roA_10⟩, ⟨by rw [ky]; rfl, beA⟩, (ne_in baA.1 hro).symm, l_y, l_tp, l_td, l_rm, l_am, l_ra, l_ks, l_kn, l_ba, l_ro, l_be⟩, (fun nm w => ?_)⟩ dX7_init_83
  rw [hlab]; exact if_pos w
