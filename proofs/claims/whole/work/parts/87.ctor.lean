/-! CONSTRUCTORS of the small classes -/
theorem zu0 {f : Nat → Nat → Int32} {a k : Nat} (h : f a k = 0) : zu f a k 0 = f := by
  rw [show (0 : Int32) = f a k from h.symm]; exact zu_self
theorem zu0J {f : Nat → Nat → Int64} {a k : Nat} (h : f a k = 0) : zu f a k 0 = f := by
  rw [show (0 : Int64) = f a k from h.symm]; exact zu_self
theorem zNul_puR {S : zS} {I : Nat → Nat → Int32} {J : Nat → Nat → Int64} {R : Nat → Nat → Option Nat} {a k : Nat} {v : Option Nat} (h : zNul S (I, J, R)) (ha : a ∈ S.1) : zNul S (I, J, zu R a k v) := fun b hb => ⟨(h b hb).1, (h b hb).2.1, (zu_o (fun q : b = a => hb (q ▸ ha))).trans (h b hb).2.2⟩
theorem zNul_puI {S : zS} {I : Nat → Nat → Int32} {J : Nat → Nat → Int64} {R : Nat → Nat → Option Nat} {a k : Nat} {v : Int32} (h : zNul S (I, J, R)) (ha : a ∈ S.1) : zNul S (zu I a k v, J, R) := fun b hb => ⟨(zu_o (fun q : b = a => hb (q ▸ ha))).trans (h b hb).1, (h b hb).2.1, (h b hb).2.2⟩
theorem ne_in {L : List Nat} {a b : Nat} (ha : a ∈ L) (hb : b ∉ L) : a ≠ b := fun q => hb (q ▸ ha)
/-- what a constructor of the object a keeps: shapes and references elsewhere -/
def Gw (S S' : zS) (a : Nat) (R R' : Nat → Nat → Option Nat) : Prop := zSub S S' ∧ ∀ b, b ∈ S.1 → b ≠ a → R' b = R b
abbrev rmCt : Room := { frames := 1, cells := 1, slots := 400, locals := 20 }
abbrev rmCr : Room := { frames := 1, cells := 0, slots := 0, locals := 20 }
abbrev rmCc : Room := { frames := 1, cells := 2, slots := 100, locals := 20 }
abbrev rmCs : Room := { frames := 1, cells := 12, slots := 85, locals := 20 }
abbrev rmCl : Room := { frames := 1, cells := 10, slots := 96, locals := 20 }

set_option maxHeartbeats 4000000 in
set_option maxRecDepth 100000 in
theorem c_X5_init (l : Launch) {E : zE} {S0 : zS} {I : Nat → Nat → Int32} {J : Nat → Nat → Int64} {R0 : Nat → Nat → Option Nat} {a : Nat} (ha : zO S0 a 5) (hN : zNul S0 (I, J, R0)) (h0 : I a = fun _ => 0) : zNS l yX5_init wsX5_init rmCt E S0 [.ref a] (I, J, R0) (fun S' ν => ∃ w R', ν = (I, J, R') ∧ Gw S0 S' a R0 R' ∧ zNul S' (I, J, R') ∧ w ∉ S0.1 ∧ R' a 0 = some w ∧ zA S' w 9 400) 1 400 := by
  refine z_metNS (cc := cX5_init) (maxL := 1) (by decide) rfl rfl (Nat.le_of_ble_eq_true rfl) (fun X h hao hin ret => ?_)
  refine z_aload_n h dX5_init_0 rfl rfl ?_
  refine z_objInit h kq_5 (by decide) (by decide) (Nat.le_of_ble_eq_true rfl) dX5_init_1 ?_
  refine z_aload_n h dX5_init_4 rfl rfl ?_
  refine z_sipush (v := 400) h dX5_init_5 (by decide) ?_
  refine z_narI h hN (n := 400) (by decide) (by decide) (by decide) (by decide) dX5_init_8 (fun w S1 hw hs1 wA hN1 => ?_)
  have ha_1 := hs1.O ha
  refine z_putRF h hin ha_1 rfl kw5 0 (by decide) rfl rfl rfl rfl rfl kf_RX5_9 dX5_init_10 ?_
  have hNp1 := zNul_puR (k := 0) (v := some w) hN1 ha_1.1
  generalize e1 : zu R0 a 0 (some w) = R1 at hNp1 ⊢
  refine z_aload_n h dX5_init_13 rfl rfl ?_
  refine z_iconst (v := 0) h dX5_init_14 (by decide) ?_
  refine z_putI h ha_1 rfl kw5 1 (by decide) rfl rfl rfl rfl kf_RX5_15 dX5_init_15 ?_
  rw [zu0 (congrFun h0 1)]
  refine z_aload_n h dX5_init_18 rfl rfl ?_
  refine z_iconst (v := 0) h dX5_init_19 (by decide) ?_
  refine z_putI h ha_1 rfl kw5 2 (by decide) rfl rfl rfl rfl kf_RX5_19 dX5_init_20 ?_
  rw [zu0 (congrFun h0 2)]
  refine z_aload_n h dX5_init_23 rfl rfl ?_
  refine z_iconst (v := 0) h dX5_init_24 (by decide) ?_
  refine z_putI h ha_1 rfl kw5 3 (by decide) rfl rfl rfl rfl kf_RX5_22 dX5_init_25 ?_
  rw [zu0 (congrFun h0 3)]
  refine ret ⟨w, R1, rfl, ⟨hs1, fun b _ hba => by rw [← e1]; exact zu_o hba⟩, hNp1, hw, ?_, wA⟩ dX5_init_28
  rw [← e1]; exact zu_s
set_option maxHeartbeats 4000000 in
set_option maxRecDepth 100000 in
theorem c_X2_init (l : Launch) {E : zE} {S0 : zS} {I : Nat → Nat → Int32} {J : Nat → Nat → Int64} {R0 : Nat → Nat → Option Nat} {a t : Nat} (ha : zO S0 a 2) (hN : zNul S0 (I, J, R0)) : zNS l yX2_init wsX2_init rmCr E S0 [.ref a, .ref t] (I, J, R0) (fun S' ν => ∃ R', ν = (I, J, R') ∧ Gw S0 S' a R0 R' ∧ zNul S' (I, J, R') ∧ R' a 0 = some t) 0 0 := by
  refine z_metNS (cc := cX2_init) (maxL := 2) (by decide) rfl rfl (Nat.le_of_ble_eq_true rfl) (fun X h hao hin ret => ?_)
  refine z_aload_n h dX2_init_0 rfl rfl ?_
  refine z_objInit h kq_2 (by decide) (by decide) (Nat.le_of_ble_eq_true rfl) dX2_init_1 ?_
  refine z_aload_n h dX2_init_4 rfl rfl ?_
  refine z_aload_n h dX2_init_5 rfl rfl ?_
  refine z_putRF h hin ha rfl kw2 0 (by decide) rfl rfl rfl rfl rfl kf_RX2_9 dX2_init_6 ?_
  have hNp1 := zNul_puR (k := 0) (v := some t) hN ha.1
  generalize e1 : zu R0 a 0 (some t) = R1 at hNp1 ⊢
  refine ret ⟨R1, rfl, ⟨zSub.refl, fun b _ hba => by rw [← e1]; exact zu_o hba⟩, hNp1, ?_⟩ dX2_init_9
  rw [← e1]; exact zu_s
set_option maxHeartbeats 4000000 in
set_option maxRecDepth 100000 in
theorem c_X0_init (l : Launch) {E : zE} {S0 : zS} {I : Nat → Nat → Int32} {J : Nat → Nat → Int64} {R0 : Nat → Nat → Option Nat} {a : Nat} (ha : zO S0 a 0) (hN : zNul S0 (I, J, R0)) (h0 : I a = fun _ => 0) : zNS l yX0_init wsX0_init rmCc E S0 [.ref a] (I, J, R0) (fun S' ν => ∃ sa na R', ν = (I, J, R') ∧ Gw S0 S' a R0 R' ∧ zNul S' (I, J, R') ∧ sa ∉ S0.1 ∧ na ∉ S0.1 ∧ R' a 0 = some sa ∧ R' a 1 = some na ∧ zA S' sa 9 50 ∧ zA S' na 9 50 ∧ sa ≠ na) 2 100 := by
  refine z_metNS (cc := cX0_init) (maxL := 1) (by decide) rfl rfl (Nat.le_of_ble_eq_true rfl) (fun X h hao hin ret => ?_)
  refine z_aload_n h dX0_init_0 rfl rfl ?_
  refine z_objInit h kq_0 (by decide) (by decide) (Nat.le_of_ble_eq_true rfl) dX0_init_1 ?_
  refine z_aload_n h dX0_init_4 rfl rfl ?_
  refine z_bipush (v := 50) h dX0_init_5 (by decide) ?_
  refine z_narI h hN (n := 50) (by decide) (by decide) (by decide) (by decide) dX0_init_7 (fun sa S1 hsa hs1 saA hN1 => ?_)
  have ha_1 := hs1.O ha
  refine z_putRF h hin ha_1 rfl kw0 0 (by decide) rfl rfl rfl rfl rfl kf_RX0_9 dX0_init_9 ?_
  have hNp1 := zNul_puR (k := 0) (v := some sa) hN1 ha_1.1
  generalize e1 : zu R0 a 0 (some sa) = R1 at hNp1 ⊢
  refine z_aload_n h dX0_init_12 rfl rfl ?_
  refine z_bipush (v := 50) h dX0_init_13 (by decide) ?_
  refine z_narI h hNp1 (n := 50) (by decide) (by decide) (by decide) (by decide) dX0_init_15 (fun na S2 hna hs2 naA hN2 => ?_)
  have ha_2 := hs2.O ha_1
  have saA_2 := hs2.A saA
  refine z_putRF h hin ha_2 rfl kw0 1 (by decide) rfl rfl rfl rfl rfl kf_RX0_15 dX0_init_17 ?_
  have hNp2 := zNul_puR (k := 1) (v := some na) hN2 ha_2.1
  generalize e2 : zu R1 a 1 (some na) = R2 at hNp2 ⊢
  refine z_aload_n h dX0_init_20 rfl rfl ?_
  refine z_iconst (v := 0) h dX0_init_21 (by decide) ?_
  refine z_putI h ha_2 rfl kw0 2 (by decide) rfl rfl rfl rfl kf_RX0_18 dX0_init_22 ?_
  rw [zu0 (congrFun h0 2)]
  refine ret ⟨sa, na, R2, rfl, ⟨hs1.trans hs2, fun b _ hba => by rw [← e2, ← e1]; exact (zu_o hba).trans (zu_o hba)⟩, hNp2, hsa, hs1.no hna, ?_, ?_, saA_2, naA, ne_in saA.1 hna⟩ dX0_init_25
  · rw [← e2, ← e1, zu_k (by decide)]; exact zu_s
  · rw [← e2]; exact zu_s
set_option maxHeartbeats 4000000 in
set_option maxRecDepth 100000 in
theorem c_X3_init (l : Launch) {E : zE} {S0 : zS} {I : Nat → Nat → Int32} {J : Nat → Nat → Int64} {R0 : Nat → Nat → Option Nat} {a : Nat} (ha : zO S0 a 3) (hN : zNul S0 (I, J, R0)) (h0 : I a = fun _ => 0) : zNS l yX3_init wsX3_init rmCs E S0 [.ref a] (I, J, R0) (fun S' ν => ∃ (pa ak : Nat) (rw : Nat → Nat) (R' : Nat → Nat → Option Nat), ν = (I, J, R') ∧ Gw S0 S' a R0 R' ∧ zNul S' (I, J, R') ∧ SY S' R' a pa ak rw ∧ pa ∉ S0.1 ∧ ak ∉ S0.1 ∧ (∀ i, rw i ∉ S0.1) ∧ ∀ i, 10 ≤ i → rw i = rw 0) 12 85 := by
  refine z_metNS (cc := cX3_init) (maxL := 1) (by decide) rfl rfl (Nat.le_of_ble_eq_true rfl) (fun X h hao hin ret => ?_)
  refine z_aload_n h dX3_init_0 rfl rfl ?_
  refine z_objInit h kq_3 (by decide) (by decide) (Nat.le_of_ble_eq_true rfl) dX3_init_1 ?_
  refine z_aload_n h dX3_init_4 rfl rfl ?_
  refine z_bipush (v := 10) h dX3_init_5 (by decide) ?_
  refine z_bipush (v := 7) h dX3_init_7 (by decide) ?_
  refine z_mnaI h hao hN (n := 10) (m := 7) (by decide) (by decide) (by decide) (by decide) kk_RX3_9 (by decide) (by decide) dX3_init_9 (fun pa r S1 hpa hr ri hs1 paA rA hN1 => ?_)
  generalize e1 : zr R0 pa (fun i => if i < 10 then some (r i) else none) = R1 at hN1 ⊢
  have ha_1 := hs1.O ha
  refine z_putRF h hin ha_1 rfl kw3 0 (by decide) rfl rfl rfl rfl rfl kf_RX3_11 dX3_init_13 ?_
  have hNp2 := zNul_puR (k := 0) (v := some pa) hN1 ha_1.1
  generalize e2 : zu R1 a 0 (some pa) = R2 at hNp2 ⊢
  refine z_aload_n h dX3_init_16 rfl rfl ?_
  refine z_iconst (v := 5) h dX3_init_17 (by decide) ?_
  refine z_narI h hNp2 (n := 5) (by decide) (by decide) (by decide) (by decide) dX3_init_18 (fun ak S2 hak hs2 akA hN2 => ?_)
  have ha_2 := hs2.O ha_1
  have paA_2 := hs2.A paA
  refine z_putRF h hin ha_2 rfl kw3 1 (by decide) rfl rfl rfl rfl rfl kf_RX3_16 dX3_init_20 ?_
  have hNp3 := zNul_puR (k := 1) (v := some ak) hN2 ha_2.1
  generalize e3 : zu R2 a 1 (some ak) = R3 at hNp3 ⊢
  refine z_aload_n h dX3_init_23 rfl rfl ?_
  refine z_iconst (v := 0) h dX3_init_24 (by decide) ?_
  refine z_putI h ha_2 rfl kw3 2 (by decide) rfl rfl rfl rfl kf_RX3_20 dX3_init_25 ?_
  rw [zu0 (congrFun h0 2)]
  refine z_aload_n h dX3_init_28 rfl rfl ?_
  refine z_iconst (v := 0) h dX3_init_29 (by decide) ?_
  refine z_putI h ha_2 rfl kw3 3 (by decide) rfl rfl rfl rfl kf_RX3_24 dX3_init_30 ?_
  rw [zu0 (congrFun h0 3)]
  refine z_aload_n h dX3_init_33 rfl rfl ?_
  refine z_iconst (v := 0) h dX3_init_34 (by decide) ?_
  refine z_putI h ha_2 rfl kw3 4 (by decide) rfl rfl rfl rfl kf_RX3_27 dX3_init_35 ?_
  rw [zu0 (congrFun h0 4)]
  refine z_aload_n h dX3_init_38 rfl rfl ?_
  refine z_iconst (v := 0) h dX3_init_39 (by decide) ?_
  refine z_putI h ha_2 rfl kw3 5 (by decide) rfl rfl rfl rfl kf_RX3_30 dX3_init_40 ?_
  rw [zu0 (congrFun h0 5)]
  have hpaa : pa ≠ a := fun q => absurd (paA.2.1.symm.trans (q ▸ ha_1.2)) (by decide)
  have eR : ∀ b, b ≠ a → R3 b = R1 b := fun b hb => by rw [← e3, ← e2]; exact (zu_o hb).trans (zu_o hb)
  have hrr : ∀ i, (if i < 10 then r i else r 0) = r (if i < 10 then i else 0) := fun i => by split <;> rfl
  have hr9 : ∀ i, (if i < 10 then i else 0) < 10 := fun i => by split <;> omega
  refine ret ⟨pa, ak, fun i => if i < 10 then r i else r 0, R3, rfl, ⟨hs1.trans hs2, fun b hb hba => by rw [eR b hba, ← e1]; exact zr_a (ne_in hb hpa)⟩, hNp3, ⟨ha_2, ?_, ?_, paA_2, akA, fun i hi => ?_, fun i j hi hj w => ?_, fun i hi w => ?_⟩, hpa, hs1.no hak, fun i => ?_, fun i hi => ?_⟩ dX3_init_43
  · rw [← e3, ← e2, zu_k (by decide)]; exact zu_s
  · rw [← e3]; exact zu_s
  · refine ⟨?_, ?_⟩
    · rw [eR pa hpaa, ← e1, zr_sk, if_pos hi]; show some (r i) = some (if i < 10 then r i else r 0); rw [if_pos hi]
    · show zA S2 (if i < 10 then r i else r 0) 9 7; rw [if_pos hi]; exact hs2.A (rA i hi)
  · have w : (if i < 10 then r i else r 0) = (if j < 10 then r j else r 0) := w
    rw [if_pos hi, if_pos hj] at w; exact ri i j hi hj w
  · have w : (if i < 10 then r i else r 0) = ak := w
    rw [if_pos hi] at w; exact ne_in (rA i hi).1 hak w
  · show (if i < 10 then r i else r 0) ∉ S0.1; rw [hrr i]; exact hr _ (hr9 i)
  · show (if i < 10 then r i else r 0) = (if 0 < 10 then r 0 else r 0); rw [if_neg (show ¬ i < 10 by omega)]; rfl
set_option maxHeartbeats 4000000 in
set_option maxRecDepth 100000 in
theorem c_X1_init (l : Launch) {E : zE} {S0 : zS} {I : Nat → Nat → Int32} {J : Nat → Nat → Int64} {R0 : Nat → Nat → Option Nat} {a : Nat} (ha : zO S0 a 1) (hN : zNul S0 (I, J, R0)) : zNS l yX1_init wsX1_init rmCl E S0 [.ref a] (I, J, R0) (fun S' ν => ∃ (rs le : Nat) (ro : Nat → Nat) (R' : Nat → Nat → Option Nat), ν = (I, J, R') ∧ Gw S0 S' a R0 R' ∧ zNul S' (I, J, R') ∧ LA S' R' a rs le ro ∧ rs ∉ S0.1 ∧ le ∉ S0.1 ∧ ∀ i, i < 8 → ro i ∉ S0.1) 10 96 := by
  refine z_metNS (cc := cX1_init) (maxL := 1) (by decide) rfl rfl (Nat.le_of_ble_eq_true rfl) (fun X h hao hin ret => ?_)
  refine z_aload_n h dX1_init_0 rfl rfl ?_
  refine z_objInit h kq_1 (by decide) (by decide) (Nat.le_of_ble_eq_true rfl) dX1_init_1 ?_
  refine z_aload_n h dX1_init_4 rfl rfl ?_
  refine z_bipush (v := 8) h dX1_init_5 (by decide) ?_
  refine z_bipush (v := 10) h dX1_init_7 (by decide) ?_
  refine z_mnaJ h hao hN (n := 8) (m := 10) (by decide) (by decide) (by decide) (by decide) kk_RX1_9 (by decide) (by decide) dX1_init_9 (fun rs ro S1 hrs hro roi hs1 rsA roA hN1 => ?_)
  generalize e1 : zr R0 rs (fun i => if i < 8 then some (ro i) else none) = R1 at hN1 ⊢
  have ha_1 := hs1.O ha
  refine z_putRF h hin ha_1 rfl kw1 0 (by decide) rfl rfl rfl rfl rfl kf_RX1_11 dX1_init_13 ?_
  have hNp2 := zNul_puR (k := 0) (v := some rs) hN1 ha_1.1
  generalize e2 : zu R1 a 0 (some rs) = R2 at hNp2 ⊢
  refine z_aload_n h dX1_init_16 rfl rfl ?_
  refine z_bipush (v := 8) h dX1_init_17 (by decide) ?_
  refine z_narZ h hNp2 (n := 8) (by decide) (by decide) (by decide) (by decide) dX1_init_19 (fun le S2 hle hs2 leA hN2 => ?_)
  have ha_2 := hs2.O ha_1
  have rsA_2 := hs2.A rsA
  refine z_putRF h hin ha_2 rfl kw1 1 (by decide) rfl rfl rfl rfl rfl kf_RX1_16 dX1_init_21 ?_
  have hNp3 := zNul_puR (k := 1) (v := some le) hN2 ha_2.1
  generalize e3 : zu R2 a 1 (some le) = R3 at hNp3 ⊢
  have hrsa : rs ≠ a := fun q => absurd (rsA.2.1.symm.trans (q ▸ ha_1.2)) (by decide)
  have eR : ∀ b, b ≠ a → R3 b = R1 b := fun b hb => by rw [← e3, ← e2]; exact (zu_o hb).trans (zu_o hb)
  refine ret ⟨rs, le, ro, R3, rfl, ⟨hs1.trans hs2, fun b hb hba => by rw [eR b hba, ← e1]; exact zr_a (ne_in hb hrs)⟩, hNp3, ⟨ha_2, ?_, ?_, rsA_2, leA, fun i hi => ⟨?_, hs2.A (roA i hi)⟩, roi⟩, hrs, hs1.no hle, hro⟩ dX1_init_24
  · rw [← e3, ← e2, zu_k (by decide)]; exact zu_s
  · rw [← e3]; exact zu_s
  · rw [eR rs hrsa, ← e1, zr_sk, if_pos hi]
