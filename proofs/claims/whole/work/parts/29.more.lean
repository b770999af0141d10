/-- what the reference adds for the sentence i, and the sum -/
def mr1 (r : Nat → Int32) (nm : Int32) : Int32 → Int32 := fun s => (fun s => if r 0 = 5 ∧ r 2 = nm then s + r 4 else s) (if r 1 = nm then s + (if r 0 = 6 then r 4 else -(r 4)) else s)
def mrM (p : Nat → Nat → Int32) (nm un sg : Int32) : Nat → Int32
  | 0 => 0
  | i + 1 => if p i 0 < 5 ∨ p i 3 ≠ un ∨ ¬ p i 5 < sg then mrM p nm un sg i else mr1 (p i) nm (mrM p nm un sg i)

set_option maxHeartbeats 4000000 in
set_option maxRecDepth 100000 in
theorem c_X7_more (l : Launch) {E : zE} {S : zS} {I : Nat → Nat → Int32} {J : Nat → Nat → Int64} {R : Nat → Nat → Option Nat} {x td m : Nat} (hD : TD S R I x td m) {nm un sg : Int32} : zI l yX7_more wsX7_more rmX7_more E S [.ref x, .int nm, .int un, .int sg] (I, J, R) (mrM (fun i w => tdP I td i w) nm un sg m) (I, J, R) := by
  refine z_metI (cc := cX7_more) (maxL := 7) (ty := .int) (by decide) rfl (Nat.le_of_ble_eq_true rfl) (fun X h ret => ?_)
  show zV X E S 0 0 (I, J, R) 0 _ []
  obtain ⟨d1, d2, d3, d4, d5⟩ := id hD
  have L6 : ∀ (d i : Nat), i + d = m → zV X E S 0 0 (I, J, R) 6 [(0, .ref x), (1, .int nm), (2, .int un), (3, .int sg), (4, .int (mrM (fun i w => tdP I td i w) nm un sg i)), (5, .int (nI i))] [] := by
    intro d
    induction d with
    | zero =>
      intro i hi
      have e : i = m := by omega
      subst e
      refine z_iload h dX7_more_6 rfl ?_
      refine z_aload_n h dX7_more_8 rfl rfl ?_
      refine z_getI h (by assumption) rfl kw7 7 (by decide) rfl kf_RX7_205 dX7_more_9 ?_
      rw [d4]
      refine z_icmp_ge h 131 dX7_more_12 (by decide) (fun c12 => ?_) (fun c12 => ?_)
      · refine z_iload h dX7_more_131 rfl ?_
        exact ret dX7_more_133 rfl
      · exact absurd (nI_le (by omega) (by omega)) c12
    | succ d ih =>
      intro i hi
      have ih2 := ih (i + 1) (by omega)
      unfold mrM at ih2
      have NEXT : ∀ y : Int32, y = (if tdP I td i 0 < 5 ∨ tdP I td i 3 ≠ un ∨ ¬ tdP I td i 5 < sg then mrM (fun i w => tdP I td i w) nm un sg i else mr1 ((fun i w => tdP I td i w) i) nm (mrM (fun i w => tdP I td i w) nm un sg i)) → ∀ lv, lvsub lv [(0, .ref x), (1, .int nm), (2, .int un), (3, .int sg), (4, .int y), (5, .int (nI i))] → zV X E S 0 0 (I, J, R) 125 lv [] := by
        intro y hy lv hlv
        refine z_lv hlv ?_
        subst hy
        refine z_iinc h dX7_more_125 rfl (nI_1 i) (by decide) ?_
        refine z_goto h 6 dX7_more_128 (by decide) ?_
        exact z_lk ih2 ⟨rfl, rfl, rfl, rfl, rfl, rfl, trivial⟩
      have S96 : ∀ s : Int32, s = (if tdP I td i 1 = nm then mrM (fun i w => tdP I td i w) nm un sg i + (if tdP I td i 0 = 6 then tdP I td i 4 else -(tdP I td i 4)) else mrM (fun i w => tdP I td i w) nm un sg i) → ¬ (tdP I td i 0 < 5 ∨ tdP I td i 3 ≠ un ∨ ¬ tdP I td i 5 < sg) → zV X E S 0 0 (I, J, R) 96 [(0, .ref x), (1, .int nm), (2, .int un), (3, .int sg), (4, .int s), (5, .int (nI i)), (6, .int (tdP I td i 4))] [] := by
        intro s hs hc
        refine z_aload_n h dX7_more_96 rfl rfl ?_
        refine z_iload h dX7_more_97 rfl ?_
        refine z_iconst (v := 0) h dX7_more_99 (by decide) ?_
        refine z_callVI h (c_X7_of l d1 d2 d3 (w := 0) (by omega)) (by assumption) rfl gm_RX7_214 rfl ⟨rfl, rfl⟩ 2 (by decide +kernel) ⟨by decide, by decide⟩ rfl rfl (Nat.le_of_ble_eq_true rfl) ⟨Nat.zero_le _, Nat.zero_le _⟩ dX7_more_100 ?_
        refine z_iconst (v := 5) h dX7_more_103 (by decide) ?_
        refine z_icmp_ne h 125 dX7_more_104 (by decide) (fun c104 => ?_) (fun c104 => ?_)
        · exact NEXT _ (by rw [if_neg hc]; unfold mr1; rw [hs]; exact (if_neg (fun w => c104 w.1)).symm) _ ⟨rfl, rfl, rfl, rfl, rfl, rfl, trivial⟩
        · refine z_aload_n h dX7_more_107 rfl rfl ?_
          refine z_iload h dX7_more_108 rfl ?_
          refine z_iconst (v := 2) h dX7_more_110 (by decide) ?_
          refine z_callVI h (c_X7_of l d1 d2 d3 (w := 2) (by omega)) (by assumption) rfl gm_RX7_214 rfl ⟨rfl, rfl⟩ 2 (by decide +kernel) ⟨by decide, by decide⟩ rfl rfl (Nat.le_of_ble_eq_true rfl) ⟨Nat.zero_le _, Nat.zero_le _⟩ dX7_more_111 ?_
          refine z_iload_n h dX7_more_114 rfl rfl ?_
          refine z_icmp_ne h 125 dX7_more_115 (by decide) (fun c115 => ?_) (fun c115 => ?_)
          · exact NEXT _ (by rw [if_neg hc]; unfold mr1; rw [hs]; exact (if_neg (fun w => c115 w.2)).symm) _ ⟨rfl, rfl, rfl, rfl, rfl, rfl, trivial⟩
          · refine z_iload h dX7_more_118 rfl ?_
            refine z_iload h dX7_more_120 rfl ?_
            refine z_iadd h dX7_more_122 ?_
            refine z_istore h dX7_more_123 (by decide) ?_
            exact NEXT _ (by rw [if_neg hc]; unfold mr1; rw [hs]; exact (if_pos ⟨c104, c115⟩).symm) _ ⟨rfl, rfl, rfl, rfl, rfl, rfl, trivial⟩
      refine z_iload h dX7_more_6 rfl ?_
      refine z_aload_n h dX7_more_8 rfl rfl ?_
      refine z_getI h (by assumption) rfl kw7 7 (by decide) rfl kf_RX7_205 dX7_more_9 ?_
      rw [d4]
      refine z_icmp_ge h 131 dX7_more_12 (by decide) (fun c12 => ?_) (fun c12 => ?_)
      · exact absurd (nle (by omega) (by omega) c12) (by omega)
      · refine z_aload_n h dX7_more_15 rfl rfl ?_
        refine z_iload h dX7_more_16 rfl ?_
        refine z_iconst (v := 0) h dX7_more_18 (by decide) ?_
        refine z_callVI h (c_X7_of l d1 d2 d3 (w := 0) (by omega)) (by assumption) rfl gm_RX7_214 rfl ⟨rfl, rfl⟩ 2 (by decide +kernel) ⟨by decide, by decide⟩ rfl rfl (Nat.le_of_ble_eq_true rfl) ⟨Nat.zero_le _, Nat.zero_le _⟩ dX7_more_19 ?_
        refine z_iconst (v := 5) h dX7_more_22 (by decide) ?_
        refine z_icmp_lt h 125 dX7_more_23 (by decide) (fun c23 => ?_) (fun c23 => ?_)
        · exact NEXT _ (if_pos (Or.inl c23)).symm _ ⟨rfl, rfl, rfl, rfl, rfl, rfl, trivial⟩
        · refine z_aload_n h dX7_more_26 rfl rfl ?_
          refine z_iload h dX7_more_27 rfl ?_
          refine z_iconst (v := 3) h dX7_more_29 (by decide) ?_
          refine z_callVI h (c_X7_of l d1 d2 d3 (w := 3) (by omega)) (by assumption) rfl gm_RX7_214 rfl ⟨rfl, rfl⟩ 2 (by decide +kernel) ⟨by decide, by decide⟩ rfl rfl (Nat.le_of_ble_eq_true rfl) ⟨Nat.zero_le _, Nat.zero_le _⟩ dX7_more_30 ?_
          refine z_iload_n h dX7_more_33 rfl rfl ?_
          refine z_icmp_ne h 125 dX7_more_34 (by decide) (fun c34 => ?_) (fun c34 => ?_)
          · exact NEXT _ (if_pos (Or.inr (Or.inl c34))).symm _ ⟨rfl, rfl, rfl, rfl, rfl, rfl, trivial⟩
          · refine z_aload_n h dX7_more_37 rfl rfl ?_
            refine z_iload h dX7_more_38 rfl ?_
            refine z_iconst (v := 5) h dX7_more_40 (by decide) ?_
            refine z_callVI h (c_X7_of l d1 d2 d3 (w := 5) (by omega)) (by assumption) rfl gm_RX7_214 rfl ⟨rfl, rfl⟩ 2 (by decide +kernel) ⟨by decide, by decide⟩ rfl rfl (Nat.le_of_ble_eq_true rfl) ⟨Nat.zero_le _, Nat.zero_le _⟩ dX7_more_41 ?_
            refine z_iload_n h dX7_more_44 rfl rfl ?_
            refine z_icmp_lt h 51 dX7_more_45 (by decide) (fun c45 => ?_) (fun c45 => ?_)
            · have hc : ¬ (tdP I td i 0 < 5 ∨ tdP I td i 3 ≠ un ∨ ¬ tdP I td i 5 < sg) := by
                rintro (w | w | w)
                · exact c23 w
                · exact w c34
                · exact w c45
              refine z_aload_n h dX7_more_51 rfl rfl ?_
              refine z_iload h dX7_more_52 rfl ?_
              refine z_iconst (v := 4) h dX7_more_54 (by decide) ?_
              refine z_callVI h (c_X7_of l d1 d2 d3 (w := 4) (by omega)) (by assumption) rfl gm_RX7_214 rfl ⟨rfl, rfl⟩ 2 (by decide +kernel) ⟨by decide, by decide⟩ rfl rfl (Nat.le_of_ble_eq_true rfl) ⟨Nat.zero_le _, Nat.zero_le _⟩ dX7_more_55 ?_
              refine z_istore h dX7_more_58 (by decide) ?_
              refine z_aload_n h dX7_more_60 rfl rfl ?_
              refine z_iload h dX7_more_61 rfl ?_
              refine z_iconst (v := 1) h dX7_more_63 (by decide) ?_
              refine z_callVI h (c_X7_of l d1 d2 d3 (w := 1) (by omega)) (by assumption) rfl gm_RX7_214 rfl ⟨rfl, rfl⟩ 2 (by decide +kernel) ⟨by decide, by decide⟩ rfl rfl (Nat.le_of_ble_eq_true rfl) ⟨Nat.zero_le _, Nat.zero_le _⟩ dX7_more_64 ?_
              refine z_iload_n h dX7_more_67 rfl rfl ?_
              refine z_icmp_ne h 96 dX7_more_68 (by decide) (fun c68 => ?_) (fun c68 => ?_)
              · exact z_lk (S96 _ (if_neg c68).symm hc) ⟨rfl, rfl, rfl, rfl, rfl, rfl, rfl, trivial⟩
              · refine z_iload h dX7_more_71 rfl ?_
                refine z_aload_n h dX7_more_73 rfl rfl ?_
                refine z_iload h dX7_more_74 rfl ?_
                refine z_iconst (v := 0) h dX7_more_76 (by decide) ?_
                refine z_callVI h (c_X7_of l d1 d2 d3 (w := 0) (by omega)) (by assumption) rfl gm_RX7_214 rfl ⟨rfl, rfl⟩ 2 (by decide +kernel) ⟨by decide, by decide⟩ rfl rfl (Nat.le_of_ble_eq_true rfl) ⟨Nat.zero_le _, Nat.zero_le _⟩ dX7_more_77 ?_
                refine z_bipush (v := 6) h dX7_more_80 (by decide) ?_
                refine z_icmp_ne h 90 dX7_more_82 (by decide) (fun c82 => ?_) (fun c82 => ?_)
                · refine z_iload h dX7_more_90 rfl ?_
                  refine z_ineg h dX7_more_92 ?_
                  refine z_iadd h dX7_more_93 ?_
                  refine z_istore h dX7_more_94 (by decide) ?_
                  first | exact z_lk (S96 _ (by rw [if_pos c68, if_neg c82]) hc) ⟨rfl, rfl, rfl, rfl, rfl, rfl, rfl, trivial⟩ | exact z_lk (S96 _ (by rw [if_pos c68, if_pos c82]) hc) ⟨rfl, rfl, rfl, rfl, rfl, rfl, rfl, trivial⟩
                · refine z_iload h dX7_more_85 rfl ?_
                  refine z_goto h 93 dX7_more_87 (by decide) ?_
                  refine z_iadd h dX7_more_93 ?_
                  refine z_istore h dX7_more_94 (by decide) ?_
                  first | exact z_lk (S96 _ (by rw [if_pos c68, if_neg c82]) hc) ⟨rfl, rfl, rfl, rfl, rfl, rfl, rfl, trivial⟩ | exact z_lk (S96 _ (by rw [if_pos c68, if_pos c82]) hc) ⟨rfl, rfl, rfl, rfl, rfl, rfl, rfl, trivial⟩
            · refine z_goto h 125 dX7_more_48 (by decide) ?_
              exact NEXT _ (if_pos (Or.inr (Or.inr c45))).symm _ ⟨rfl, rfl, rfl, rfl, rfl, rfl, trivial⟩
  refine z_iconst (v := 0) h dX7_more_0 (by decide) ?_
  refine z_istore h dX7_more_1 (by decide) ?_
  refine z_iconst (v := 0) h dX7_more_3 (by decide) ?_
  refine z_istore h dX7_more_4 (by decide) ?_
  exact z_lk (L6 m 0 (by omega)) ⟨rfl, rfl, rfl, rfl, rfl, rfl, trivial⟩
