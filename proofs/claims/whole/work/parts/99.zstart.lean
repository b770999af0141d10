/-! THE START: the texts, the classes and the statics that the statement gives -/
def NFl : List Cond := flatC (Cond.and given_1 narrow_1)
def sIx : List Nat := [19, 54, 104, 61, 156, 165, 171, 179, 187, 116, 124, 132, 141, 150, 26, 111, 69, 76, 34, 200, 207, 214, 221, 228, 235, 242, 249, 273, 281, 289, 297, 256, 264, 305, 311, 321, 328, 337, 346, 354, 363, 373, 382, 392, 399, 192, 408, 416]
def rIx : List Nat := [290, 361, 369, 362, 421, 422, 423, 424, 425, 404, 409, 414, 415, 416, 351, 370, 363, 368, 356, 909, 910, 911, 912, 916, 917, 918, 919, 950, 951, 952, 953, 928, 933, 954, 955, 956, 957, 958, 959, 960, 961, 962, 963, 967, 968, 898, 973, 974]
def sTm (i : Nat) : Term := .string (zlO i) (zlK i)
def sVf (i : Nat) : Term := .field (sTm i) "java/lang/String" "value" "[B"
set_option maxRecDepth 100000 in
theorem s_ex : ∀ i, i < 48 → NFl[sIx.getD i 0]? = some (Cond.exactly (sTm i) "java/lang/String") := by decide +kernel
set_option maxRecDepth 100000 in
theorem s_co : ∀ i, i < 48 → NFl[sIx.getD i 0 + 1]? = some (Cond.eq (.field (sTm i) "java/lang/String" "coder" "B") (.int 0)) := by decide +kernel
set_option maxRecDepth 100000 in
theorem s_ar : ∀ i, i < 48 → NFl[sIx.getD i 0 + 2]? = some (Cond.arrayOf (sVf i) .byte) := by decide +kernel
set_option maxRecDepth 100000 in
theorem s_le : ∀ i, i < 48 → NFl[sIx.getD i 0 + 3]? = some (Cond.eq (.length (sVf i)) (.int (Int32.ofNat (zsb i).length))) := by decide +kernel
set_option maxRecDepth 100000 in
theorem s_el : ∀ i, i < 48 → ∀ j, j < (zsb i).length → NFl[sIx.getD i 0 + 4 + j]? = some (Cond.eq (.elem (sVf i) (.int (Int32.ofNat j))) (.int ((zsb i).getD j 0))) := by decide +kernel
set_option maxRecDepth 100000 in
theorem s_rf : ∀ i, i < 48 → lw_tbl[rIx.getD i 0]? = some (Cond.stringRef (zlO i) (zlK i) (zlT i)) := by decide +kernel
theorem s_st : NFl[4]? = some (Cond.eq (.static "java/lang/String" "COMPACT_STRINGS" "Z") (.int 1)) ∧ NFl[5]? = some (Cond.isRef (.static "jdk/internal/util/Preconditions" "SIOOBE_FORMATTER" "Ljava/util/function/BiFunction;")) ∧ NFl[9]? = some (Cond.isRef (.static "java/lang/Throwable" "UNASSIGNED_STACK" "[Ljava/lang/StackTraceElement;")) ∧ NFl[10]? = some (Cond.isRef (.static "java/lang/Throwable" "SUPPRESSED_SENTINEL" "Ljava/util/List;")) := by decide +kernel
set_option maxRecDepth 100000 in
theorem s_tb : lw_tbl[304]? = some (Cond.laysStatic "java/lang/String" "COMPACT_STRINGS" "Z") ∧ lw_tbl[324]? = some (Cond.laysStatic "jdk/internal/util/Preconditions" "SIOOBE_FORMATTER" "Ljava/util/function/BiFunction;") ∧ lw_tbl[739]? = some (Cond.laysStatic "java/lang/Throwable" "UNASSIGNED_STACK" "[Ljava/lang/StackTraceElement;") ∧ lw_tbl[741]? = some (Cond.laysStatic "java/lang/Throwable" "SUPPRESSED_SENTINEL" "Ljava/util/List;") ∧ lw_tbl[60]? = some (Cond.initialized "java/lang/String") ∧ lw_tbl[62]? = some (Cond.initialized "jdk/internal/util/Preconditions") ∧ lw_tbl[66]? = some (Cond.initialized "java/lang/Throwable") := by decide +kernel
set_option maxRecDepth 100000 in
theorem s_tc : lw_tbl[715]? = some (Cond.declares ⟨"java/lang/RuntimeException", "<init>", "()V"⟩) ∧ lw_tbl[717]? = some (Cond.declares ⟨"java/lang/Exception", "<init>", "()V"⟩) ∧ lw_tbl[719]? = some (Cond.declares ⟨"java/lang/Throwable", "<init>", "()V"⟩) ∧ lw_tbl[714]? = some (Cond.castable NSE NSE) ∧ lw_tbl[160]? = some (Cond.arrayOver (.object "TaleSums$Laws")) ∧ lw_tbl[133]? = some (Cond.arrayOver (.array .int)) ∧ lw_tbl[167]? = some (Cond.arrayOver (.array .long)) := by decide +kernel
set_option maxRecDepth 100000 in
theorem s_nw : ∀ q ∈ zNW, Cond.methodLinkNest q.1 q.2.1 q.2.2 "TaleSums" ∈ lw_tbl := by
  intro q hq
  simp only [zNW, List.mem_cons, List.not_mem_nil, or_false] at hq
  rcases hq with rfl | rfl | rfl | rfl
  · exact List.mem_of_getElem? (i := 82) rfl
  · exact List.mem_of_getElem? (i := 112) rfl
  · exact List.mem_of_getElem? (i := 128) rfl
  · exact List.mem_of_getElem? (i := 162) rfl
section SSTART
variable {s : State} {args : Array Value} {A : Nat → Prop}
theorem s_str (hg : ∀ w ∈ NFl, w.before args s = true) (hA : ∀ a : Nat, a < s.heap.size → ¬ A a) : ∃ adK adV : Nat → Nat, ∀ i, i < 48 → (sTm i).eval args s none [] s = some (.ref (adK i)) ∧ va_O "java/lang/String" (adK i) A s s.heap ∧ va_OF "java/lang/String" "coder" "B" (.int 0) (adK i) A s s.heap ∧ va_OF "java/lang/String" "value" "[B" (.ref (adV i)) (adK i) A s s.heap ∧ va_T .byte (adV i) (zsb i).length (fun j => .int ((zsb i).getD j 0)) A s s.heap := by
  have h0 : ∀ i : Nat, ∃ q : Nat × Nat, i < 48 → (sTm i).eval args s none [] s = some (.ref q.1) ∧ va_O "java/lang/String" q.1 A s s.heap ∧ va_OF "java/lang/String" "coder" "B" (.int 0) q.1 A s s.heap ∧ va_OF "java/lang/String" "value" "[B" (.ref q.2) q.1 A s s.heap ∧ va_T .byte q.2 (zsb i).length (fun j => .int ((zsb i).getD j 0)) A s s.heap := by
    intro i
    by_cases hi : i < 48
    · have w1 := hg _ (List.mem_of_getElem? (s_ex i hi))
      have w2 := hg _ (List.mem_of_getElem? (s_co i hi))
      have w3 := hg _ (List.mem_of_getElem? (s_ar i hi))
      have w4 := hg _ (List.mem_of_getElem? (s_le i hi))
      have w5 := fun j hj => hg _ (List.mem_of_getElem? (s_el i hi j hj))
      obtain ⟨a, c, cA, kA, q1, q2, q3, q4, q5, q6, -⟩ := Cond.exactly_spec (args := args) (first := s) (o := none) (s := s) (idx := []) (t := sTm i) (cls := "java/lang/String") w1
      obtain ⟨t, ht, hT⟩ := va_Tof (f := fun j => .int ((zsb i).getD j 0)) (A := A) (N := (zsb i).length) (Nat.lt_trans (zsb_ok i hi).1 (by decide)) w3 (va_eqt w4) (fun j hj => va_eqt (w5 j hj)) hA
      exact ⟨(a, t), fun _ => ⟨q1, va_Oof w1 q1 hA, vk_OFof q1 (va_eqt w2) hA, vk_OFof q1 ht hA, hT⟩⟩
    · exact ⟨(0, 0), fun h => absurd h hi⟩
  exact ⟨fun i => (Classical.choose (h0 i)).1, fun i => (Classical.choose (h0 i)).2, fun i hi => Classical.choose_spec (h0 i) hi⟩
/-- the classes of arrays -/
theorem s_ac {ty : FieldType} (hn : ∀ C, ty ≠ .object C) (h : (Cond.arrayClass ty).before args s = true) : ∃ c, ArrOfT s c ty ∧ va_RA s c ty := by
  obtain ⟨c, k, comp, h1, h2, h3⟩ := Cond.arrayClass_spec h
  refine ⟨c, fun n z => ⟨fun k h => (by cases h), k, h2, comp, h3⟩, ?_⟩
  cases ty with
  | object C => exact absurd rfl (hn C)
  | _ => exact h1
theorem s_ao {t : FieldType} (h : (Cond.arrayOver (.array t)).before args s = true) : ∃ c, ArrOfT s c (.array t) ∧ va_RA s c (.array t) := by
  obtain ⟨comp, c, k, h1, h2, h3, h4, h5⟩ := Jvm.Stand.arrayOver_specB h
  exact ⟨c, fun n z => ⟨fun k h => (by cases h), k, h3, comp, h4⟩, h5⟩
theorem s_ob {C : String} (h : (Cond.arrayOver (.object C)).before args s = true) : ∃ c, ArrOfT s c (.object C) ∧ va_RA s c (.object C) := by
  obtain ⟨comp, c, k, h1, h2, h3, h4, h5⟩ := Cond.arrayOver_spec h
  exact ⟨c, fun n z => ⟨fun k h => (by cases h), k, h3, comp, h4⟩, k, comp, h3, h4, h1, h5⟩
end SSTART
