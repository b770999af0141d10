abbrev rmX5_size : Room := { frames := 0, cells := 0, slots := 0, locals := 0 }
abbrev rmX5_start : Room := { frames := 0, cells := 0, slots := 0, locals := 0 }
abbrev rmX5_isOver : Room := { frames := 0, cells := 0, slots := 0, locals := 0 }
abbrev rmX5_isLetter : Room := { frames := 0, cells := 0, slots := 0, locals := 0 }
abbrev rmX5_isDigit : Room := { frames := 0, cells := 0, slots := 0, locals := 0 }
abbrev rmX5_advance : Room := { frames := 1, cells := 0, slots := 0, locals := 20 }
abbrev rmX0_init : Room := { frames := 0, cells := 0, slots := 0, locals := 0 }
abbrev rmX0_clear : Room := { frames := 0, cells := 0, slots := 0, locals := 0 }
abbrev rmX0_size : Room := { frames := 0, cells := 0, slots := 0, locals := 0 }
abbrev rmX0_dropFirst : Room := { frames := 0, cells := 0, slots := 0, locals := 0 }
abbrev rmX0_keep : Room := { frames := 1, cells := 0, slots := 0, locals := 21 }
abbrev rmX0_dropLast : Room := { frames := 0, cells := 0, slots := 0, locals := 0 }
abbrev rmX0_lastSentence : Room := { frames := 0, cells := 0, slots := 0, locals := 0 }
abbrev rmX0_lastNumber : Room := { frames := 0, cells := 0, slots := 0, locals := 0 }
abbrev rmX1_init : Room := { frames := 0, cells := 0, slots := 0, locals := 0 }
abbrev rmX1_clear : Room := { frames := 0, cells := 0, slots := 0, locals := 0 }
abbrev rmX1_gcd : Room := { frames := 0, cells := 0, slots := 0, locals := 0 }
abbrev rmX1_eliminate : Room := { frames := 1, cells := 0, slots := 0, locals := 30 }
abbrev rmX1_reduce : Room := { frames := 2, cells := 0, slots := 0, locals := 61 }
abbrev rmX1_firstName : Room := { frames := 0, cells := 0, slots := 0, locals := 0 }
abbrev rmX1_negate : Room := { frames := 0, cells := 0, slots := 0, locals := 0 }
abbrev rmX1_add : Room := { frames := 3, cells := 0, slots := 0, locals := 83 }
abbrev rmX2_init : Room := { frames := 0, cells := 0, slots := 0, locals := 0 }
abbrev rmX3_clear : Room := { frames := 0, cells := 0, slots := 0, locals := 0 }
abbrev rmX5_rewind : Room := { frames := 2, cells := 0, slots := 0, locals := 43 }
abbrev rmJ0_coder_7d493 : Room := { frames := 0, cells := 0, slots := 0, locals := 0 }
abbrev rmJ0_length_8abf5 : Room := { frames := 1, cells := 0, slots := 0, locals := 20 }
abbrev rmJ0_isLatin1_aae02 : Room := { frames := 0, cells := 0, slots := 0, locals := 0 }
abbrev rmJ3_checkIndex_8e157 : Room := { frames := 1, cells := 0, slots := 0, locals := 60 }
abbrev rmJ0_checkIndex_df160 : Room := { frames := 2, cells := 0, slots := 0, locals := 82 }
abbrev rmJ1_charAt_3b067 : Room := { frames := 3, cells := 0, slots := 0, locals := 103 }
abbrev rmJ2_length_9d52b : Room := { frames := 0, cells := 0, slots := 0, locals := 0 }
abbrev rmJ2_checkIndex_2214a : Room := { frames := 3, cells := 0, slots := 0, locals := 103 }
abbrev rmJ2_getChar_3b067 : Room := { frames := 1, cells := 0, slots := 0, locals := 20 }
abbrev rmJ2_charAt_3b067 : Room := { frames := 4, cells := 0, slots := 0, locals := 124 }
abbrev rmJ0_charAt_5068e : Room := { frames := 5, cells := 0, slots := 0, locals := 145 }
abbrev rmX5_find : Room := { frames := 6, cells := 0, slots := 0, locals := 166 }
abbrev rmX5_take : Room := { frames := 7, cells := 0, slots := 0, locals := 191 }
abbrev rmX5_takeUnit : Room := { frames := 7, cells := 0, slots := 0, locals := 191 }
abbrev rmX2_takeAskedSort : Room := { frames := 8, cells := 0, slots := 0, locals := 212 }
abbrev rmX5_takeName : Room := { frames := 7, cells := 0, slots := 0, locals := 191 }
abbrev rmX3_ask : Room := { frames := 0, cells := 0, slots := 0, locals := 0 }
abbrev rmX2_readQuestion : Room := { frames := 9, cells := 0, slots := 0, locals := 232 }
abbrev rmX3_tell : Room := { frames := 0, cells := 0, slots := 0, locals := 0 }
abbrev rmX3_open : Room := { frames := 1, cells := 0, slots := 0, locals := 22 }
abbrev rmX5_takeNumber : Room := { frames := 2, cells := 0, slots := 0, locals := 43 }
abbrev rmX2_readUnit : Room := { frames := 8, cells := 0, slots := 0, locals := 212 }
abbrev rmX2_readSecond : Room := { frames := 8, cells := 0, slots := 0, locals := 213 }
abbrev rmX2_readHas : Room := { frames := 9, cells := 0, slots := 0, locals := 236 }
abbrev rmX2_readPlain : Room := { frames := 9, cells := 0, slots := 0, locals := 234 }
abbrev rmX3_close : Room := { frames := 0, cells := 0, slots := 0, locals := 0 }
abbrev rmX2_readSentence : Room := { frames := 10, cells := 0, slots := 0, locals := 259 }
abbrev rmX2_read : Room := { frames := 11, cells := 0, slots := 0, locals := 283 }
abbrev rmX3_init : Room := { frames := 0, cells := 0, slots := 0, locals := 0 }
abbrev rmX3_size : Room := { frames := 0, cells := 0, slots := 0, locals := 0 }
abbrev rmX3_facts : Room := { frames := 0, cells := 0, slots := 0, locals := 0 }
abbrev rmX3_stages : Room := { frames := 0, cells := 0, slots := 0, locals := 0 }
abbrev rmX3_has : Room := { frames := 0, cells := 0, slots := 0, locals := 0 }
abbrev rmX3_part : Room := { frames := 1, cells := 0, slots := 0, locals := 21 }
abbrev rmX3_asked : Room := { frames := 0, cells := 0, slots := 0, locals := 0 }
abbrev rmX3_allows : Room := { frames := 2, cells := 0, slots := 0, locals := 43 }
abbrev rmX3_setNumber : Room := { frames := 1, cells := 0, slots := 0, locals := 21 }
abbrev rmX3_gainBy : Room := { frames := 0, cells := 0, slots := 0, locals := 0 }
abbrev rmX3_gain : Room := { frames := 1, cells := 0, slots := 0, locals := 23 }
abbrev rmX4_init : Room := { frames := 1, cells := 0, slots := 0, locals := 20 }
abbrev rmJ7_fill_d0a16 : Room := { frames := 0, cells := 0, slots := 0, locals := 0 }
abbrev rmX4_madeBy : Room := { frames := 0, cells := 0, slots := 0, locals := 0 }
abbrev rmX4_weigh : Room := { frames := 2, cells := 0, slots := 0, locals := 50 }
abbrev rmX4_secondWeight : Room := { frames := 0, cells := 0, slots := 0, locals := 0 }
abbrev rmX4_startSought : Room := { frames := 1, cells := 0, slots := 0, locals := 24 }
abbrev rmX4_makeLaws : Room := { frames := 3, cells := 0, slots := 0, locals := 75 }
abbrev rmX4_isFact : Room := { frames := 1, cells := 0, slots := 0, locals := 20 }
abbrev rmX4_addFacts : Room := { frames := 4, cells := 0, slots := 0, locals := 106 }
abbrev rmX4_settleAmounts : Room := { frames := 3, cells := 0, slots := 0, locals := 83 }
abbrev rmX4_settleAnswer : Room := { frames := 3, cells := 0, slots := 0, locals := 83 }
abbrev rmX4_solve : Room := { frames := 5, cells := 0, slots := 0, locals := 128 }
abbrev rmX4_begin : Room := { frames := 6, cells := 0, slots := 0, locals := 148 }
abbrev rmX4_quarrelAt : Room := { frames := 0, cells := 0, slots := 0, locals := 0 }
abbrev rmX4_hasAnswer : Room := { frames := 0, cells := 0, slots := 0, locals := 0 }
abbrev rmX4_answerPart : Room := { frames := 1, cells := 0, slots := 0, locals := 20 }
abbrev rmX4_topAt : Room := { frames := 2, cells := 0, slots := 0, locals := 50 }
abbrev rmX4_amountPart : Room := { frames := 3, cells := 0, slots := 0, locals := 74 }
abbrev rmX4_settledAtFirst : Room := { frames := 0, cells := 0, slots := 0, locals := 0 }
abbrev rmX4_isStrange : Room := { frames := 3, cells := 0, slots := 0, locals := 74 }
abbrev rmX4_choose : Room := { frames := 0, cells := 0, slots := 0, locals := 0 }
abbrev rmX4_strangePart : Room := { frames := 4, cells := 0, slots := 0, locals := 99 }
abbrev rmX4_areAlongside : Room := { frames := 1, cells := 0, slots := 0, locals := 21 }
abbrev rmX4_lackingName : Room := { frames := 3, cells := 0, slots := 0, locals := 83 }
abbrev rmX4_factsOf : Room := { frames := 2, cells := 0, slots := 0, locals := 43 }
abbrev rmX4_isSettledBy : Room := { frames := 4, cells := 0, slots := 0, locals := 106 }
abbrev rmX4_idleFacts : Room := { frames := 5, cells := 0, slots := 0, locals := 129 }
abbrev rmJ6_bitCount_0f7a4 : Room := { frames := 0, cells := 0, slots := 0, locals := 0 }
abbrev rmX4_seekFewest : Room := { frames := 5, cells := 0, slots := 0, locals := 129 }
abbrev rmX4_fewestFacts : Room := { frames := 6, cells := 0, slots := 0, locals := 153 }
abbrev rmX5_init : Room := { frames := 0, cells := 0, slots := 0, locals := 0 }
abbrev rmX5_filledBytes : Room := { frames := 0, cells := 0, slots := 0, locals := 0 }
abbrev rmX5_append : Room := { frames := 0, cells := 0, slots := 0, locals := 0 }
abbrev rmX5_cut : Room := { frames := 3, cells := 0, slots := 0, locals := 63 }
abbrev rmX6_init : Room := { frames := 2, cells := 0, slots := 0, locals := 42 }
abbrev rmX6_feed : Room := { frames := 1, cells := 0, slots := 0, locals := 23 }
abbrev rmX6_end : Room := { frames := 4, cells := 0, slots := 0, locals := 84 }
abbrev rmX6_fault : Room := { frames := 12, cells := 0, slots := 0, locals := 306 }
abbrev rmX6_tale : Room := { frames := 12, cells := 0, slots := 0, locals := 306 }
abbrev rmX6_sentences : Room := { frames := 1, cells := 0, slots := 0, locals := 20 }
abbrev rmX6_sentence : Room := { frames := 2, cells := 0, slots := 0, locals := 43 }
abbrev rmX6_question : Room := { frames := 1, cells := 0, slots := 0, locals := 21 }
abbrev rmX6_quarrel : Room := { frames := 1, cells := 0, slots := 0, locals := 20 }
abbrev rmX6_answer : Room := { frames := 2, cells := 0, slots := 0, locals := 41 }
abbrev rmX6_amount : Room := { frames := 4, cells := 0, slots := 0, locals := 100 }
abbrev rmX6_idle : Room := { frames := 6, cells := 0, slots := 0, locals := 150 }
abbrev rmX6_enough : Room := { frames := 7, cells := 0, slots := 0, locals := 173 }
abbrev rmX6_lacking : Room := { frames := 4, cells := 0, slots := 0, locals := 105 }
abbrev rmX6_strange : Room := { frames := 5, cells := 0, slots := 0, locals := 123 }
abbrev rmX6_put : Room := { frames := 6, cells := 0, slots := 0, locals := 148 }
abbrev rmX6_undo : Room := { frames := 6, cells := 0, slots := 0, locals := 148 }
abbrev rmX6_count : Room := { frames := 1, cells := 0, slots := 0, locals := 22 }
abbrev rmX7_init : Room := { frames := 0, cells := 0, slots := 0, locals := 0 }
abbrev rmX7_thrown : Room := { frames := 0, cells := 0, slots := 0, locals := 0 }
abbrev rmX7_isIn : Room := { frames := 0, cells := 0, slots := 0, locals := 0 }
abbrev rmX7_bytesIn : Room := { frames := 0, cells := 0, slots := 0, locals := 0 }
abbrev rmX7_put4 : Room := { frames := 0, cells := 0, slots := 0, locals := 0 }
abbrev rmX7_feed : Room := { frames := 1, cells := 0, slots := 0, locals := 22 }
abbrev rmX7_end : Room := { frames := 0, cells := 0, slots := 0, locals := 0 }
abbrev rmX7_isSmall : Room := { frames := 0, cells := 0, slots := 0, locals := 0 }
abbrev rmX7_isDigit : Room := { frames := 0, cells := 0, slots := 0, locals := 0 }
abbrev rmX7_next : Room := { frames := 1, cells := 0, slots := 0, locals := 20 }
abbrev rmX7_is : Room := { frames := 6, cells := 0, slots := 0, locals := 166 }
abbrev rmX7_takes : Room := { frames := 7, cells := 0, slots := 0, locals := 188 }
abbrev rmX7_one : Room := { frames := 0, cells := 0, slots := 0, locals := 0 }
abbrev rmX7_name : Room := { frames := 7, cells := 0, slots := 0, locals := 188 }
abbrev rmX7_unit : Room := { frames := 7, cells := 0, slots := 0, locals := 188 }
abbrev rmX7_number : Room := { frames := 1, cells := 0, slots := 0, locals := 20 }
abbrev rmX7_takesName : Room := { frames := 8, cells := 0, slots := 0, locals := 209 }
abbrev rmX7_takesUnit : Room := { frames := 8, cells := 0, slots := 0, locals := 208 }
abbrev rmX7_takesNumber : Room := { frames := 2, cells := 0, slots := 0, locals := 42 }
abbrev rmX7_sentence : Room := { frames := 9, cells := 0, slots := 0, locals := 231 }
abbrev rmX7_asks : Room := { frames := 9, cells := 0, slots := 0, locals := 231 }
abbrev rmX7_reads : Room := { frames := 10, cells := 0, slots := 0, locals := 252 }
abbrev rmX7_fault : Room := { frames := 11, cells := 0, slots := 0, locals := 275 }
abbrev rmX7_tale : Room := { frames := 11, cells := 0, slots := 0, locals := 275 }
abbrev rmX7_sentences : Room := { frames := 0, cells := 0, slots := 0, locals := 0 }
abbrev rmX7_of : Room := { frames := 0, cells := 0, slots := 0, locals := 0 }
abbrev rmX7_sentence_ : Room := { frames := 1, cells := 0, slots := 0, locals := 22 }
abbrev rmX7_question : Room := { frames := 1, cells := 0, slots := 0, locals := 22 }
abbrev rmX7_more : Room := { frames := 1, cells := 0, slots := 0, locals := 22 }
abbrev rmJ9_abs_067f4 : Room := { frames := 0, cells := 0, slots := 0, locals := 0 }
abbrev rmX7_common : Room := { frames := 1, cells := 0, slots := 0, locals := 21 }
abbrev rmX7_law : Room := { frames := 2, cells := 0, slots := 0, locals := 48 }
abbrev rmX7_adds : Room := { frames := 2, cells := 0, slots := 0, locals := 50 }
abbrev rmX7_isFact : Room := { frames := 1, cells := 0, slots := 0, locals := 22 }
abbrev rmX7_gather : Room := { frames := 3, cells := 0, slots := 0, locals := 79 }
abbrev rmX7_settles : Room := { frames := 2, cells := 0, slots := 0, locals := 50 }
abbrev rmX7_part : Room := { frames := 2, cells := 0, slots := 0, locals := 50 }
abbrev rmX7_all : Room := { frames := 0, cells := 0, slots := 0, locals := 0 }
abbrev rmX7_quarrelAt : Room := { frames := 4, cells := 0, slots := 0, locals := 103 }
abbrev rmX7_quarrel : Room := { frames := 5, cells := 0, slots := 0, locals := 124 }
abbrev rmX7_answersBy : Room := { frames := 4, cells := 0, slots := 0, locals := 103 }
abbrev rmX7_hasAnswer : Room := { frames := 5, cells := 0, slots := 0, locals := 124 }
abbrev rmX7_answer : Room := { frames := 6, cells := 0, slots := 0, locals := 144 }
abbrev rmX7_stages : Room := { frames := 2, cells := 0, slots := 0, locals := 43 }
abbrev rmX7_amounts : Room := { frames := 4, cells := 0, slots := 0, locals := 103 }
abbrev rmX7_amount : Room := { frames := 5, cells := 0, slots := 0, locals := 126 }
abbrev rmX7_idle : Room := { frames := 6, cells := 0, slots := 0, locals := 144 }
abbrev rmX7_facts : Room := { frames := 2, cells := 0, slots := 0, locals := 43 }
abbrev rmX7_enough : Room := { frames := 6, cells := 0, slots := 0, locals := 144 }
abbrev rmX7_lacking : Room := { frames := 5, cells := 0, slots := 0, locals := 124 }
abbrev rmX7_strange : Room := { frames := 5, cells := 0, slots := 0, locals := 126 }
abbrev rmX7_put : Room := { frames := 1, cells := 0, slots := 0, locals := 22 }
abbrev rmX7_undo : Room := { frames := 0, cells := 0, slots := 0, locals := 0 }
abbrev rmX7_count : Room := { frames := 5, cells := 0, slots := 0, locals := 126 }
/-! WORDS OF THE TAPE: what a byte is, where the next word begins and ends; small rows on numbers -/
def b2i (b : Bool) : Int32 := if b = true then 1 else 0
theorem b2i_t {b : Bool} (h : b = true) : b2i b = 1 := if_pos h
theorem b2i_f {b : Bool} (h : b = false) : b2i b = 0 := if_neg (by rw [h]; decide)
theorem b2i_0 {b : Bool} : b2i b = 0 ↔ b = false := by cases b <;> simp [b2i]
theorem b2i_1 {b : Bool} : b2i b = 1 ↔ b = true := by cases b <;> simp [b2i]
theorem b2i_n0 {b : Bool} : ¬ b2i b = 0 ↔ b = true := by cases b <;> simp [b2i]
theorem b2i_nar (b : Bool) : narrow .boolean (.int (b2i b)) = .int (b2i b) := by cases b <;> decide
def isL (c : Int32) : Bool := decide (97 ≤ c) && decide (c ≤ 122)
def isD (c : Int32) : Bool := decide (48 ≤ c) && decide (c ≤ 57)
def isB (c : Int32) : Bool := decide (c = 32) || decide (c = 10)
/-- the first place from i on that is no blank -/
def skW (t : Nat → Int32) : Nat → Nat → Nat
  | 0, i => i
  | d + 1, i => if isB (t i) = true then skW t d (i + 1) else i
/-- the first place from i on that the row of letters (and digits) has no more -/
def rnW (t : Nat → Int32) (g : Bool) : Nat → Nat → Nat
  | 0, i => i
  | d + 1, i => if (isL (t i) || (g && isD (t i))) = true then rnW t g d (i + 1) else i
def skp (t : Nat → Int32) (n i : Nat) : Nat := skW t (n - i) i
def wnd (t : Nat → Int32) (n f : Nat) : Nat := if f < n then (if (isD (t f) || isL (t f)) = true then rnW t (isD (t f)) (n - (f + 1)) (f + 1) else f + 1) else f
theorem skW_le (t : Nat → Int32) : ∀ d i, i ≤ skW t d i ∧ skW t d i ≤ i + d
  | 0, i => ⟨Nat.le_refl _, Nat.le_refl _⟩
  | d + 1, i => by
    unfold skW
    by_cases h : isB (t i) = true
    · rw [if_pos h]
      have := skW_le t d (i + 1)
      omega
    · rw [if_neg h]; omega
theorem rnW_le (t : Nat → Int32) (g : Bool) : ∀ d i, i ≤ rnW t g d i ∧ rnW t g d i ≤ i + d
  | 0, i => ⟨Nat.le_refl _, Nat.le_refl _⟩
  | d + 1, i => by
    unfold rnW
    by_cases h : (isL (t i) || (g && isD (t i))) = true
    · rw [if_pos h]
      have := rnW_le t g d (i + 1)
      omega
    · rw [if_neg h]; omega
theorem skp_le (t : Nat → Int32) {n i : Nat} (h : i ≤ n) : i ≤ skp t n i ∧ skp t n i ≤ n := by
  have := skW_le t (n - i) i
  unfold skp
  omega
theorem wnd_le (t : Nat → Int32) {n f : Nat} (h : f ≤ n) : f ≤ wnd t n f ∧ wnd t n f ≤ n ∧ (f < n → f < wnd t n f) := by
  unfold wnd
  by_cases q : f < n
  · rw [if_pos q]
    by_cases w : (isD (t f) || isL (t f)) = true
    · rw [if_pos w]
      have := rnW_le t (isD (t f)) (n - (f + 1)) (f + 1)
      omega
    · rw [if_neg w]; omega
  · rw [if_neg q]; omega
theorem nle {a b : Nat} (ha : a < 2 ^ 31) (hb : b < 2 ^ 31) (h : nI a ≤ nI b) : a ≤ b := (nI_leI ha hb).mp h
theorem nnle {a b : Nat} (ha : a < 2 ^ 31) (hb : b < 2 ^ 31) (h : ¬ nI a ≤ nI b) : b < a := Nat.not_le.mp fun q => h ((nI_leI ha hb).mpr q)
theorem nlt {a b : Nat} (ha : a < 2 ^ 31) (hb : b < 2 ^ 31) (h : nI a < nI b) : a < b := (nI_ltI ha hb).mp h
theorem nnlt {a b : Nat} (ha : a < 2 ^ 31) (hb : b < 2 ^ 31) (h : ¬ nI a < nI b) : b ≤ a := Nat.not_lt.mp fun q => h ((nI_ltI ha hb).mpr q)
/-! what else the tape's methods speak of -/
def byt (v sh : Int32) : Int32 := (v.toUInt32 >>> (sh.toUInt32 &&& Int32.toUInt32 31)).toInt32 &&& 255
def nz (b : Int32) : Int32 := if b = 0 then 0 else 1
def fbC (v : Int32) : Int32 := 0 + nz (byt v 24) + nz (byt v 16) + nz (byt v 8) + nz (byt v 0)
def ap1 (s : (Nat → Int32) × Nat) (x : Int32) : (Nat → Int32) × Nat := if x = 0 then s else if 400 ≤ s.2 then s else (fun j => if j = s.2 then x else s.1 j, s.2 + 1)
def apB (v : Int32) (s : (Nat → Int32) × Nat) : (Nat → Int32) × Nat := ap1 (ap1 (ap1 (ap1 s (byt v 24)) (byt v 16)) (byt v 8)) (byt v 0)
theorem ap1_le {s : (Nat → Int32) × Nat} {x : Int32} (h : s.2 ≤ 400) : (ap1 s x).2 ≤ 400 ∧ s.2 ≤ (ap1 s x).2 := by
  unfold ap1
  split
  · exact ⟨h, Nat.le_refl _⟩
  · split
    · exact ⟨h, Nat.le_refl _⟩
    · constructor <;> simp <;> omega
theorem apB_le {s : (Nat → Int32) × Nat} {v : Int32} (h : s.2 ≤ 400) : (apB v s).2 ≤ 400 ∧ s.2 ≤ (apB v s).2 := by
  unfold apB
  have h1 := ap1_le (x := byt v 24) h
  have h2 := ap1_le (x := byt v 16) h1.1
  have h3 := ap1_le (x := byt v 8) h2.1
  have h4 := ap1_le (x := byt v 0) h3.1
  exact ⟨h4.1, by omega⟩
/-- rows that are as they were, but for those of the list -/
def fr (Z : List Nat) (I I' : Nat → Nat → Int32) : Prop := ∀ a, a ∉ Z → I' a = I a
theorem fr_rf {Z : List Nat} {I : Nat → Nat → Int32} : fr Z I I := fun _ _ => rfl
theorem fr_tr {Z : List Nat} {I I1 I2 : Nat → Nat → Int32} (h : fr Z I I1) (g : fr Z I1 I2) : fr Z I I2 := fun a ha => (g a ha).trans (h a ha)
theorem fr_zu {Z : List Nat} {I I1 : Nat → Nat → Int32} {a k : Nat} {v : Int32} (h : fr Z I I1) (ha : a ∈ Z) : fr Z I (zu I1 a k v) := fun b hb => by
  have q : b ≠ a := fun e => hb (by rw [e]; exact ha)
  exact (zu_o q).trans (h b hb)
theorem fr_mono {Z Z' : List Nat} {I I1 : Nat → Nat → Int32} (h : fr Z I I1) (hz : ∀ a ∈ Z, a ∈ Z') : fr Z' I I1 := fun a ha => h a (fun q => ha (hz a q))
/-- the tape t, its bytes at b: n of them, the next word from f to e - 1 -/
def TP (S : zS) (R : Nat → Nat → Option Nat) (I : Nat → Nat → Int32) (t b n f e : Nat) : Prop := zO S t 5 ∧ R t 0 = some b ∧ zA S b 9 400 ∧ I t 1 = nI n ∧ I t 2 = nI f ∧ I t 3 = nI e ∧ n ≤ 400 ∧ f ≤ e ∧ e ≤ n
theorem TP.ne {S : zS} {R : Nat → Nat → Option Nat} {I : Nat → Nat → Int32} {t b n f e : Nat} (h : TP S R I t b n f e) : b ≠ t := fun q => absurd (h.1.2.symm.trans (q ▸ h.2.2.1.2.1)) (by decide)
/-- how many letters from the place j on are those of the text from o on -/
def mtc (g : Nat → Int32) (f : Nat) (s : List Int32) (o : Nat) : Nat → Nat → Nat
  | 0, j => j
  | d + 1, j => if g (f + j) = s.getD (o + j) 0 then mtc g f s o d (j + 1) else j
theorem mtc_le (g : Nat → Int32) (f : Nat) (s : List Int32) (o : Nat) : ∀ d j, j ≤ mtc g f s o d j ∧ mtc g f s o d j ≤ j + d
  | 0, j => ⟨Nat.le_refl _, Nat.le_refl _⟩
  | d + 1, j => by
    unfold mtc
    split
    · have := mtc_le g f s o d (j + 1)
      omega
    · omega
/-- which entry of k letters the word from f on is -/
def fndW (g : Nat → Int32) (f : Nat) (s : List Int32) (k : Nat) : Nat → Nat → Int32
  | 0, _ => -1
  | d + 1, i => if mtc g f s (i * k) k 0 = k then nI i else fndW g f s k d (i + 1)
def fnd (g : Nat → Int32) (f e : Nat) (s : List Int32) (en k : Nat) : Int32 := if e - f = k then fndW g f s k en 0 else -1
/-- the word from f to e - 1 is that text -/
def mW (g : Nat → Int32) (f e : Nat) (s : List Int32) : Bool := decide (e - f = s.length) && decide (mtc g f s 0 s.length 0 = s.length)
/-- the digits from p on -/
def dgW (g : Nat → Int32) : Nat → Nat → Int32 → Option Int32
  | 0, _, a => some a
  | d + 1, p, a => if isD (g p) = true then dgW g d (p + 1) (a * 10 + (g p - 48)) else none
def nmW (g : Nat → Int32) (f e : Nat) : Option Int32 := if f < e ∧ e - f ≤ 3 then dgW g (e - f) f 0 else none
