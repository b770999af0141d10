/-! THE CLASS's own methods that hand a question on -/

set_option maxHeartbeats 4000000 in
set_option maxRecDepth 100000 in
theorem c_X6_sentences (l : Launch) {E : zE} {S : zS} {I : Nat → Nat → Int32} {J : Nat → Nat → Int64} {R : Nat → Nat → Option Nat} {x y : Nat}  (x1 : zO S x 6) (x2 : R x 4 = some y) (x3 : zO S y 3) {post : Int32 → zM → Prop} (hM : zIP l yX3_size wsX3_size rmX3_size E S [.ref y] (I, J, R) post) : zIP l yX6_sentences wsX6_sentences rmX6_sentences E S [.ref x] (I, J, R) (post) := by
  refine z_metIP (cc := cX6_sentences) (maxL := 1) (ty := .int) (by decide) rfl (Nat.le_of_ble_eq_true rfl) (fun X h ret => ?_)
  show zV X E S 0 0 (I, J, R) 0 _ []
  refine z_aload_n h dX6_sentences_0 rfl rfl ?_
  refine z_getR h (by assumption) rfl kw6 4 (by decide) rfl (by assumption) kf_RX6_35 dX6_sentences_1 ?_
  refine z_callVIP h (hM) (by assumption) rfl gm_RX6_77 rfl ⟨rfl, rfl⟩ 0 (by decide +kernel) ⟨by decide, by decide⟩ rfl rfl (Nat.le_of_ble_eq_true rfl) ⟨Nat.zero_le _, Nat.zero_le _⟩ dX6_sentences_4 (fun r ν hν => ?_)
  exact ret hν dX6_sentences_7 rfl

set_option maxHeartbeats 4000000 in
set_option maxRecDepth 100000 in
theorem c_X6_question (l : Launch) {E : zE} {S : zS} {I : Nat → Nat → Int32} {J : Nat → Nat → Int64} {R : Nat → Nat → Option Nat} {x y : Nat} {w : Int32} (x1 : zO S x 6) (x2 : R x 4 = some y) (x3 : zO S y 3) {post : Int32 → zM → Prop} (hM : zIP l yX3_asked wsX3_asked rmX3_asked E S [.ref y, .int w] (I, J, R) post) : zIP l yX6_question wsX6_question rmX6_question E S [.ref x, .int w] (I, J, R) (post) := by
  refine z_metIP (cc := cX6_question) (maxL := 2) (ty := .int) (by decide) rfl (Nat.le_of_ble_eq_true rfl) (fun X h ret => ?_)
  show zV X E S 0 0 (I, J, R) 0 _ []
  refine z_aload_n h dX6_question_0 rfl rfl ?_
  refine z_getR h (by assumption) rfl kw6 4 (by decide) rfl (by assumption) kf_RX6_35 dX6_question_1 ?_
  refine z_iload_n h dX6_question_4 rfl rfl ?_
  refine z_callVIP h (hM) (by assumption) rfl gm_RX6_88 rfl ⟨rfl, rfl⟩ 1 (by decide +kernel) ⟨by decide, by decide⟩ rfl rfl (Nat.le_of_ble_eq_true rfl) ⟨Nat.zero_le _, Nat.zero_le _⟩ dX6_question_5 (fun r ν hν => ?_)
  exact ret hν dX6_question_8 rfl

set_option maxHeartbeats 4000000 in
set_option maxRecDepth 100000 in
theorem c_X6_quarrel (l : Launch) {E : zE} {S : zS} {I : Nat → Nat → Int32} {J : Nat → Nat → Int64} {R : Nat → Nat → Option Nat} {x y : Nat}  (x1 : zO S x 6) (x2 : R x 3 = some y) (x3 : zO S y 4) {post : Int32 → zM → Prop} (hM : zIP l yX4_quarrelAt wsX4_quarrelAt rmX4_quarrelAt E S [.ref y] (I, J, R) post) : zIP l yX6_quarrel wsX6_quarrel rmX6_quarrel E S [.ref x] (I, J, R) (post) := by
  refine z_metIP (cc := cX6_quarrel) (maxL := 1) (ty := .int) (by decide) rfl (Nat.le_of_ble_eq_true rfl) (fun X h ret => ?_)
  show zV X E S 0 0 (I, J, R) 0 _ []
  refine z_aload_n h dX6_quarrel_0 rfl rfl ?_
  refine z_getR h (by assumption) rfl kw6 3 (by decide) rfl (by assumption) kf_RX6_47 dX6_quarrel_1 ?_
  refine z_callVIP h (hM) (by assumption) rfl gm_RX6_91 rfl ⟨rfl, rfl⟩ 0 (by decide +kernel) ⟨by decide, by decide⟩ rfl rfl (Nat.le_of_ble_eq_true rfl) ⟨Nat.zero_le _, Nat.zero_le _⟩ dX6_quarrel_4 (fun r ν hν => ?_)
  exact ret hν dX6_quarrel_7 rfl

set_option maxHeartbeats 4000000 in
set_option maxRecDepth 100000 in
theorem c_X6_answer (l : Launch) {E : zE} {S : zS} {I : Nat → Nat → Int32} {J : Nat → Nat → Int64} {R : Nat → Nat → Option Nat} {x y : Nat} {w : Int32} (x1 : zO S x 6) (x2 : R x 3 = some y) (x3 : zO S y 4) {post : Int64 → zM → Prop} (hM : zLP l yX4_answerPart wsX4_answerPart rmX4_answerPart E S [.ref y, .int w] (I, J, R) post) : zLP l yX6_answer wsX6_answer rmX6_answer E S [.ref x, .int w] (I, J, R) (post) := by
  refine z_metLP (cc := cX6_answer) (maxL := 2) (by decide) rfl (Nat.le_of_ble_eq_true rfl) (fun X h ret => ?_)
  show zV X E S 0 0 (I, J, R) 0 _ []
  refine z_aload_n h dX6_answer_0 rfl rfl ?_
  refine z_getR h (by assumption) rfl kw6 3 (by decide) rfl (by assumption) kf_RX6_47 dX6_answer_1 ?_
  refine z_iload_n h dX6_answer_4 rfl rfl ?_
  refine z_callVLP h (hM) (by assumption) rfl gm_RX6_94 rfl ⟨rfl, rfl⟩ 1 (by decide +kernel) ⟨by decide, by decide⟩ rfl rfl (Nat.le_of_ble_eq_true rfl) ⟨Nat.zero_le _, Nat.zero_le _⟩ dX6_answer_5 (fun r ν hν => ?_)
  exact ret hν dX6_answer_8

set_option maxHeartbeats 4000000 in
set_option maxRecDepth 100000 in
theorem c_X6_amount (l : Launch) {E : zE} {S : zS} {I : Nat → Nat → Int32} {J : Nat → Nat → Int64} {R : Nat → Nat → Option Nat} {x y : Nat} {a : Int32} {b : Int32} {c : Int32} {w : Int32} (x1 : zO S x 6) (x2 : R x 3 = some y) (x3 : zO S y 4) {post : Int64 → zM → Prop} (hM : zLP l yX4_amountPart wsX4_amountPart rmX4_amountPart E S [.ref y, .int a, .int b, .int c, .int w] (I, J, R) post) : zLP l yX6_amount wsX6_amount rmX6_amount E S [.ref x, .int a, .int b, .int c, .int w] (I, J, R) (post) := by
  refine z_metLP (cc := cX6_amount) (maxL := 5) (by decide) rfl (Nat.le_of_ble_eq_true rfl) (fun X h ret => ?_)
  show zV X E S 0 0 (I, J, R) 0 _ []
  refine z_aload_n h dX6_amount_0 rfl rfl ?_
  refine z_getR h (by assumption) rfl kw6 3 (by decide) rfl (by assumption) kf_RX6_47 dX6_amount_1 ?_
  refine z_iload_n h dX6_amount_4 rfl rfl ?_
  refine z_iload_n h dX6_amount_5 rfl rfl ?_
  refine z_iload_n h dX6_amount_6 rfl rfl ?_
  refine z_iload h dX6_amount_7 rfl ?_
  refine z_callVLP h (hM) (by assumption) rfl gm_RX6_98 rfl ⟨rfl, rfl⟩ 4 (by decide +kernel) ⟨by decide, by decide⟩ rfl rfl (Nat.le_of_ble_eq_true rfl) ⟨Nat.zero_le _, Nat.zero_le _⟩ dX6_amount_9 (fun r ν hν => ?_)
  exact ret hν dX6_amount_12

set_option maxHeartbeats 4000000 in
set_option maxRecDepth 100000 in
theorem c_X6_idle (l : Launch) {E : zE} {S : zS} {I : Nat → Nat → Int32} {J : Nat → Nat → Int64} {R : Nat → Nat → Option Nat} {x y : Nat}  (x1 : zO S x 6) (x2 : R x 3 = some y) (x3 : zO S y 4) {post : Int32 → zM → Prop} (hM : zIP l yX4_idleFacts wsX4_idleFacts rmX4_idleFacts E S [.ref y] (I, J, R) post) : zIP l yX6_idle wsX6_idle rmX6_idle E S [.ref x] (I, J, R) (post) := by
  refine z_metIP (cc := cX6_idle) (maxL := 1) (ty := .int) (by decide) rfl (Nat.le_of_ble_eq_true rfl) (fun X h ret => ?_)
  show zV X E S 0 0 (I, J, R) 0 _ []
  refine z_aload_n h dX6_idle_0 rfl rfl ?_
  refine z_getR h (by assumption) rfl kw6 3 (by decide) rfl (by assumption) kf_RX6_47 dX6_idle_1 ?_
  refine z_callVIP h (hM) (by assumption) rfl gm_RX6_102 rfl ⟨rfl, rfl⟩ 0 (by decide +kernel) ⟨by decide, by decide⟩ rfl rfl (Nat.le_of_ble_eq_true rfl) ⟨Nat.zero_le _, Nat.zero_le _⟩ dX6_idle_4 (fun r ν hν => ?_)
  exact ret hν dX6_idle_7 rfl

set_option maxHeartbeats 4000000 in
set_option maxRecDepth 100000 in
theorem c_X6_enough (l : Launch) {E : zE} {S : zS} {I : Nat → Nat → Int32} {J : Nat → Nat → Int64} {R : Nat → Nat → Option Nat} {x y : Nat}  (x1 : zO S x 6) (x2 : R x 3 = some y) (x3 : zO S y 4) {post : Int32 → zM → Prop} (hM : zIP l yX4_fewestFacts wsX4_fewestFacts rmX4_fewestFacts E S [.ref y] (I, J, R) post) : zIP l yX6_enough wsX6_enough rmX6_enough E S [.ref x] (I, J, R) (post) := by
  refine z_metIP (cc := cX6_enough) (maxL := 1) (ty := .int) (by decide) rfl (Nat.le_of_ble_eq_true rfl) (fun X h ret => ?_)
  show zV X E S 0 0 (I, J, R) 0 _ []
  refine z_aload_n h dX6_enough_0 rfl rfl ?_
  refine z_getR h (by assumption) rfl kw6 3 (by decide) rfl (by assumption) kf_RX6_47 dX6_enough_1 ?_
  refine z_callVIP h (hM) (by assumption) rfl gm_RX6_105 rfl ⟨rfl, rfl⟩ 0 (by decide +kernel) ⟨by decide, by decide⟩ rfl rfl (Nat.le_of_ble_eq_true rfl) ⟨Nat.zero_le _, Nat.zero_le _⟩ dX6_enough_4 (fun r ν hν => ?_)
  exact ret hν dX6_enough_7 rfl

set_option maxHeartbeats 4000000 in
set_option maxRecDepth 100000 in
theorem c_X6_lacking (l : Launch) {E : zE} {S : zS} {I : Nat → Nat → Int32} {J : Nat → Nat → Int64} {R : Nat → Nat → Option Nat} {x y : Nat}  (x1 : zO S x 6) (x2 : R x 3 = some y) (x3 : zO S y 4) {post : Int32 → zM → Prop} (hM : zIP l yX4_lackingName wsX4_lackingName rmX4_lackingName E S [.ref y] (I, J, R) post) : zIP l yX6_lacking wsX6_lacking rmX6_lacking E S [.ref x] (I, J, R) (post) := by
  refine z_metIP (cc := cX6_lacking) (maxL := 1) (ty := .int) (by decide) rfl (Nat.le_of_ble_eq_true rfl) (fun X h ret => ?_)
  show zV X E S 0 0 (I, J, R) 0 _ []
  refine z_aload_n h dX6_lacking_0 rfl rfl ?_
  refine z_getR h (by assumption) rfl kw6 3 (by decide) rfl (by assumption) kf_RX6_47 dX6_lacking_1 ?_
  refine z_callVIP h (hM) (by assumption) rfl gm_RX6_108 rfl ⟨rfl, rfl⟩ 0 (by decide +kernel) ⟨by decide, by decide⟩ rfl rfl (Nat.le_of_ble_eq_true rfl) ⟨Nat.zero_le _, Nat.zero_le _⟩ dX6_lacking_4 (fun r ν hν => ?_)
  exact ret hν dX6_lacking_7 rfl

set_option maxHeartbeats 4000000 in
set_option maxRecDepth 100000 in
theorem c_X6_strange (l : Launch) {E : zE} {S : zS} {I : Nat → Nat → Int32} {J : Nat → Nat → Int64} {R : Nat → Nat → Option Nat} {x y : Nat} {w : Int32} (x1 : zO S x 6) (x2 : R x 3 = some y) (x3 : zO S y 4) {post : Int32 → zM → Prop} (hM : zIP l yX4_strangePart wsX4_strangePart rmX4_strangePart E S [.ref y, .int w] (I, J, R) post) : zIP l yX6_strange wsX6_strange rmX6_strange E S [.ref x, .int w] (I, J, R) (post) := by
  refine z_metIP (cc := cX6_strange) (maxL := 2) (ty := .int) (by decide) rfl (Nat.le_of_ble_eq_true rfl) (fun X h ret => ?_)
  show zV X E S 0 0 (I, J, R) 0 _ []
  refine z_aload_n h dX6_strange_0 rfl rfl ?_
  refine z_getR h (by assumption) rfl kw6 3 (by decide) rfl (by assumption) kf_RX6_47 dX6_strange_1 ?_
  refine z_iload_n h dX6_strange_4 rfl rfl ?_
  refine z_callVIP h (hM) (by assumption) rfl gm_RX6_111 rfl ⟨rfl, rfl⟩ 1 (by decide +kernel) ⟨by decide, by decide⟩ rfl rfl (Nat.le_of_ble_eq_true rfl) ⟨Nat.zero_le _, Nat.zero_le _⟩ dX6_strange_5 (fun r ν hν => ?_)
  exact ret hν dX6_strange_8 rfl

set_option maxHeartbeats 4000000 in
set_option maxRecDepth 100000 in
theorem c_X6_end (l : Launch) {E : zE} {S : zS} {I : Nat → Nat → Int32} {J : Nat → Nat → Int64} {R : Nat → Nat → Option Nat} {x y : Nat} {w : Int32} (x1 : zO S x 6) (x2 : R x 0 = some y) (x3 : zO S y 5) {post : Int32 → zM → Prop} (hb : ∀ {r ν}, post r ν → r = 0 ∨ r = 1) (hM : zIP l yX5_cut wsX5_cut rmX5_cut E S [.ref y, .int w] (I, J, R) post) : zIP l yX6_end wsX6_end rmX6_end E S [.ref x, .int w] (I, J, R) (post) := by
  refine z_metIP (cc := cX6_end) (maxL := 2) (ty := .boolean) (by decide) rfl (Nat.le_of_ble_eq_true rfl) (fun X h ret => ?_)
  show zV X E S 0 0 (I, J, R) 0 _ []
  refine z_aload_n h dX6_end_0 rfl rfl ?_
  refine z_getR h (by assumption) rfl kw6 0 (by decide) rfl (by assumption) kf_RX6_12 dX6_end_1 ?_
  refine z_iload_n h dX6_end_4 rfl rfl ?_
  refine z_callVIP h (hM) (by assumption) rfl gm_RX6_63 rfl ⟨rfl, rfl⟩ 1 (by decide +kernel) ⟨by decide, by decide⟩ rfl rfl (Nat.le_of_ble_eq_true rfl) ⟨Nat.zero_le _, Nat.zero_le _⟩ dX6_end_5 (fun r ν hν => ?_)
  rcases hb hν with q | q
  · subst q; exact ret hν dX6_end_8 rfl
  · subst q; exact ret hν dX6_end_8 rfl

set_option maxHeartbeats 4000000 in
set_option maxRecDepth 100000 in
theorem c_X6_fault (l : Launch) {E : zE} {S : zS} {I : Nat → Nat → Int32} {J : Nat → Nat → Int64} {R : Nat → Nat → Option Nat} {x y z : Nat} (x1 : zO S x 6) (x2 : R x 1 = some y) (x3 : zO S y 2) (x4 : R x 5 = some z) {post : Int32 → zM → Prop} (hM : zIP l yX2_read wsX2_read rmX2_read E S [.ref y, .ref z] (I, J, R) post) : zIP l yX6_fault wsX6_fault rmX6_fault E S [.ref x] (I, J, R) (post) := by
  refine z_metIP (cc := cX6_fault) (maxL := 1) (ty := .int) (by decide) rfl (Nat.le_of_ble_eq_true rfl) (fun X h ret => ?_)
  show zV X E S 0 0 (I, J, R) 0 _ []
  refine z_aload_n h dX6_fault_0 rfl rfl ?_
  refine z_getR h (by assumption) rfl kw6 1 (by decide) rfl (by assumption) kf_RX6_21 dX6_fault_1 ?_
  refine z_aload_n h dX6_fault_4 rfl rfl ?_
  refine z_getR h (by assumption) rfl kw6 5 (by decide) rfl (by assumption) kf_RX6_39 dX6_fault_5 ?_
  refine z_callVIP h (hM) (by assumption) rfl gm_RX6_67 rfl ⟨rfl, rfl⟩ 1 (by decide +kernel) ⟨by decide, by decide⟩ rfl rfl (Nat.le_of_ble_eq_true rfl) ⟨Nat.zero_le _, Nat.zero_le _⟩ dX6_fault_8 (fun r ν hν => ?_)
  exact ret hν dX6_fault_11 rfl

set_option maxHeartbeats 4000000 in
set_option maxRecDepth 100000 in
theorem c_X4_begin (l : Launch) {E : zE} {S : zS} {I : Nat → Nat → Int32} {J : Nat → Nat → Int64} {R : Nat → Nat → Option Nat} {y z : Nat} (x3 : zO S y 4) (z3 : zO S z 3) {post : zM → Prop} (hM : zNP l yX4_solve wsX4_solve rmX4_solve E S [.ref y] (I, J, zu R y 8 (some z)) post) : zNP l yX4_begin wsX4_begin rmX4_begin E S [.ref y, .ref z] (I, J, R) (post) := by
  refine z_metNP (cc := cX4_begin) (maxL := 2) (by decide) rfl (Nat.le_of_ble_eq_true rfl) (fun X h ret => ?_)
  show zV X E S 0 0 (I, J, R) 0 _ []
  refine z_aload_n h dX4_begin_0 rfl rfl ?_
  refine z_aload_n h dX4_begin_1 rfl rfl ?_
  refine z_putR h (by assumption) rfl kw4 8 (by decide) rfl rfl (rfl) (rfl) kf_RX4_60 dX4_begin_2 ?_
  refine z_aload_n h dX4_begin_5 rfl rfl ?_
  refine z_callVNP h (hM) (by assumption) rfl gm_RX4_64 rfl ⟨rfl, rfl⟩ 0 (by decide +kernel) ⟨by decide, by decide⟩ rfl rfl (Nat.le_of_ble_eq_true rfl) ⟨Nat.zero_le _, Nat.zero_le _⟩ dX4_begin_6 (fun ν hν => ?_)
  exact ret hν dX4_begin_9
