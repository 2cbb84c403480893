section SPLAN1
theorem hi_X1_add_P : ∀ w ∈ u_ws RX1 TX1 12, w ∈ wsX1_add := fun w h => by
  unfold wsX1_add
  simp only [List.mem_cons, List.mem_append]
  first | (simp only [h, or_true, true_or]; done) | (have h2 : w ∈ wsX10 := h; simp only [h2, or_true, true_or]; done)
theorem lk_X1_add_15 : Cond.fieldLink RX1 15 "HatWorks$Planner" "onBlock" "[I" ∈ wsX1_add := List.mem_of_getElem? (i := 3) rfl
theorem lk_X1_add_18 : Cond.fieldLink RX1 18 "HatWorks$Planner" "steams" "[I" ∈ wsX1_add := List.mem_of_getElem? (i := 4) rfl
theorem lk_X1_add_21 : Cond.fieldLink RX1 21 "HatWorks$Planner" "ons" "[I" ∈ wsX1_add := List.mem_of_getElem? (i := 5) rfl
theorem lk_X1_add_24 : Cond.fieldLink RX1 24 "HatWorks$Planner" "weights" "[I" ∈ wsX1_add := List.mem_of_getElem? (i := 6) rfl
theorem lk_X1_add_27 : Cond.fieldLink RX1 27 "HatWorks$Planner" "gone" "[Z" ∈ wsX1_add := List.mem_of_getElem? (i := 7) rfl
theorem lk_X1_add_48 : Cond.fieldLink RX1 48 "HatWorks$Planner" "size" "I" ∈ wsX1_add := List.mem_of_getElem? (i := 2) rfl
theorem lk_X1_add_9 : Cond.fieldLink RX1 9 "HatWorks$Planner" "numbers" "[I" ∈ wsX1_add := List.mem_of_getElem? (i := 1) rfl
theorem hi_X1_bestAt_P : ∀ w ∈ u_ws RX1 TX1 12, w ∈ wsX1_bestAt := fun w h => by
  unfold wsX1_bestAt
  simp only [List.mem_cons, List.mem_append]
  first | (simp only [h, or_true, true_or]; done) | (have h2 : w ∈ wsX10 := h; simp only [h2, or_true, true_or]; done)
theorem lk_X1_bestAt_34 : Cond.fieldLink RX1 34 "HatWorks$Planner" "best" "[I" ∈ wsX1_bestAt := List.mem_of_getElem? (i := 3) rfl
theorem lk_X1_bestAt_48 : Cond.fieldLink RX1 48 "HatWorks$Planner" "size" "I" ∈ wsX1_bestAt := List.mem_of_getElem? (i := 1) rfl
theorem lk_X1_bestAt_9 : Cond.fieldLink RX1 9 "HatWorks$Planner" "numbers" "[I" ∈ wsX1_bestAt := List.mem_of_getElem? (i := 2) rfl
theorem hi_X1_bestCost_P : ∀ w ∈ u_ws RX1 TX1 12, w ∈ wsX1_bestCost := fun w h => by
  unfold wsX1_bestCost
  simp only [List.mem_cons, List.mem_append]
  first | (simp only [h, or_true, true_or]; done) | (have h2 : w ∈ wsX10 := h; simp only [h2, or_true, true_or]; done)
theorem lk_X1_bestCost_44 : Cond.fieldLink RX1 44 "HatWorks$Planner" "leastCost" "J" ∈ wsX1_bestCost := List.mem_of_getElem? (i := 2) rfl
theorem lk_X1_bestCost_48 : Cond.fieldLink RX1 48 "HatWorks$Planner" "size" "I" ∈ wsX1_bestCost := List.mem_of_getElem? (i := 1) rfl
theorem hi_X1_clear_P : ∀ w ∈ u_ws RX1 TX1 12, w ∈ wsX1_clear := fun w h => by
  unfold wsX1_clear
  simp only [List.mem_cons, List.mem_append]
  first | (simp only [h, or_true, true_or]; done) | (have h2 : w ∈ wsX10 := h; simp only [h2, or_true, true_or]; done)
theorem lk_X1_clear_37 : Cond.fieldLink RX1 37 "HatWorks$Planner" "blockFree" "[I" ∈ wsX1_clear := List.mem_of_getElem? (i := 3) rfl
theorem lk_X1_clear_40 : Cond.fieldLink RX1 40 "HatWorks$Planner" "minute" "I" ∈ wsX1_clear := List.mem_of_getElem? (i := 1) rfl
theorem lk_X1_clear_48 : Cond.fieldLink RX1 48 "HatWorks$Planner" "size" "I" ∈ wsX1_clear := List.mem_of_getElem? (i := 2) rfl
theorem hi_X1_keepTried_P : ∀ w ∈ u_ws RX1 TX1 12, w ∈ wsX1_keepTried := fun w h => by
  unfold wsX1_keepTried
  simp only [List.mem_cons, List.mem_append]
  first | (simp only [h, or_true, true_or]; done) | (have h2 : w ∈ wsX10 := h; simp only [h2, or_true, true_or]; done)
theorem lk_X1_keepTried_31 : Cond.fieldLink RX1 31 "HatWorks$Planner" "tried" "[I" ∈ wsX1_keepTried := List.mem_of_getElem? (i := 4) rfl
theorem lk_X1_keepTried_34 : Cond.fieldLink RX1 34 "HatWorks$Planner" "best" "[I" ∈ wsX1_keepTried := List.mem_of_getElem? (i := 3) rfl
theorem lk_X1_keepTried_44 : Cond.fieldLink RX1 44 "HatWorks$Planner" "leastCost" "J" ∈ wsX1_keepTried := List.mem_of_getElem? (i := 1) rfl
theorem lk_X1_keepTried_48 : Cond.fieldLink RX1 48 "HatWorks$Planner" "size" "I" ∈ wsX1_keepTried := List.mem_of_getElem? (i := 2) rfl
theorem lm_X3_startOf_182 : Cond.methodLink RX3 182 Lib.Math.max.name ∈ wsX3_startOf ∧ Cond.static Lib.Math.max.name ∈ wsX3_startOf ∧ Cond.initialized "java/lang/Math" ∈ wsX3_startOf ∧ Cond.code Lib.Math.max.name Lib.Math.max.code 2 (some .int) ∈ wsX3_startOf := ⟨List.mem_of_getElem? (i := 1) rfl, List.mem_of_getElem? (i := 2) rfl, List.mem_of_getElem? (i := 3) rfl, List.mem_of_getElem? (i := 4) rfl⟩
variable {K : hw_K} {l : Launch} {D : va_G} {ad : Nat → Nat} {t : Nat → ClassId} {X : hw_XT} {rm : Room} {g : hw_G} {a : hw_A} {c : Int64}
def mxi (x y : Int32) : Int32 := if x < y then y else x
set_option maxHeartbeats 4000000 in
set_option maxRecDepth 100000 in
theorem k_X_startOf (hok : hw_XOK X) {x y z w : Int32} : hw_Ci l D (WH ad t) (hw_T t) X yX3_startOf wsX3_startOf (hw_rm 1) [.int x, .int y, .int z, .int w] g a c (fun r g' a' c' => r = mxi (mxi x y) (z - w) ∧ g' = g ∧ a' = a ∧ c' = c) := by
  refine hw_Ci.mk (lv0 := [(0, _), (1, _), (2, _), (3, _)]) (by decide) rfl (Nat.le_of_ble_eq_true rfl) rfl (WH_ads ad t) hok (fun K F ret => ?_)
  have F : hw_F K l D (WH ad t) (hw_T t) X cX3_startOf RX3 wsX3_startOf (hw_rm 1) 4 := F
  refine hj_iload_n F 0 dX3_startOf_0 rfl rfl ?_
  refine hj_iload_n F 1 dX3_startOf_1 rfl rfl ?_
  refine hj_mmax F lm_X3_startOf_182.1 lm_X3_startOf_182.2.1 lm_X3_startOf_182.2.2.1 lm_X3_startOf_182.2.2.2 (by decide) (Nat.le_of_ble_eq_true rfl) (Nat.zero_le _) (Nat.zero_le _) dX3_startOf_2 ?_
  refine hj_iload_n F 2 dX3_startOf_5 rfl rfl ?_
  refine hj_iload_n F 3 dX3_startOf_6 rfl rfl ?_
  refine hj_isub F dX3_startOf_7 ?_
  refine hj_mmax F lm_X3_startOf_182.1 lm_X3_startOf_182.2.1 lm_X3_startOf_182.2.2.1 lm_X3_startOf_182.2.2.2 (by decide) (Nat.le_of_ble_eq_true rfl) (Nat.zero_le _) (Nat.zero_le _) dX3_startOf_8 ?_
  exact ret dX3_startOf_11 rfl ⟨rfl, rfl, rfl, rfl⟩
set_option maxHeartbeats 4000000 in
set_option maxRecDepth 100000 in
theorem lp_P_clear (F : hw_F K l D (WH ad t) (hw_T t) X cX1_clear RX1 wsX1_clear rm 4) {x : Int32} (hx : hw_J K (WH ad t) 0 0 g (va_up a 13 (cp_n (a 13) (a 3) 10)) c [(3, .int (nI 10)), (0, .ref (ad 3)), (1, .int x), (2, .ref (ad 13))] 33 []) : ∀ m i : Nat, 10 - i < m → i ≤ 10 → hw_J K (WH ad t) 0 0 g (va_up a 13 (cp_n (a 13) (a 3) i)) c [(3, .int (nI i)), (0, .ref (ad 3)), (1, .int x), (2, .ref (ad 13))] 12 [] := by
  intro m
  induction m with
  | zero => intro i hm; exact absurd hm (Nat.not_lt_zero _)
  | succ m ih =>
    intro i hm hi
    refine hj_iload_n F 0 dX1_clear_12 rfl rfl ?_
    refine hj_bipush F (v := 10) dX1_clear_13 (by decide) ?_
    refine hj_icmp_ge F 33 dX1_clear_15 (by decide) (fun q15 => ?_) (fun q15 => ?_)
    · have q15 : nI 10 ≤ nI i := q15
      rw [nI_leI (by omega) (by omega)] at q15
      obtain rfl : i = 10 := by omega
      exact hx
    · have q15 : ¬ nI 10 ≤ nI i := q15
      rw [nI_leI (by omega) (by omega)] at q15
      refine hj_aload_n F 1 dX1_clear_18 rfl rfl ?_
      refine hg_P_blockFree F hi_X1_clear_P lk_X1_clear_37 dX1_clear_19 ?_
      refine hj_iload_n F 0 dX1_clear_22 rfl rfl ?_
      refine hj_aload_n F 3 dX1_clear_23 rfl rfl ?_
      refine hj_iload_n F 0 dX1_clear_24 rfl rfl ?_
      refine hl_B_freeFrom F (vp_in_nI (show i < 10 by omega) (by decide)) dX1_clear_25 ?_
      refine hs_P_blockFree F (vp_in_nI (show i < 10 by omega) (by decide)) dX1_clear_26 ?_
      refine hj_iinc F 0 (v := _ + 1) (lv' := [(3, _), (0, _), (1, _), (2, _)]) dX1_clear_27 rfl rfl (by decide) rfl ?_
      refine hj_goto F 12 dX1_clear_30 (by decide) ?_
      refine hj_lv [0, 1, 2, 3] rfl ?_
      rw [nI_1, nI_clamp (show i < 2 ^ 31 by omega), vau_s, bx_uu, va_up_ne _ _ (show (3 : Nat) ≠ 13 by decide)]
      exact ih (i + 1) (by omega) (by omega)
set_option maxHeartbeats 4000000 in
set_option maxRecDepth 100000 in
theorem k_P_clear (hok : hw_XOK X) {x : Int32} : hw_Cv l D (WH ad t) (hw_T t) X yX1_clear wsX1_clear (hw_rm 1) [.ref (ad 3), .int x, .ref (ad 13)] g a c (fun g' a' c' => g' = upd (upd g 13 x) 14 0 ∧ a' = (va_up a 13 (cp_n (a 13) (a 3) 10)) ∧ c' = c) := by
  refine hw_Cv.mk (lv0 := [(0, _), (1, _), (2, _)]) (by decide) rfl (Nat.le_of_ble_eq_true rfl) rfl (WH_ads ad t) hok (fun K F ret => ?_)
  have F : hw_F K l D (WH ad t) (hw_T t) X cX1_clear RX1 wsX1_clear (hw_rm 1) 4 := F
  refine hj_aload_n F 0 dX1_clear_0 rfl rfl ?_
  refine hj_iload_n F 1 dX1_clear_1 rfl rfl ?_
  refine hp_P_minute F hi_X1_clear_P lk_X1_clear_40 dX1_clear_2 ?_
  refine hj_aload_n F 0 dX1_clear_5 rfl rfl ?_
  refine hj_iconst F (v := 0) dX1_clear_6 (by decide) ?_
  refine hp_P_size F hi_X1_clear_P lk_X1_clear_48 dX1_clear_7 ?_
  refine hj_iconst F (v := 0) dX1_clear_10 (by decide) ?_
  refine hj_istore_n F (lv' := [(3, _), (0, _), (1, _), (2, _)]) dX1_clear_11 rfl (by decide) rfl ?_
  have h := lp_P_clear F (a := a) (x := x) (ret dX1_clear_33 ⟨rfl, rfl, rfl⟩) 11 0 (by decide) (by decide)
  rw [show cp_n (a 13) (a 3) 0 = a 13 from rfl, vau_self a 13 rfl] at h
  exact h
def pl_add (a : hw_A) (n : Nat) (x : Int32) (o : Nat) : hw_A := va_up (va_up (va_up (va_up (va_up (va_up a 5 (upd (a 5) n x)) 6 (upd (a 6) n (a (100 + o) 0))) 7 (upd (a 7) n (a (100 + o) 4))) 8 (upd (a 8) n (a (100 + o) 5))) 9 (upd (a 9) n (a (100 + o) 7))) 10 (upd (a 10) n 0)
set_option maxHeartbeats 4000000 in
set_option maxRecDepth 100000 in
theorem k_P_add (hok : hw_XOK X) {n o : Nat} {x : Int32} (h14 : g 14 = nI n) (hn : n < 7) (ho : o < 60) : hw_Cv l D (WH ad t) (hw_T t) X yX1_add wsX1_add (hw_rm 1) [.ref (ad 3), .int x, .ref (ad (100 + o))] g a c (fun g' a' c' => g' = upd g 14 (nI (n + 1)) ∧ a' = pl_add a n x o ∧ c' = c) := by
  refine hw_Cv.mk (lv0 := [(0, _), (1, _), (2, _)]) (by decide) rfl (Nat.le_of_ble_eq_true rfl) rfl (WH_ads ad t) hok (fun K F ret => ?_)
  have F : hw_F K l D (WH ad t) (hw_T t) X cX1_add RX1 wsX1_add (hw_rm 1) 3 := F
  refine hj_aload_n F 0 dX1_add_0 rfl rfl ?_
  refine hg_P_numbers F hi_X1_add_P lk_X1_add_9 dX1_add_1 ?_
  refine hj_aload_n F 0 dX1_add_4 rfl rfl ?_
  refine hg_P_size F hi_X1_add_P lk_X1_add_48 dX1_add_5 ?_
  refine hj_iload_n F 1 dX1_add_8 rfl rfl ?_
  refine hs_P_numbers F (by rw [h14]; exact vp_in_nI hn (by decide)) dX1_add_9 ?_
  refine hj_aload_n F 0 dX1_add_10 rfl rfl ?_
  refine hg_P_onBlock F hi_X1_add_P lk_X1_add_15 dX1_add_11 ?_
  refine hj_aload_n F 0 dX1_add_14 rfl rfl ?_
  refine hg_P_size F hi_X1_add_P lk_X1_add_48 dX1_add_15 ?_
  refine hj_aload_n F 2 dX1_add_18 rfl rfl ?_
  refine hj_iconst F (v := 0) dX1_add_19 (by decide) ?_
  refine hl_X_order F ho (by first | assumption | exact hw_inc (by decide)) dX1_add_20 ?_
  refine hs_P_onBlock F (by rw [h14]; exact vp_in_nI hn (by decide)) dX1_add_21 ?_
  refine hj_aload_n F 0 dX1_add_22 rfl rfl ?_
  refine hg_P_steams F hi_X1_add_P lk_X1_add_18 dX1_add_23 ?_
  refine hj_aload_n F 0 dX1_add_26 rfl rfl ?_
  refine hg_P_size F hi_X1_add_P lk_X1_add_48 dX1_add_27 ?_
  refine hj_aload_n F 2 dX1_add_30 rfl rfl ?_
  refine hj_iconst F (v := 4) dX1_add_31 (by decide) ?_
  refine hl_X_order F ho (by first | assumption | exact hw_inc (by decide)) dX1_add_32 ?_
  refine hs_P_steams F (by rw [h14]; exact vp_in_nI hn (by decide)) dX1_add_33 ?_
  refine hj_aload_n F 0 dX1_add_34 rfl rfl ?_
  refine hg_P_ons F hi_X1_add_P lk_X1_add_21 dX1_add_35 ?_
  refine hj_aload_n F 0 dX1_add_38 rfl rfl ?_
  refine hg_P_size F hi_X1_add_P lk_X1_add_48 dX1_add_39 ?_
  refine hj_aload_n F 2 dX1_add_42 rfl rfl ?_
  refine hj_iconst F (v := 5) dX1_add_43 (by decide) ?_
  refine hl_X_order F ho (by first | assumption | exact hw_inc (by decide)) dX1_add_44 ?_
  refine hs_P_ons F (by rw [h14]; exact vp_in_nI hn (by decide)) dX1_add_45 ?_
  refine hj_aload_n F 0 dX1_add_46 rfl rfl ?_
  refine hg_P_weights F hi_X1_add_P lk_X1_add_24 dX1_add_47 ?_
  refine hj_aload_n F 0 dX1_add_50 rfl rfl ?_
  refine hg_P_size F hi_X1_add_P lk_X1_add_48 dX1_add_51 ?_
  refine hj_aload_n F 2 dX1_add_54 rfl rfl ?_
  refine hj_bipush F (v := 7) dX1_add_55 (by decide) ?_
  refine hl_X_order F ho (by first | assumption | exact hw_inc (by decide)) dX1_add_57 ?_
  refine hs_P_weights F (by rw [h14]; exact vp_in_nI hn (by decide)) dX1_add_58 ?_
  refine hj_aload_n F 0 dX1_add_59 rfl rfl ?_
  refine hg_P_gone F hi_X1_add_P lk_X1_add_27 dX1_add_60 ?_
  refine hj_aload_n F 0 dX1_add_63 rfl rfl ?_
  refine hg_P_size F hi_X1_add_P lk_X1_add_48 dX1_add_64 ?_
  refine hj_iconst F (v := 0) dX1_add_67 (by decide) ?_
  refine hs_P_gone F (by rw [h14]; exact vp_in_nI hn (by decide)) dX1_add_68 ?_
  refine hj_aload_n F 0 dX1_add_69 rfl rfl ?_
  refine hj_dup F dX1_add_70 rfl ?_
  refine hg_P_size F hi_X1_add_P lk_X1_add_48 dX1_add_71 ?_
  refine hj_iconst F (v := 1) dX1_add_74 (by decide) ?_
  refine hj_iadd F dX1_add_75 ?_
  refine hp_P_size F hi_X1_add_P lk_X1_add_48 dX1_add_76 ?_
  rw [h14, nI_1, nI_clamp (by omega)]
  refine ret dX1_add_79 ⟨rfl, ?_, rfl⟩
  simp (disch := omega) only [va_up_ne]
  rfl
set_option maxHeartbeats 4000000 in
set_option maxRecDepth 100000 in
theorem k_P_bestCost (hok : hw_XOK X)  : hw_Cl l D (WH ad t) (hw_T t) X yX1_bestCost wsX1_bestCost (hw_rm 1) [.ref (ad 3)] g a c (fun r g' a' c' => r = (if g 14 = 0 then 0 else c) ∧ g' = g ∧ a' = a ∧ c' = c) := by
  refine hw_Cl.mk (lv0 := [(0, _)]) (by decide) rfl (Nat.le_of_ble_eq_true rfl) rfl (WH_ads ad t) hok (fun K F ret => ?_)
  have F : hw_F K l D (WH ad t) (hw_T t) X cX1_bestCost RX1 wsX1_bestCost (hw_rm 1) 1 := F
  refine hj_aload_n F 0 dX1_bestCost_0 rfl rfl ?_
  refine hg_P_size F hi_X1_bestCost_P lk_X1_bestCost_48 dX1_bestCost_1 ?_
  refine hj_if_ne F 11 dX1_bestCost_4 (by decide) (fun q4 => ?_) (fun q4 => ?_)
  · refine hj_aload_n F 0 dX1_bestCost_11 rfl rfl ?_
    refine hg_P_leastCost F hi_X1_bestCost_P lk_X1_bestCost_44 dX1_bestCost_12 ?_
    exact ret dX1_bestCost_15 ⟨(if_neg q4).symm, rfl, rfl, rfl⟩
  · refine hj_lconst F (v := 0) dX1_bestCost_7 (by decide) ?_
    refine hj_goto F 15 dX1_bestCost_8 (by decide) ?_
    exact ret dX1_bestCost_15 ⟨(if_pos q4).symm, rfl, rfl, rfl⟩
set_option maxHeartbeats 4000000 in
set_option maxRecDepth 100000 in
theorem k_P_bestAt (hok : hw_XOK X) {k : Int32} {N : Nat} (h14 : g 14 = nI N) (hN : N ≤ 7) (hb : ∀ i, i < N → vp_in (a 12 i) 7) : hw_Ci l D (WH ad t) (hw_T t) X yX1_bestAt wsX1_bestAt (hw_rm 1) [.ref (ad 3), .int k] g a c (fun r g' a' c' => r = (if k < 0 ∨ nI N ≤ k then -1 else a 5 (a 12 k.toNatClampNeg).toNatClampNeg) ∧ g' = g ∧ a' = a ∧ c' = c) := by
  refine hw_Ci.mk (lv0 := [(0, _), (1, _)]) (by decide) rfl (Nat.le_of_ble_eq_true rfl) rfl (WH_ads ad t) hok (fun K F ret => ?_)
  have F : hw_F K l D (WH ad t) (hw_T t) X cX1_bestAt RX1 wsX1_bestAt (hw_rm 1) 2 := F
  refine hj_iload_n F 1 dX1_bestAt_0 rfl rfl ?_
  refine hj_if_lt F 12 dX1_bestAt_1 (by decide) (fun q1 => ?_) (fun q1 => ?_)
  · refine hj_iconst F (v := -1) dX1_bestAt_12 (by decide) ?_
    refine hj_goto F 27 dX1_bestAt_13 (by decide) ?_
    exact ret dX1_bestAt_27 rfl ⟨by rw [if_pos (Or.inl q1)], rfl, rfl, rfl⟩
  · refine hj_iload_n F 1 dX1_bestAt_4 rfl rfl ?_
    refine hj_aload_n F 0 dX1_bestAt_5 rfl rfl ?_
    refine hg_P_size F hi_X1_bestAt_P lk_X1_bestAt_48 dX1_bestAt_6 ?_
    refine hj_icmp_lt F 16 dX1_bestAt_9 (by decide) (fun q9 => ?_) (fun q9 => ?_)
    · rw [h14] at q9
      obtain ⟨j, hj, rfl⟩ : ∃ j, j < N ∧ k = nI j := by
        rcases pk_ix k (n := N) (by omega) with z | z | z
        · exact absurd z q1
        · exact absurd z (Int32.not_le.mpr q9)
        · exact z
      refine hj_aload_n F 0 dX1_bestAt_16 rfl rfl ?_
      refine hg_P_numbers F hi_X1_bestAt_P lk_X1_bestAt_9 dX1_bestAt_17 ?_
      refine hj_aload_n F 0 dX1_bestAt_20 rfl rfl ?_
      refine hg_P_best F hi_X1_bestAt_P lk_X1_bestAt_34 dX1_bestAt_21 ?_
      refine hj_iload_n F 1 dX1_bestAt_24 rfl rfl ?_
      refine hl_P_best F (vp_in_nI (show j < 7 by omega) (by decide)) dX1_bestAt_25 ?_
      refine hl_P_numbers F (by rw [nI_clamp (by omega)]; exact hb j hj) dX1_bestAt_26 ?_
      exact ret dX1_bestAt_27 rfl ⟨by rw [if_neg (fun z => z.elim q1 (fun z => absurd q9 (Int32.not_lt.mpr z)))], rfl, rfl, rfl⟩
    · rw [h14] at q9
      refine hj_iconst F (v := -1) dX1_bestAt_12 (by decide) ?_
      refine hj_goto F 27 dX1_bestAt_13 (by decide) ?_
      exact ret dX1_bestAt_27 rfl ⟨by rw [if_pos (Or.inr (Int32.not_lt.mp q9))], rfl, rfl, rfl⟩
set_option maxHeartbeats 4000000 in
set_option maxRecDepth 100000 in
theorem lp_P_keepTried (F : hw_F K l D (WH ad t) (hw_T t) X cX1_keepTried RX1 wsX1_keepTried rm 4) {x : Int64} {N : Nat} (h14 : g 14 = nI N) (hN : N ≤ 7) (hx : hw_J K (WH ad t) 0 0 g (va_up a 12 (cp_n (a 12) (a 11) N)) c [(3, .int (nI N)), (0, .ref (ad 3)), (1, .long x)] 33 []) : ∀ m i : Nat, N - i < m → i ≤ N → hw_J K (WH ad t) 0 0 g (va_up a 12 (cp_n (a 12) (a 11) i)) c [(3, .int (nI i)), (0, .ref (ad 3)), (1, .long x)] 7 [] := by
  intro m
  induction m with
  | zero => intro i hm; exact absurd hm (Nat.not_lt_zero _)
  | succ m ih =>
    intro i hm hi
    refine hj_iload_n F 0 dX1_keepTried_7 rfl rfl ?_
    refine hj_aload_n F 1 dX1_keepTried_8 rfl rfl ?_
    refine hg_P_size F hi_X1_keepTried_P lk_X1_keepTried_48 dX1_keepTried_9 ?_
    rw [h14]
    refine hj_icmp_ge F 33 dX1_keepTried_12 (by decide) (fun q12 => ?_) (fun q12 => ?_)
    · rw [nI_leI (by omega) (by omega)] at q12
      obtain rfl : i = N := by omega
      exact hx
    · rw [nI_leI (by omega) (by omega)] at q12
      refine hj_aload_n F 1 dX1_keepTried_15 rfl rfl ?_
      refine hg_P_best F hi_X1_keepTried_P lk_X1_keepTried_34 dX1_keepTried_16 ?_
      refine hj_iload_n F 0 dX1_keepTried_19 rfl rfl ?_
      refine hj_aload_n F 1 dX1_keepTried_20 rfl rfl ?_
      refine hg_P_tried F hi_X1_keepTried_P lk_X1_keepTried_31 dX1_keepTried_21 ?_
      refine hj_iload_n F 0 dX1_keepTried_24 rfl rfl ?_
      refine hl_P_tried F (vp_in_nI (show i < 7 by omega) (by decide)) dX1_keepTried_25 ?_
      refine hs_P_best F (vp_in_nI (show i < 7 by omega) (by decide)) dX1_keepTried_26 ?_
      refine hj_iinc F 0 (v := _ + 1) (lv' := [(3, _), (0, _), (1, _)]) dX1_keepTried_27 rfl rfl (by decide) rfl ?_
      refine hj_goto F 7 dX1_keepTried_30 (by decide) ?_
      refine hj_lv [0, 1, 2] rfl ?_
      rw [nI_1, nI_clamp (show i < 2 ^ 31 by omega), vau_s, bx_uu, va_up_ne _ _ (show (11 : Nat) ≠ 12 by decide)]
      exact ih (i + 1) (by omega) (by omega)
set_option maxHeartbeats 4000000 in
set_option maxRecDepth 100000 in
theorem k_P_keepTried (hok : hw_XOK X) {x : Int64} {N : Nat} (h14 : g 14 = nI N) (hN : N ≤ 7) : hw_Cv l D (WH ad t) (hw_T t) X yX1_keepTried wsX1_keepTried (hw_rm 1) [.ref (ad 3), .long x] g a c (fun g' a' c' => g' = g ∧ a' = (va_up a 12 (cp_n (a 12) (a 11) N)) ∧ c' = x) := by
  refine hw_Cv.mk (lv0 := [(0, _), (1, _)]) (by decide) rfl (Nat.le_of_ble_eq_true rfl) rfl (WH_ads ad t) hok (fun K F ret => ?_)
  have F : hw_F K l D (WH ad t) (hw_T t) X cX1_keepTried RX1 wsX1_keepTried (hw_rm 1) 4 := F
  refine hj_aload_n F 0 dX1_keepTried_0 rfl rfl ?_
  refine hj_lload_n F 1 dX1_keepTried_1 rfl rfl ?_
  refine hp_P_leastCost F hi_X1_keepTried_P lk_X1_keepTried_44 dX1_keepTried_2 ?_
  refine hj_iconst F (v := 0) dX1_keepTried_5 (by decide) ?_
  refine hj_istore_n F (lv' := [(3, _), (0, _), (1, _)]) dX1_keepTried_6 rfl (by decide) rfl ?_
  have h := lp_P_keepTried F (a := a) (x := x) h14 hN (ret dX1_keepTried_33 ⟨rfl, rfl, rfl⟩) (N + 1) 0 (by omega) (Nat.zero_le _)
  rw [show cp_n (a 12) (a 11) 0 = a 12 from rfl, vau_self a 12 rfl] at h
  exact h
end SPLAN1
