section STAPE
theorem hi_X2_blame_T : ∀ w ∈ u_ws RX2 TX2 7, w ∈ wsX2_blame := fun w h => by
  unfold wsX2_blame
  simp only [List.mem_cons, List.mem_append]
  first | (simp only [h, or_true, true_or]; done) | (have h2 : w ∈ wsX20 := h; simp only [h2, or_true, true_or]; done)
theorem lk_X2_blame_26 : Cond.fieldLink RX2 26 "HatWorks$Tape" "fault" "I" ∈ wsX2_blame := List.mem_of_getElem? (i := 1) rfl
theorem lk_X2_blame_29 : Cond.fieldLink RX2 29 "HatWorks$Tape" "faultPlace" "I" ∈ wsX2_blame := List.mem_of_getElem? (i := 2) rfl
theorem hi_X2_readComma_T : ∀ w ∈ u_ws RX2 TX2 7, w ∈ wsX2_readComma := fun w h => by
  unfold wsX2_readComma
  simp only [List.mem_cons, List.mem_append]
  first | (simp only [h, or_true, true_or]; done) | (have h2 : w ∈ wsX20 := h; simp only [h2, or_true, true_or]; done)
theorem lk_X2_readComma_19 : Cond.fieldLink RX2 19 "HatWorks$Tape" "length" "I" ∈ wsX2_readComma := List.mem_of_getElem? (i := 2) rfl
theorem lk_X2_readComma_23 : Cond.fieldLink RX2 23 "HatWorks$Tape" "at" "I" ∈ wsX2_readComma := List.mem_of_getElem? (i := 1) rfl
theorem lk_X2_readComma_9 : Cond.fieldLink RX2 9 "HatWorks$Tape" "bytes" "[B" ∈ wsX2_readComma := List.mem_of_getElem? (i := 3) rfl
theorem hi_X2_readNumber_T : ∀ w ∈ u_ws RX2 TX2 7, w ∈ wsX2_readNumber := fun w h => by
  unfold wsX2_readNumber
  simp only [List.mem_cons, List.mem_append]
  first | (simp only [h, or_true, true_or]; done) | (have h2 : w ∈ wsX20 := h; simp only [h2, or_true, true_or]; done)
theorem lm_X2_readNumber_73 : Cond.methodLink RX2 73 Lib.Math.min.name ∈ wsX2_readNumber ∧ Cond.static Lib.Math.min.name ∈ wsX2_readNumber ∧ Cond.initialized "java/lang/Math" ∈ wsX2_readNumber ∧ Cond.code Lib.Math.min.name Lib.Math.min.code 2 (some .int) ∈ wsX2_readNumber := ⟨List.mem_of_getElem? (i := 4) rfl, List.mem_of_getElem? (i := 5) rfl, List.mem_of_getElem? (i := 6) rfl, List.mem_of_getElem? (i := 7) rfl⟩
theorem lk_X2_readNumber_19 : Cond.fieldLink RX2 19 "HatWorks$Tape" "length" "I" ∈ wsX2_readNumber := List.mem_of_getElem? (i := 2) rfl
theorem lk_X2_readNumber_23 : Cond.fieldLink RX2 23 "HatWorks$Tape" "at" "I" ∈ wsX2_readNumber := List.mem_of_getElem? (i := 1) rfl
theorem lk_X2_readNumber_9 : Cond.fieldLink RX2 9 "HatWorks$Tape" "bytes" "[B" ∈ wsX2_readNumber := List.mem_of_getElem? (i := 3) rfl
theorem hi_X2_skipBlanks_T : ∀ w ∈ u_ws RX2 TX2 7, w ∈ wsX2_skipBlanks := fun w h => by
  unfold wsX2_skipBlanks
  simp only [List.mem_cons, List.mem_append]
  first | (simp only [h, or_true, true_or]; done) | (have h2 : w ∈ wsX20 := h; simp only [h2, or_true, true_or]; done)
theorem lk_X2_skipBlanks_19 : Cond.fieldLink RX2 19 "HatWorks$Tape" "length" "I" ∈ wsX2_skipBlanks := List.mem_of_getElem? (i := 2) rfl
theorem lk_X2_skipBlanks_23 : Cond.fieldLink RX2 23 "HatWorks$Tape" "at" "I" ∈ wsX2_skipBlanks := List.mem_of_getElem? (i := 1) rfl
theorem lk_X2_skipBlanks_9 : Cond.fieldLink RX2 9 "HatWorks$Tape" "bytes" "[B" ∈ wsX2_skipBlanks := List.mem_of_getElem? (i := 3) rfl
theorem hi_X2_skipLetters_T : ∀ w ∈ u_ws RX2 TX2 7, w ∈ wsX2_skipLetters := fun w h => by
  unfold wsX2_skipLetters
  simp only [List.mem_cons, List.mem_append]
  first | (simp only [h, or_true, true_or]; done) | (have h2 : w ∈ wsX20 := h; simp only [h2, or_true, true_or]; done)
theorem lk_X2_skipLetters_19 : Cond.fieldLink RX2 19 "HatWorks$Tape" "length" "I" ∈ wsX2_skipLetters := List.mem_of_getElem? (i := 2) rfl
theorem lk_X2_skipLetters_23 : Cond.fieldLink RX2 23 "HatWorks$Tape" "at" "I" ∈ wsX2_skipLetters := List.mem_of_getElem? (i := 1) rfl
theorem lk_X2_skipLetters_9 : Cond.fieldLink RX2 9 "HatWorks$Tape" "bytes" "[B" ∈ wsX2_skipLetters := List.mem_of_getElem? (i := 3) rfl
theorem hi_X2_startReading_T : ∀ w ∈ u_ws RX2 TX2 7, w ∈ wsX2_startReading := fun w h => by
  unfold wsX2_startReading
  simp only [List.mem_cons, List.mem_append]
  first | (simp only [h, or_true, true_or]; done) | (have h2 : w ∈ wsX20 := h; simp only [h2, or_true, true_or]; done)
theorem lk_X2_startReading_15 : Cond.fieldLink RX2 15 "HatWorks$Tape" "parts" "[I" ∈ wsX2_startReading := List.mem_of_getElem? (i := 5) rfl
theorem lk_X2_startReading_19 : Cond.fieldLink RX2 19 "HatWorks$Tape" "length" "I" ∈ wsX2_startReading := List.mem_of_getElem? (i := 1) rfl
theorem lk_X2_startReading_23 : Cond.fieldLink RX2 23 "HatWorks$Tape" "at" "I" ∈ wsX2_startReading := List.mem_of_getElem? (i := 2) rfl
theorem lk_X2_startReading_26 : Cond.fieldLink RX2 26 "HatWorks$Tape" "fault" "I" ∈ wsX2_startReading := List.mem_of_getElem? (i := 3) rfl
theorem lk_X2_startReading_29 : Cond.fieldLink RX2 29 "HatWorks$Tape" "faultPlace" "I" ∈ wsX2_startReading := List.mem_of_getElem? (i := 4) rfl
theorem hi_X2_take_T : ∀ w ∈ u_ws RX2 TX2 7, w ∈ wsX2_take := fun w h => by
  unfold wsX2_take
  simp only [List.mem_cons, List.mem_append]
  first | (simp only [h, or_true, true_or]; done) | (have h2 : w ∈ wsX20 := h; simp only [h2, or_true, true_or]; done)
theorem lk_X2_take_32 : Cond.fieldLink RX2 32 "HatWorks$Tape" "size" "I" ∈ wsX2_take := List.mem_of_getElem? (i := 1) rfl
theorem lk_X2_take_9 : Cond.fieldLink RX2 9 "HatWorks$Tape" "bytes" "[B" ∈ wsX2_take := List.mem_of_getElem? (i := 2) rfl
theorem hi_X2_valueOf_T : ∀ w ∈ u_ws RX2 TX2 7, w ∈ wsX2_valueOf := fun w h => by
  unfold wsX2_valueOf
  simp only [List.mem_cons, List.mem_append]
  first | (simp only [h, or_true, true_or]; done) | (have h2 : w ∈ wsX20 := h; simp only [h2, or_true, true_or]; done)
theorem lk_X2_valueOf_15 : Cond.fieldLink RX2 15 "HatWorks$Tape" "parts" "[I" ∈ wsX2_valueOf := List.mem_of_getElem? (i := 1) rfl
variable {K : hw_K} {l : Launch} {D : va_G} {ad : Nat → Nat} {t : Nat → ClassId} {X : hw_XT} {rm : Room} {g : hw_G} {a : hw_A} {c : Int64}
set_option maxHeartbeats 4000000 in
set_option maxRecDepth 100000 in
theorem k_T_blame (hok : hw_XOK X) {k p : Int32} : hw_Cv l D (WH ad t) (hw_T t) X yX2_blame wsX2_blame (hw_rm 1) [.ref (ad 1), .int k, .int p] g a c (fun g' a' c' => g' = upd (upd g 9 k) 10 p ∧ a' = a ∧ c' = c) := by
  refine hw_Cv.mk (lv0 := [(0, _), (1, _), (2, _)]) (by decide) rfl (Nat.le_of_ble_eq_true rfl) rfl (WH_ads ad t) hok (fun K F ret => ?_)
  have F : hw_F K l D (WH ad t) (hw_T t) X cX2_blame RX2 wsX2_blame (hw_rm 1) 3 := F
  refine hj_aload_n F 0 dX2_blame_0 rfl rfl ?_
  refine hj_iload_n F 1 dX2_blame_1 rfl rfl ?_
  refine hp_T_fault F hi_X2_blame_T lk_X2_blame_26 dX2_blame_2 ?_
  refine hj_aload_n F 0 dX2_blame_5 rfl rfl ?_
  refine hj_iload_n F 2 dX2_blame_6 rfl rfl ?_
  refine hp_T_faultPlace F hi_X2_blame_T lk_X2_blame_29 dX2_blame_7 ?_
  exact ret dX2_blame_10 ⟨rfl, rfl, rfl⟩
def tp_v (x : Int32) : Int32 := if x = -1 then 0 else x
set_option maxHeartbeats 4000000 in
set_option maxRecDepth 100000 in
theorem k_T_valueOf (hok : hw_XOK X) {x : Int32} (hx : vp_in x 4) : hw_Ci l D (WH ad t) (hw_T t) X yX2_valueOf wsX2_valueOf (hw_rm 1) [.ref (ad 1), .int x] g a c (fun r g' a' c' => r = tp_v (a 2 x.toNatClampNeg) ∧ g' = g ∧ a' = a ∧ c' = c) := by
  refine hw_Ci.mk (lv0 := [(0, _), (1, _)]) (by decide) rfl (Nat.le_of_ble_eq_true rfl) rfl (WH_ads ad t) hok (fun K F ret => ?_)
  have F : hw_F K l D (WH ad t) (hw_T t) X cX2_valueOf RX2 wsX2_valueOf (hw_rm 1) 2 := F
  refine hj_aload_n F 0 dX2_valueOf_0 rfl rfl ?_
  refine hg_T_parts F hi_X2_valueOf_T lk_X2_valueOf_15 dX2_valueOf_1 ?_
  refine hj_iload_n F 1 dX2_valueOf_4 rfl rfl ?_
  refine hl_T_parts F (by first | assumption | exact hw_inc (by decide)) dX2_valueOf_5 ?_
  refine hj_iconst F (v := -1) dX2_valueOf_6 (by decide) ?_
  refine hj_icmp_ne F 14 dX2_valueOf_7 (by decide) (fun q7 => ?_) (fun q7 => ?_)
  · refine hj_aload_n F 0 dX2_valueOf_14 rfl rfl ?_
    refine hg_T_parts F hi_X2_valueOf_T lk_X2_valueOf_15 dX2_valueOf_15 ?_
    refine hj_iload_n F 1 dX2_valueOf_18 rfl rfl ?_
    refine hl_T_parts F (by first | assumption | exact hw_inc (by decide)) dX2_valueOf_19 ?_
    exact ret dX2_valueOf_20 rfl ⟨(if_neg q7).symm, rfl, rfl, rfl⟩
  · refine hj_iconst F (v := 0) dX2_valueOf_10 (by decide) ?_
    refine hj_goto F 20 dX2_valueOf_11 (by decide) ?_
    exact ret dX2_valueOf_20 rfl ⟨(if_pos q7).symm, rfl, rfl, rfl⟩
set_option maxHeartbeats 4000000 in
set_option maxRecDepth 100000 in
theorem k_T_price (hok : hw_XOK X)  : hw_Ci l D (WH ad t) (hw_T t) X yX2_price wsX2_price (hw_rm 2) [.ref (ad 1)] g a c (fun r g' a' c' => r = 4 * tp_v (a 2 0) * tp_v (a 2 3) + 3 * tp_v (a 2 1) * tp_v (a 2 3) + 10 * tp_v (a 2 2) ∧ g' = g ∧ a' = a ∧ c' = c) := by
  refine hw_Ci.mk (lv0 := [(0, _)]) (by decide) rfl (Nat.le_of_ble_eq_true rfl) rfl (WH_ads ad t) hok (fun K F ret => ?_)
  have F : hw_F K l D (WH ad t) (hw_T t) X cX2_price RX2 wsX2_price (hw_rm 2) 2 := F
  refine hj_aload_n F 0 dX2_price_0 rfl rfl ?_
  refine hj_iconst F (v := 3) dX2_price_1 (by decide) ?_
  refine hj_cVi F (n := 1) (k_T_valueOf hok (hw_inc (by decide))) gX2_price_X2_valueOf rfl ⟨rfl, rfl⟩ (by decide +kernel) ⟨by decide, by decide⟩ 1 2 rfl rfl (As := [_]) rfl rfl (Nat.le_of_ble_eq_true rfl) ⟨Nat.zero_le _, Nat.zero_le _⟩ dX2_price_2 (hw_eq4 ?_)
  refine hj_istore_n F (lv' := [(1, _), (0, _)]) dX2_price_5 rfl (by decide) rfl ?_
  refine hj_iconst F (v := 4) dX2_price_6 (by decide) ?_
  refine hj_aload_n F 1 dX2_price_7 rfl rfl ?_
  refine hj_iconst F (v := 0) dX2_price_8 (by decide) ?_
  refine hj_cVi F (n := 1) (k_T_valueOf hok (hw_inc (by decide))) gX2_price_X2_valueOf rfl ⟨rfl, rfl⟩ (by decide +kernel) ⟨by decide, by decide⟩ 1 2 rfl rfl (As := [_]) rfl rfl (Nat.le_of_ble_eq_true rfl) ⟨Nat.zero_le _, Nat.zero_le _⟩ dX2_price_9 (hw_eq4 ?_)
  refine hj_imul F dX2_price_12 ?_
  refine hj_iload_n F 0 dX2_price_13 rfl rfl ?_
  refine hj_imul F dX2_price_14 ?_
  refine hj_iconst F (v := 3) dX2_price_15 (by decide) ?_
  refine hj_aload_n F 1 dX2_price_16 rfl rfl ?_
  refine hj_iconst F (v := 1) dX2_price_17 (by decide) ?_
  refine hj_cVi F (n := 1) (k_T_valueOf hok (hw_inc (by decide))) gX2_price_X2_valueOf rfl ⟨rfl, rfl⟩ (by decide +kernel) ⟨by decide, by decide⟩ 1 2 rfl rfl (As := [_]) rfl rfl (Nat.le_of_ble_eq_true rfl) ⟨Nat.zero_le _, Nat.zero_le _⟩ dX2_price_18 (hw_eq4 ?_)
  refine hj_imul F dX2_price_21 ?_
  refine hj_iload_n F 0 dX2_price_22 rfl rfl ?_
  refine hj_imul F dX2_price_23 ?_
  refine hj_iadd F dX2_price_24 ?_
  refine hj_bipush F (v := 10) dX2_price_25 (by decide) ?_
  refine hj_aload_n F 1 dX2_price_27 rfl rfl ?_
  refine hj_iconst F (v := 2) dX2_price_28 (by decide) ?_
  refine hj_cVi F (n := 1) (k_T_valueOf hok (hw_inc (by decide))) gX2_price_X2_valueOf rfl ⟨rfl, rfl⟩ (by decide +kernel) ⟨by decide, by decide⟩ 1 2 rfl rfl (As := [_]) rfl rfl (Nat.le_of_ble_eq_true rfl) ⟨Nat.zero_le _, Nat.zero_le _⟩ dX2_price_29 (hw_eq4 ?_)
  refine hj_imul F dX2_price_32 ?_
  refine hj_iadd F dX2_price_33 ?_
  exact ret dX2_price_34 rfl ⟨rfl, rfl, rfl, rfl⟩
set_option maxHeartbeats 4000000 in
set_option maxRecDepth 100000 in
theorem k_T_steamMinutes (hok : hw_XOK X)  : hw_Ci l D (WH ad t) (hw_T t) X yX2_steamMinutes wsX2_steamMinutes (hw_rm 2) [.ref (ad 1)] g a c (fun r g' a' c' => r = 6 * tp_v (a 2 3) + tp_v (a 2 1) ∧ g' = g ∧ a' = a ∧ c' = c) := by
  refine hw_Ci.mk (lv0 := [(0, _)]) (by decide) rfl (Nat.le_of_ble_eq_true rfl) rfl (WH_ads ad t) hok (fun K F ret => ?_)
  have F : hw_F K l D (WH ad t) (hw_T t) X cX2_steamMinutes RX2 wsX2_steamMinutes (hw_rm 2) 1 := F
  refine hj_bipush F (v := 6) dX2_steamMinutes_0 (by decide) ?_
  refine hj_aload_n F 0 dX2_steamMinutes_2 rfl rfl ?_
  refine hj_iconst F (v := 3) dX2_steamMinutes_3 (by decide) ?_
  refine hj_cVi F (n := 1) (k_T_valueOf hok (hw_inc (by decide))) gX2_steamMinutes_X2_valueOf rfl ⟨rfl, rfl⟩ (by decide +kernel) ⟨by decide, by decide⟩ 1 2 rfl rfl (As := [_]) rfl rfl (Nat.le_of_ble_eq_true rfl) ⟨Nat.zero_le _, Nat.zero_le _⟩ dX2_steamMinutes_4 (hw_eq4 ?_)
  refine hj_imul F dX2_steamMinutes_7 ?_
  refine hj_aload_n F 0 dX2_steamMinutes_8 rfl rfl ?_
  refine hj_iconst F (v := 1) dX2_steamMinutes_9 (by decide) ?_
  refine hj_cVi F (n := 1) (k_T_valueOf hok (hw_inc (by decide))) gX2_steamMinutes_X2_valueOf rfl ⟨rfl, rfl⟩ (by decide +kernel) ⟨by decide, by decide⟩ 1 2 rfl rfl (As := [_]) rfl rfl (Nat.le_of_ble_eq_true rfl) ⟨Nat.zero_le _, Nat.zero_le _⟩ dX2_steamMinutes_10 (hw_eq4 ?_)
  refine hj_iadd F dX2_steamMinutes_13 ?_
  exact ret dX2_steamMinutes_14 rfl ⟨rfl, rfl, rfl, rfl⟩
set_option maxHeartbeats 4000000 in
set_option maxRecDepth 100000 in
theorem k_T_onMinutes (hok : hw_XOK X)  : hw_Ci l D (WH ad t) (hw_T t) X yX2_onMinutes wsX2_onMinutes (hw_rm 2) [.ref (ad 1)] g a c (fun r g' a' c' => r = 10 + tp_v (a 2 0) + 20 * tp_v (a 2 3) ∧ g' = g ∧ a' = a ∧ c' = c) := by
  refine hw_Ci.mk (lv0 := [(0, _)]) (by decide) rfl (Nat.le_of_ble_eq_true rfl) rfl (WH_ads ad t) hok (fun K F ret => ?_)
  have F : hw_F K l D (WH ad t) (hw_T t) X cX2_onMinutes RX2 wsX2_onMinutes (hw_rm 2) 1 := F
  refine hj_bipush F (v := 10) dX2_onMinutes_0 (by decide) ?_
  refine hj_aload_n F 0 dX2_onMinutes_2 rfl rfl ?_
  refine hj_iconst F (v := 0) dX2_onMinutes_3 (by decide) ?_
  refine hj_cVi F (n := 1) (k_T_valueOf hok (hw_inc (by decide))) gX2_onMinutes_X2_valueOf rfl ⟨rfl, rfl⟩ (by decide +kernel) ⟨by decide, by decide⟩ 1 2 rfl rfl (As := [_]) rfl rfl (Nat.le_of_ble_eq_true rfl) ⟨Nat.zero_le _, Nat.zero_le _⟩ dX2_onMinutes_4 (hw_eq4 ?_)
  refine hj_iadd F dX2_onMinutes_7 ?_
  refine hj_bipush F (v := 20) dX2_onMinutes_8 (by decide) ?_
  refine hj_aload_n F 0 dX2_onMinutes_10 rfl rfl ?_
  refine hj_iconst F (v := 3) dX2_onMinutes_11 (by decide) ?_
  refine hj_cVi F (n := 1) (k_T_valueOf hok (hw_inc (by decide))) gX2_onMinutes_X2_valueOf rfl ⟨rfl, rfl⟩ (by decide +kernel) ⟨by decide, by decide⟩ 1 2 rfl rfl (As := [_]) rfl rfl (Nat.le_of_ble_eq_true rfl) ⟨Nat.zero_le _, Nat.zero_le _⟩ dX2_onMinutes_12 (hw_eq4 ?_)
  refine hj_imul F dX2_onMinutes_15 ?_
  refine hj_iadd F dX2_onMinutes_16 ?_
  exact ret dX2_onMinutes_17 rfl ⟨rfl, rfl, rfl, rfl⟩
def tp_none (f : Nat → Int32) : Nat → Int32 := upd (upd (upd (upd f 0 (-1)) 1 (-1)) 2 (-1)) 3 (-1)
set_option maxHeartbeats 4000000 in
set_option maxRecDepth 100000 in
theorem k_T_startReading (hok : hw_XOK X) {n : Int32} : hw_Cv l D (WH ad t) (hw_T t) X yX2_startReading wsX2_startReading (hw_rm 1) [.ref (ad 1), .int n] g a c (fun g' a' c' => g' = upd (upd (upd (upd g 7 n) 8 0) 9 0) 10 (-1) ∧ a' = va_up a 2 (tp_none (a 2)) ∧ c' = c) := by
  refine hw_Cv.mk (lv0 := [(0, _), (1, _)]) (by decide) rfl (Nat.le_of_ble_eq_true rfl) rfl (WH_ads ad t) hok (fun K F ret => ?_)
  have F : hw_F K l D (WH ad t) (hw_T t) X cX2_startReading RX2 wsX2_startReading (hw_rm 1) 3 := F
  refine hj_aload_n F 0 dX2_startReading_0 rfl rfl ?_
  refine hj_iload_n F 1 dX2_startReading_1 rfl rfl ?_
  refine hp_T_length F hi_X2_startReading_T lk_X2_startReading_19 dX2_startReading_2 ?_
  refine hj_aload_n F 0 dX2_startReading_5 rfl rfl ?_
  refine hj_iconst F (v := 0) dX2_startReading_6 (by decide) ?_
  refine hp_T_at F hi_X2_startReading_T lk_X2_startReading_23 dX2_startReading_7 ?_
  refine hj_aload_n F 0 dX2_startReading_10 rfl rfl ?_
  refine hj_iconst F (v := 0) dX2_startReading_11 (by decide) ?_
  refine hp_T_fault F hi_X2_startReading_T lk_X2_startReading_26 dX2_startReading_12 ?_
  refine hj_aload_n F 0 dX2_startReading_15 rfl rfl ?_
  refine hj_iconst F (v := -1) dX2_startReading_16 (by decide) ?_
  refine hp_T_faultPlace F hi_X2_startReading_T lk_X2_startReading_29 dX2_startReading_17 ?_
  refine hj_iconst F (v := 0) dX2_startReading_20 (by decide) ?_
  refine hj_istore_n F (lv' := [(2, _), (0, _), (1, _)]) dX2_startReading_21 rfl (by decide) rfl ?_
  refine hj_iload_n F 0 dX2_startReading_22 rfl rfl ?_
  refine hj_iconst F (v := 4) dX2_startReading_23 (by decide) ?_
  refine hj_icmp_ge F 40 dX2_startReading_24 (by decide) (fun q24 => ?_) (fun q24 => ?_)
  · exact absurd q24 (by decide)
  · refine hj_aload_n F 1 dX2_startReading_27 rfl rfl ?_
    refine hg_T_parts F hi_X2_startReading_T lk_X2_startReading_15 dX2_startReading_28 ?_
    refine hj_iload_n F 0 dX2_startReading_31 rfl rfl ?_
    refine hj_iconst F (v := -1) dX2_startReading_32 (by decide) ?_
    refine hs_T_parts F (by first | assumption | exact hw_inc (by decide)) dX2_startReading_33 ?_
    refine hj_iinc F 0 (v := _ + 1) (lv' := [(2, _), (0, _), (1, _)]) dX2_startReading_34 rfl rfl (by decide) rfl ?_
    refine hj_goto F 22 dX2_startReading_37 (by decide) ?_
    refine hj_iload_n F 0 dX2_startReading_22 rfl rfl ?_
    refine hj_iconst F (v := 4) dX2_startReading_23 (by decide) ?_
    refine hj_icmp_ge F 40 dX2_startReading_24 (by decide) (fun q24_2 => ?_) (fun q24_2 => ?_)
    · exact absurd q24_2 (by decide)
    · refine hj_aload_n F 1 dX2_startReading_27 rfl rfl ?_
      refine hg_T_parts F hi_X2_startReading_T lk_X2_startReading_15 dX2_startReading_28 ?_
      refine hj_iload_n F 0 dX2_startReading_31 rfl rfl ?_
      refine hj_iconst F (v := -1) dX2_startReading_32 (by decide) ?_
      refine hs_T_parts F (by first | assumption | exact hw_inc (by decide)) dX2_startReading_33 ?_
      refine hj_iinc F 0 (v := _ + 1) (lv' := [(2, _), (0, _), (1, _)]) dX2_startReading_34 rfl rfl (by decide) rfl ?_
      refine hj_goto F 22 dX2_startReading_37 (by decide) ?_
      refine hj_iload_n F 0 dX2_startReading_22 rfl rfl ?_
      refine hj_iconst F (v := 4) dX2_startReading_23 (by decide) ?_
      refine hj_icmp_ge F 40 dX2_startReading_24 (by decide) (fun q24_3 => ?_) (fun q24_3 => ?_)
      · exact absurd q24_3 (by decide)
      · refine hj_aload_n F 1 dX2_startReading_27 rfl rfl ?_
        refine hg_T_parts F hi_X2_startReading_T lk_X2_startReading_15 dX2_startReading_28 ?_
        refine hj_iload_n F 0 dX2_startReading_31 rfl rfl ?_
        refine hj_iconst F (v := -1) dX2_startReading_32 (by decide) ?_
        refine hs_T_parts F (by first | assumption | exact hw_inc (by decide)) dX2_startReading_33 ?_
        refine hj_iinc F 0 (v := _ + 1) (lv' := [(2, _), (0, _), (1, _)]) dX2_startReading_34 rfl rfl (by decide) rfl ?_
        refine hj_goto F 22 dX2_startReading_37 (by decide) ?_
        refine hj_iload_n F 0 dX2_startReading_22 rfl rfl ?_
        refine hj_iconst F (v := 4) dX2_startReading_23 (by decide) ?_
        refine hj_icmp_ge F 40 dX2_startReading_24 (by decide) (fun q24_4 => ?_) (fun q24_4 => ?_)
        · exact absurd q24_4 (by decide)
        · refine hj_aload_n F 1 dX2_startReading_27 rfl rfl ?_
          refine hg_T_parts F hi_X2_startReading_T lk_X2_startReading_15 dX2_startReading_28 ?_
          refine hj_iload_n F 0 dX2_startReading_31 rfl rfl ?_
          refine hj_iconst F (v := -1) dX2_startReading_32 (by decide) ?_
          refine hs_T_parts F (by first | assumption | exact hw_inc (by decide)) dX2_startReading_33 ?_
          refine hj_iinc F 0 (v := _ + 1) (lv' := [(2, _), (0, _), (1, _)]) dX2_startReading_34 rfl rfl (by decide) rfl ?_
          refine hj_goto F 22 dX2_startReading_37 (by decide) ?_
          refine hj_iload_n F 0 dX2_startReading_22 rfl rfl ?_
          refine hj_iconst F (v := 4) dX2_startReading_23 (by decide) ?_
          refine hj_icmp_ge F 40 dX2_startReading_24 (by decide) (fun q24_5 => ?_) (fun q24_5 => ?_)
          · refine ret dX2_startReading_40 ⟨rfl, ?_, rfl⟩
            simp only [bx_uu, vau_s]
            rfl
          · exact absurd (by decide) q24_5
def tp_sh (x s : Int32) : Int32 := vp_nar .byte (x.toUInt32 >>> (s.toUInt32 &&& Int32.toUInt32 31)).toInt32.toInt8.toInt32
def tp_put4 (f : Nat → Int32) (n : Nat) (x : Int32) : Nat → Int32 := upd (upd (upd (upd f n (tp_sh x 24)) (n + 1) (tp_sh x 16)) (n + 2) (tp_sh x 8)) (n + 3) (tp_sh x 0)
def tp_bl (b : Nat → Int32) (i : Nat) : Bool := b i == 32
def tp_le (b : Nat → Int32) (i : Nat) : Bool := decide (97 ≤ b i) && decide (b i ≤ 122)
def tp_di (b : Nat → Int32) (i : Nat) : Bool := decide (48 ≤ b i) && decide (b i ≤ 57)
def tp_nx (v d : Int32) : Int32 := if 1000 < v * 10 + (d - 48) then 1000 else v * 10 + (d - 48)
def tp_rn (b : Nat → Int32) : Nat → Nat → Int32 → Int32
  | 0, _, v => v
  | k + 1, n, v => if tp_di b n then tp_rn b k (n + 1) (tp_nx v (b n)) else v
def tp_rv (b : Nat → Int32) (L n : Nat) (v : Int32) : Int32 := tp_rn b (L - n) n v
theorem tp_rv_t {b : Nat → Int32} {L n : Nat} {v : Int32} (h : n < L) (hp : tp_di b n = true) : tp_rv b L n v = tp_rv b L (n + 1) (tp_nx v (b n)) := by
  unfold tp_rv
  rw [show L - n = (L - (n + 1)) + 1 by omega]
  show (if tp_di b n then _ else _) = _
  rw [if_pos hp]
theorem tp_rv_f {b : Nat → Int32} {L n : Nat} {v : Int32} (h : ¬ (n < L ∧ tp_di b n = true)) : tp_rv b L n v = v := by
  unfold tp_rv
  by_cases hn : n < L
  · rw [show L - n = (L - (n + 1)) + 1 by omega]
    show (if tp_di b n then _ else _) = _
    rw [if_neg (fun q => h ⟨hn, q⟩)]
  · rw [show L - n = 0 by omega]
    rfl
set_option maxHeartbeats 4000000 in
set_option maxRecDepth 100000 in
theorem lp_T_skipBlanks (F : hw_F K l D (WH ad t) (hw_T t) X cX2_skipBlanks RX2 wsX2_skipBlanks rm 1) {L : Nat} (hL : g 7 = nI L) (hL1 : L ≤ 100) : ∀ (m n : Nat), L - n < m → n ≤ L → hw_J K (WH ad t) 0 0 (upd g 8 (nI (skp (tp_bl (a 1)) L n))) a c [(0, .ref (ad 1))] 38 [] → hw_J K (WH ad t) 0 0 (upd g 8 (nI n)) a c [(0, .ref (ad 1))] 0 [] := by
  intro m
  induction m with
  | zero => intro n hm; exact absurd hm (Nat.not_lt_zero _)
  | succ m ih =>
    intro n hm hn hx
    have e8 : upd g 8 (nI n) 8 = nI n := pk_us
    have e7 : upd g 8 (nI n) 7 = nI L := by rw [pk_un (by decide)]; exact hL
    refine hj_aload_n F 0 dX2_skipBlanks_0 rfl rfl ?_
    refine hg_T_at F hi_X2_skipBlanks_T lk_X2_skipBlanks_23 dX2_skipBlanks_1 ?_
    refine hj_aload_n F 0 dX2_skipBlanks_4 rfl rfl ?_
    refine hg_T_length F hi_X2_skipBlanks_T lk_X2_skipBlanks_19 dX2_skipBlanks_5 ?_
    refine hj_icmp_ge F 38 dX2_skipBlanks_8 (by decide) (fun q8 => ?_) (fun q8 => ?_)
    · rw [e7, e8, nI_leI (by omega) (by omega)] at q8
      rw [skp_f (by omega)] at hx
      exact hx
    · rw [e7, e8, nI_leI (by omega) (by omega)] at q8
      have hlt : n < L := by omega
      refine hj_aload_n F 0 dX2_skipBlanks_11 rfl rfl ?_
      refine hg_T_bytes F hi_X2_skipBlanks_T lk_X2_skipBlanks_9 dX2_skipBlanks_12 ?_
      refine hj_aload_n F 0 dX2_skipBlanks_15 rfl rfl ?_
      refine hg_T_at F hi_X2_skipBlanks_T lk_X2_skipBlanks_23 dX2_skipBlanks_16 ?_
      refine hl_T_bytes F (by rw [e8]; exact vp_in_nI (by omega) (by decide)) dX2_skipBlanks_19 ?_
      refine hj_bipush F (v := 32) dX2_skipBlanks_20 (by decide) ?_
      refine hj_icmp_ne F 38 dX2_skipBlanks_22 (by decide) (fun q22 => ?_) (fun q22 => ?_)
      · rw [e8, nI_clamp (by omega)] at q22
        rw [skp_f (fun z => q22 (by simpa [tp_bl] using z.2))] at hx
        exact hx
      · rw [e8, nI_clamp (by omega)] at q22
        refine hj_aload_n F 0 dX2_skipBlanks_25 rfl rfl ?_
        refine hj_dup F dX2_skipBlanks_26 rfl ?_
        refine hg_T_at F hi_X2_skipBlanks_T lk_X2_skipBlanks_23 dX2_skipBlanks_27 ?_
        refine hj_iconst F (v := 1) dX2_skipBlanks_30 (by decide) ?_
        refine hj_iadd F dX2_skipBlanks_31 ?_
        refine hp_T_at F hi_X2_skipBlanks_T lk_X2_skipBlanks_23 dX2_skipBlanks_32 ?_
        refine hj_goto F 0 dX2_skipBlanks_35 (by decide) ?_
        rw [e8, nI_1, upd_uu]
        exact ih (n + 1) (by omega) (by omega) (by rw [skp_t hlt (by simp [tp_bl, q22])] at hx; exact hx)
set_option maxHeartbeats 4000000 in
set_option maxRecDepth 100000 in
theorem k_T_skipBlanks (hok : hw_XOK X) {L n : Nat} (hL : g 7 = nI L) (hL1 : L ≤ 100) (hn : g 8 = nI n) (hnL : n ≤ L) : hw_Cv l D (WH ad t) (hw_T t) X yX2_skipBlanks wsX2_skipBlanks (hw_rm 1) [.ref (ad 1)] g a c (fun g' a' c' => g' = upd g 8 (nI (skp (tp_bl (a 1)) L n)) ∧ a' = a ∧ c' = c) := by
  refine hw_Cv.mk (lv0 := [(0, _)]) (by decide) rfl (Nat.le_of_ble_eq_true rfl) rfl (WH_ads ad t) hok (fun K F ret => ?_)
  have F : hw_F K l D (WH ad t) (hw_T t) X cX2_skipBlanks RX2 wsX2_skipBlanks (hw_rm 1) 1 := F
  have h := lp_T_skipBlanks F hL hL1 (a := a) (c := c) (L - n + 1) n (by omega) hnL (ret dX2_skipBlanks_38 ⟨rfl, rfl, rfl⟩)
  rw [upd_self g 8 hn] at h
  exact h
set_option maxHeartbeats 4000000 in
set_option maxRecDepth 100000 in
theorem lp_T_skipLetters (F : hw_F K l D (WH ad t) (hw_T t) X cX2_skipLetters RX2 wsX2_skipLetters rm 1) {L : Nat} (hL : g 7 = nI L) (hL1 : L ≤ 100) : ∀ (m n : Nat), L - n < m → n ≤ L → hw_J K (WH ad t) 0 0 (upd g 8 (nI (skp (tp_le (a 1)) L n))) a c [(0, .ref (ad 1))] 52 [] → hw_J K (WH ad t) 0 0 (upd g 8 (nI n)) a c [(0, .ref (ad 1))] 0 [] := by
  intro m
  induction m with
  | zero => intro n hm; exact absurd hm (Nat.not_lt_zero _)
  | succ m ih =>
    intro n hm hn hx
    have e8 : upd g 8 (nI n) 8 = nI n := pk_us
    have e7 : upd g 8 (nI n) 7 = nI L := by rw [pk_un (by decide)]; exact hL
    refine hj_aload_n F 0 dX2_skipLetters_0 rfl rfl ?_
    refine hg_T_at F hi_X2_skipLetters_T lk_X2_skipLetters_23 dX2_skipLetters_1 ?_
    refine hj_aload_n F 0 dX2_skipLetters_4 rfl rfl ?_
    refine hg_T_length F hi_X2_skipLetters_T lk_X2_skipLetters_19 dX2_skipLetters_5 ?_
    refine hj_icmp_ge F 52 dX2_skipLetters_8 (by decide) (fun q8 => ?_) (fun q8 => ?_)
    · rw [e7, e8, nI_leI (by omega) (by omega)] at q8
      rw [skp_f (by omega)] at hx
      exact hx
    · rw [e7, e8, nI_leI (by omega) (by omega)] at q8
      have hlt : n < L := by omega
      refine hj_aload_n F 0 dX2_skipLetters_11 rfl rfl ?_
      refine hg_T_bytes F hi_X2_skipLetters_T lk_X2_skipLetters_9 dX2_skipLetters_12 ?_
      refine hj_aload_n F 0 dX2_skipLetters_15 rfl rfl ?_
      refine hg_T_at F hi_X2_skipLetters_T lk_X2_skipLetters_23 dX2_skipLetters_16 ?_
      refine hl_T_bytes F (by rw [e8]; exact vp_in_nI (by omega) (by decide)) dX2_skipLetters_19 ?_
      refine hj_bipush F (v := 97) dX2_skipLetters_20 (by decide) ?_
      refine hj_icmp_lt F 52 dX2_skipLetters_22 (by decide) (fun q22 => ?_) (fun q22 => ?_)
      · rw [e8, nI_clamp (by omega)] at q22
        rw [skp_f (fun z => by have := z.2; simp only [tp_le, Bool.and_eq_true, decide_eq_true_eq] at this; exact absurd q22 (Int32.not_lt.mpr this.1))] at hx
        exact hx
      · rw [e8, nI_clamp (by omega)] at q22
        refine hj_aload_n F 0 dX2_skipLetters_25 rfl rfl ?_
        refine hg_T_bytes F hi_X2_skipLetters_T lk_X2_skipLetters_9 dX2_skipLetters_26 ?_
        refine hj_aload_n F 0 dX2_skipLetters_29 rfl rfl ?_
        refine hg_T_at F hi_X2_skipLetters_T lk_X2_skipLetters_23 dX2_skipLetters_30 ?_
        refine hl_T_bytes F (by rw [e8]; exact vp_in_nI (by omega) (by decide)) dX2_skipLetters_33 ?_
        refine hj_bipush F (v := 122) dX2_skipLetters_34 (by decide) ?_
        refine hj_icmp_gt F 52 dX2_skipLetters_36 (by decide) (fun q36 => ?_) (fun q36 => ?_)
        · rw [e8, nI_clamp (by omega)] at q36
          rw [skp_f (fun z => by have := z.2; simp only [tp_le, Bool.and_eq_true, decide_eq_true_eq] at this; exact absurd q36 (Int32.not_lt.mpr this.2))] at hx
          exact hx
        · rw [e8, nI_clamp (by omega)] at q36
          refine hj_aload_n F 0 dX2_skipLetters_39 rfl rfl ?_
          refine hj_dup F dX2_skipLetters_40 rfl ?_
          refine hg_T_at F hi_X2_skipLetters_T lk_X2_skipLetters_23 dX2_skipLetters_41 ?_
          refine hj_iconst F (v := 1) dX2_skipLetters_44 (by decide) ?_
          refine hj_iadd F dX2_skipLetters_45 ?_
          refine hp_T_at F hi_X2_skipLetters_T lk_X2_skipLetters_23 dX2_skipLetters_46 ?_
          refine hj_goto F 0 dX2_skipLetters_49 (by decide) ?_
          rw [e8, nI_1, upd_uu]
          exact ih (n + 1) (by omega) (by omega) (by rw [skp_t hlt (by simp only [tp_le, Bool.and_eq_true, decide_eq_true_eq]; exact ⟨Int32.not_lt.mp q22, Int32.not_lt.mp q36⟩)] at hx; exact hx)
set_option maxHeartbeats 4000000 in
set_option maxRecDepth 100000 in
theorem k_T_skipLetters (hok : hw_XOK X) {L n : Nat} (hL : g 7 = nI L) (hL1 : L ≤ 100) (hn : g 8 = nI n) (hnL : n ≤ L) : hw_Cv l D (WH ad t) (hw_T t) X yX2_skipLetters wsX2_skipLetters (hw_rm 1) [.ref (ad 1)] g a c (fun g' a' c' => g' = upd g 8 (nI (skp (tp_le (a 1)) L n)) ∧ a' = a ∧ c' = c) := by
  refine hw_Cv.mk (lv0 := [(0, _)]) (by decide) rfl (Nat.le_of_ble_eq_true rfl) rfl (WH_ads ad t) hok (fun K F ret => ?_)
  have F : hw_F K l D (WH ad t) (hw_T t) X cX2_skipLetters RX2 wsX2_skipLetters (hw_rm 1) 1 := F
  have h := lp_T_skipLetters F hL hL1 (a := a) (c := c) (L - n + 1) n (by omega) hnL (ret dX2_skipLetters_52 ⟨rfl, rfl, rfl⟩)
  rw [upd_self g 8 hn] at h
  exact h
set_option maxHeartbeats 4000000 in
set_option maxRecDepth 100000 in
theorem lp_T_readNumber (F : hw_F K l D (WH ad t) (hw_T t) X cX2_readNumber RX2 wsX2_readNumber rm 2) {L : Nat} (hL : g 7 = nI L) (hL1 : L ≤ 100) (hrm : 1 ≤ rm.frames ∧ 64 ≤ rm.locals) : ∀ (m n : Nat) (v : Int32), L - n < m → n ≤ L → hw_J K (WH ad t) 0 0 (upd g 8 (nI (skp (tp_di (a 1)) L n))) a c [(1, .int (tp_rv (a 1) L n v)), (0, .ref (ad 1))] 78 [] → hw_J K (WH ad t) 0 0 (upd g 8 (nI n)) a c [(1, .int v), (0, .ref (ad 1))] 2 [] := by
  intro m
  induction m with
  | zero => intro n v hm; exact absurd hm (Nat.not_lt_zero _)
  | succ m ih =>
    intro n v hm hn hx
    have e8 : upd g 8 (nI n) 8 = nI n := pk_us
    have e7 : upd g 8 (nI n) 7 = nI L := by rw [pk_un (by decide)]; exact hL
    refine hj_aload_n F 1 dX2_readNumber_2 rfl rfl ?_
    refine hg_T_at F hi_X2_readNumber_T lk_X2_readNumber_23 dX2_readNumber_3 ?_
    refine hj_aload_n F 1 dX2_readNumber_6 rfl rfl ?_
    refine hg_T_length F hi_X2_readNumber_T lk_X2_readNumber_19 dX2_readNumber_7 ?_
    refine hj_icmp_ge F 78 dX2_readNumber_10 (by decide) (fun q10 => ?_) (fun q10 => ?_)
    · rw [e7, e8, nI_leI (by omega) (by omega)] at q10
      have hf : ¬ (n < L ∧ tp_di (a 1) n = true) := by omega
      rw [skp_f hf, tp_rv_f hf] at hx
      exact hx
    · rw [e7, e8, nI_leI (by omega) (by omega)] at q10
      have hlt : n < L := by omega
      refine hj_aload_n F 1 dX2_readNumber_13 rfl rfl ?_
      refine hg_T_bytes F hi_X2_readNumber_T lk_X2_readNumber_9 dX2_readNumber_14 ?_
      refine hj_aload_n F 1 dX2_readNumber_17 rfl rfl ?_
      refine hg_T_at F hi_X2_readNumber_T lk_X2_readNumber_23 dX2_readNumber_18 ?_
      refine hl_T_bytes F (by rw [e8]; exact vp_in_nI (by omega) (by decide)) dX2_readNumber_21 ?_
      refine hj_bipush F (v := 48) dX2_readNumber_22 (by decide) ?_
      refine hj_icmp_lt F 78 dX2_readNumber_24 (by decide) (fun q24 => ?_) (fun q24 => ?_)
      · rw [e8, nI_clamp (by omega)] at q24
        have hf : ¬ (n < L ∧ tp_di (a 1) n = true) := fun z => by have := z.2; simp only [tp_di, Bool.and_eq_true, decide_eq_true_eq] at this; exact absurd q24 (Int32.not_lt.mpr this.1)
        rw [skp_f hf, tp_rv_f hf] at hx
        exact hx
      · rw [e8, nI_clamp (by omega)] at q24
        refine hj_aload_n F 1 dX2_readNumber_27 rfl rfl ?_
        refine hg_T_bytes F hi_X2_readNumber_T lk_X2_readNumber_9 dX2_readNumber_28 ?_
        refine hj_aload_n F 1 dX2_readNumber_31 rfl rfl ?_
        refine hg_T_at F hi_X2_readNumber_T lk_X2_readNumber_23 dX2_readNumber_32 ?_
        refine hl_T_bytes F (by rw [e8]; exact vp_in_nI (by omega) (by decide)) dX2_readNumber_35 ?_
        refine hj_bipush F (v := 57) dX2_readNumber_36 (by decide) ?_
        refine hj_icmp_gt F 78 dX2_readNumber_38 (by decide) (fun q38 => ?_) (fun q38 => ?_)
        · rw [e8, nI_clamp (by omega)] at q38
          have hf : ¬ (n < L ∧ tp_di (a 1) n = true) := fun z => by have := z.2; simp only [tp_di, Bool.and_eq_true, decide_eq_true_eq] at this; exact absurd q38 (Int32.not_lt.mpr this.2)
          rw [skp_f hf, tp_rv_f hf] at hx
          exact hx
        · rw [e8, nI_clamp (by omega)] at q38
          refine hj_iload_n F 0 dX2_readNumber_41 rfl rfl ?_
          refine hj_bipush F (v := 10) dX2_readNumber_42 (by decide) ?_
          refine hj_imul F dX2_readNumber_44 ?_
          refine hj_aload_n F 1 dX2_readNumber_45 rfl rfl ?_
          refine hg_T_bytes F hi_X2_readNumber_T lk_X2_readNumber_9 dX2_readNumber_46 ?_
          refine hj_aload_n F 1 dX2_readNumber_49 rfl rfl ?_
          refine hg_T_at F hi_X2_readNumber_T lk_X2_readNumber_23 dX2_readNumber_50 ?_
          refine hl_T_bytes F (by rw [e8]; exact vp_in_nI (by omega) (by decide)) dX2_readNumber_53 ?_
          refine hj_bipush F (v := 48) dX2_readNumber_54 (by decide) ?_
          refine hj_isub F dX2_readNumber_56 ?_
          refine hj_iadd F dX2_readNumber_57 ?_
          refine hj_sipush F (v := 1000) dX2_readNumber_58 (by decide) ?_
          refine hj_mmin F lm_X2_readNumber_73.1 lm_X2_readNumber_73.2.1 lm_X2_readNumber_73.2.2.1 lm_X2_readNumber_73.2.2.2 hrm.1 (by simp; omega) (Nat.zero_le _) (Nat.zero_le _) dX2_readNumber_61 ?_
          refine hj_istore_n F (lv' := [(1, _), (0, _)]) dX2_readNumber_64 rfl (by decide) rfl ?_
          refine hj_aload_n F 1 dX2_readNumber_65 rfl rfl ?_
          refine hj_dup F dX2_readNumber_66 rfl ?_
          refine hg_T_at F hi_X2_readNumber_T lk_X2_readNumber_23 dX2_readNumber_67 ?_
          refine hj_iconst F (v := 1) dX2_readNumber_70 (by decide) ?_
          refine hj_iadd F dX2_readNumber_71 ?_
          refine hp_T_at F hi_X2_readNumber_T lk_X2_readNumber_23 dX2_readNumber_72 ?_
          refine hj_goto F 2 dX2_readNumber_75 (by decide) ?_
          have hd : tp_di (a 1) n = true := by simp only [tp_di, Bool.and_eq_true, decide_eq_true_eq]; exact ⟨Int32.not_lt.mp q24, Int32.not_lt.mp q38⟩
          rw [skp_t hlt hd, tp_rv_t hlt hd] at hx
          rw [e8, nI_1, upd_uu, nI_clamp (by omega)]
          exact ih (n + 1) _ (by omega) (by omega) hx
set_option maxHeartbeats 4000000 in
set_option maxRecDepth 100000 in
theorem k_T_readNumber (hok : hw_XOK X) {L n : Nat} (hL : g 7 = nI L) (hL1 : L ≤ 100) (hn : g 8 = nI n) (hnL : n ≤ L) : hw_Ci l D (WH ad t) (hw_T t) X yX2_readNumber wsX2_readNumber (hw_rm 1) [.ref (ad 1)] g a c (fun r g' a' c' => r = tp_rv (a 1) L n 0 ∧ g' = upd g 8 (nI (skp (tp_di (a 1)) L n)) ∧ a' = a ∧ c' = c) := by
  refine hw_Ci.mk (lv0 := [(0, _)]) (by decide) rfl (Nat.le_of_ble_eq_true rfl) rfl (WH_ads ad t) hok (fun K F ret => ?_)
  have F : hw_F K l D (WH ad t) (hw_T t) X cX2_readNumber RX2 wsX2_readNumber (hw_rm 1) 2 := F
  have hend : hw_J K (WH ad t) 0 0 (upd g 8 (nI (skp (tp_di (a 1)) L n))) a c [(1, .int (tp_rv (a 1) L n 0)), (0, .ref (ad 1))] 78 [] := by
    refine hj_iload_n F 0 dX2_readNumber_78 rfl rfl ?_
    exact ret dX2_readNumber_79 rfl ⟨rfl, rfl, rfl, rfl⟩
  refine hj_iconst F (v := 0) dX2_readNumber_0 (by decide) ?_
  refine hj_istore_n F (lv' := [(1, _), (0, _)]) dX2_readNumber_1 rfl (by decide) rfl ?_
  have h := lp_T_readNumber F hL hL1 (by decide) (a := a) (c := c) (L - n + 1) n 0 (by omega) hnL hend
  rw [upd_self g 8 hn] at h
  exact h
set_option maxHeartbeats 4000000 in
set_option maxRecDepth 100000 in
theorem st_T_take (F : hw_F K l D (WH ad t) (hw_T t) X cX2_take RX2 wsX2_take rm 3) {n : Nat} {x s : Int32} (hs : ¬ s < 0) (hn : g 11 = nI n) (hn1 : n < 100) (h1 : hw_J K (WH ad t) 0 0 (upd g 11 (nI (n + 1))) (va_up a 1 (upd (a 1) n (tp_sh x s))) c [(2, .int (s + (-8))), (0, .ref (ad 1)), (1, .int x)] 3 []) : hw_J K (WH ad t) 0 0 g a c [(2, .int s), (0, .ref (ad 1)), (1, .int x)] 3 [] := by
  refine hj_iload_n F 0 dX2_take_3 rfl rfl ?_
  refine hj_if_lt F 45 dX2_take_4 (by decide) (fun q4 => ?_) (fun q4 => ?_)
  · exact absurd q4 hs
  · refine hj_aload_n F 1 dX2_take_7 rfl rfl ?_
    refine hg_T_size F hi_X2_take_T lk_X2_take_32 dX2_take_8 ?_
    refine hj_bipush F (v := 100) dX2_take_11 (by decide) ?_
    refine hj_icmp_ge F 45 dX2_take_13 (by decide) (fun q13 => ?_) (fun q13 => ?_)
    · exact absurd q13 (by rw [hn]; exact nI_ge hn1 (by decide))
    · refine hj_aload_n F 1 dX2_take_16 rfl rfl ?_
      refine hg_T_bytes F hi_X2_take_T lk_X2_take_9 dX2_take_17 ?_
      refine hj_aload_n F 1 dX2_take_20 rfl rfl ?_
      refine hg_T_size F hi_X2_take_T lk_X2_take_32 dX2_take_21 ?_
      refine hj_iload_n F 2 dX2_take_24 rfl rfl ?_
      refine hj_iload_n F 0 dX2_take_25 rfl rfl ?_
      refine hj_iushr F dX2_take_26 ?_
      refine hj_i2b F dX2_take_27 ?_
      refine hs_T_bytes F (by rw [hn]; exact vp_in_nI hn1 (by decide)) dX2_take_28 ?_
      refine hj_aload_n F 1 dX2_take_29 rfl rfl ?_
      refine hj_dup F dX2_take_30 rfl ?_
      refine hg_T_size F hi_X2_take_T lk_X2_take_32 dX2_take_31 ?_
      refine hj_iconst F (v := 1) dX2_take_34 (by decide) ?_
      refine hj_iadd F dX2_take_35 ?_
      refine hp_T_size F hi_X2_take_T lk_X2_take_32 dX2_take_36 ?_
      refine hj_iinc F 0 (v := _ + (-8)) (lv' := [(2, _), (0, _), (1, _)]) dX2_take_39 rfl rfl (by decide) rfl ?_
      refine hj_goto F 3 dX2_take_42 (by decide) ?_
      rw [hn, nI_1, nI_clamp (by omega)]
      exact h1
set_option maxHeartbeats 4000000 in
set_option maxRecDepth 100000 in
theorem se_T_take (F : hw_F K l D (WH ad t) (hw_T t) X cX2_take RX2 wsX2_take rm 3) {x s : Int32} (hs : s < 0) (h1 : hw_J K (WH ad t) 0 0 g a c [(2, .int s), (0, .ref (ad 1)), (1, .int x)] 45 []) : hw_J K (WH ad t) 0 0 g a c [(2, .int s), (0, .ref (ad 1)), (1, .int x)] 3 [] := by
  refine hj_iload_n F 0 dX2_take_3 rfl rfl ?_
  refine hj_if_lt F 45 dX2_take_4 (by decide) (fun q4 => ?_) (fun q4 => ?_)
  · exact h1
  · exact absurd hs q4
set_option maxHeartbeats 4000000 in
set_option maxRecDepth 100000 in
theorem k_T_take (hok : hw_XOK X) {n : Nat} {x : Int32} (hn : g 11 = nI n) (hn1 : n + 4 ≤ 100) : hw_Cv l D (WH ad t) (hw_T t) X yX2_take wsX2_take (hw_rm 1) [.ref (ad 1), .int x] g a c (fun g' a' c' => g' = upd g 11 (nI (n + 4)) ∧ a' = va_up a 1 (tp_put4 (a 1) n x) ∧ c' = c) := by
  refine hw_Cv.mk (lv0 := [(0, _), (1, _)]) (by decide) rfl (Nat.le_of_ble_eq_true rfl) rfl (WH_ads ad t) hok (fun K F ret => ?_)
  have F : hw_F K l D (WH ad t) (hw_T t) X cX2_take RX2 wsX2_take (hw_rm 1) 3 := F
  refine hj_bipush F (v := 24) dX2_take_0 (by decide) ?_
  refine hj_istore_n F (lv' := [(2, _), (0, _), (1, _)]) dX2_take_2 rfl (by decide) rfl ?_
  refine st_T_take F (by decide) hn (by omega) ?_
  refine st_T_take F (by decide) pk_us (by omega) ?_
  refine st_T_take F (by decide) pk_us (by omega) ?_
  refine st_T_take F (by decide) pk_us (by omega) ?_
  refine se_T_take F (by decide) ?_
  refine ret dX2_take_45 ⟨?_, ?_, rfl⟩
  · simp only [upd_uu]
  · simp only [bx_uu, vau_s]
    rfl
set_option maxHeartbeats 4000000 in
set_option maxRecDepth 100000 in
theorem k_T_readComma (hok : hw_XOK X) {L n : Nat} (hL : g 7 = nI L) (hL1 : L ≤ 100) (hn : g 8 = nI n) (hnL : n ≤ L) : hw_Ci l D (WH ad t) (hw_T t) X yX2_readComma wsX2_readComma (hw_rm 2) [.ref (ad 1)] g a c (fun r g' a' c' => a' = a ∧ c' = c ∧ (if L ≤ (skp (tp_bl (a 1)) L n) then r = 0 ∧ g' = upd g 8 (nI (skp (tp_bl (a 1)) L n)) else if a 1 (skp (tp_bl (a 1)) L n) = 44 then r = 1 ∧ g' = upd g 8 (nI ((skp (tp_bl (a 1)) L n) + 1)) else r = 0 ∧ g' = upd (upd (upd g 8 (nI (skp (tp_bl (a 1)) L n))) 9 1) 10 (nI (skp (tp_bl (a 1)) L n)))) := by
  refine hw_Ci.mk (lv0 := [(0, _)]) (by decide) rfl (Nat.le_of_ble_eq_true rfl) rfl (WH_ads ad t) hok (fun K F ret => ?_)
  have F : hw_F K l D (WH ad t) (hw_T t) X cX2_readComma RX2 wsX2_readComma (hw_rm 2) 1 := F
  have hb1 := skp_ge (tp_bl (a 1)) hnL
  generalize hn1 : (skp (tp_bl (a 1)) L n) = n1 at hb1 ⊢
  refine hj_aload_n F 0 dX2_readComma_0 rfl rfl ?_
  refine hj_cVv F (n := 0) (k_T_skipBlanks hok hL hL1 hn hnL) gX2_readComma_X2_skipBlanks rfl ⟨rfl, rfl⟩ (by decide +kernel) ⟨by decide, by decide⟩ 1 2 rfl rfl (As := []) rfl rfl (Nat.le_of_ble_eq_true rfl) ⟨Nat.zero_le _, Nat.zero_le _⟩ dX2_readComma_1 (hw_eq3 ?_)
  rw [hn1]
  have e8 : upd g 8 (nI n1) 8 = nI n1 := pk_us
  have e7 : upd g 8 (nI n1) 7 = nI L := by rw [pk_un (by decide)]; exact hL
  refine hj_aload_n F 0 dX2_readComma_4 rfl rfl ?_
  refine hg_T_at F hi_X2_readComma_T lk_X2_readComma_23 dX2_readComma_5 ?_
  refine hj_aload_n F 0 dX2_readComma_8 rfl rfl ?_
  refine hg_T_length F hi_X2_readComma_T lk_X2_readComma_19 dX2_readComma_9 ?_
  refine hj_icmp_lt F 17 dX2_readComma_12 (by decide) (fun q12 => ?_) (fun q12 => ?_)
  · rw [e8, e7, nI_ltI (by omega) (by omega)] at q12
    refine hj_aload_n F 0 dX2_readComma_17 rfl rfl ?_
    refine hg_T_bytes F hi_X2_readComma_T lk_X2_readComma_9 dX2_readComma_18 ?_
    refine hj_aload_n F 0 dX2_readComma_21 rfl rfl ?_
    refine hg_T_at F hi_X2_readComma_T lk_X2_readComma_23 dX2_readComma_22 ?_
    refine hl_T_bytes F (by rw [e8]; exact vp_in_nI (by omega) (by decide)) dX2_readComma_25 ?_
    refine hj_bipush F (v := 44) dX2_readComma_26 (by decide) ?_
    refine hj_icmp_eq F 42 dX2_readComma_28 (by decide) (fun q28 => ?_) (fun q28 => ?_)
    · rw [e8, nI_clamp (by omega)] at q28
      refine hj_aload_n F 0 dX2_readComma_42 rfl rfl ?_
      refine hj_dup F dX2_readComma_43 rfl ?_
      refine hg_T_at F hi_X2_readComma_T lk_X2_readComma_23 dX2_readComma_44 ?_
      refine hj_iconst F (v := 1) dX2_readComma_47 (by decide) ?_
      refine hj_iadd F dX2_readComma_48 ?_
      refine hp_T_at F hi_X2_readComma_T lk_X2_readComma_23 dX2_readComma_49 ?_
      refine hj_iconst F (v := 1) dX2_readComma_52 (by decide) ?_
      exact ret dX2_readComma_53 rfl ⟨rfl, rfl, by rw [hn1, if_neg (by omega), if_pos q28, e8, nI_1, upd_uu]; exact ⟨rfl, rfl⟩⟩
    · rw [e8, nI_clamp (by omega)] at q28
      refine hj_aload_n F 0 dX2_readComma_31 rfl rfl ?_
      refine hj_iconst F (v := 1) dX2_readComma_32 (by decide) ?_
      refine hj_aload_n F 0 dX2_readComma_33 rfl rfl ?_
      refine hg_T_at F hi_X2_readComma_T lk_X2_readComma_23 dX2_readComma_34 ?_
      refine hj_cVv F (n := 2) (k_T_blame hok) gX2_readComma_X2_blame rfl ⟨rfl, rfl⟩ (by decide +kernel) ⟨by decide, by decide⟩ 1 2 rfl rfl (As := [_, _]) rfl rfl (Nat.le_of_ble_eq_true rfl) ⟨Nat.zero_le _, Nat.zero_le _⟩ dX2_readComma_37 (hw_eq3 ?_)
      refine hj_iconst F (v := 0) dX2_readComma_40 (by decide) ?_
      exact ret dX2_readComma_41 rfl ⟨rfl, rfl, by rw [hn1, if_neg (by omega), if_neg q28, e8]; exact ⟨rfl, rfl⟩⟩
  · rw [e8, e7, nI_ltI (by omega) (by omega)] at q12
    refine hj_iconst F (v := 0) dX2_readComma_15 (by decide) ?_
    exact ret dX2_readComma_16 rfl ⟨rfl, rfl, by rw [hn1, if_pos (by omega)]; exact ⟨rfl, rfl⟩⟩
end STAPE
