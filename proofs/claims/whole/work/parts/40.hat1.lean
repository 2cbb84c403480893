section SHAT1
theorem hi_X3_countWaiting_X : ∀ w ∈ u_ws RX3 TX3 12, w ∈ wsX3_countWaiting := fun w h => by
  unfold wsX3_countWaiting
  simp only [List.mem_cons, List.mem_append]
  first | (simp only [h, or_true, true_or]; done) | (have h2 : w ∈ wsX30 := h; simp only [h2, or_true, true_or]; done)
theorem lk_X3_countWaiting_43 : Cond.fieldLink RX3 43 "HatWorks" "orderCount" "I" ∈ wsX3_countWaiting := List.mem_of_getElem? (i := 1) rfl
theorem hi_X3_fault_X : ∀ w ∈ u_ws RX3 TX3 12, w ∈ wsX3_fault := fun w h => by
  unfold wsX3_fault
  simp only [List.mem_cons, List.mem_append]
  first | (simp only [h, or_true, true_or]; done) | (have h2 : w ∈ wsX30 := h; simp only [h2, or_true, true_or]; done)
theorem lk_X3_fault_55 : Cond.fieldLink RX3 55 "HatWorks" "faultPlace" "I" ∈ wsX3_fault := List.mem_of_getElem? (i := 1) rfl
theorem hi_X3_holderOf_B : ∀ w ∈ u_ws RX0 TX0 5, w ∈ wsX3_holderOf := fun w h => by
  unfold wsX3_holderOf
  simp only [List.mem_cons, List.mem_append]
  first | (simp only [h, or_true, true_or]; done) | (have h2 : w ∈ wsX00 := h; simp only [h2, or_true, true_or]; done)
theorem hi_X3_holderOf_X : ∀ w ∈ u_ws RX3 TX3 12, w ∈ wsX3_holderOf := fun w h => by
  unfold wsX3_holderOf
  simp only [List.mem_cons, List.mem_append]
  first | (simp only [h, or_true, true_or]; done) | (have h2 : w ∈ wsX30 := h; simp only [h2, or_true, true_or]; done)
theorem lk_X3_holderOf_197 : Cond.fieldLink RX3 197 "HatWorks$Blocks" "latest" "[I" ∈ wsX3_holderOf := List.mem_of_getElem? (i := 5) rfl
theorem lk_X3_holderOf_23 : Cond.fieldLink RX3 23 "HatWorks" "blocks" "LHatWorks$Blocks;" ∈ wsX3_holderOf := List.mem_of_getElem? (i := 4) rfl
theorem lk_X3_holderOf_46 : Cond.fieldLink RX3 46 "HatWorks" "now" "I" ∈ wsX3_holderOf := List.mem_of_getElem? (i := 1) rfl
theorem lk_X3_holderOf_49 : Cond.fieldLink RX3 49 "HatWorks" "steamerFree" "I" ∈ wsX3_holderOf := List.mem_of_getElem? (i := 2) rfl
theorem lk_X3_holderOf_52 : Cond.fieldLink RX3 52 "HatWorks" "steamerLatest" "I" ∈ wsX3_holderOf := List.mem_of_getElem? (i := 3) rfl
theorem hi_X3_isDone_X : ∀ w ∈ u_ws RX3 TX3 12, w ∈ wsX3_isDone := fun w h => by
  unfold wsX3_isDone
  simp only [List.mem_cons, List.mem_append]
  first | (simp only [h, or_true, true_or]; done) | (have h2 : w ∈ wsX30 := h; simp only [h2, or_true, true_or]; done)
theorem lk_X3_isDone_29 : Cond.fieldLink RX3 29 "HatWorks" "orders" "[[I" ∈ wsX3_isDone := List.mem_of_getElem? (i := 2) rfl
theorem lk_X3_isDone_46 : Cond.fieldLink RX3 46 "HatWorks" "now" "I" ∈ wsX3_isDone := List.mem_of_getElem? (i := 1) rfl
theorem hi_X3_isLate_X : ∀ w ∈ u_ws RX3 TX3 12, w ∈ wsX3_isLate := fun w h => by
  unfold wsX3_isLate
  simp only [List.mem_cons, List.mem_append]
  first | (simp only [h, or_true, true_or]; done) | (have h2 : w ∈ wsX30 := h; simp only [h2, or_true, true_or]; done)
theorem lk_X3_isLate_29 : Cond.fieldLink RX3 29 "HatWorks" "orders" "[[I" ∈ wsX3_isLate := List.mem_of_getElem? (i := 1) rfl
theorem lk_X3_isLate_46 : Cond.fieldLink RX3 46 "HatWorks" "now" "I" ∈ wsX3_isLate := List.mem_of_getElem? (i := 2) rfl
theorem hi_X3_isWaiting_X : ∀ w ∈ u_ws RX3 TX3 12, w ∈ wsX3_isWaiting := fun w h => by
  unfold wsX3_isWaiting
  simp only [List.mem_cons, List.mem_append]
  first | (simp only [h, or_true, true_or]; done) | (have h2 : w ∈ wsX30 := h; simp only [h2, or_true, true_or]; done)
theorem lk_X3_isWaiting_29 : Cond.fieldLink RX3 29 "HatWorks" "orders" "[[I" ∈ wsX3_isWaiting := List.mem_of_getElem? (i := 1) rfl
theorem hi_X3_late_X : ∀ w ∈ u_ws RX3 TX3 12, w ∈ wsX3_late := fun w h => by
  unfold wsX3_late
  simp only [List.mem_cons, List.mem_append]
  first | (simp only [h, or_true, true_or]; done) | (have h2 : w ∈ wsX30 := h; simp only [h2, or_true, true_or]; done)
theorem lk_X3_late_43 : Cond.fieldLink RX3 43 "HatWorks" "orderCount" "I" ∈ wsX3_late := List.mem_of_getElem? (i := 1) rfl
theorem hi_X3_send_B : ∀ w ∈ u_ws RX0 TX0 5, w ∈ wsX3_send := fun w h => by
  unfold wsX3_send
  simp only [List.mem_cons, List.mem_append]
  first | (simp only [h, or_true, true_or]; done) | (have h2 : w ∈ wsX00 := h; simp only [h2, or_true, true_or]; done)
theorem hi_X3_send_X : ∀ w ∈ u_ws RX3 TX3 12, w ∈ wsX3_send := fun w h => by
  unfold wsX3_send
  simp only [List.mem_cons, List.mem_append]
  first | (simp only [h, or_true, true_or]; done) | (have h2 : w ∈ wsX30 := h; simp only [h2, or_true, true_or]; done)
theorem lk_X3_send_147 : Cond.fieldLink RX3 147 "HatWorks$Blocks" "wears" "[[I" ∈ wsX3_send := List.mem_of_getElem? (i := 8) rfl
theorem lk_X3_send_187 : Cond.fieldLink RX3 187 "HatWorks$Blocks" "freeFrom" "[I" ∈ wsX3_send := List.mem_of_getElem? (i := 5) rfl
theorem lk_X3_send_197 : Cond.fieldLink RX3 197 "HatWorks$Blocks" "latest" "[I" ∈ wsX3_send := List.mem_of_getElem? (i := 7) rfl
theorem lk_X3_send_23 : Cond.fieldLink RX3 23 "HatWorks" "blocks" "LHatWorks$Blocks;" ∈ wsX3_send := List.mem_of_getElem? (i := 4) rfl
theorem lk_X3_send_29 : Cond.fieldLink RX3 29 "HatWorks" "orders" "[[I" ∈ wsX3_send := List.mem_of_getElem? (i := 1) rfl
theorem lk_X3_send_46 : Cond.fieldLink RX3 46 "HatWorks" "now" "I" ∈ wsX3_send := List.mem_of_getElem? (i := 2) rfl
theorem lk_X3_send_49 : Cond.fieldLink RX3 49 "HatWorks" "steamerFree" "I" ∈ wsX3_send := List.mem_of_getElem? (i := 3) rfl
theorem lk_X3_send_52 : Cond.fieldLink RX3 52 "HatWorks" "steamerLatest" "I" ∈ wsX3_send := List.mem_of_getElem? (i := 6) rfl
theorem lk_X3_send_58 : Cond.fieldLink RX3 58 "HatWorks" "bestStands" "Z" ∈ wsX3_send := List.mem_of_getElem? (i := 9) rfl
variable {K : hw_K} {l : Launch} {D : va_G} {ad : Nat → Nat} {t : Nat → ClassId} {X : hw_XT} {rm : Room} {g : hw_G} {a : hw_A} {c : Int64}
set_option maxHeartbeats 4000000 in
set_option maxRecDepth 100000 in
theorem k_X_fault (hok : hw_XOK X)  : hw_Ci l D (WH ad t) (hw_T t) X yX3_fault wsX3_fault (hw_rm 1) [.ref (ad 0)] g a c (fun r g' a' c' => r = g 5 ∧ g' = g ∧ a' = a ∧ c' = c) := by
  refine hw_Ci.mk (lv0 := [(0, _)]) (by decide) rfl (Nat.le_of_ble_eq_true rfl) rfl (WH_ads ad t) hok (fun K F ret => ?_)
  have F : hw_F K l D (WH ad t) (hw_T t) X cX3_fault RX3 wsX3_fault (hw_rm 1) 1 := F
  refine hj_aload_n F 0 dX3_fault_0 rfl rfl ?_
  refine hg_X_faultPlace F hi_X3_fault_X lk_X3_fault_55 dX3_fault_1 ?_
  exact ret dX3_fault_4 rfl ⟨rfl, rfl, rfl, rfl⟩
set_option maxHeartbeats 4000000 in
set_option maxRecDepth 100000 in
theorem k_X_isWaiting (hok : hw_XOK X) {o : Nat} (ho : o < 60) : hw_Ci l D (WH ad t) (hw_T t) X yX3_isWaiting wsX3_isWaiting (hw_rm 1) [.ref (ad 0), .int (nI o)] g a c (fun r g' a' c' => r = (if a (100 + o) 9 = -1 then 1 else 0) ∧ g' = g ∧ a' = a ∧ c' = c) := by
  refine hw_Ci.mk (lv0 := [(0, _), (1, _)]) (by decide) rfl (Nat.le_of_ble_eq_true rfl) rfl (WH_ads ad t) hok (fun K F ret => ?_)
  have F : hw_F K l D (WH ad t) (hw_T t) X cX3_isWaiting RX3 wsX3_isWaiting (hw_rm 1) 2 := F
  refine hj_aload_n F 0 dX3_isWaiting_0 rfl rfl ?_
  refine hg_X_orders F hi_X3_isWaiting_X lk_X3_isWaiting_29 dX3_isWaiting_1 ?_
  refine hj_iload_n F 1 dX3_isWaiting_4 rfl rfl ?_
  refine hl_X_orders F (vp_in_nI ho (by decide)) dX3_isWaiting_5 ?_
  rw [nI_clamp (show o < 2 ^ 31 by omega)]
  refine hj_bipush F (v := 9) dX3_isWaiting_6 (by decide) ?_
  refine hl_X_order F ho (by first | assumption | exact hw_inc (by decide)) dX3_isWaiting_8 ?_
  refine hj_iconst F (v := -1) dX3_isWaiting_9 (by decide) ?_
  refine hj_icmp_ne F 17 dX3_isWaiting_10 (by decide) (fun q10 => ?_) (fun q10 => ?_)
  · refine hj_iconst F (v := 0) dX3_isWaiting_17 (by decide) ?_
    exact ret dX3_isWaiting_18 rfl ⟨(if_neg q10).symm, rfl, rfl, rfl⟩
  · refine hj_iconst F (v := 1) dX3_isWaiting_13 (by decide) ?_
    refine hj_goto F 18 dX3_isWaiting_14 (by decide) ?_
    exact ret dX3_isWaiting_18 rfl ⟨(if_pos q10).symm, rfl, rfl, rfl⟩
def hx_done (g : hw_G) (a : hw_A) (o : Nat) : Prop := ¬ a (100 + o) 9 = -1 ∧ a (100 + o) 10 ≤ g 2
set_option maxHeartbeats 4000000 in
set_option maxRecDepth 100000 in
theorem k_X_isDone (hok : hw_XOK X) {o : Nat} (ho : o < 60) : hw_Ci l D (WH ad t) (hw_T t) X yX3_isDone wsX3_isDone (hw_rm 2) [.ref (ad 0), .int (nI o)] g a c (fun r g' a' c' => r = (if ¬ a (100 + o) 9 = -1 ∧ a (100 + o) 10 ≤ g 2 then 1 else 0) ∧ g' = g ∧ a' = a ∧ c' = c) := by
  refine hw_Ci.mk (lv0 := [(0, _), (1, _)]) (by decide) rfl (Nat.le_of_ble_eq_true rfl) rfl (WH_ads ad t) hok (fun K F ret => ?_)
  have F : hw_F K l D (WH ad t) (hw_T t) X cX3_isDone RX3 wsX3_isDone (hw_rm 2) 2 := F
  refine hj_aload_n F 0 dX3_isDone_0 rfl rfl ?_
  refine hj_iload_n F 1 dX3_isDone_1 rfl rfl ?_
  refine hj_cVi F (n := 1) (k_X_isWaiting hok ho) gX3_isDone_X3_isWaiting rfl ⟨rfl, rfl⟩ (by decide +kernel) ⟨by decide, by decide⟩ 0 3 rfl rfl (As := [_]) rfl rfl (Nat.le_of_ble_eq_true rfl) ⟨Nat.zero_le _, Nat.zero_le _⟩ dX3_isDone_2 (hw_eq4 ?_)
  refine hj_if_ne F 28 dX3_isDone_5 (by decide) (fun q5 => ?_) (fun q5 => ?_)
  · have hw : a (100 + o) 9 = -1 := Classical.byContradiction (fun z => q5 (if_neg z))
    refine hj_iconst F (v := 0) dX3_isDone_28 (by decide) ?_
    exact ret dX3_isDone_29 rfl ⟨(if_neg (fun z => z.1 hw)).symm, rfl, rfl, rfl⟩
  · have hw : ¬ a (100 + o) 9 = -1 := fun z => by rw [if_pos z] at q5; exact absurd q5 (by decide)
    refine hj_aload_n F 0 dX3_isDone_8 rfl rfl ?_
    refine hg_X_now F hi_X3_isDone_X lk_X3_isDone_46 dX3_isDone_9 ?_
    refine hj_aload_n F 0 dX3_isDone_12 rfl rfl ?_
    refine hg_X_orders F hi_X3_isDone_X lk_X3_isDone_29 dX3_isDone_13 ?_
    refine hj_iload_n F 1 dX3_isDone_16 rfl rfl ?_
    refine hl_X_orders F (vp_in_nI ho (by decide)) dX3_isDone_17 ?_
    rw [nI_clamp (show o < 2 ^ 31 by omega)]
    refine hj_bipush F (v := 10) dX3_isDone_18 (by decide) ?_
    refine hl_X_order F ho (by first | assumption | exact hw_inc (by decide)) dX3_isDone_20 ?_
    refine hj_icmp_lt F 28 dX3_isDone_21 (by decide) (fun q21 => ?_) (fun q21 => ?_)
    · refine hj_iconst F (v := 0) dX3_isDone_28 (by decide) ?_
      exact ret dX3_isDone_29 rfl ⟨(if_neg (fun z => absurd q21 (Int32.not_lt.mpr z.2))).symm, rfl, rfl, rfl⟩
    · refine hj_iconst F (v := 1) dX3_isDone_24 (by decide) ?_
      refine hj_goto F 29 dX3_isDone_25 (by decide) ?_
      exact ret dX3_isDone_29 rfl ⟨(if_pos ⟨hw, Int32.not_lt.mp q21⟩).symm, rfl, rfl, rfl⟩
set_option maxHeartbeats 4000000 in
set_option maxRecDepth 100000 in
theorem k_X_stateOf (hok : hw_XOK X) {o : Nat} (ho : o < 60) : hw_Ci l D (WH ad t) (hw_T t) X yX3_stateOf wsX3_stateOf (hw_rm 3) [.ref (ad 0), .int (nI o)] g a c (fun r g' a' c' => r = (if a (100 + o) 9 = -1 then 0 else if a (100 + o) 10 ≤ g 2 then 2 else 1) ∧ g' = g ∧ a' = a ∧ c' = c) := by
  refine hw_Ci.mk (lv0 := [(0, _), (1, _)]) (by decide) rfl (Nat.le_of_ble_eq_true rfl) rfl (WH_ads ad t) hok (fun K F ret => ?_)
  have F : hw_F K l D (WH ad t) (hw_T t) X cX3_stateOf RX3 wsX3_stateOf (hw_rm 3) 2 := F
  refine hj_aload_n F 0 dX3_stateOf_0 rfl rfl ?_
  refine hj_iload_n F 1 dX3_stateOf_1 rfl rfl ?_
  refine hj_cVi F (n := 1) (k_X_isWaiting hok ho) gX3_stateOf_X3_isWaiting rfl ⟨rfl, rfl⟩ (by decide +kernel) ⟨by decide, by decide⟩ 0 3 rfl rfl (As := [_]) rfl rfl (Nat.le_of_ble_eq_true rfl) ⟨Nat.zero_le _, Nat.zero_le _⟩ dX3_stateOf_2 (hw_eq4 ?_)
  refine hj_if_eq F 10 dX3_stateOf_5 (by decide) (fun q5 => ?_) (fun q5 => ?_)
  · have hw : ¬ a (100 + o) 9 = -1 := fun z => by rw [if_pos z] at q5; exact absurd q5 (by decide)
    refine hj_aload_n F 0 dX3_stateOf_10 rfl rfl ?_
    refine hj_iload_n F 1 dX3_stateOf_11 rfl rfl ?_
    refine hj_cVi F (n := 1) (k_X_isDone hok ho) gX3_stateOf_X3_isDone rfl ⟨rfl, rfl⟩ (by decide +kernel) ⟨by decide, by decide⟩ 0 3 rfl rfl (As := [_]) rfl rfl (Nat.le_of_ble_eq_true rfl) ⟨Nat.zero_le _, Nat.zero_le _⟩ dX3_stateOf_12 (hw_eq4 ?_)
    refine hj_if_eq F 22 dX3_stateOf_15 (by decide) (fun q15 => ?_) (fun q15 => ?_)
    · have hd : ¬ a (100 + o) 10 ≤ g 2 := fun z => by rw [if_pos ⟨hw, z⟩] at q15; exact absurd q15 (by decide)
      refine hj_iconst F (v := 1) dX3_stateOf_22 (by decide) ?_
      exact ret dX3_stateOf_23 rfl ⟨by rw [if_neg hw, if_neg hd], rfl, rfl, rfl⟩
    · have hd : a (100 + o) 10 ≤ g 2 := Classical.byContradiction (fun z => q15 (if_neg (fun y => z y.2)))
      refine hj_iconst F (v := 2) dX3_stateOf_18 (by decide) ?_
      refine hj_goto F 23 dX3_stateOf_19 (by decide) ?_
      exact ret dX3_stateOf_23 rfl ⟨by rw [if_neg hw, if_pos hd], rfl, rfl, rfl⟩
  · have hw : a (100 + o) 9 = -1 := Classical.byContradiction (fun z => q5 (if_neg z))
    refine hj_iconst F (v := 0) dX3_stateOf_8 (by decide) ?_
    exact ret dX3_stateOf_9 rfl ⟨(if_pos hw).symm, rfl, rfl, rfl⟩
def hx_when (g : hw_G) (a : hw_A) (o : Nat) : Int32 := if a (100 + o) 9 = -1 then g 2 else a (100 + o) 10
set_option maxHeartbeats 4000000 in
set_option maxRecDepth 100000 in
theorem k_X_isLate (hok : hw_XOK X) {o : Nat} (ho : o < 60) : hw_Ci l D (WH ad t) (hw_T t) X yX3_isLate wsX3_isLate (hw_rm 2) [.ref (ad 0), .int (nI o)] g a c (fun r g' a' c' => r = (if a (100 + o) 6 < hx_when g a o then 1 else 0) ∧ g' = g ∧ a' = a ∧ c' = c) := by
  refine hw_Ci.mk (lv0 := [(0, _), (1, _)]) (by decide) rfl (Nat.le_of_ble_eq_true rfl) rfl (WH_ads ad t) hok (fun K F ret => ?_)
  have F : hw_F K l D (WH ad t) (hw_T t) X cX3_isLate RX3 wsX3_isLate (hw_rm 2) 4 := F
  refine hj_aload_n F 0 dX3_isLate_0 rfl rfl ?_
  refine hg_X_orders F hi_X3_isLate_X lk_X3_isLate_29 dX3_isLate_1 ?_
  refine hj_iload_n F 1 dX3_isLate_4 rfl rfl ?_
  refine hl_X_orders F (vp_in_nI ho (by decide)) dX3_isLate_5 ?_
  rw [nI_clamp (show o < 2 ^ 31 by omega)]
  refine hj_astore_n F (lv' := [(2, _), (0, _), (1, _)]) dX3_isLate_6 rfl (by decide) rfl ?_
  refine hj_aload_n F 1 dX3_isLate_7 rfl rfl ?_
  refine hj_iload_n F 2 dX3_isLate_8 rfl rfl ?_
  refine hj_cVi F (n := 1) (k_X_isWaiting hok ho) gX3_isLate_X3_isWaiting rfl ⟨rfl, rfl⟩ (by decide +kernel) ⟨by decide, by decide⟩ 0 3 rfl rfl (As := [_]) rfl rfl (Nat.le_of_ble_eq_true rfl) ⟨Nat.zero_le _, Nat.zero_le _⟩ dX3_isLate_9 (hw_eq4 ?_)
  refine hj_if_eq F 22 dX3_isLate_12 (by decide) (fun q12 => ?_) (fun q12 => ?_)
  · have hw : ¬ a (100 + o) 9 = -1 := fun z => by rw [if_pos z] at q12; exact absurd q12 (by decide)
    refine hj_aload_n F 0 dX3_isLate_22 rfl rfl ?_
    refine hj_bipush F (v := 10) dX3_isLate_23 (by decide) ?_
    refine hl_X_order F ho (by first | assumption | exact hw_inc (by decide)) dX3_isLate_25 ?_
    rw [show a (100 + o) (Int32.toNatClampNeg 10) = hx_when g a o from (if_neg hw).symm]
    refine hj_istore_n F (lv' := [(3, _), (2, _), (0, _), (1, _)]) dX3_isLate_26 rfl (by decide) rfl ?_
    refine hj_iload_n F 0 dX3_isLate_27 rfl rfl ?_
    refine hj_aload_n F 1 dX3_isLate_28 rfl rfl ?_
    refine hj_bipush F (v := 6) dX3_isLate_29 (by decide) ?_
    refine hl_X_order F ho (by first | assumption | exact hw_inc (by decide)) dX3_isLate_31 ?_
    refine hj_icmp_le F 39 dX3_isLate_32 (by decide) (fun q32 => ?_) (fun q32 => ?_)
    · refine hj_iconst F (v := 0) dX3_isLate_39 (by decide) ?_
      exact ret dX3_isLate_40 rfl ⟨(if_neg (Int32.not_lt.mpr q32)).symm, rfl, rfl, rfl⟩
    · refine hj_iconst F (v := 1) dX3_isLate_35 (by decide) ?_
      refine hj_goto F 40 dX3_isLate_36 (by decide) ?_
      exact ret dX3_isLate_40 rfl ⟨(if_pos (Int32.not_le.mp q32)).symm, rfl, rfl, rfl⟩
  · have hw : a (100 + o) 9 = -1 := Classical.byContradiction (fun z => q12 (if_neg z))
    refine hj_aload_n F 1 dX3_isLate_15 rfl rfl ?_
    refine hg_X_now F hi_X3_isLate_X lk_X3_isLate_46 dX3_isLate_16 ?_
    refine hj_goto F 26 dX3_isLate_19 (by decide) ?_
    rw [show g 2 = hx_when g a o from (if_pos hw).symm]
    refine hj_istore_n F (lv' := [(3, _), (2, _), (0, _), (1, _)]) dX3_isLate_26 rfl (by decide) rfl ?_
    refine hj_iload_n F 0 dX3_isLate_27 rfl rfl ?_
    refine hj_aload_n F 1 dX3_isLate_28 rfl rfl ?_
    refine hj_bipush F (v := 6) dX3_isLate_29 (by decide) ?_
    refine hl_X_order F ho (by first | assumption | exact hw_inc (by decide)) dX3_isLate_31 ?_
    refine hj_icmp_le F 39 dX3_isLate_32 (by decide) (fun q32_2 => ?_) (fun q32_2 => ?_)
    · refine hj_iconst F (v := 0) dX3_isLate_39 (by decide) ?_
      exact ret dX3_isLate_40 rfl ⟨(if_neg (Int32.not_lt.mpr q32_2)).symm, rfl, rfl, rfl⟩
    · refine hj_iconst F (v := 1) dX3_isLate_35 (by decide) ?_
      refine hj_goto F 40 dX3_isLate_36 (by decide) ?_
      exact ret dX3_isLate_40 rfl ⟨(if_pos (Int32.not_le.mp q32_2)).symm, rfl, rfl, rfl⟩
def hx_cw (a : hw_A) : Nat → Int32
  | 0 => 0
  | o + 1 => if a (100 + o) 9 = -1 then hx_cw a o + 1 else hx_cw a o
set_option maxHeartbeats 4000000 in
set_option maxRecDepth 100000 in
theorem lp_X_countWaiting (F : hw_F K l D (WH ad t) (hw_T t) X cX3_countWaiting RX3 wsX3_countWaiting (hw_rm 2) 3) (hok : hw_XOK X) {N : Nat} (h1 : g 1 = nI N) (hN : N ≤ 60) (hx : hw_J K (WH ad t) 0 0 g a c [(2, .int (nI N)), (1, .int (hx_cw a N)), (0, .ref (ad 0))] 29 []) : ∀ m o : Nat, N - o < m → o ≤ N → hw_J K (WH ad t) 0 0 g a c [(2, .int (nI o)), (1, .int (hx_cw a o)), (0, .ref (ad 0))] 4 [] := by
  intro m
  induction m with
  | zero => intro o hm; exact absurd hm (Nat.not_lt_zero _)
  | succ m ih =>
    intro o hm hi
    refine hj_iload_n F 0 dX3_countWaiting_4 rfl rfl ?_
    refine hj_aload_n F 2 dX3_countWaiting_5 rfl rfl ?_
    refine hg_X_orderCount F hi_X3_countWaiting_X lk_X3_countWaiting_43 dX3_countWaiting_6 ?_
    rw [h1]
    refine hj_icmp_ge F 29 dX3_countWaiting_9 (by decide) (fun q9 => ?_) (fun q9 => ?_)
    · rw [nI_leI (by omega) (by omega)] at q9
      obtain rfl : o = N := by omega
      exact hx
    · rw [nI_leI (by omega) (by omega)] at q9
      have ho : o < 60 := by omega
      refine hj_aload_n F 2 dX3_countWaiting_12 rfl rfl ?_
      refine hj_iload_n F 0 dX3_countWaiting_13 rfl rfl ?_
      refine hj_cVi F (n := 1) (k_X_isWaiting hok ho) gX3_countWaiting_X3_isWaiting rfl ⟨rfl, rfl⟩ (by decide +kernel) ⟨by decide, by decide⟩ 0 3 rfl rfl (As := [_]) rfl rfl (Nat.le_of_ble_eq_true rfl) ⟨Nat.zero_le _, Nat.zero_le _⟩ dX3_countWaiting_14 (hw_eq4 ?_)
      refine hj_if_eq F 23 dX3_countWaiting_17 (by decide) (fun q17 => ?_) (fun q17 => ?_)
      · have hw : ¬ a (100 + o) 9 = -1 := fun z => by rw [if_pos z] at q17; exact absurd q17 (by decide)
        refine hj_iinc F 0 (v := _ + 1) (lv' := [(2, _), (1, _), (0, _)]) dX3_countWaiting_23 rfl rfl (by decide) rfl ?_
        refine hj_goto F 4 dX3_countWaiting_26 (by decide) ?_
        refine hj_lv [0, 1, 2] rfl ?_
        have e := ih (o + 1) (by omega) (by omega)
        rw [show hx_cw a (o + 1) = _ from if_neg hw] at e
        rw [nI_1]
        exact e
      · have hw : a (100 + o) 9 = -1 := Classical.byContradiction (fun z => q17 (if_neg z))
        refine hj_iinc F 1 (v := _ + 1) (lv' := [(1, _), (2, _), (0, _)]) dX3_countWaiting_20 rfl rfl (by decide) rfl ?_
        refine hj_iinc F 1 (v := _ + 1) (lv' := [(2, _), (1, _), (0, _)]) dX3_countWaiting_23 rfl rfl (by decide) rfl ?_
        refine hj_goto F 4 dX3_countWaiting_26 (by decide) ?_
        refine hj_lv [0, 1, 2] rfl ?_
        have e := ih (o + 1) (by omega) (by omega)
        rw [show hx_cw a (o + 1) = _ from if_pos hw] at e
        rw [nI_1]
        exact e
set_option maxHeartbeats 4000000 in
set_option maxRecDepth 100000 in
theorem k_X_countWaiting (hok : hw_XOK X) {N : Nat} (h1 : g 1 = nI N) (hN : N ≤ 60) : hw_Ci l D (WH ad t) (hw_T t) X yX3_countWaiting wsX3_countWaiting (hw_rm 2) [.ref (ad 0)] g a c (fun r g' a' c' => r = hx_cw a N ∧ g' = g ∧ a' = a ∧ c' = c) := by
  refine hw_Ci.mk (lv0 := [(0, _)]) (by decide) rfl (Nat.le_of_ble_eq_true rfl) rfl (WH_ads ad t) hok (fun K F ret => ?_)
  have F : hw_F K l D (WH ad t) (hw_T t) X cX3_countWaiting RX3 wsX3_countWaiting (hw_rm 2) 3 := F
  have hx : hw_J K (WH ad t) 0 0 g a c [(2, .int (nI N)), (1, .int (hx_cw a N)), (0, .ref (ad 0))] 29 [] := by
    refine hj_iload_n F 1 dX3_countWaiting_29 rfl rfl ?_
    exact ret dX3_countWaiting_30 rfl ⟨rfl, rfl, rfl, rfl⟩
  refine hj_iconst F (v := 0) dX3_countWaiting_0 (by decide) ?_
  refine hj_istore_n F (lv' := [(1, _), (0, _)]) dX3_countWaiting_1 rfl (by decide) rfl ?_
  refine hj_iconst F (v := 0) dX3_countWaiting_2 (by decide) ?_
  refine hj_istore_n F (lv' := [(2, _), (1, _), (0, _)]) dX3_countWaiting_3 rfl (by decide) rfl ?_
  exact lp_X_countWaiting F hok h1 hN hx (N + 1) 0 (by omega) (Nat.zero_le _)
def lt_f (p : Nat → Bool) (k : Int32) : Nat → Nat → Int32 → Int32
  | 0, _, _ => -1
  | m + 1, o, ah => if p o = true then (if ah = k then nI o else lt_f p k m (o + 1) (ah + 1)) else lt_f p k m (o + 1) ah
def hx_late (g : hw_G) (a : hw_A) (o : Nat) : Bool := decide (a (100 + o) 6 < hx_when g a o)
set_option maxHeartbeats 4000000 in
set_option maxRecDepth 100000 in
theorem lp_X_late (F : hw_F K l D (WH ad t) (hw_T t) X cX3_late RX3 wsX3_late (hw_rm 3) 4) (hok : hw_XOK X) {N : Nat} {k : Int32} (h1 : g 1 = nI N) (hN : N ≤ 60) (ret : ∀ {lv : List (Nat × Value)} {pc : Nat} {v : Int32}, decode cX3_late pc = .ok (.ireturn, 1) → v = lt_f (hx_late g a) k N 0 0 → hw_J K (WH ad t) 0 0 g a c lv pc [.int v]) : ∀ (m o : Nat) (ah : Int32), N - o < m → o ≤ N → lt_f (hx_late g a) k N 0 0 = lt_f (hx_late g a) k (N - o) o ah → hw_J K (WH ad t) 0 0 g a c [(3, .int (nI o)), (2, .int ah), (0, .ref (ad 0)), (1, .int k)] 4 [] := by
  intro m
  induction m with
  | zero => intro o ah hm; exact absurd hm (Nat.not_lt_zero _)
  | succ m ih =>
    intro o ah hm hi he
    refine hj_iload_n F 0 dX3_late_4 rfl rfl ?_
    refine hj_aload_n F 2 dX3_late_5 rfl rfl ?_
    refine hg_X_orderCount F hi_X3_late_X lk_X3_late_43 dX3_late_6 ?_
    rw [h1]
    refine hj_icmp_ge F 36 dX3_late_9 (by decide) (fun q9 => ?_) (fun q9 => ?_)
    · rw [nI_leI (by omega) (by omega)] at q9
      refine hj_iconst F (v := -1) dX3_late_36 (by decide) ?_
      exact ret dX3_late_37 (by rw [he, show N - o = 0 by omega]; rfl)
    · rw [nI_leI (by omega) (by omega)] at q9
      obtain ⟨r, hr⟩ : ∃ r, N - o = r + 1 := ⟨N - o - 1, by omega⟩
      rw [hr] at he
      have ho : o < 60 := by omega
      refine hj_aload_n F 2 dX3_late_12 rfl rfl ?_
      refine hj_iload_n F 0 dX3_late_13 rfl rfl ?_
      refine hj_cVi F (n := 1) (k_X_isLate hok ho) gX3_late_X3_isLate rfl ⟨rfl, rfl⟩ (by decide +kernel) ⟨by decide, by decide⟩ 0 3 rfl rfl (As := [_]) rfl rfl (Nat.le_of_ble_eq_true rfl) ⟨Nat.zero_le _, Nat.zero_le _⟩ dX3_late_14 (hw_eq4 ?_)
      refine hj_if_eq F 30 dX3_late_17 (by decide) (fun q17 => ?_) (fun q17 => ?_)
      · have hl : ¬ hx_late g a o = true := fun z => by rw [if_pos (of_decide_eq_true z)] at q17; exact absurd q17 (by decide)
        rw [lt_f, if_neg hl] at he
        refine hj_iinc F 0 (v := _ + 1) (lv' := [(3, _), (2, _), (0, _), (1, _)]) dX3_late_30 rfl rfl (by decide) rfl ?_
        refine hj_goto F 4 dX3_late_33 (by decide) ?_
        refine hj_lv [0, 1, 2, 3] rfl ?_
        rw [nI_1]
        exact ih (o + 1) _ (by omega) (by omega) (by rw [he]; congr 1; omega)
      · have hl : hx_late g a o = true := decide_eq_true (Classical.byContradiction (fun z => q17 (if_neg z)))
        rw [lt_f, if_pos hl] at he
        refine hj_iload_n F 1 dX3_late_20 rfl rfl ?_
        refine hj_iload_n F 3 dX3_late_21 rfl rfl ?_
        refine hj_icmp_ne F 27 dX3_late_22 (by decide) (fun q22 => ?_) (fun q22 => ?_)
        · rw [if_neg q22] at he
          refine hj_iinc F 1 (v := _ + 1) (lv' := [(2, _), (3, _), (0, _), (1, _)]) dX3_late_27 rfl rfl (by decide) rfl ?_
          refine hj_iinc F 1 (v := _ + 1) (lv' := [(3, _), (2, _), (0, _), (1, _)]) dX3_late_30 rfl rfl (by decide) rfl ?_
          refine hj_goto F 4 dX3_late_33 (by decide) ?_
          refine hj_lv [0, 1, 2, 3] rfl ?_
          rw [nI_1]
          exact ih (o + 1) _ (by omega) (by omega) (by rw [he]; congr 1; omega)
        · rw [if_pos q22] at he
          refine hj_iload_n F 0 dX3_late_25 rfl rfl ?_
          exact ret dX3_late_26 he.symm
set_option maxHeartbeats 4000000 in
set_option maxRecDepth 100000 in
theorem k_X_late (hok : hw_XOK X) {N : Nat} {k : Int32} (h1 : g 1 = nI N) (hN : N ≤ 60) : hw_Ci l D (WH ad t) (hw_T t) X yX3_late wsX3_late (hw_rm 3) [.ref (ad 0), .int k] g a c (fun r g' a' c' => r = lt_f (hx_late g a) k N 0 0 ∧ g' = g ∧ a' = a ∧ c' = c) := by
  refine hw_Ci.mk (lv0 := [(0, _), (1, _)]) (by decide) rfl (Nat.le_of_ble_eq_true rfl) rfl (WH_ads ad t) hok (fun K F ret => ?_)
  have F : hw_F K l D (WH ad t) (hw_T t) X cX3_late RX3 wsX3_late (hw_rm 3) 4 := F
  refine hj_iconst F (v := 0) dX3_late_0 (by decide) ?_
  refine hj_istore_n F (lv' := [(2, _), (0, _), (1, _)]) dX3_late_1 rfl (by decide) rfl ?_
  refine hj_iconst F (v := 0) dX3_late_2 (by decide) ?_
  refine hj_istore_n F (lv' := [(3, _), (2, _), (0, _), (1, _)]) dX3_late_3 rfl (by decide) rfl ?_
  exact lp_X_late F hok h1 hN (fun d hv => ret d rfl ⟨hv, rfl, rfl, rfl⟩) (N + 1) 0 0 (by omega) (Nat.zero_le _) rfl
set_option maxHeartbeats 4000000 in
set_option maxRecDepth 100000 in
theorem k_X_holderOf (hok : hw_XOK X) {b : Nat} {s : Int32} (hb : b < 10) : hw_Ci l D (WH ad t) (hw_T t) X yX3_holderOf wsX3_holderOf (hw_rm 1) [.ref (ad 0), .int s, .int (nI b)] g a c (fun r g' a' c' => r = (if g 2 < s then (if s ≤ g 3 then g 4 else a 4 b) else -1) ∧ g' = g ∧ a' = a ∧ c' = c) := by
  refine hw_Ci.mk (lv0 := [(0, _), (1, _), (2, _)]) (by decide) rfl (Nat.le_of_ble_eq_true rfl) rfl (WH_ads ad t) hok (fun K F ret => ?_)
  have F : hw_F K l D (WH ad t) (hw_T t) X cX3_holderOf RX3 wsX3_holderOf (hw_rm 1) 3 := F
  refine hj_iload_n F 1 dX3_holderOf_0 rfl rfl ?_
  refine hj_aload_n F 0 dX3_holderOf_1 rfl rfl ?_
  refine hg_X_now F hi_X3_holderOf_X lk_X3_holderOf_46 dX3_holderOf_2 ?_
  refine hj_icmp_gt F 10 dX3_holderOf_5 (by decide) (fun q5 => ?_) (fun q5 => ?_)
  · refine hj_aload_n F 0 dX3_holderOf_10 rfl rfl ?_
    refine hg_X_steamerFree F hi_X3_holderOf_X lk_X3_holderOf_49 dX3_holderOf_11 ?_
    refine hj_iload_n F 1 dX3_holderOf_14 rfl rfl ?_
    refine hj_icmp_lt F 25 dX3_holderOf_15 (by decide) (fun q15 => ?_) (fun q15 => ?_)
    · refine hj_aload_n F 0 dX3_holderOf_25 rfl rfl ?_
      refine hg_X_blocks F hi_X3_holderOf_X lk_X3_holderOf_23 dX3_holderOf_26 ?_
      refine hg_B_latest F hi_X3_holderOf_B lk_X3_holderOf_197 dX3_holderOf_29 ?_
      refine hj_iload_n F 2 dX3_holderOf_32 rfl rfl ?_
      refine hl_B_latest F (vp_in_nI hb (by decide)) dX3_holderOf_33 ?_
      exact ret dX3_holderOf_34 rfl ⟨by rw [if_pos q5, if_neg (Int32.not_le.mpr q15), nI_clamp (by omega)], rfl, rfl, rfl⟩
    · refine hj_aload_n F 0 dX3_holderOf_18 rfl rfl ?_
      refine hg_X_steamerLatest F hi_X3_holderOf_X lk_X3_holderOf_52 dX3_holderOf_19 ?_
      refine hj_goto F 34 dX3_holderOf_22 (by decide) ?_
      exact ret dX3_holderOf_34 rfl ⟨by rw [if_pos q5, if_pos (Int32.not_lt.mp q15)], rfl, rfl, rfl⟩
  · refine hj_iconst F (v := -1) dX3_holderOf_8 (by decide) ?_
    exact ret dX3_holderOf_9 rfl ⟨(if_neg q5).symm, rfl, rfl, rfl⟩
def sn_s (g : hw_G) (a : hw_A) (o b : Nat) : Int32 := mxi (mxi (g 2) (g 3)) (a 3 b - a (100 + o) 4)
def sn_h (g : hw_G) (a : hw_A) (b : Nat) (s : Int32) : Int32 := if g 2 < s then (if s ≤ g 3 then g 4 else a 4 b) else -1
def sn_row (g : hw_G) (a : hw_A) (o b : Nat) : Nat → Int32 := upd (upd (upd (a (100 + o)) 9 (sn_s g a o b)) 11 (sn_h g a b (sn_s g a o b))) 10 (sn_s g a o b + a (100 + o) 4 + a (100 + o) 5)
def sn_g (g : hw_G) (a : hw_A) (o b : Nat) : hw_G := upd (upd (upd g 3 (sn_s g a o b + a (100 + o) 4)) 4 (nI o)) 6 0
def sn_a (g : hw_G) (a : hw_A) (o b : Nat) : hw_A := va_up (va_up (va_up (va_up a (100 + o) (sn_row g a o b)) 3 (upd (a 3) b (sn_s g a o b + a (100 + o) 4 + a (100 + o) 5))) 4 (upd (a 4) b (nI o))) (300 + b) (upd (a (300 + b)) 0 (a (300 + b) 0 + 1))
set_option maxHeartbeats 4000000 in
set_option maxRecDepth 100000 in
theorem k_X_send (hok : hw_XOK X) {o b : Nat} (ho : o < 60) (hb : b < 10) (hrb : a (100 + o) 0 = nI b) : hw_Ci l D (WH ad t) (hw_T t) X yX3_send wsX3_send (hw_rm 2) [.ref (ad 0), .int (nI o)] g a c (fun r g' a' c' => r = sn_s g a o b ∧ g' = sn_g g a o b ∧ a' = sn_a g a o b ∧ c' = c) := by
  refine hw_Ci.mk (lv0 := [(0, _), (1, _)]) (by decide) rfl (Nat.le_of_ble_eq_true rfl) rfl (WH_ads ad t) hok (fun K F ret => ?_)
  have F : hw_F K l D (WH ad t) (hw_T t) X cX3_send RX3 wsX3_send (hw_rm 2) 5 := F
  refine hj_aload_n F 0 dX3_send_0 rfl rfl ?_
  refine hg_X_orders F hi_X3_send_X lk_X3_send_29 dX3_send_1 ?_
  refine hj_iload_n F 1 dX3_send_4 rfl rfl ?_
  refine hl_X_orders F (vp_in_nI ho (by decide)) dX3_send_5 ?_
  rw [nI_clamp (show o < 2 ^ 31 by omega)]
  refine hj_astore_n F (lv' := [(2, _), (0, _), (1, _)]) dX3_send_6 rfl (by decide) rfl ?_
  refine hj_aload_n F 0 dX3_send_7 rfl rfl ?_
  refine hj_iconst F (v := 0) dX3_send_8 (by decide) ?_
  refine hl_X_order F ho (by first | assumption | exact hw_inc (by decide)) dX3_send_9 ?_
  rw [show a (100 + o) (Int32.toNatClampNeg 0) = nI b from hrb]
  refine hj_istore_n F (lv' := [(3, _), (2, _), (0, _), (1, _)]) dX3_send_10 rfl (by decide) rfl ?_
  refine hj_aload_n F 2 dX3_send_11 rfl rfl ?_
  refine hg_X_now F hi_X3_send_X lk_X3_send_46 dX3_send_12 ?_
  refine hj_aload_n F 2 dX3_send_15 rfl rfl ?_
  refine hg_X_steamerFree F hi_X3_send_X lk_X3_send_49 dX3_send_16 ?_
  refine hj_aload_n F 2 dX3_send_19 rfl rfl ?_
  refine hg_X_blocks F hi_X3_send_X lk_X3_send_23 dX3_send_20 ?_
  refine hg_B_freeFrom F hi_X3_send_B lk_X3_send_187 dX3_send_23 ?_
  refine hj_iload_n F 0 dX3_send_26 rfl rfl ?_
  refine hl_B_freeFrom F (vp_in_nI hb (by decide)) dX3_send_27 ?_
  rw [nI_clamp (show b < 2 ^ 31 by omega)]
  refine hj_aload_n F 1 dX3_send_28 rfl rfl ?_
  refine hj_iconst F (v := 4) dX3_send_29 (by decide) ?_
  refine hl_X_order F ho (by first | assumption | exact hw_inc (by decide)) dX3_send_30 ?_
  try simp (disch := omega) only [va_up_ne, vau_s, bx_uu, pk_us, pk_un, cl0, cl1, cl2, cl3, cl4, cl5, cl6, cl7, cl8, cl9, cl10, cl11, cl12]
  refine hj_cSi F (n := 4) (k_X_startOf hok) gX3_send_X3_startOf rfl ⟨rfl, rfl⟩ (by decide +kernel) ⟨by decide, by decide⟩ (As := [_, _, _, _]) rfl rfl (Nat.le_of_ble_eq_true rfl) ⟨Nat.zero_le _, Nat.zero_le _⟩ dX3_send_31 (hw_eq4 ?_)
  rw [show mxi (mxi (g 2) (g 3)) (a 3 b - a (100 + o) 4) = sn_s g a o b from rfl]
  refine hj_istore F (lv' := [(4, _), (3, _), (2, _), (0, _), (1, _)]) dX3_send_34 (by decide) rfl ?_
  refine hj_aload_n F 2 dX3_send_36 rfl rfl ?_
  refine hj_bipush F (v := 9) dX3_send_37 (by decide) ?_
  refine hj_iload F 0 dX3_send_39 rfl ?_
  refine hs_X_order F ho (by first | assumption | exact hw_inc (by decide)) dX3_send_41 ?_
  try simp (disch := omega) only [va_up_ne, vau_s, bx_uu, pk_us, pk_un, cl0, cl1, cl2, cl3, cl4, cl5, cl6, cl7, cl8, cl9, cl10, cl11, cl12]
  refine hj_aload_n F 2 dX3_send_42 rfl rfl ?_
  refine hj_bipush F (v := 11) dX3_send_43 (by decide) ?_
  refine hj_aload_n F 3 dX3_send_45 rfl rfl ?_
  refine hj_iload F 0 dX3_send_46 rfl ?_
  refine hj_iload_n F 1 dX3_send_48 rfl rfl ?_
  refine hj_cVi F (n := 2) (k_X_holderOf hok hb) gX3_send_X3_holderOf rfl ⟨rfl, rfl⟩ (by decide +kernel) ⟨by decide, by decide⟩ 0 3 rfl rfl (As := [_, _]) rfl rfl (Nat.le_of_ble_eq_true rfl) ⟨Nat.zero_le _, Nat.zero_le _⟩ dX3_send_49 (hw_eq4 ?_)
  try simp (disch := omega) only [va_up_ne, vau_s, bx_uu, pk_us, pk_un, cl0, cl1, cl2, cl3, cl4, cl5, cl6, cl7, cl8, cl9, cl10, cl11, cl12]
  rw [show (if g 2 < sn_s g a o b then (if sn_s g a o b ≤ g 3 then g 4 else a 4 b) else -1) = sn_h g a b (sn_s g a o b) from rfl]
  refine hs_X_order F ho (by first | assumption | exact hw_inc (by decide)) dX3_send_52 ?_
  try simp (disch := omega) only [va_up_ne, vau_s, bx_uu, pk_us, pk_un, cl0, cl1, cl2, cl3, cl4, cl5, cl6, cl7, cl8, cl9, cl10, cl11, cl12]
  refine hj_aload_n F 2 dX3_send_53 rfl rfl ?_
  refine hj_bipush F (v := 10) dX3_send_54 (by decide) ?_
  refine hj_iload F 0 dX3_send_56 rfl ?_
  refine hj_aload_n F 2 dX3_send_58 rfl rfl ?_
  refine hj_iconst F (v := 4) dX3_send_59 (by decide) ?_
  refine hl_X_order F ho (by first | assumption | exact hw_inc (by decide)) dX3_send_60 ?_
  try simp (disch := omega) only [va_up_ne, vau_s, bx_uu, pk_us, pk_un, cl0, cl1, cl2, cl3, cl4, cl5, cl6, cl7, cl8, cl9, cl10, cl11, cl12]
  refine hj_iadd F dX3_send_61 ?_
  refine hj_aload_n F 2 dX3_send_62 rfl rfl ?_
  refine hj_iconst F (v := 5) dX3_send_63 (by decide) ?_
  refine hl_X_order F ho (by first | assumption | exact hw_inc (by decide)) dX3_send_64 ?_
  try simp (disch := omega) only [va_up_ne, vau_s, bx_uu, pk_us, pk_un, cl0, cl1, cl2, cl3, cl4, cl5, cl6, cl7, cl8, cl9, cl10, cl11, cl12]
  refine hj_iadd F dX3_send_65 ?_
  refine hs_X_order F ho (by first | assumption | exact hw_inc (by decide)) dX3_send_66 ?_
  try simp (disch := omega) only [va_up_ne, vau_s, bx_uu, pk_us, pk_un, cl0, cl1, cl2, cl3, cl4, cl5, cl6, cl7, cl8, cl9, cl10, cl11, cl12]
  refine hj_aload_n F 3 dX3_send_67 rfl rfl ?_
  refine hj_iload F 0 dX3_send_68 rfl ?_
  refine hj_aload_n F 2 dX3_send_70 rfl rfl ?_
  refine hj_iconst F (v := 4) dX3_send_71 (by decide) ?_
  refine hl_X_order F ho (by first | assumption | exact hw_inc (by decide)) dX3_send_72 ?_
  try simp (disch := omega) only [va_up_ne, vau_s, bx_uu, pk_us, pk_un, cl0, cl1, cl2, cl3, cl4, cl5, cl6, cl7, cl8, cl9, cl10, cl11, cl12]
  refine hj_iadd F dX3_send_73 ?_
  refine hp_X_steamerFree F hi_X3_send_X lk_X3_send_49 dX3_send_74 ?_
  refine hj_aload_n F 3 dX3_send_77 rfl rfl ?_
  refine hj_iload_n F 4 dX3_send_78 rfl rfl ?_
  refine hp_X_steamerLatest F hi_X3_send_X lk_X3_send_52 dX3_send_79 ?_
  refine hj_aload_n F 3 dX3_send_82 rfl rfl ?_
  refine hg_X_blocks F hi_X3_send_X lk_X3_send_23 dX3_send_83 ?_
  refine hg_B_freeFrom F hi_X3_send_B lk_X3_send_187 dX3_send_86 ?_
  refine hj_iload_n F 1 dX3_send_89 rfl rfl ?_
  refine hj_aload_n F 2 dX3_send_90 rfl rfl ?_
  refine hj_bipush F (v := 10) dX3_send_91 (by decide) ?_
  refine hl_X_order F ho (by first | assumption | exact hw_inc (by decide)) dX3_send_93 ?_
  try simp (disch := omega) only [va_up_ne, vau_s, bx_uu, pk_us, pk_un, cl0, cl1, cl2, cl3, cl4, cl5, cl6, cl7, cl8, cl9, cl10, cl11, cl12]
  refine hs_B_freeFrom F (vp_in_nI hb (by decide)) dX3_send_94 ?_
  rw [nI_clamp (show b < 2 ^ 31 by omega)]
  try simp (disch := omega) only [va_up_ne, vau_s, bx_uu, pk_us, pk_un, cl0, cl1, cl2, cl3, cl4, cl5, cl6, cl7, cl8, cl9, cl10, cl11, cl12]
  refine hj_aload_n F 3 dX3_send_95 rfl rfl ?_
  refine hg_X_blocks F hi_X3_send_X lk_X3_send_23 dX3_send_96 ?_
  refine hg_B_latest F hi_X3_send_B lk_X3_send_197 dX3_send_99 ?_
  refine hj_iload_n F 1 dX3_send_102 rfl rfl ?_
  refine hj_iload_n F 4 dX3_send_103 rfl rfl ?_
  refine hs_B_latest F (vp_in_nI hb (by decide)) dX3_send_104 ?_
  try simp (disch := omega) only [va_up_ne, vau_s, bx_uu, pk_us, pk_un, cl0, cl1, cl2, cl3, cl4, cl5, cl6, cl7, cl8, cl9, cl10, cl11, cl12]
  refine hj_aload_n F 3 dX3_send_105 rfl rfl ?_
  refine hg_X_blocks F hi_X3_send_X lk_X3_send_23 dX3_send_106 ?_
  refine hg_B_wears F hi_X3_send_B lk_X3_send_147 dX3_send_109 ?_
  refine hj_iload_n F 1 dX3_send_112 rfl rfl ?_
  refine hl_B_wears F (vp_in_nI hb (by decide)) dX3_send_113 ?_
  rw [nI_clamp (show b < 2 ^ 31 by omega)]
  refine hj_iconst F (v := 0) dX3_send_114 (by decide) ?_
  refine hj_dup2 F dX3_send_115 rfl rfl ?_
  refine hl_B_wear F hb (by first | assumption | exact hw_inc (by decide)) dX3_send_116 ?_
  try simp (disch := omega) only [va_up_ne, vau_s, bx_uu, pk_us, pk_un, cl0, cl1, cl2, cl3, cl4, cl5, cl6, cl7, cl8, cl9, cl10, cl11, cl12]
  refine hj_iconst F (v := 1) dX3_send_117 (by decide) ?_
  refine hj_iadd F dX3_send_118 ?_
  refine hs_B_wear F hb (by first | assumption | exact hw_inc (by decide)) dX3_send_119 ?_
  try simp (disch := omega) only [va_up_ne, vau_s, bx_uu, pk_us, pk_un, cl0, cl1, cl2, cl3, cl4, cl5, cl6, cl7, cl8, cl9, cl10, cl11, cl12]
  refine hj_aload_n F 3 dX3_send_120 rfl rfl ?_
  refine hj_iconst F (v := 0) dX3_send_121 (by decide) ?_
  refine hp_X_bestStands F hi_X3_send_X lk_X3_send_58 rfl rfl dX3_send_122 ?_
  refine hj_iload F 0 dX3_send_125 rfl ?_
  exact ret dX3_send_127 rfl ⟨rfl, rfl, rfl, rfl⟩
end SHAT1
