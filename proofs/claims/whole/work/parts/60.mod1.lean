section SMOD1
theorem hi_X4_bad_M : ∀ w ∈ u_ws RX4 TX4 28, w ∈ wsX4_bad := fun w h => by
  unfold wsX4_bad
  simp only [List.mem_cons, List.mem_append]
  first | (simp only [h, or_true, true_or]; done) | (have h2 : w ∈ wsX40 := h; simp only [h2, or_true, true_or]; done)
theorem lk_X4_bad_61 : Cond.fieldLink RX4 61 "HatWorksModel" "thrown" "I" ∈ wsX4_bad := List.mem_of_getElem? (i := 1) rfl
theorem hi_X4_blanks_M : ∀ w ∈ u_ws RX4 TX4 28, w ∈ wsX4_blanks := fun w h => by
  unfold wsX4_blanks
  simp only [List.mem_cons, List.mem_append]
  first | (simp only [h, or_true, true_or]; done) | (have h2 : w ∈ wsX40 := h; simp only [h2, or_true, true_or]; done)
theorem lk_X4_blanks_85 : Cond.fieldLink RX4 85 "HatWorksModel" "size" "I" ∈ wsX4_blanks := List.mem_of_getElem? (i := 2) rfl
theorem lk_X4_blanks_88 : Cond.fieldLink RX4 88 "HatWorksModel" "at" "I" ∈ wsX4_blanks := List.mem_of_getElem? (i := 1) rfl
theorem hi_X4_byteAt_M : ∀ w ∈ u_ws RX4 TX4 28, w ∈ wsX4_byteAt := fun w h => by
  unfold wsX4_byteAt
  simp only [List.mem_cons, List.mem_append]
  first | (simp only [h, or_true, true_or]; done) | (have h2 : w ∈ wsX40 := h; simp only [h2, or_true, true_or]; done)
theorem lk_X4_byteAt_16 : Cond.fieldLink RX4 16 "HatWorksModel" "tape" "[B" ∈ wsX4_byteAt := List.mem_of_getElem? (i := 2) rfl
theorem lk_X4_byteAt_85 : Cond.fieldLink RX4 85 "HatWorksModel" "size" "I" ∈ wsX4_byteAt := List.mem_of_getElem? (i := 1) rfl
theorem hi_X4_fault_M : ∀ w ∈ u_ws RX4 TX4 28, w ∈ wsX4_fault := fun w h => by
  unfold wsX4_fault
  simp only [List.mem_cons, List.mem_append]
  first | (simp only [h, or_true, true_or]; done) | (have h2 : w ∈ wsX40 := h; simp only [h2, or_true, true_or]; done)
theorem lk_X4_fault_20 : Cond.fieldLink RX4 20 "HatWorksModel" "place" "I" ∈ wsX4_fault := List.mem_of_getElem? (i := 2) rfl
theorem lk_X4_fault_61 : Cond.fieldLink RX4 61 "HatWorksModel" "thrown" "I" ∈ wsX4_fault := List.mem_of_getElem? (i := 1) rfl
theorem hi_X4_isBlock_M : ∀ w ∈ u_ws RX4 TX4 28, w ∈ wsX4_isBlock := fun w h => by
  unfold wsX4_isBlock
  simp only [List.mem_cons, List.mem_append]
  first | (simp only [h, or_true, true_or]; done) | (have h2 : w ∈ wsX40 := h; simp only [h2, or_true, true_or]; done)
theorem lk_X4_isBlock_61 : Cond.fieldLink RX4 61 "HatWorksModel" "thrown" "I" ∈ wsX4_isBlock := List.mem_of_getElem? (i := 2) rfl
theorem lk_X4_isBlock_71 : Cond.fieldLink RX4 71 "HatWorksModel" "blocks" "I" ∈ wsX4_isBlock := List.mem_of_getElem? (i := 1) rfl
theorem hi_X4_isOrder_M : ∀ w ∈ u_ws RX4 TX4 28, w ∈ wsX4_isOrder := fun w h => by
  unfold wsX4_isOrder
  simp only [List.mem_cons, List.mem_append]
  first | (simp only [h, or_true, true_or]; done) | (have h2 : w ∈ wsX40 := h; simp only [h2, or_true, true_or]; done)
theorem lk_X4_isOrder_141 : Cond.fieldLink RX4 141 "HatWorksModel" "orders" "I" ∈ wsX4_isOrder := List.mem_of_getElem? (i := 1) rfl
theorem lk_X4_isOrder_61 : Cond.fieldLink RX4 61 "HatWorksModel" "thrown" "I" ∈ wsX4_isOrder := List.mem_of_getElem? (i := 2) rfl
theorem hi_X4_misfitOf_M : ∀ w ∈ u_ws RX4 TX4 28, w ∈ wsX4_misfitOf := fun w h => by
  unfold wsX4_misfitOf
  simp only [List.mem_cons, List.mem_append]
  first | (simp only [h, or_true, true_or]; done) | (have h2 : w ∈ wsX40 := h; simp only [h2, or_true, true_or]; done)
theorem lk_X4_misfitOf_13 : Cond.fieldLink RX4 13 "HatWorksModel" "rings" "[I" ∈ wsX4_misfitOf := List.mem_of_getElem? (i := 2) rfl
theorem lk_X4_misfitOf_9 : Cond.fieldLink RX4 9 "HatWorksModel" "hand" "[I" ∈ wsX4_misfitOf := List.mem_of_getElem? (i := 1) rfl
theorem hi_X4_thrown_M : ∀ w ∈ u_ws RX4 TX4 28, w ∈ wsX4_thrown := fun w h => by
  unfold wsX4_thrown
  simp only [List.mem_cons, List.mem_append]
  first | (simp only [h, or_true, true_or]; done) | (have h2 : w ∈ wsX40 := h; simp only [h2, or_true, true_or]; done)
theorem lk_X4_thrown_61 : Cond.fieldLink RX4 61 "HatWorksModel" "thrown" "I" ∈ wsX4_thrown := List.mem_of_getElem? (i := 1) rfl
theorem hi_X4_waits_M : ∀ w ∈ u_ws RX4 TX4 28, w ∈ wsX4_waits := fun w h => by
  unfold wsX4_waits
  simp only [List.mem_cons, List.mem_append]
  first | (simp only [h, or_true, true_or]; done) | (have h2 : w ∈ wsX40 := h; simp only [h2, or_true, true_or]; done)
theorem lk_X4_waits_40 : Cond.fieldLink RX4 40 "HatWorksModel" "order" "[I" ∈ wsX4_waits := List.mem_of_getElem? (i := 1) rfl
theorem hi_X4_wrong_M : ∀ w ∈ u_ws RX4 TX4 28, w ∈ wsX4_wrong := fun w h => by
  unfold wsX4_wrong
  simp only [List.mem_cons, List.mem_append]
  first | (simp only [h, or_true, true_or]; done) | (have h2 : w ∈ wsX40 := h; simp only [h2, or_true, true_or]; done)
theorem lk_X4_wrong_20 : Cond.fieldLink RX4 20 "HatWorksModel" "place" "I" ∈ wsX4_wrong := List.mem_of_getElem? (i := 2) rfl
theorem lk_X4_wrong_95 : Cond.fieldLink RX4 95 "HatWorksModel" "fault" "I" ∈ wsX4_wrong := List.mem_of_getElem? (i := 1) rfl
variable {K : hw_K} {l : Launch} {D : va_G} {ad : Nat → Nat} {t : Nat → ClassId} {X : hw_XT} {rm : Room} {g : hw_G} {a : hw_A} {c : Int64}
set_option maxHeartbeats 4000000 in
set_option maxRecDepth 100000 in
theorem k_M_thrown (hok : hw_XOK X)  : hw_Ci l D (WM ad t) (hw_T t) X yX4_thrown wsX4_thrown (hw_rm 1) [.ref (ad 0)] g a c (fun r g' a' c' => r = g 0 ∧ g' = g ∧ a' = a ∧ c' = c) := by
  refine hw_Ci.mk (lv0 := [(0, _)]) (by decide) rfl (Nat.le_of_ble_eq_true rfl) rfl (WM_ads ad t) hok (fun K F ret => ?_)
  have F : hw_F K l D (WM ad t) (hw_T t) X cX4_thrown RX4 wsX4_thrown (hw_rm 1) 1 := F
  refine hj_aload_n F 0 dX4_thrown_0 rfl rfl ?_
  refine hg_M_thrown F hi_X4_thrown_M lk_X4_thrown_61 dX4_thrown_1 ?_
  exact ret dX4_thrown_4 rfl ⟨rfl, rfl, rfl, rfl⟩
set_option maxHeartbeats 4000000 in
set_option maxRecDepth 100000 in
theorem k_M_fault (hok : hw_XOK X)  : hw_Ci l D (WM ad t) (hw_T t) X yX4_fault wsX4_fault (hw_rm 1) [.ref (ad 0)] g a c (fun r g' a' c' => r = g 7 ∧ g' = upd g 0 0 ∧ a' = a ∧ c' = c) := by
  refine hw_Ci.mk (lv0 := [(0, _)]) (by decide) rfl (Nat.le_of_ble_eq_true rfl) rfl (WM_ads ad t) hok (fun K F ret => ?_)
  have F : hw_F K l D (WM ad t) (hw_T t) X cX4_fault RX4 wsX4_fault (hw_rm 1) 1 := F
  refine hj_aload_n F 0 dX4_fault_0 rfl rfl ?_
  refine hj_iconst F (v := 0) dX4_fault_1 (by decide) ?_
  refine hp_M_thrown F hi_X4_fault_M lk_X4_fault_61 dX4_fault_2 ?_
  refine hj_aload_n F 0 dX4_fault_5 rfl rfl ?_
  refine hg_M_place F hi_X4_fault_M lk_X4_fault_20 dX4_fault_6 ?_
  exact ret dX4_fault_9 rfl ⟨rfl, rfl, rfl, rfl⟩
set_option maxHeartbeats 4000000 in
set_option maxRecDepth 100000 in
theorem k_M_bad (hok : hw_XOK X) {x w : Int32} (hx : x = 0 ∨ x = 1) : hw_Ci l D (WM ad t) (hw_T t) X yX4_bad wsX4_bad (hw_rm 1) [.ref (ad 0), .int x, .int w] g a c (fun r g' a' c' => r = x ∧ g' = (if x = 0 then g else upd g 0 w) ∧ a' = a ∧ c' = c) := by
  refine hw_Ci.mk (lv0 := [(0, _), (1, _), (2, _)]) (by decide) rfl (Nat.le_of_ble_eq_true rfl) rfl (WM_ads ad t) hok (fun K F ret => ?_)
  have F : hw_F K l D (WM ad t) (hw_T t) X cX4_bad RX4 wsX4_bad (hw_rm 1) 3 := F
  refine hj_iload_n F 1 dX4_bad_0 rfl rfl ?_
  refine hj_if_eq F 9 dX4_bad_1 (by decide) (fun q1 => ?_) (fun q1 => ?_)
  · refine hj_iload_n F 1 dX4_bad_9 rfl rfl ?_
    exact ret dX4_bad_10 (by rcases hx with h | h <;> rw [h] <;> rfl) ⟨rfl, (if_pos q1).symm, rfl, rfl⟩
  · refine hj_aload_n F 0 dX4_bad_4 rfl rfl ?_
    refine hj_iload_n F 2 dX4_bad_5 rfl rfl ?_
    refine hp_M_thrown F hi_X4_bad_M lk_X4_bad_61 dX4_bad_6 ?_
    refine hj_iload_n F 1 dX4_bad_9 rfl rfl ?_
    exact ret dX4_bad_10 (by rcases hx with h | h <;> rw [h] <;> rfl) ⟨rfl, (if_neg q1).symm, rfl, rfl⟩
set_option maxHeartbeats 4000000 in
set_option maxRecDepth 100000 in
theorem k_M_isBlock (hok : hw_XOK X) {B : Nat} {x : Int32} (hB : g 2 = nI B) : hw_Ci l D (WM ad t) (hw_T t) X yX4_isBlock wsX4_isBlock (hw_rm 1) [.ref (ad 0), .int x] g a c (fun r g' a' c' => (if x < 0 ∨ nI B ≤ x then r = 0 ∧ g' = upd g 0 1 else r = 1 ∧ g' = upd g 0 0) ∧ a' = a ∧ c' = c) := by
  refine hw_Ci.mk (lv0 := [(0, _), (1, _)]) (by decide) rfl (Nat.le_of_ble_eq_true rfl) rfl (WM_ads ad t) hok (fun K F ret => ?_)
  have F : hw_F K l D (WM ad t) (hw_T t) X cX4_isBlock RX4 wsX4_isBlock (hw_rm 1) 2 := F
  refine hj_aload_n F 0 dX4_isBlock_0 rfl rfl ?_
  refine hj_iload_n F 1 dX4_isBlock_1 rfl rfl ?_
  refine hj_if_lt F 13 dX4_isBlock_2 (by decide) (fun q2 => ?_) (fun q2 => ?_)
  · refine hj_iconst F (v := 1) dX4_isBlock_13 (by decide) ?_
    refine hj_goto F 18 dX4_isBlock_14 (by decide) ?_
    refine hp_M_thrown F hi_X4_isBlock_M lk_X4_isBlock_61 dX4_isBlock_18 ?_
    refine hj_aload_n F 0 dX4_isBlock_21 rfl rfl ?_
    refine hg_M_thrown F hi_X4_isBlock_M lk_X4_isBlock_61 dX4_isBlock_22 ?_
    refine hj_if_ne F 32 dX4_isBlock_25 (by decide) (fun q25 => ?_) (fun q25 => ?_)
    · rw [pk_us] at q25
      refine hj_iconst F (v := 0) dX4_isBlock_32 (by decide) ?_
      exact ret dX4_isBlock_33 rfl ⟨by rw [if_pos (Or.inl q2)]; exact ⟨rfl, rfl⟩, rfl, rfl⟩
    · exact absurd q25 (by rw [pk_us]; decide)
  · refine hj_iload_n F 1 dX4_isBlock_5 rfl rfl ?_
    refine hj_aload_n F 0 dX4_isBlock_6 rfl rfl ?_
    refine hg_M_blocks F hi_X4_isBlock_M lk_X4_isBlock_71 dX4_isBlock_7 ?_
    refine hj_icmp_lt F 17 dX4_isBlock_10 (by decide) (fun q10 => ?_) (fun q10 => ?_)
    · rw [hB] at q10
      refine hj_iconst F (v := 0) dX4_isBlock_17 (by decide) ?_
      refine hp_M_thrown F hi_X4_isBlock_M lk_X4_isBlock_61 dX4_isBlock_18 ?_
      refine hj_aload_n F 0 dX4_isBlock_21 rfl rfl ?_
      refine hg_M_thrown F hi_X4_isBlock_M lk_X4_isBlock_61 dX4_isBlock_22 ?_
      refine hj_if_ne F 32 dX4_isBlock_25 (by decide) (fun q25_2 => ?_) (fun q25_2 => ?_)
      · exact absurd pk_us q25_2
      · rw [pk_us] at q25_2
        refine hj_iconst F (v := 1) dX4_isBlock_28 (by decide) ?_
        refine hj_goto F 33 dX4_isBlock_29 (by decide) ?_
        exact ret dX4_isBlock_33 rfl ⟨by rw [if_neg (fun z => z.elim q2 (fun z => absurd q10 (Int32.not_lt.mpr z)))]; exact ⟨rfl, rfl⟩, rfl, rfl⟩
    · rw [hB] at q10
      refine hj_iconst F (v := 1) dX4_isBlock_13 (by decide) ?_
      refine hj_goto F 18 dX4_isBlock_14 (by decide) ?_
      refine hp_M_thrown F hi_X4_isBlock_M lk_X4_isBlock_61 dX4_isBlock_18 ?_
      refine hj_aload_n F 0 dX4_isBlock_21 rfl rfl ?_
      refine hg_M_thrown F hi_X4_isBlock_M lk_X4_isBlock_61 dX4_isBlock_22 ?_
      refine hj_if_ne F 32 dX4_isBlock_25 (by decide) (fun q25_3 => ?_) (fun q25_3 => ?_)
      · rw [pk_us] at q25_3
        refine hj_iconst F (v := 0) dX4_isBlock_32 (by decide) ?_
        exact ret dX4_isBlock_33 rfl ⟨by rw [if_pos (Or.inr (Int32.not_lt.mp q10))]; exact ⟨rfl, rfl⟩, rfl, rfl⟩
      · exact absurd q25_3 (by rw [pk_us]; decide)
set_option maxHeartbeats 4000000 in
set_option maxRecDepth 100000 in
theorem k_M_isOrder (hok : hw_XOK X) {B : Nat} {x : Int32} (hB : g 9 = nI B) : hw_Ci l D (WM ad t) (hw_T t) X yX4_isOrder wsX4_isOrder (hw_rm 1) [.ref (ad 0), .int x] g a c (fun r g' a' c' => (if x < 0 ∨ nI B ≤ x then r = 0 ∧ g' = upd g 0 1 else r = 1 ∧ g' = upd g 0 0) ∧ a' = a ∧ c' = c) := by
  refine hw_Ci.mk (lv0 := [(0, _), (1, _)]) (by decide) rfl (Nat.le_of_ble_eq_true rfl) rfl (WM_ads ad t) hok (fun K F ret => ?_)
  have F : hw_F K l D (WM ad t) (hw_T t) X cX4_isOrder RX4 wsX4_isOrder (hw_rm 1) 2 := F
  refine hj_aload_n F 0 dX4_isOrder_0 rfl rfl ?_
  refine hj_iload_n F 1 dX4_isOrder_1 rfl rfl ?_
  refine hj_if_lt F 13 dX4_isOrder_2 (by decide) (fun q2 => ?_) (fun q2 => ?_)
  · refine hj_iconst F (v := 1) dX4_isOrder_13 (by decide) ?_
    refine hj_goto F 18 dX4_isOrder_14 (by decide) ?_
    refine hp_M_thrown F hi_X4_isOrder_M lk_X4_isOrder_61 dX4_isOrder_18 ?_
    refine hj_aload_n F 0 dX4_isOrder_21 rfl rfl ?_
    refine hg_M_thrown F hi_X4_isOrder_M lk_X4_isOrder_61 dX4_isOrder_22 ?_
    refine hj_if_ne F 32 dX4_isOrder_25 (by decide) (fun q25 => ?_) (fun q25 => ?_)
    · rw [pk_us] at q25
      refine hj_iconst F (v := 0) dX4_isOrder_32 (by decide) ?_
      exact ret dX4_isOrder_33 rfl ⟨by rw [if_pos (Or.inl q2)]; exact ⟨rfl, rfl⟩, rfl, rfl⟩
    · exact absurd q25 (by rw [pk_us]; decide)
  · refine hj_iload_n F 1 dX4_isOrder_5 rfl rfl ?_
    refine hj_aload_n F 0 dX4_isOrder_6 rfl rfl ?_
    refine hg_M_orders F hi_X4_isOrder_M lk_X4_isOrder_141 dX4_isOrder_7 ?_
    refine hj_icmp_lt F 17 dX4_isOrder_10 (by decide) (fun q10 => ?_) (fun q10 => ?_)
    · rw [hB] at q10
      refine hj_iconst F (v := 0) dX4_isOrder_17 (by decide) ?_
      refine hp_M_thrown F hi_X4_isOrder_M lk_X4_isOrder_61 dX4_isOrder_18 ?_
      refine hj_aload_n F 0 dX4_isOrder_21 rfl rfl ?_
      refine hg_M_thrown F hi_X4_isOrder_M lk_X4_isOrder_61 dX4_isOrder_22 ?_
      refine hj_if_ne F 32 dX4_isOrder_25 (by decide) (fun q25_2 => ?_) (fun q25_2 => ?_)
      · exact absurd pk_us q25_2
      · rw [pk_us] at q25_2
        refine hj_iconst F (v := 1) dX4_isOrder_28 (by decide) ?_
        refine hj_goto F 33 dX4_isOrder_29 (by decide) ?_
        exact ret dX4_isOrder_33 rfl ⟨by rw [if_neg (fun z => z.elim q2 (fun z => absurd q10 (Int32.not_lt.mpr z)))]; exact ⟨rfl, rfl⟩, rfl, rfl⟩
    · rw [hB] at q10
      refine hj_iconst F (v := 1) dX4_isOrder_13 (by decide) ?_
      refine hj_goto F 18 dX4_isOrder_14 (by decide) ?_
      refine hp_M_thrown F hi_X4_isOrder_M lk_X4_isOrder_61 dX4_isOrder_18 ?_
      refine hj_aload_n F 0 dX4_isOrder_21 rfl rfl ?_
      refine hg_M_thrown F hi_X4_isOrder_M lk_X4_isOrder_61 dX4_isOrder_22 ?_
      refine hj_if_ne F 32 dX4_isOrder_25 (by decide) (fun q25_3 => ?_) (fun q25_3 => ?_)
      · rw [pk_us] at q25_3
        refine hj_iconst F (v := 0) dX4_isOrder_32 (by decide) ?_
        exact ret dX4_isOrder_33 rfl ⟨by rw [if_pos (Or.inr (Int32.not_lt.mp q10))]; exact ⟨rfl, rfl⟩, rfl, rfl⟩
      · exact absurd q25_3 (by rw [pk_us]; decide)
theorem md_ix {k o j : Nat} : (nI k) * nI o + nI j = nI (k * o + j) := by rw [pk_mul, nI_add]
set_option maxHeartbeats 4000000 in
set_option maxRecDepth 100000 in
theorem k_M_waits (hok : hw_XOK X) {o : Nat} (ho : o < 60) : hw_Ci l D (WM ad t) (hw_T t) X yX4_waits wsX4_waits (hw_rm 1) [.ref (ad 0), .int (nI o)] g a c (fun r g' a' c' => r = (if a 7 (12 * o + 8) = 0 then 1 else 0) ∧ g' = g ∧ a' = a ∧ c' = c) := by
  refine hw_Ci.mk (lv0 := [(0, _), (1, _)]) (by decide) rfl (Nat.le_of_ble_eq_true rfl) rfl (WM_ads ad t) hok (fun K F ret => ?_)
  have F : hw_F K l D (WM ad t) (hw_T t) X cX4_waits RX4 wsX4_waits (hw_rm 1) 2 := F
  refine hj_aload_n F 0 dX4_waits_0 rfl rfl ?_
  refine hg_M_order F hi_X4_waits_M lk_X4_waits_40 dX4_waits_1 ?_
  refine hj_bipush F (v := 12) dX4_waits_4 (by decide) ?_
  refine hj_iload_n F 1 dX4_waits_6 rfl rfl ?_
  refine hj_imul F dX4_waits_7 ?_
  refine hj_bipush F (v := 8) dX4_waits_8 (by decide) ?_
  refine hj_iadd F dX4_waits_10 ?_
  rw [show (12 : Int32) * nI o + 8 = nI (12 * o + 8) from md_ix (k := 12) (j := 8)]
  refine hl_M_order F (vp_in_nI (show 12 * o + 8 < 720 by omega) (by decide)) dX4_waits_11 ?_
  rw [nI_clamp (by omega)]
  refine hj_if_ne F 19 dX4_waits_12 (by decide) (fun q12 => ?_) (fun q12 => ?_)
  · refine hj_iconst F (v := 0) dX4_waits_19 (by decide) ?_
    exact ret dX4_waits_20 rfl ⟨(if_neg q12).symm, rfl, rfl, rfl⟩
  · refine hj_iconst F (v := 1) dX4_waits_15 (by decide) ?_
    refine hj_goto F 20 dX4_waits_16 (by decide) ?_
    exact ret dX4_waits_20 rfl ⟨(if_pos q12).symm, rfl, rfl, rfl⟩
set_option maxHeartbeats 4000000 in
set_option maxRecDepth 100000 in
theorem lp_M_misfitOf (F : hw_F K l D (WM ad t) (hw_T t) X cX4_misfitOf RX4 wsX4_misfitOf rm 6) {b t9 : Nat} (hb : b < 10) (ht : t9 < 12) (hx : hw_J K (WM ad t) 0 0 g a c [(4, .int (nI 12)), (3, .int (ms (a 0) (fun j => a 1 (12 * b + j)) t9 12)), (0, .ref (ad 0)), (1, .int (nI b)), (2, .int (nI t9))] 53 []) : ∀ m i : Nat, 12 - i < m → i ≤ 12 → hw_J K (WM ad t) 0 0 g a c [(4, .int (nI i)), (3, .int (ms (a 0) (fun j => a 1 (12 * b + j)) t9 i)), (0, .ref (ad 0)), (1, .int (nI b)), (2, .int (nI t9))] 5 [] := by
  intro m
  induction m with
  | zero => intro i hm; exact absurd hm (Nat.not_lt_zero _)
  | succ m ih =>
    intro i hm hi
    refine hj_iload F 0 dX4_misfitOf_5 rfl ?_
    refine hj_bipush F (v := 12) dX4_misfitOf_7 (by decide) ?_
    refine hj_icmp_ge F 53 dX4_misfitOf_9 (by decide) (fun q9 => ?_) (fun q9 => ?_)
    · have q9 : nI 12 ≤ nI i := q9
      rw [nI_leI (by omega) (by omega)] at q9
      obtain rfl : i = 12 := by omega
      exact hx
    · have q9 : ¬ nI 12 ≤ nI i := q9
      rw [nI_leI (by omega) (by omega)] at q9
      refine hj_aload_n F 2 dX4_misfitOf_12 rfl rfl ?_
      refine hg_M_hand F hi_X4_misfitOf_M lk_X4_misfitOf_9 dX4_misfitOf_13 ?_
      refine hj_iload F 0 dX4_misfitOf_16 rfl ?_
      refine hj_iload_n F 4 dX4_misfitOf_18 rfl rfl ?_
      refine hj_iadd F dX4_misfitOf_19 ?_
      rw [nI_add]
      refine hj_bipush F (v := 12) dX4_misfitOf_20 (by decide) ?_
      refine hj_irem F dX4_misfitOf_22 (by decide) ?_
      rw [show nI (i + t9) - nI (i + t9) / 12 * 12 = nI ((i + t9) % 12) from pk_rem (d := 12) (by omega) (by decide) (by decide)]
      refine hl_M_hand F (vp_in_nI (show (i + t9) % 12 < 12 by omega) (by decide)) dX4_misfitOf_23 ?_
      refine hj_aload_n F 2 dX4_misfitOf_24 rfl rfl ?_
      refine hg_M_rings F hi_X4_misfitOf_M lk_X4_misfitOf_13 dX4_misfitOf_25 ?_
      refine hj_bipush F (v := 12) dX4_misfitOf_28 (by decide) ?_
      refine hj_iload_n F 3 dX4_misfitOf_30 rfl rfl ?_
      refine hj_imul F dX4_misfitOf_31 ?_
      refine hj_iload F 0 dX4_misfitOf_32 rfl ?_
      refine hj_iadd F dX4_misfitOf_34 ?_
      rw [show (12 : Int32) * nI b + nI i = nI (12 * b + i) from md_ix (k := 12)]
      refine hl_M_rings F (vp_in_nI (show 12 * b + i < 120 by omega) (by decide)) dX4_misfitOf_35 ?_
      refine hj_isub F dX4_misfitOf_36 ?_
      refine hj_istore F (lv' := [(5, _), (4, _), (3, _), (0, _), (1, _), (2, _)]) dX4_misfitOf_37 (by decide) rfl ?_
      refine hj_iload_n F 2 dX4_misfitOf_39 rfl rfl ?_
      refine hj_iload F 0 dX4_misfitOf_40 rfl ?_
      refine hj_iload F 0 dX4_misfitOf_42 rfl ?_
      refine hj_imul F dX4_misfitOf_44 ?_
      refine hj_iadd F dX4_misfitOf_45 ?_
      refine hj_istore_n F (lv' := [(3, _), (5, _), (4, _), (0, _), (1, _), (2, _)]) dX4_misfitOf_46 rfl (by decide) rfl ?_
      refine hj_iinc F 2 (v := _ + 1) (lv' := [(4, _), (3, _), (5, _), (0, _), (1, _), (2, _)]) dX4_misfitOf_47 rfl rfl (by decide) rfl ?_
      refine hj_goto F 5 dX4_misfitOf_50 (by decide) ?_
      refine hj_lv [0, 1, 3, 4, 5] rfl ?_
      rw [nI_1, nI_clamp (by omega), nI_clamp (by omega)]
      have e := ih (i + 1) (by omega) (by omega)
      rw [show ms (a 0) (fun j => a 1 (12 * b + j)) t9 (i + 1) = ms (a 0) (fun j => a 1 (12 * b + j)) t9 i + (a 0 (ms_ix i t9) - a 1 (12 * b + i)) * (a 0 (ms_ix i t9) - a 1 (12 * b + i)) from rfl, show ms_ix i t9 = (i + t9) % 12 by unfold ms_ix; split <;> omega] at e
      exact e
set_option maxHeartbeats 4000000 in
set_option maxRecDepth 100000 in
theorem k_M_misfitOf (hok : hw_XOK X) {b t9 : Nat} (hb : b < 10) (ht : t9 < 12) : hw_Ci l D (WM ad t) (hw_T t) X yX4_misfitOf wsX4_misfitOf (hw_rm 1) [.ref (ad 0), .int (nI b), .int (nI t9)] g a c (fun r g' a' c' => r = ms (a 0) (fun j => a 1 (12 * b + j)) t9 12 ∧ g' = g ∧ a' = a ∧ c' = c) := by
  refine hw_Ci.mk (lv0 := [(0, _), (1, _), (2, _)]) (by decide) rfl (Nat.le_of_ble_eq_true rfl) rfl (WM_ads ad t) hok (fun K F ret => ?_)
  have F : hw_F K l D (WM ad t) (hw_T t) X cX4_misfitOf RX4 wsX4_misfitOf (hw_rm 1) 6 := F
  have hx : hw_J K (WM ad t) 0 0 g a c [(4, .int (nI 12)), (3, .int (ms (a 0) (fun j => a 1 (12 * b + j)) t9 12)), (0, .ref (ad 0)), (1, .int (nI b)), (2, .int (nI t9))] 53 [] := by
    refine hj_iload_n F 1 dX4_misfitOf_53 rfl rfl ?_
    exact ret dX4_misfitOf_54 rfl ⟨rfl, rfl, rfl, rfl⟩
  refine hj_iconst F (v := 0) dX4_misfitOf_0 (by decide) ?_
  refine hj_istore_n F (lv' := [(3, _), (0, _), (1, _), (2, _)]) dX4_misfitOf_1 rfl (by decide) rfl ?_
  refine hj_iconst F (v := 0) dX4_misfitOf_2 (by decide) ?_
  refine hj_istore F (lv' := [(4, _), (3, _), (0, _), (1, _), (2, _)]) dX4_misfitOf_3 (by decide) rfl ?_
  exact lp_M_misfitOf F hb ht hx 13 0 (by decide) (by decide)
def by_ok (b : Nat → Int32) : Prop := ∀ i, (b i).toInt8.toInt32 = b i
/-- byteAt -/
def mb (b : Nat → Int32) (L n : Nat) : Int32 := if n < L then b n &&& 255 else 0
theorem by_of {x : Int32} (h : x.toInt8.toInt32 = x) : ∃ n : Fin 256, x = (nI n.val).toInt8.toInt32 := by
  obtain ⟨j, hj, e⟩ := pk_andE x (m := 255) 8 (by decide)
  exact ⟨⟨j, hj⟩, (sc_eq h hj).mpr e⟩
theorem by_t : ∀ n : Fin 256, ((nI n.val).toInt8.toInt32 &&& 255 = 32 ↔ (nI n.val).toInt8.toInt32 = 32) ∧ ((nI n.val).toInt8.toInt32 &&& 255 = 44 ↔ (nI n.val).toInt8.toInt32 = 44) ∧ ((97 ≤ ((nI n.val).toInt8.toInt32 &&& 255) ∧ ((nI n.val).toInt8.toInt32 &&& 255) ≤ 122) ↔ (97 ≤ (nI n.val).toInt8.toInt32 ∧ (nI n.val).toInt8.toInt32 ≤ 122)) ∧ ((48 ≤ ((nI n.val).toInt8.toInt32 &&& 255) ∧ ((nI n.val).toInt8.toInt32 &&& 255) ≤ 57) ↔ (48 ≤ (nI n.val).toInt8.toInt32 ∧ (nI n.val).toInt8.toInt32 ≤ 57)) ∧ (0 ≤ (nI n.val).toInt8.toInt32 → (nI n.val).toInt8.toInt32 &&& 255 = (nI n.val).toInt8.toInt32) ∧ ((nI n.val).toInt8.toInt32 < 0 → 128 ≤ ((nI n.val).toInt8.toInt32 &&& 255)) := by decide +kernel
theorem by_f {x : Int32} (h : x.toInt8.toInt32 = x) : (x &&& 255 = 32 ↔ x = 32) ∧ (x &&& 255 = 44 ↔ x = 44) ∧ ((97 ≤ (x &&& 255) ∧ (x &&& 255) ≤ 122) ↔ (97 ≤ x ∧ x ≤ 122)) ∧ ((48 ≤ (x &&& 255) ∧ (x &&& 255) ≤ 57) ↔ (48 ≤ x ∧ x ≤ 57)) ∧ (0 ≤ x → x &&& 255 = x) ∧ (x < 0 → 128 ≤ (x &&& 255)) := by
  obtain ⟨n, rfl⟩ := by_of h
  exact by_t n
set_option maxHeartbeats 4000000 in
set_option maxRecDepth 100000 in
theorem k_M_byteAt (hok : hw_XOK X) {L n : Nat} (h4 : g 4 = nI L) (hL : L ≤ 100) (hn : n ≤ 200) : hw_Ci l D (WM ad t) (hw_T t) X yX4_byteAt wsX4_byteAt (hw_rm 1) [.ref (ad 0), .int (nI n)] g a c (fun r g' a' c' => r = mb (a 2) L n ∧ g' = g ∧ a' = a ∧ c' = c) := by
  refine hw_Ci.mk (lv0 := [(0, _), (1, _)]) (by decide) rfl (Nat.le_of_ble_eq_true rfl) rfl (WM_ads ad t) hok (fun K F ret => ?_)
  have F : hw_F K l D (WM ad t) (hw_T t) X cX4_byteAt RX4 wsX4_byteAt (hw_rm 1) 2 := F
  refine hj_iload_n F 1 dX4_byteAt_0 rfl rfl ?_
  refine hj_aload_n F 0 dX4_byteAt_1 rfl rfl ?_
  refine hg_M_size F hi_X4_byteAt_M lk_X4_byteAt_85 dX4_byteAt_2 ?_
  rw [h4]
  refine hj_icmp_ge F 21 dX4_byteAt_5 (by decide) (fun q5 => ?_) (fun q5 => ?_)
  · rw [nI_leI (by omega) (by omega)] at q5
    refine hj_iconst F (v := 0) dX4_byteAt_21 (by decide) ?_
    exact ret dX4_byteAt_22 rfl ⟨(if_neg (by omega)).symm, rfl, rfl, rfl⟩
  · rw [nI_leI (by omega) (by omega)] at q5
    refine hj_aload_n F 0 dX4_byteAt_8 rfl rfl ?_
    refine hg_M_tape F hi_X4_byteAt_M lk_X4_byteAt_16 dX4_byteAt_9 ?_
    refine hj_iload_n F 1 dX4_byteAt_12 rfl rfl ?_
    refine hl_M_tape F (vp_in_nI (show n < 100 by omega) (by decide)) dX4_byteAt_13 ?_
    rw [nI_clamp (by omega)]
    refine hj_sipush F (v := 255) dX4_byteAt_14 (by decide) ?_
    refine hj_iand F dX4_byteAt_17 ?_
    refine hj_goto F 22 dX4_byteAt_18 (by decide) ?_
    exact ret dX4_byteAt_22 rfl ⟨(if_pos (by omega)).symm, rfl, rfl, rfl⟩
set_option maxHeartbeats 4000000 in
set_option maxRecDepth 100000 in
theorem k_M_isSmall (hok : hw_XOK X) {x : Int32} : hw_Ci l D (WM ad t) (hw_T t) X yX4_isSmall wsX4_isSmall (hw_rm 1) [.int x] g a c (fun r g' a' c' => r = (if 97 ≤ x ∧ x ≤ 122 then 1 else 0) ∧ g' = g ∧ a' = a ∧ c' = c) := by
  refine hw_Ci.mk (lv0 := [(0, _)]) (by decide) rfl (Nat.le_of_ble_eq_true rfl) rfl (WM_ads ad t) hok (fun K F ret => ?_)
  have F : hw_F K l D (WM ad t) (hw_T t) X cX4_isSmall RX4 wsX4_isSmall (hw_rm 1) 1 := F
  refine hj_iload_n F 0 dX4_isSmall_0 rfl rfl ?_
  refine hj_bipush F (v := 97) dX4_isSmall_1 (by decide) ?_
  refine hj_icmp_lt F 16 dX4_isSmall_3 (by decide) (fun q3 => ?_) (fun q3 => ?_)
  · refine hj_iconst F (v := 0) dX4_isSmall_16 (by decide) ?_
    exact ret dX4_isSmall_17 rfl ⟨(if_neg (fun z => absurd q3 (Int32.not_lt.mpr z.1))).symm, rfl, rfl, rfl⟩
  · refine hj_iload_n F 0 dX4_isSmall_6 rfl rfl ?_
    refine hj_bipush F (v := 122) dX4_isSmall_7 (by decide) ?_
    refine hj_icmp_gt F 16 dX4_isSmall_9 (by decide) (fun q9 => ?_) (fun q9 => ?_)
    · refine hj_iconst F (v := 0) dX4_isSmall_16 (by decide) ?_
      exact ret dX4_isSmall_17 rfl ⟨(if_neg (fun z => absurd q9 (Int32.not_lt.mpr z.2))).symm, rfl, rfl, rfl⟩
    · refine hj_iconst F (v := 1) dX4_isSmall_12 (by decide) ?_
      refine hj_goto F 17 dX4_isSmall_13 (by decide) ?_
      exact ret dX4_isSmall_17 rfl ⟨(if_pos ⟨Int32.not_lt.mp q3, Int32.not_lt.mp q9⟩).symm, rfl, rfl, rfl⟩
set_option maxHeartbeats 4000000 in
set_option maxRecDepth 100000 in
theorem k_M_isDigit (hok : hw_XOK X) {x : Int32} : hw_Ci l D (WM ad t) (hw_T t) X yX4_isDigit wsX4_isDigit (hw_rm 1) [.int x] g a c (fun r g' a' c' => r = (if 48 ≤ x ∧ x ≤ 57 then 1 else 0) ∧ g' = g ∧ a' = a ∧ c' = c) := by
  refine hw_Ci.mk (lv0 := [(0, _)]) (by decide) rfl (Nat.le_of_ble_eq_true rfl) rfl (WM_ads ad t) hok (fun K F ret => ?_)
  have F : hw_F K l D (WM ad t) (hw_T t) X cX4_isDigit RX4 wsX4_isDigit (hw_rm 1) 1 := F
  refine hj_iload_n F 0 dX4_isDigit_0 rfl rfl ?_
  refine hj_bipush F (v := 48) dX4_isDigit_1 (by decide) ?_
  refine hj_icmp_lt F 16 dX4_isDigit_3 (by decide) (fun q3 => ?_) (fun q3 => ?_)
  · refine hj_iconst F (v := 0) dX4_isDigit_16 (by decide) ?_
    exact ret dX4_isDigit_17 rfl ⟨(if_neg (fun z => absurd q3 (Int32.not_lt.mpr z.1))).symm, rfl, rfl, rfl⟩
  · refine hj_iload_n F 0 dX4_isDigit_6 rfl rfl ?_
    refine hj_bipush F (v := 57) dX4_isDigit_7 (by decide) ?_
    refine hj_icmp_gt F 16 dX4_isDigit_9 (by decide) (fun q9 => ?_) (fun q9 => ?_)
    · refine hj_iconst F (v := 0) dX4_isDigit_16 (by decide) ?_
      exact ret dX4_isDigit_17 rfl ⟨(if_neg (fun z => absurd q9 (Int32.not_lt.mpr z.2))).symm, rfl, rfl, rfl⟩
    · refine hj_iconst F (v := 1) dX4_isDigit_12 (by decide) ?_
      refine hj_goto F 17 dX4_isDigit_13 (by decide) ?_
      exact ret dX4_isDigit_17 rfl ⟨(if_pos ⟨Int32.not_lt.mp q3, Int32.not_lt.mp q9⟩).symm, rfl, rfl, rfl⟩
set_option maxHeartbeats 4000000 in
set_option maxRecDepth 100000 in
theorem k_M_wrong (hok : hw_XOK X) {x y : Int32} : hw_Cv l D (WM ad t) (hw_T t) X yX4_wrong wsX4_wrong (hw_rm 1) [.ref (ad 0), .int x, .int y] g a c (fun g' a' c' => g' = (if 0 < g 6 then g else upd (upd g 6 x) 7 y) ∧ a' = a ∧ c' = c) := by
  refine hw_Cv.mk (lv0 := [(0, _), (1, _), (2, _)]) (by decide) rfl (Nat.le_of_ble_eq_true rfl) rfl (WM_ads ad t) hok (fun K F ret => ?_)
  have F : hw_F K l D (WM ad t) (hw_T t) X cX4_wrong RX4 wsX4_wrong (hw_rm 1) 3 := F
  refine hj_aload_n F 0 dX4_wrong_0 rfl rfl ?_
  refine hg_M_fault F hi_X4_wrong_M lk_X4_wrong_95 dX4_wrong_1 ?_
  refine hj_if_le F 8 dX4_wrong_4 (by decide) (fun q4 => ?_) (fun q4 => ?_)
  · refine hj_aload_n F 0 dX4_wrong_8 rfl rfl ?_
    refine hj_iload_n F 1 dX4_wrong_9 rfl rfl ?_
    refine hp_M_fault F hi_X4_wrong_M lk_X4_wrong_95 dX4_wrong_10 ?_
    refine hj_aload_n F 0 dX4_wrong_13 rfl rfl ?_
    refine hj_iload_n F 2 dX4_wrong_14 rfl rfl ?_
    refine hp_M_place F hi_X4_wrong_M lk_X4_wrong_20 dX4_wrong_15 ?_
    exact ret dX4_wrong_18 ⟨(if_neg (Int32.not_lt.mpr q4)).symm, rfl, rfl⟩
  · exact ret dX4_wrong_7 ⟨(if_pos (Int32.not_le.mp q4)).symm, rfl, rfl⟩
set_option maxHeartbeats 4000000 in
set_option maxRecDepth 100000 in
theorem lp_M_blanks (F : hw_F K l D (WM ad t) (hw_T t) X cX4_blanks RX4 wsX4_blanks (hw_rm 2) 1) (hok : hw_XOK X) {L : Nat} (h4 : g 4 = nI L) (hL : L ≤ 100) (hby : by_ok (a 2)) : ∀ m n : Nat, L - n < m → n ≤ L → hw_J K (WM ad t) 0 0 (upd g 5 (nI (skp (tp_bl (a 2)) L n))) a c [(0, .ref (ad 0))] 37 [] → hw_J K (WM ad t) 0 0 (upd g 5 (nI n)) a c [(0, .ref (ad 0))] 0 [] := by
  intro m
  induction m with
  | zero => intro n hm; exact absurd hm (Nat.not_lt_zero _)
  | succ m ih =>
    intro n hm hn hx
    have e5 : upd g 5 (nI n) 5 = nI n := pk_us
    have e4 : upd g 5 (nI n) 4 = nI L := by rw [pk_un (by decide)]; exact h4
    refine hj_aload_n F 0 dX4_blanks_0 rfl rfl ?_
    refine hg_M_at F hi_X4_blanks_M lk_X4_blanks_88 dX4_blanks_1 ?_
    refine hj_aload_n F 0 dX4_blanks_4 rfl rfl ?_
    refine hg_M_size F hi_X4_blanks_M lk_X4_blanks_85 dX4_blanks_5 ?_
    rw [e5, e4]
    refine hj_icmp_ge F 37 dX4_blanks_8 (by decide) (fun q8 => ?_) (fun q8 => ?_)
    · rw [nI_leI (by omega) (by omega)] at q8
      rw [skp_f (by omega)] at hx
      exact hx
    · rw [nI_leI (by omega) (by omega)] at q8
      have hlt : n < L := by omega
      have em : mb (a 2) L n = (a 2 n &&& 255) := if_pos hlt
      refine hj_aload_n F 0 dX4_blanks_11 rfl rfl ?_
      refine hj_aload_n F 0 dX4_blanks_12 rfl rfl ?_
      refine hg_M_at F hi_X4_blanks_M lk_X4_blanks_88 dX4_blanks_13 ?_
      rw [e5]
      refine hj_cVi F (n := 1) (k_M_byteAt hok e4 hL (n := n) (by omega)) gX4_blanks_X4_byteAt rfl ⟨rfl, rfl⟩ (by decide +kernel) ⟨by decide, by decide⟩ 0 4 rfl rfl (As := [_]) rfl rfl (Nat.le_of_ble_eq_true rfl) ⟨Nat.zero_le _, Nat.zero_le _⟩ dX4_blanks_16 (hw_eq4 ?_)
      refine hj_bipush F (v := 32) dX4_blanks_19 (by decide) ?_
      refine hj_icmp_ne F 37 dX4_blanks_21 (by decide) (fun q21 => ?_) (fun q21 => ?_)
      · rw [em, (by_f (hby n)).1] at q21
        rw [skp_f (fun z => q21 (by simpa [tp_bl] using z.2))] at hx
        exact hx
      · rw [em, (by_f (hby n)).1] at q21
        refine hj_aload_n F 0 dX4_blanks_24 rfl rfl ?_
        refine hj_dup F dX4_blanks_25 rfl ?_
        refine hg_M_at F hi_X4_blanks_M lk_X4_blanks_88 dX4_blanks_26 ?_
        refine hj_iconst F (v := 1) dX4_blanks_29 (by decide) ?_
        refine hj_iadd F dX4_blanks_30 ?_
        refine hp_M_at F hi_X4_blanks_M lk_X4_blanks_88 dX4_blanks_31 ?_
        refine hj_goto F 0 dX4_blanks_34 (by decide) ?_
        rw [e5, nI_1, upd_uu]
        exact ih (n + 1) (by omega) (by omega) (by rw [skp_t hlt (by simp [tp_bl, q21])] at hx; exact hx)
set_option maxHeartbeats 4000000 in
set_option maxRecDepth 100000 in
theorem k_M_blanks (hok : hw_XOK X) {L n : Nat} (h4 : g 4 = nI L) (hL : L ≤ 100) (hby : by_ok (a 2)) (h5 : g 5 = nI n) (hnL : n ≤ L) : hw_Cv l D (WM ad t) (hw_T t) X yX4_blanks wsX4_blanks (hw_rm 2) [.ref (ad 0)] g a c (fun g' a' c' => g' = upd g 5 (nI (skp (tp_bl (a 2)) L n)) ∧ a' = a ∧ c' = c) := by
  refine hw_Cv.mk (lv0 := [(0, _)]) (by decide) rfl (Nat.le_of_ble_eq_true rfl) rfl (WM_ads ad t) hok (fun K F ret => ?_)
  have F : hw_F K l D (WM ad t) (hw_T t) X cX4_blanks RX4 wsX4_blanks (hw_rm 2) 1 := F
  have h := lp_M_blanks F hok h4 hL hby (a := a) (c := c) (L - n + 1) n (by omega) hnL (ret dX4_blanks_37 ⟨rfl, rfl, rfl⟩)
  rw [upd_self g 5 h5] at h
  exact h
end SMOD1
