section STHROWS
def xt_S : List (Nat × String) := [(64, "a radius is 50 to 200"), (74, "there are 10 blocks"), (102, "a turn is 0 to 11"), (111, "an order tells 0 to 11"), (123, "minutes are 0 to 10,000"), (126, "now is at most 1,000,000"), (142, "a fit is -2 to 2"), (150, "a block's wear is 0 to 2"), (158, "no such block"), (161, "no such order"), (163, "the tape has not so many bytes"), (165, "due is 0 to 1,000,000"), (167, "a weight is 1 to 9")]
/-- what is given for throws -/
def xt (A : Nat → Prop) (U : State) (H : Heap) : Prop := ((∀ w ∈ hw_bd "java/lang/IllegalArgumentException", va_Nw w U) ∧ (∀ w ∈ hw_bd "java/lang/IllegalStateException", va_Nw w U) ∧ (∀ w ∈ hw_bd "java/lang/IndexOutOfBoundsException", va_Nw w U) ∧ vx_Zq Bundle.tN "UNASSIGNED_STACK" Bundle.steD A U H ∧ vx_Zq Bundle.tN "SUPPRESSED_SENTINEL" Bundle.listD A U H) ∧ ∀ q ∈ xt_S, ∃ sa : Nat, vk_R RX3 q.1 q.2 sa U
theorem hi_X3_block_B : ∀ w ∈ u_ws RX0 TX0 5, w ∈ wsX3_block := fun w h => by
  unfold wsX3_block
  simp only [List.mem_cons, List.mem_append]
  first | (simp only [h, or_true, true_or]; done) | (have h2 : w ∈ wsX00 := h; simp only [h2, or_true, true_or]; done)
theorem hi_X3_block_X : ∀ w ∈ u_ws RX3 TX3 12, w ∈ wsX3_block := fun w h => by
  unfold wsX3_block
  simp only [List.mem_cons, List.mem_append]
  first | (simp only [h, or_true, true_or]; done) | (have h2 : w ∈ wsX30 := h; simp only [h2, or_true, true_or]; done)
theorem th_X3_block_72 {X : hw_XT} (hxt : ∀ A U H, X A U H → xt A U H) : hw_th X RX3 wsX3_block 72 76 "java/lang/IllegalStateException" := ⟨by decide, List.mem_of_getElem? (i := 1) rfl, List.mem_of_getElem? (i := 2) rfl, fun w h => by
  unfold wsX3_block
  simp only [List.mem_cons, List.mem_append]
  simp only [h, or_true, true_or], by decide +kernel, by decide +kernel, fun A U H h => ⟨(hxt A U H h).1.2.1, (hxt A U H h).1.2.2.2⟩⟩
theorem lk_X3_block_23 : Cond.fieldLink RX3 23 "HatWorks" "blocks" "LHatWorks$Blocks;" ∈ wsX3_block := List.mem_of_getElem? (i := 3) rfl
theorem lk_X3_block_39 : Cond.fieldLink RX3 39 "HatWorks" "handSize" "I" ∈ wsX3_block := List.mem_of_getElem? (i := 5) rfl
theorem lk_X3_block_69 : Cond.fieldLink RX3 69 "HatWorks$Blocks" "size" "I" ∈ wsX3_block := List.mem_of_getElem? (i := 4) rfl
theorem lk_X3_block_9 : Cond.fieldLink RX3 9 "HatWorks" "hand" "[I" ∈ wsX3_block := List.mem_of_getElem? (i := 6) rfl
theorem hi_X3_checkBlock_B : ∀ w ∈ u_ws RX0 TX0 5, w ∈ wsX3_checkBlock := fun w h => by
  unfold wsX3_checkBlock
  simp only [List.mem_cons, List.mem_append]
  first | (simp only [h, or_true, true_or]; done) | (have h2 : w ∈ wsX00 := h; simp only [h2, or_true, true_or]; done)
theorem hi_X3_checkBlock_X : ∀ w ∈ u_ws RX3 TX3 12, w ∈ wsX3_checkBlock := fun w h => by
  unfold wsX3_checkBlock
  simp only [List.mem_cons, List.mem_append]
  first | (simp only [h, or_true, true_or]; done) | (have h2 : w ∈ wsX30 := h; simp only [h2, or_true, true_or]; done)
theorem th_X3_checkBlock_156 {X : hw_XT} (hxt : ∀ A U H, X A U H → xt A U H) : hw_th X RX3 wsX3_checkBlock 156 160 "java/lang/IndexOutOfBoundsException" := ⟨by decide, List.mem_of_getElem? (i := 1) rfl, List.mem_of_getElem? (i := 2) rfl, fun w h => by
  unfold wsX3_checkBlock
  simp only [List.mem_cons, List.mem_append]
  simp only [h, or_true, true_or], by decide +kernel, by decide +kernel, fun A U H h => ⟨(hxt A U H h).1.2.2.1, (hxt A U H h).1.2.2.2⟩⟩
theorem lk_X3_checkBlock_23 : Cond.fieldLink RX3 23 "HatWorks" "blocks" "LHatWorks$Blocks;" ∈ wsX3_checkBlock := List.mem_of_getElem? (i := 3) rfl
theorem lk_X3_checkBlock_69 : Cond.fieldLink RX3 69 "HatWorks$Blocks" "size" "I" ∈ wsX3_checkBlock := List.mem_of_getElem? (i := 4) rfl
theorem hi_X3_checkOrder_X : ∀ w ∈ u_ws RX3 TX3 12, w ∈ wsX3_checkOrder := fun w h => by
  unfold wsX3_checkOrder
  simp only [List.mem_cons, List.mem_append]
  first | (simp only [h, or_true, true_or]; done) | (have h2 : w ∈ wsX30 := h; simp only [h2, or_true, true_or]; done)
theorem th_X3_checkOrder_156 {X : hw_XT} (hxt : ∀ A U H, X A U H → xt A U H) : hw_th X RX3 wsX3_checkOrder 156 160 "java/lang/IndexOutOfBoundsException" := ⟨by decide, List.mem_of_getElem? (i := 1) rfl, List.mem_of_getElem? (i := 2) rfl, fun w h => by
  unfold wsX3_checkOrder
  simp only [List.mem_cons, List.mem_append]
  simp only [h, or_true, true_or], by decide +kernel, by decide +kernel, fun A U H h => ⟨(hxt A U H h).1.2.2.1, (hxt A U H h).1.2.2.2⟩⟩
theorem lk_X3_checkOrder_43 : Cond.fieldLink RX3 43 "HatWorks" "orderCount" "I" ∈ wsX3_checkOrder := List.mem_of_getElem? (i := 3) rfl
theorem lc_X3_checkOrderArguments_125 : Cond.constant RX3 125 1000000 ∈ wsX3_checkOrderArguments := by decide +kernel
theorem hi_X3_checkOrderArguments_T : ∀ w ∈ u_ws RX2 TX2 7, w ∈ wsX3_checkOrderArguments := fun w h => by
  unfold wsX3_checkOrderArguments
  simp only [List.mem_cons, List.mem_append]
  first | (simp only [h, or_true, true_or]; done) | (have h2 : w ∈ wsX20 := h; simp only [h2, or_true, true_or]; done)
theorem hi_X3_checkOrderArguments_X : ∀ w ∈ u_ws RX3 TX3 12, w ∈ wsX3_checkOrderArguments := fun w h => by
  unfold wsX3_checkOrderArguments
  simp only [List.mem_cons, List.mem_append]
  first | (simp only [h, or_true, true_or]; done) | (have h2 : w ∈ wsX30 := h; simp only [h2, or_true, true_or]; done)
theorem th_X3_checkOrderArguments_62 {X : hw_XT} (hxt : ∀ A U H, X A U H → xt A U H) : hw_th X RX3 wsX3_checkOrderArguments 62 66 "java/lang/IllegalArgumentException" := ⟨by decide, List.mem_of_getElem? (i := 1) rfl, List.mem_of_getElem? (i := 2) rfl, fun w h => by
  unfold wsX3_checkOrderArguments
  simp only [List.mem_cons, List.mem_append]
  simp only [h, or_true, true_or], by decide +kernel, by decide +kernel, fun A U H h => ⟨(hxt A U H h).1.1, (hxt A U H h).1.2.2.2⟩⟩
theorem lk_X3_checkOrderArguments_16 : Cond.fieldLink RX3 16 "HatWorks" "tape" "LHatWorks$Tape;" ∈ wsX3_checkOrderArguments := List.mem_of_getElem? (i := 3) rfl
theorem lk_X3_checkOrderArguments_81 : Cond.fieldLink RX3 81 "HatWorks$Tape" "size" "I" ∈ wsX3_checkOrderArguments := List.mem_of_getElem? (i := 4) rfl
theorem hi_X3_fit_B : ∀ w ∈ u_ws RX0 TX0 5, w ∈ wsX3_fit := fun w h => by
  unfold wsX3_fit
  simp only [List.mem_cons, List.mem_append]
  first | (simp only [h, or_true, true_or]; done) | (have h2 : w ∈ wsX00 := h; simp only [h2, or_true, true_or]; done)
theorem hi_X3_fit_X : ∀ w ∈ u_ws RX3 TX3 12, w ∈ wsX3_fit := fun w h => by
  unfold wsX3_fit
  simp only [List.mem_cons, List.mem_append]
  first | (simp only [h, or_true, true_or]; done) | (have h2 : w ∈ wsX30 := h; simp only [h2, or_true, true_or]; done)
theorem th_X3_fit_62 {X : hw_XT} (hxt : ∀ A U H, X A U H → xt A U H) : hw_th X RX3 wsX3_fit 62 66 "java/lang/IllegalArgumentException" := ⟨by decide, List.mem_of_getElem? (i := 1) rfl, List.mem_of_getElem? (i := 2) rfl, fun w h => by
  unfold wsX3_fit
  simp only [List.mem_cons, List.mem_append]
  simp only [h, or_true, true_or], by decide +kernel, by decide +kernel, fun A U H h => ⟨(hxt A U H h).1.1, (hxt A U H h).1.2.2.2⟩⟩
theorem lk_X3_fit_147 : Cond.fieldLink RX3 147 "HatWorks$Blocks" "wears" "[[I" ∈ wsX3_fit := List.mem_of_getElem? (i := 5) rfl
theorem lk_X3_fit_23 : Cond.fieldLink RX3 23 "HatWorks" "blocks" "LHatWorks$Blocks;" ∈ wsX3_fit := List.mem_of_getElem? (i := 4) rfl
theorem lk_X3_fit_29 : Cond.fieldLink RX3 29 "HatWorks" "orders" "[[I" ∈ wsX3_fit := List.mem_of_getElem? (i := 3) rfl
theorem hi_X3_misfit_X : ∀ w ∈ u_ws RX3 TX3 12, w ∈ wsX3_misfit := fun w h => by
  unfold wsX3_misfit
  simp only [List.mem_cons, List.mem_append]
  first | (simp only [h, or_true, true_or]; done) | (have h2 : w ∈ wsX30 := h; simp only [h2, or_true, true_or]; done)
theorem th_X3_misfit_62 {X : hw_XT} (hxt : ∀ A U H, X A U H → xt A U H) : hw_th X RX3 wsX3_misfit 62 66 "java/lang/IllegalArgumentException" := ⟨by decide, List.mem_of_getElem? (i := 1) rfl, List.mem_of_getElem? (i := 2) rfl, fun w h => by
  unfold wsX3_misfit
  simp only [List.mem_cons, List.mem_append]
  simp only [h, or_true, true_or], by decide +kernel, by decide +kernel, fun A U H h => ⟨(hxt A U H h).1.1, (hxt A U H h).1.2.2.2⟩⟩
theorem lk_X3_misfit_23 : Cond.fieldLink RX3 23 "HatWorks" "blocks" "LHatWorks$Blocks;" ∈ wsX3_misfit := List.mem_of_getElem? (i := 4) rfl
theorem lk_X3_misfit_39 : Cond.fieldLink RX3 39 "HatWorks" "handSize" "I" ∈ wsX3_misfit := List.mem_of_getElem? (i := 3) rfl
theorem lk_X3_misfit_9 : Cond.fieldLink RX3 9 "HatWorks" "hand" "[I" ∈ wsX3_misfit := List.mem_of_getElem? (i := 5) rfl
theorem hi_X3_order_B : ∀ w ∈ u_ws RX0 TX0 5, w ∈ wsX3_order := fun w h => by
  unfold wsX3_order
  simp only [List.mem_cons, List.mem_append]
  first | (simp only [h, or_true, true_or]; done) | (have h2 : w ∈ wsX00 := h; simp only [h2, or_true, true_or]; done)
theorem hi_X3_order_T : ∀ w ∈ u_ws RX2 TX2 7, w ∈ wsX3_order := fun w h => by
  unfold wsX3_order
  simp only [List.mem_cons, List.mem_append]
  first | (simp only [h, or_true, true_or]; done) | (have h2 : w ∈ wsX20 := h; simp only [h2, or_true, true_or]; done)
theorem hi_X3_order_X : ∀ w ∈ u_ws RX3 TX3 12, w ∈ wsX3_order := fun w h => by
  unfold wsX3_order
  simp only [List.mem_cons, List.mem_append]
  first | (simp only [h, or_true, true_or]; done) | (have h2 : w ∈ wsX30 := h; simp only [h2, or_true, true_or]; done)
theorem lk_X3_order_16 : Cond.fieldLink RX3 16 "HatWorks" "tape" "LHatWorks$Tape;" ∈ wsX3_order := List.mem_of_getElem? (i := 5) rfl
theorem lk_X3_order_23 : Cond.fieldLink RX3 23 "HatWorks" "blocks" "LHatWorks$Blocks;" ∈ wsX3_order := List.mem_of_getElem? (i := 2) rfl
theorem lk_X3_order_39 : Cond.fieldLink RX3 39 "HatWorks" "handSize" "I" ∈ wsX3_order := List.mem_of_getElem? (i := 1) rfl
theorem lk_X3_order_43 : Cond.fieldLink RX3 43 "HatWorks" "orderCount" "I" ∈ wsX3_order := List.mem_of_getElem? (i := 4) rfl
theorem lk_X3_order_55 : Cond.fieldLink RX3 55 "HatWorks" "faultPlace" "I" ∈ wsX3_order := List.mem_of_getElem? (i := 7) rfl
theorem lk_X3_order_69 : Cond.fieldLink RX3 69 "HatWorks$Blocks" "size" "I" ∈ wsX3_order := List.mem_of_getElem? (i := 3) rfl
theorem lk_X3_order_81 : Cond.fieldLink RX3 81 "HatWorks$Tape" "size" "I" ∈ wsX3_order := List.mem_of_getElem? (i := 8) rfl
theorem lk_X3_order_94 : Cond.fieldLink RX3 94 "HatWorks$Tape" "faultPlace" "I" ∈ wsX3_order := List.mem_of_getElem? (i := 6) rfl
theorem hi_X3_push_X : ∀ w ∈ u_ws RX3 TX3 12, w ∈ wsX3_push := fun w h => by
  unfold wsX3_push
  simp only [List.mem_cons, List.mem_append]
  first | (simp only [h, or_true, true_or]; done) | (have h2 : w ∈ wsX30 := h; simp only [h2, or_true, true_or]; done)
theorem th_X3_push_62 {X : hw_XT} (hxt : ∀ A U H, X A U H → xt A U H) : hw_th X RX3 wsX3_push 62 66 "java/lang/IllegalArgumentException" := ⟨by decide, List.mem_of_getElem? (i := 1) rfl, List.mem_of_getElem? (i := 2) rfl, fun w h => by
  unfold wsX3_push
  simp only [List.mem_cons, List.mem_append]
  simp only [h, or_true, true_or], by decide +kernel, by decide +kernel, fun A U H h => ⟨(hxt A U H h).1.1, (hxt A U H h).1.2.2.2⟩⟩
theorem lk_X3_push_39 : Cond.fieldLink RX3 39 "HatWorks" "handSize" "I" ∈ wsX3_push := List.mem_of_getElem? (i := 3) rfl
theorem lk_X3_push_9 : Cond.fieldLink RX3 9 "HatWorks" "hand" "[I" ∈ wsX3_push := List.mem_of_getElem? (i := 4) rfl
theorem hi_X3_told_X : ∀ w ∈ u_ws RX3 TX3 12, w ∈ wsX3_told := fun w h => by
  unfold wsX3_told
  simp only [List.mem_cons, List.mem_append]
  first | (simp only [h, or_true, true_or]; done) | (have h2 : w ∈ wsX30 := h; simp only [h2, or_true, true_or]; done)
theorem th_X3_told_62 {X : hw_XT} (hxt : ∀ A U H, X A U H → xt A U H) : hw_th X RX3 wsX3_told 62 66 "java/lang/IllegalArgumentException" := ⟨by decide, List.mem_of_getElem? (i := 1) rfl, List.mem_of_getElem? (i := 2) rfl, fun w h => by
  unfold wsX3_told
  simp only [List.mem_cons, List.mem_append]
  simp only [h, or_true, true_or], by decide +kernel, by decide +kernel, fun A U H h => ⟨(hxt A U H h).1.1, (hxt A U H h).1.2.2.2⟩⟩
theorem lk_X3_told_29 : Cond.fieldLink RX3 29 "HatWorks" "orders" "[[I" ∈ wsX3_told := List.mem_of_getElem? (i := 3) rfl
theorem lc_X3_wait_125 : Cond.constant RX3 125 1000000 ∈ wsX3_wait := by decide +kernel
theorem hi_X3_wait_X : ∀ w ∈ u_ws RX3 TX3 12, w ∈ wsX3_wait := fun w h => by
  unfold wsX3_wait
  simp only [List.mem_cons, List.mem_append]
  first | (simp only [h, or_true, true_or]; done) | (have h2 : w ∈ wsX30 := h; simp only [h2, or_true, true_or]; done)
theorem th_X3_wait_62 {X : hw_XT} (hxt : ∀ A U H, X A U H → xt A U H) : hw_th X RX3 wsX3_wait 62 66 "java/lang/IllegalArgumentException" := ⟨by decide, List.mem_of_getElem? (i := 1) rfl, List.mem_of_getElem? (i := 2) rfl, fun w h => by
  unfold wsX3_wait
  simp only [List.mem_cons, List.mem_append]
  simp only [h, or_true, true_or], by decide +kernel, by decide +kernel, fun A U H h => ⟨(hxt A U H h).1.1, (hxt A U H h).1.2.2.2⟩⟩
theorem lk_X3_wait_46 : Cond.fieldLink RX3 46 "HatWorks" "now" "I" ∈ wsX3_wait := List.mem_of_getElem? (i := 3) rfl
theorem lk_X3_wait_58 : Cond.fieldLink RX3 58 "HatWorks" "bestStands" "Z" ∈ wsX3_wait := List.mem_of_getElem? (i := 5) rfl
theorem hi_X3_wear_B : ∀ w ∈ u_ws RX0 TX0 5, w ∈ wsX3_wear := fun w h => by
  unfold wsX3_wear
  simp only [List.mem_cons, List.mem_append]
  first | (simp only [h, or_true, true_or]; done) | (have h2 : w ∈ wsX00 := h; simp only [h2, or_true, true_or]; done)
theorem hi_X3_wear_X : ∀ w ∈ u_ws RX3 TX3 12, w ∈ wsX3_wear := fun w h => by
  unfold wsX3_wear
  simp only [List.mem_cons, List.mem_append]
  first | (simp only [h, or_true, true_or]; done) | (have h2 : w ∈ wsX30 := h; simp only [h2, or_true, true_or]; done)
theorem th_X3_wear_62 {X : hw_XT} (hxt : ∀ A U H, X A U H → xt A U H) : hw_th X RX3 wsX3_wear 62 66 "java/lang/IllegalArgumentException" := ⟨by decide, List.mem_of_getElem? (i := 1) rfl, List.mem_of_getElem? (i := 2) rfl, fun w h => by
  unfold wsX3_wear
  simp only [List.mem_cons, List.mem_append]
  simp only [h, or_true, true_or], by decide +kernel, by decide +kernel, fun A U H h => ⟨(hxt A U H h).1.1, (hxt A U H h).1.2.2.2⟩⟩
theorem lk_X3_wear_147 : Cond.fieldLink RX3 147 "HatWorks$Blocks" "wears" "[[I" ∈ wsX3_wear := List.mem_of_getElem? (i := 4) rfl
theorem lk_X3_wear_23 : Cond.fieldLink RX3 23 "HatWorks" "blocks" "LHatWorks$Blocks;" ∈ wsX3_wear := List.mem_of_getElem? (i := 3) rfl
variable {K : hw_K} {l : Launch} {D : va_G} {ad : Nat → Nat} {t : Nat → ClassId} {X : hw_XT} {rm : Room} {g : hw_G} {a : hw_A} {c : Int64}
set_option maxHeartbeats 4000000 in
set_option maxRecDepth 100000 in
theorem k_X_checkBlock (hok : hw_XOK X) (hlt : l.stackTraces = false) (hxt : ∀ A U H, X A U H → xt A U H) {B : Nat} {x : Int32} (hB : g 12 = nI B) (hB1 : B < 2 ^ 31) : hw_Xv l D (WH ad t) (hw_T t) X yX3_checkBlock wsX3_checkBlock (hw_rx 6 1) 1 [.ref (ad 0), .int x] g a c (fun E => E = "java/lang/IndexOutOfBoundsException" ∧ (x < 0 ∨ nI B ≤ x)) (fun g' a' c' => (∃ j, j < B ∧ x = nI j) ∧ g' = g ∧ a' = a ∧ c' = c) := by
  refine hw_Xv.mk (lv0 := [(0, _), (1, _)]) hlt (by decide) rfl (Nat.le_of_ble_eq_true rfl) rfl (WH_ads ad t) hok ⟨rfl, rfl⟩ (fun K F ret thr => ?_)
  have F : hw_F K l D (WH ad t) (hw_T t) X cX3_checkBlock RX3 wsX3_checkBlock (hw_rx 6 1) 2 := F
  have thr : hw_TR K (WH ad t) X cX3_checkBlock RX3 wsX3_checkBlock (hw_rx 6 1) 1 g a c _ := thr
  refine hj_iload_n F 1 dX3_checkBlock_0 rfl rfl ?_
  refine hj_if_lt F 15 dX3_checkBlock_1 (by decide) (fun q1 => ?_) (fun q1 => ?_)
  · exact thr (by decide) (by decide) (th_X3_checkBlock_156 hxt) (fun A U H h => (hxt A U H h).2 (158, "no such block") (by decide)) (by decide) (Nat.le_of_ble_eq_true rfl) dX3_checkBlock_15 dX3_checkBlock_18 dX3_checkBlock_19 dX3_checkBlock_21 dX3_checkBlock_24 (⟨rfl, Or.inl q1⟩)
  · refine hj_iload_n F 1 dX3_checkBlock_4 rfl rfl ?_
    refine hj_aload_n F 0 dX3_checkBlock_5 rfl rfl ?_
    refine hg_X_blocks F hi_X3_checkBlock_X lk_X3_checkBlock_23 dX3_checkBlock_6 ?_
    refine hg_B_size F hi_X3_checkBlock_B lk_X3_checkBlock_69 dX3_checkBlock_9 ?_
    refine hj_icmp_lt F 25 dX3_checkBlock_12 (by decide) (fun q12 => ?_) (fun q12 => ?_)
    · rw [hB] at q12
      refine ret (by decide) (by decide) dX3_checkBlock_25 ⟨?_, rfl, rfl, rfl⟩
      rcases pk_ix x (n := B) hB1 with z | z | z
      · exact absurd z q1
      · exact absurd z (Int32.not_le.mpr q12)
      · exact z
    · rw [hB] at q12
      exact thr (by decide) (by decide) (th_X3_checkBlock_156 hxt) (fun A U H h => (hxt A U H h).2 (158, "no such block") (by decide)) (by decide) (Nat.le_of_ble_eq_true rfl) dX3_checkBlock_15 dX3_checkBlock_18 dX3_checkBlock_19 dX3_checkBlock_21 dX3_checkBlock_24 (⟨rfl, Or.inr (Int32.not_lt.mp q12)⟩)
set_option maxHeartbeats 4000000 in
set_option maxRecDepth 100000 in
theorem k_X_checkOrder (hok : hw_XOK X) (hlt : l.stackTraces = false) (hxt : ∀ A U H, X A U H → xt A U H) {B : Nat} {x : Int32} (hB : g 1 = nI B) (hB1 : B < 2 ^ 31) : hw_Xv l D (WH ad t) (hw_T t) X yX3_checkOrder wsX3_checkOrder (hw_rx 6 1) 1 [.ref (ad 0), .int x] g a c (fun E => E = "java/lang/IndexOutOfBoundsException" ∧ (x < 0 ∨ nI B ≤ x)) (fun g' a' c' => (∃ j, j < B ∧ x = nI j) ∧ g' = g ∧ a' = a ∧ c' = c) := by
  refine hw_Xv.mk (lv0 := [(0, _), (1, _)]) hlt (by decide) rfl (Nat.le_of_ble_eq_true rfl) rfl (WH_ads ad t) hok ⟨rfl, rfl⟩ (fun K F ret thr => ?_)
  have F : hw_F K l D (WH ad t) (hw_T t) X cX3_checkOrder RX3 wsX3_checkOrder (hw_rx 6 1) 2 := F
  have thr : hw_TR K (WH ad t) X cX3_checkOrder RX3 wsX3_checkOrder (hw_rx 6 1) 1 g a c _ := thr
  refine hj_iload_n F 1 dX3_checkOrder_0 rfl rfl ?_
  refine hj_if_lt F 12 dX3_checkOrder_1 (by decide) (fun q1 => ?_) (fun q1 => ?_)
  · exact thr (by decide) (by decide) (th_X3_checkOrder_156 hxt) (fun A U H h => (hxt A U H h).2 (161, "no such order") (by decide)) (by decide) (Nat.le_of_ble_eq_true rfl) dX3_checkOrder_12 dX3_checkOrder_15 dX3_checkOrder_16 dX3_checkOrder_18 dX3_checkOrder_21 (⟨rfl, Or.inl q1⟩)
  · refine hj_iload_n F 1 dX3_checkOrder_4 rfl rfl ?_
    refine hj_aload_n F 0 dX3_checkOrder_5 rfl rfl ?_
    refine hg_X_orderCount F hi_X3_checkOrder_X lk_X3_checkOrder_43 dX3_checkOrder_6 ?_
    refine hj_icmp_lt F 22 dX3_checkOrder_9 (by decide) (fun q9 => ?_) (fun q9 => ?_)
    · rw [hB] at q9
      refine ret (by decide) (by decide) dX3_checkOrder_22 ⟨?_, rfl, rfl, rfl⟩
      rcases pk_ix x (n := B) hB1 with z | z | z
      · exact absurd z q1
      · exact absurd z (Int32.not_le.mpr q9)
      · exact z
    · rw [hB] at q9
      exact thr (by decide) (by decide) (th_X3_checkOrder_156 hxt) (fun A U H h => (hxt A U H h).2 (161, "no such order") (by decide)) (by decide) (Nat.le_of_ble_eq_true rfl) dX3_checkOrder_12 dX3_checkOrder_15 dX3_checkOrder_16 dX3_checkOrder_18 dX3_checkOrder_21 (⟨rfl, Or.inr (Int32.not_lt.mp q9)⟩)
def oa_bad (g : hw_G) (x y z : Int32) : Prop := x < 0 ∨ g 11 < x ∨ y < 0 ∨ 1000000 < y ∨ z < 1 ∨ 9 < z
set_option maxHeartbeats 4000000 in
set_option maxRecDepth 100000 in
theorem k_X_checkOrderArguments (hok : hw_XOK X) (hlt : l.stackTraces = false) (hxt : ∀ A U H, X A U H → xt A U H) {x y z : Int32} : hw_Xv l D (WH ad t) (hw_T t) X yX3_checkOrderArguments wsX3_checkOrderArguments (hw_rx 6 1) 1 [.ref (ad 0), .int x, .int y, .int z] g a c (fun E => E = "java/lang/IllegalArgumentException" ∧ oa_bad g x y z) (fun g' a' c' => ¬ oa_bad g x y z ∧ g' = g ∧ a' = a ∧ c' = c) := by
  refine hw_Xv.mk (lv0 := [(0, _), (1, _), (2, _), (3, _)]) hlt (by decide) rfl (Nat.le_of_ble_eq_true rfl) rfl (WH_ads ad t) hok ⟨rfl, rfl⟩ (fun K F ret thr => ?_)
  have F : hw_F K l D (WH ad t) (hw_T t) X cX3_checkOrderArguments RX3 wsX3_checkOrderArguments (hw_rx 6 1) 4 := F
  have thr : hw_TR K (WH ad t) X cX3_checkOrderArguments RX3 wsX3_checkOrderArguments (hw_rx 6 1) 1 g a c _ := thr
  refine hj_iload_n F 1 dX3_checkOrderArguments_0 rfl rfl ?_
  refine hj_if_lt F 15 dX3_checkOrderArguments_1 (by decide) (fun q1 => ?_) (fun q1 => ?_)
  · exact thr (by decide) (by decide) (th_X3_checkOrderArguments_62 hxt) (fun A U H h => (hxt A U H h).2 (163, "the tape has not so many bytes") (by decide)) (by decide) (Nat.le_of_ble_eq_true rfl) dX3_checkOrderArguments_15 dX3_checkOrderArguments_18 dX3_checkOrderArguments_19 dX3_checkOrderArguments_21 dX3_checkOrderArguments_24 (⟨rfl, Or.inl q1⟩)
  · refine hj_iload_n F 1 dX3_checkOrderArguments_4 rfl rfl ?_
    refine hj_aload_n F 0 dX3_checkOrderArguments_5 rfl rfl ?_
    refine hg_X_tape F hi_X3_checkOrderArguments_X lk_X3_checkOrderArguments_16 dX3_checkOrderArguments_6 ?_
    refine hg_T_size F hi_X3_checkOrderArguments_T lk_X3_checkOrderArguments_81 dX3_checkOrderArguments_9 ?_
    refine hj_icmp_le F 25 dX3_checkOrderArguments_12 (by decide) (fun q12 => ?_) (fun q12 => ?_)
    · refine hj_iload_n F 2 dX3_checkOrderArguments_25 rfl rfl ?_
      refine hj_if_lt F 35 dX3_checkOrderArguments_26 (by decide) (fun q26 => ?_) (fun q26 => ?_)
      · exact thr (by decide) (by decide) (th_X3_checkOrderArguments_62 hxt) (fun A U H h => (hxt A U H h).2 (165, "due is 0 to 1,000,000") (by decide)) (by decide) (Nat.le_of_ble_eq_true rfl) dX3_checkOrderArguments_35 dX3_checkOrderArguments_38 dX3_checkOrderArguments_39 dX3_checkOrderArguments_41 dX3_checkOrderArguments_44 (⟨rfl, Or.inr (Or.inr (Or.inl q26))⟩)
      · refine hj_iload_n F 2 dX3_checkOrderArguments_29 rfl rfl ?_
        refine hj_ldc F lc_X3_checkOrderArguments_125 dX3_checkOrderArguments_30 ?_
        refine hj_icmp_le F 45 dX3_checkOrderArguments_32 (by decide) (fun q32 => ?_) (fun q32 => ?_)
        · refine hj_iload_n F 3 dX3_checkOrderArguments_45 rfl rfl ?_
          refine hj_iconst F (v := 1) dX3_checkOrderArguments_46 (by decide) ?_
          refine hj_icmp_lt F 56 dX3_checkOrderArguments_47 (by decide) (fun q47 => ?_) (fun q47 => ?_)
          · exact thr (by decide) (by decide) (th_X3_checkOrderArguments_62 hxt) (fun A U H h => (hxt A U H h).2 (167, "a weight is 1 to 9") (by decide)) (by decide) (Nat.le_of_ble_eq_true rfl) dX3_checkOrderArguments_56 dX3_checkOrderArguments_59 dX3_checkOrderArguments_60 dX3_checkOrderArguments_62 dX3_checkOrderArguments_65 (⟨rfl, Or.inr (Or.inr (Or.inr (Or.inr (Or.inl q47))))⟩)
          · refine hj_iload_n F 3 dX3_checkOrderArguments_50 rfl rfl ?_
            refine hj_bipush F (v := 9) dX3_checkOrderArguments_51 (by decide) ?_
            refine hj_icmp_le F 66 dX3_checkOrderArguments_53 (by decide) (fun q53 => ?_) (fun q53 => ?_)
            · exact ret (by decide) (by decide) dX3_checkOrderArguments_66 ⟨fun h => by rcases h with h | h | h | h | h | h; exact q1 h; exact absurd q12 (Int32.not_le.mpr h); exact q26 h; exact absurd q32 (Int32.not_le.mpr h); exact q47 h; exact absurd q53 (Int32.not_le.mpr h), rfl, rfl, rfl⟩
            · exact thr (by decide) (by decide) (th_X3_checkOrderArguments_62 hxt) (fun A U H h => (hxt A U H h).2 (167, "a weight is 1 to 9") (by decide)) (by decide) (Nat.le_of_ble_eq_true rfl) dX3_checkOrderArguments_56 dX3_checkOrderArguments_59 dX3_checkOrderArguments_60 dX3_checkOrderArguments_62 dX3_checkOrderArguments_65 (⟨rfl, Or.inr (Or.inr (Or.inr (Or.inr (Or.inr (Int32.not_le.mp q53)))))⟩)
        · exact thr (by decide) (by decide) (th_X3_checkOrderArguments_62 hxt) (fun A U H h => (hxt A U H h).2 (165, "due is 0 to 1,000,000") (by decide)) (by decide) (Nat.le_of_ble_eq_true rfl) dX3_checkOrderArguments_35 dX3_checkOrderArguments_38 dX3_checkOrderArguments_39 dX3_checkOrderArguments_41 dX3_checkOrderArguments_44 (⟨rfl, Or.inr (Or.inr (Or.inr (Or.inl (Int32.not_le.mp q32))))⟩)
    · exact thr (by decide) (by decide) (th_X3_checkOrderArguments_62 hxt) (fun A U H h => (hxt A U H h).2 (163, "the tape has not so many bytes") (by decide)) (by decide) (Nat.le_of_ble_eq_true rfl) dX3_checkOrderArguments_15 dX3_checkOrderArguments_18 dX3_checkOrderArguments_19 dX3_checkOrderArguments_21 dX3_checkOrderArguments_24 (⟨rfl, Or.inr (Or.inl (Int32.not_le.mp q12))⟩)
set_option maxHeartbeats 4000000 in
set_option maxRecDepth 100000 in
theorem k_X_push (hok : hw_XOK X) (hlt : l.stackTraces = false) (hxt : ∀ A U H, X A U H → xt A U H) {n : Nat} {x : Int32} (h0 : g 0 = nI n) (hn : n ≤ 12) : hw_Xi l D (WH ad t) (hw_T t) X yX3_push wsX3_push (hw_rx 6 1) 1 [.ref (ad 0), .int x] g a c (fun E => E = "java/lang/IllegalArgumentException" ∧ (x < 50 ∨ 200 < x)) (fun r g' a' c' => ¬ (x < 50 ∨ 200 < x) ∧ c' = c ∧ (if n = 12 then r = -1 ∧ g' = g ∧ a' = a else r = nI (n + 1) ∧ g' = upd g 0 (nI (n + 1)) ∧ a' = va_up a 0 (upd (a 0) n x))) := by
  refine hw_Xi.mk (lv0 := [(0, _), (1, _)]) hlt (by decide) rfl (Nat.le_of_ble_eq_true rfl) rfl (WH_ads ad t) hok ⟨rfl, rfl⟩ (fun K F ret thr out => ?_)
  have F : hw_F K l D (WH ad t) (hw_T t) X cX3_push RX3 wsX3_push (hw_rx 6 1) 2 := F
  have thr : hw_TR K (WH ad t) X cX3_push RX3 wsX3_push (hw_rx 6 1) 1 g a c _ := thr
  refine hj_iload_n F 1 dX3_push_0 rfl rfl ?_
  refine hj_bipush F (v := 50) dX3_push_1 (by decide) ?_
  refine hj_icmp_lt F 13 dX3_push_3 (by decide) (fun q3 => ?_) (fun q3 => ?_)
  · exact thr (by decide) (by decide) (th_X3_push_62 hxt) (fun A U H h => (hxt A U H h).2 (64, "a radius is 50 to 200") (by decide)) (by decide) (Nat.le_of_ble_eq_true rfl) dX3_push_13 dX3_push_16 dX3_push_17 dX3_push_19 dX3_push_22 (⟨rfl, Or.inl q3⟩)
  · refine hj_iload_n F 1 dX3_push_6 rfl rfl ?_
    refine hj_sipush F (v := 200) dX3_push_7 (by decide) ?_
    refine hj_icmp_le F 23 dX3_push_10 (by decide) (fun q10 => ?_) (fun q10 => ?_)
    · refine hj_aload_n F 0 dX3_push_23 rfl rfl ?_
      refine hg_X_handSize F hi_X3_push_X lk_X3_push_39 dX3_push_24 ?_
      rw [h0]
      refine hj_bipush F (v := 12) dX3_push_27 (by decide) ?_
      refine hj_icmp_lt F 34 dX3_push_29 (by decide) (fun q29 => ?_) (fun q29 => ?_)
      · have q29 : nI n < nI 12 := q29
        rw [nI_ltI (by omega) (by omega)] at q29
        refine hj_aload_n F 0 dX3_push_34 rfl rfl ?_
        refine hg_X_hand F hi_X3_push_X lk_X3_push_9 dX3_push_35 ?_
        refine hj_aload_n F 0 dX3_push_38 rfl rfl ?_
        refine hg_X_handSize F hi_X3_push_X lk_X3_push_39 dX3_push_39 ?_
        refine hj_iload_n F 1 dX3_push_42 rfl rfl ?_
        refine hs_X_hand F (by rw [h0]; exact vp_in_nI (show n < 12 by omega) (by decide)) dX3_push_43 ?_
        refine hj_aload_n F 0 dX3_push_44 rfl rfl ?_
        refine hj_dup F dX3_push_45 rfl ?_
        refine hg_X_handSize F hi_X3_push_X lk_X3_push_39 dX3_push_46 ?_
        refine hj_iconst F (v := 1) dX3_push_49 (by decide) ?_
        rw [h0]
        refine hj_iadd F dX3_push_50 ?_
        rw [nI_1]
        refine hp_X_handSize F hi_X3_push_X lk_X3_push_39 dX3_push_51 ?_
        refine hj_aload_n F 0 dX3_push_54 rfl rfl ?_
        refine hg_X_handSize F hi_X3_push_X lk_X3_push_39 dX3_push_55 ?_
        rw [pk_us]
        exact ret (by decide) (by decide) dX3_push_58 rfl ⟨fun h => h.elim q3 (fun h => absurd q10 (Int32.not_le.mpr h)), rfl, by rw [if_neg (by omega), nI_clamp (by omega)]; exact ⟨rfl, rfl, rfl⟩⟩
      · have q29 : ¬ nI n < nI 12 := q29
        rw [nI_ltI (by omega) (by omega)] at q29
        refine hj_iconst F (v := -1) dX3_push_32 (by decide) ?_
        exact ret (by decide) (by decide) dX3_push_33 rfl ⟨fun h => h.elim q3 (fun h => absurd q10 (Int32.not_le.mpr h)), rfl, by rw [if_pos (by omega)]; exact ⟨rfl, rfl, rfl⟩⟩
    · exact thr (by decide) (by decide) (th_X3_push_62 hxt) (fun A U H h => (hxt A U H h).2 (64, "a radius is 50 to 200") (by decide)) (by decide) (Nat.le_of_ble_eq_true rfl) dX3_push_13 dX3_push_16 dX3_push_17 dX3_push_19 dX3_push_22 (⟨rfl, Or.inr (Int32.not_le.mp q10)⟩)
set_option maxHeartbeats 4000000 in
set_option maxRecDepth 100000 in
theorem k_X_block (hok : hw_XOK X) (hlt : l.stackTraces = false) (hxt : ∀ A U H, X A U H → xt A U H) {n B : Nat} (h0 : g 0 = nI n) (hn : n ≤ 12) (h12 : g 12 = nI B) (hB : B ≤ 10) : hw_Xi l D (WH ad t) (hw_T t) X yX3_block wsX3_block (hw_rx 6 1) 1 [.ref (ad 0)] g a c (fun E => E = "java/lang/IllegalStateException" ∧ B = 10) (fun r g' a' c' => B < 10 ∧ c' = c ∧ (if n < 12 then r = -1 ∧ g' = g ∧ a' = a else r = nI B ∧ g' = upd (upd g 0 0) 12 (nI (B + 1)) ∧ a' = va_up (va_up a (200 + B) (cp_n (a (200 + B)) (a 0) 12)) 4 (upd (a 4) B (-1)))) := by
  refine hw_Xi.mk (lv0 := [(0, _)]) hlt (by decide) rfl (Nat.le_of_ble_eq_true rfl) rfl (WH_ads ad t) hok ⟨rfl, rfl⟩ (fun K F ret thr out => ?_)
  have F : hw_F K l D (WH ad t) (hw_T t) X cX3_block RX3 wsX3_block (hw_rx 6 1) 1 := F
  have thr : hw_TR K (WH ad t) X cX3_block RX3 wsX3_block (hw_rx 6 1) 1 g a c _ := thr
  refine hj_aload_n F 0 dX3_block_0 rfl rfl ?_
  refine hg_X_blocks F hi_X3_block_X lk_X3_block_23 dX3_block_1 ?_
  refine hg_B_size F hi_X3_block_B lk_X3_block_69 dX3_block_4 ?_
  rw [h12]
  refine hj_bipush F (v := 10) dX3_block_7 (by decide) ?_
  refine hj_icmp_lt F 22 dX3_block_9 (by decide) (fun q9 => ?_) (fun q9 => ?_)
  · have q9 : nI B < nI 10 := q9
    rw [nI_ltI (by omega) (by omega)] at q9
    refine hj_aload_n F 0 dX3_block_22 rfl rfl ?_
    refine hg_X_handSize F hi_X3_block_X lk_X3_block_39 dX3_block_23 ?_
    rw [h0]
    refine hj_bipush F (v := 12) dX3_block_26 (by decide) ?_
    refine hj_icmp_ge F 33 dX3_block_28 (by decide) (fun q28 => ?_) (fun q28 => ?_)
    · have q28 : nI 12 ≤ nI n := q28
      rw [nI_leI (by omega) (by omega)] at q28
      refine hj_aload_n F 0 dX3_block_33 rfl rfl ?_
      refine hj_iconst F (v := 0) dX3_block_34 (by decide) ?_
      refine hp_X_handSize F hi_X3_block_X lk_X3_block_39 dX3_block_35 ?_
      refine hj_aload_n F 0 dX3_block_38 rfl rfl ?_
      refine hg_X_blocks F hi_X3_block_X lk_X3_block_23 dX3_block_39 ?_
      refine hj_aload_n F 0 dX3_block_42 rfl rfl ?_
      refine hg_X_hand F hi_X3_block_X lk_X3_block_9 dX3_block_43 ?_
      refine hj_cVi F (n := 1) (k_B_add hok (n := B) (by rw [pk_un (by decide)]; exact h12) (by omega)) gX3_block_X0_add rfl ⟨rfl, rfl⟩ (by decide +kernel) ⟨by decide, by decide⟩ 2 0 rfl rfl (As := [_]) rfl rfl (Nat.le_of_ble_eq_true rfl) ⟨by decide, by decide⟩ dX3_block_46 (hw_eq4 ?_)
      exact ret (by decide) (by decide) dX3_block_49 rfl ⟨q9, rfl, by rw [if_neg (by omega)]; exact ⟨rfl, rfl, rfl⟩⟩
    · have q28 : ¬ nI 12 ≤ nI n := q28
      rw [nI_leI (by omega) (by omega)] at q28
      refine hj_iconst F (v := -1) dX3_block_31 (by decide) ?_
      exact ret (by decide) (by decide) dX3_block_32 rfl ⟨q9, rfl, by rw [if_pos (by omega)]; exact ⟨rfl, rfl, rfl⟩⟩
  · have q9 : ¬ nI B < nI 10 := q9
    rw [nI_ltI (by omega) (by omega)] at q9
    exact thr (by decide) (by decide) (th_X3_block_72 hxt) (fun A U H h => (hxt A U H h).2 (74, "there are 10 blocks") (by decide)) (by decide) (Nat.le_of_ble_eq_true rfl) dX3_block_12 dX3_block_15 dX3_block_16 dX3_block_18 dX3_block_21 (⟨rfl, by omega⟩)
set_option maxHeartbeats 4000000 in
set_option maxRecDepth 100000 in
theorem k_X_wait (hok : hw_XOK X) (hlt : l.stackTraces = false) (hxt : ∀ A U H, X A U H → xt A U H) {x : Int32} : hw_Xi l D (WH ad t) (hw_T t) X yX3_wait wsX3_wait (hw_rx 6 1) 1 [.ref (ad 0), .int x] g a c (fun E => E = "java/lang/IllegalArgumentException" ∧ (x < 0 ∨ 10000 < x ∨ 1000000 < g 2 + x)) (fun r g' a' c' => ¬ (x < 0 ∨ 10000 < x ∨ 1000000 < g 2 + x) ∧ r = g 2 + x ∧ g' = upd (upd g 2 (g 2 + x)) 6 0 ∧ a' = a ∧ c' = c) := by
  refine hw_Xi.mk (lv0 := [(0, _), (1, _)]) hlt (by decide) rfl (Nat.le_of_ble_eq_true rfl) rfl (WH_ads ad t) hok ⟨rfl, rfl⟩ (fun K F ret thr out => ?_)
  have F : hw_F K l D (WH ad t) (hw_T t) X cX3_wait RX3 wsX3_wait (hw_rx 6 1) 2 := F
  have thr : hw_TR K (WH ad t) X cX3_wait RX3 wsX3_wait (hw_rx 6 1) 1 g a c _ := thr
  refine hj_iload_n F 1 dX3_wait_0 rfl rfl ?_
  refine hj_if_lt F 11 dX3_wait_1 (by decide) (fun q1 => ?_) (fun q1 => ?_)
  · exact thr (by decide) (by decide) (th_X3_wait_62 hxt) (fun A U H h => (hxt A U H h).2 (123, "minutes are 0 to 10,000") (by decide)) (by decide) (Nat.le_of_ble_eq_true rfl) dX3_wait_11 dX3_wait_14 dX3_wait_15 dX3_wait_17 dX3_wait_20 (⟨rfl, Or.inl q1⟩)
  · refine hj_iload_n F 1 dX3_wait_4 rfl rfl ?_
    refine hj_sipush F (v := 10000) dX3_wait_5 (by decide) ?_
    refine hj_icmp_le F 21 dX3_wait_8 (by decide) (fun q8 => ?_) (fun q8 => ?_)
    · refine hj_aload_n F 0 dX3_wait_21 rfl rfl ?_
      refine hg_X_now F hi_X3_wait_X lk_X3_wait_46 dX3_wait_22 ?_
      refine hj_iload_n F 1 dX3_wait_25 rfl rfl ?_
      refine hj_iadd F dX3_wait_26 ?_
      refine hj_ldc F lc_X3_wait_125 dX3_wait_27 ?_
      refine hj_icmp_le F 42 dX3_wait_29 (by decide) (fun q29 => ?_) (fun q29 => ?_)
      · refine hj_aload_n F 0 dX3_wait_42 rfl rfl ?_
        refine hj_dup F dX3_wait_43 rfl ?_
        refine hg_X_now F hi_X3_wait_X lk_X3_wait_46 dX3_wait_44 ?_
        refine hj_iload_n F 1 dX3_wait_47 rfl rfl ?_
        refine hj_iadd F dX3_wait_48 ?_
        refine hp_X_now F hi_X3_wait_X lk_X3_wait_46 dX3_wait_49 ?_
        refine hj_aload_n F 0 dX3_wait_52 rfl rfl ?_
        refine hj_iconst F (v := 0) dX3_wait_53 (by decide) ?_
        refine hp_X_bestStands F hi_X3_wait_X lk_X3_wait_58 rfl rfl dX3_wait_54 ?_
        refine hj_aload_n F 0 dX3_wait_57 rfl rfl ?_
        refine hg_X_now F hi_X3_wait_X lk_X3_wait_46 dX3_wait_58 ?_
        rw [pk_un (by decide), pk_us]
        exact ret (by decide) (by decide) dX3_wait_61 rfl ⟨fun h => by rcases h with h | h | h; exact q1 h; exact absurd q8 (Int32.not_le.mpr h); exact absurd q29 (Int32.not_le.mpr h), rfl, rfl, rfl, rfl⟩
      · exact thr (by decide) (by decide) (th_X3_wait_62 hxt) (fun A U H h => (hxt A U H h).2 (126, "now is at most 1,000,000") (by decide)) (by decide) (Nat.le_of_ble_eq_true rfl) dX3_wait_32 dX3_wait_35 dX3_wait_36 dX3_wait_38 dX3_wait_41 (⟨rfl, Or.inr (Or.inr (Int32.not_le.mp q29))⟩)
    · exact thr (by decide) (by decide) (th_X3_wait_62 hxt) (fun A U H h => (hxt A U H h).2 (123, "minutes are 0 to 10,000") (by decide)) (by decide) (Nat.le_of_ble_eq_true rfl) dX3_wait_11 dX3_wait_14 dX3_wait_15 dX3_wait_17 dX3_wait_20 (⟨rfl, Or.inr (Or.inl (Int32.not_le.mp q8))⟩)
set_option maxHeartbeats 4000000 in
set_option maxRecDepth 100000 in
theorem k_X_go (hok : hw_XOK X) (hlt : l.stackTraces = false) (hxt : ∀ A U H, X A U H → xt A U H) {N : Nat} (h1 : g 1 = nI N) (hN : N ≤ 60) {x : Int32} (hrow : ∀ o, o < N → ub (a (100 + o) 0) 9) : hw_Xi l D (WH ad t) (hw_T t) X yX3_go wsX3_go (hw_rx 7 1) 1 [.ref (ad 0), .int x] g a c (fun E => E = "java/lang/IndexOutOfBoundsException" ∧ (x < 0 ∨ nI N ≤ x)) (fun r g' a' c' => c' = c ∧ ∃ o, o < N ∧ x = nI o ∧ (if a (100 + o) 9 = -1 then r = sn_s g a o (a (100 + o) 0).toNatClampNeg ∧ g' = sn_g g a o (a (100 + o) 0).toNatClampNeg ∧ a' = sn_a g a o (a (100 + o) 0).toNatClampNeg else r = -1 ∧ g' = g ∧ a' = a)) := by
  refine hw_Xi.mk (lv0 := [(0, _), (1, _)]) hlt (by decide) rfl (Nat.le_of_ble_eq_true rfl) rfl (WH_ads ad t) hok ⟨rfl, rfl⟩ (fun K F ret thr out => ?_)
  have F : hw_F K l D (WH ad t) (hw_T t) X cX3_go RX3 wsX3_go (hw_rx 7 1) 2 := F
  have thr : hw_TR K (WH ad t) X cX3_go RX3 wsX3_go (hw_rx 7 1) 1 g a c _ := thr
  refine hj_aload_n F 0 dX3_go_0 rfl rfl ?_
  refine hj_iload_n F 1 dX3_go_1 rfl rfl ?_
  refine hj_xVv F (n := 1) (k_X_checkOrder hok hlt hxt h1 (by omega)) gX3_go_X3_checkOrder rfl ⟨rfl, rfl⟩ (by decide +kernel) ⟨by decide, by decide⟩ 0 3 rfl rfl (As := [_]) rfl rfl (Nat.le_of_ble_eq_true rfl) ⟨by decide, by decide⟩ dX3_go_2 (out (fun E h => h) (by decide) (by decide)) ?_
  intro g9 a9 c9 hq
  obtain ⟨⟨o, hoN, rfl⟩, hg, ha, hc⟩ := hq
  obtain rfl := hg.symm
  obtain rfl := ha.symm
  obtain rfl := hc.symm
  have ho : o < 60 := by omega
  refine hj_aload_n F 0 dX3_go_5 rfl rfl ?_
  refine hj_iload_n F 1 dX3_go_6 rfl rfl ?_
  refine hj_cVi F (n := 1) (k_X_isWaiting hok ho) gX3_go_X3_isWaiting rfl ⟨rfl, rfl⟩ (by decide +kernel) ⟨by decide, by decide⟩ 0 3 rfl rfl (As := [_]) rfl rfl (Nat.le_of_ble_eq_true rfl) ⟨by decide, by decide⟩ dX3_go_7 (hw_eq4 ?_)
  refine hj_if_ne F 15 dX3_go_10 (by decide) (fun q10 => ?_) (fun q10 => ?_)
  · have hw : a (100 + o) 9 = -1 := Classical.byContradiction (fun z => q10 (if_neg z))
    refine hj_aload_n F 0 dX3_go_15 rfl rfl ?_
    refine hj_iload_n F 1 dX3_go_16 rfl rfl ?_
    refine hj_cVi F (n := 1) (k_X_send hok ho (b := (a (100 + o) 0).toNatClampNeg) (by have := (hrow o hoN).2; omega) (hrow o hoN).1) gX3_go_X3_send rfl ⟨rfl, rfl⟩ (by decide +kernel) ⟨by decide, by decide⟩ 0 3 rfl rfl (As := [_]) rfl rfl (Nat.le_of_ble_eq_true rfl) ⟨by decide, by decide⟩ dX3_go_17 (hw_eq4 ?_)
    exact ret (by decide) (by decide) dX3_go_20 rfl ⟨rfl, o, hoN, rfl, by rw [if_pos hw]; exact ⟨rfl, rfl, rfl⟩⟩
  · have hw : ¬ a (100 + o) 9 = -1 := fun z => by rw [if_pos z] at q10; exact absurd q10 (by decide)
    refine hj_iconst F (v := -1) dX3_go_13 (by decide) ?_
    exact ret (by decide) (by decide) dX3_go_14 rfl ⟨rfl, o, hoN, rfl, by rw [if_neg hw]; exact ⟨rfl, rfl, rfl⟩⟩
set_option maxHeartbeats 4000000 in
set_option maxRecDepth 100000 in
theorem k_X_told (hok : hw_XOK X) (hlt : l.stackTraces = false) (hxt : ∀ A U H, X A U H → xt A U H) {N : Nat} (h1 : g 1 = nI N) (hN : N ≤ 60) {x w : Int32} : hw_Xi l D (WH ad t) (hw_T t) X yX3_told wsX3_told (hw_rx 7 2) 2 [.ref (ad 0), .int x, .int w] g a c (fun E => (E = "java/lang/IndexOutOfBoundsException" ∧ (x < 0 ∨ nI N ≤ x)) ∨ (E = "java/lang/IllegalArgumentException" ∧ ¬ (x < 0 ∨ nI N ≤ x) ∧ (w < 0 ∨ 11 < w))) (fun r g' a' c' => g' = g ∧ a' = a ∧ c' = c ∧ ∃ o j, o < N ∧ x = nI o ∧ j < 12 ∧ w = nI j ∧ r = (if j = 8 then (if a (100 + o) 9 = -1 then 0 else if a (100 + o) 10 ≤ g 2 then 2 else 1) else a (100 + o) j)) := by
  refine hw_Xi.mk (lv0 := [(0, _), (1, _), (2, _)]) hlt (by decide) rfl (Nat.le_of_ble_eq_true rfl) rfl (WH_ads ad t) hok ⟨rfl, rfl⟩ (fun K F ret thr out => ?_)
  have F : hw_F K l D (WH ad t) (hw_T t) X cX3_told RX3 wsX3_told (hw_rx 7 2) 3 := F
  have xok : ∀ {o : Nat}, o < N → ¬ (nI o < 0 ∨ nI N ≤ nI o) := fun {o} h z => z.elim (nI_pos (by omega)) (fun z => by rw [nI_leI (by omega) (by omega)] at z; omega)
  have thr : hw_TR K (WH ad t) X cX3_told RX3 wsX3_told (hw_rx 7 2) 2 g a c _ := thr
  refine hj_aload_n F 0 dX3_told_0 rfl rfl ?_
  refine hj_iload_n F 1 dX3_told_1 rfl rfl ?_
  refine hj_xVv F (n := 1) (k_X_checkOrder hok hlt hxt h1 (by omega)) gX3_told_X3_checkOrder rfl ⟨rfl, rfl⟩ (by decide +kernel) ⟨by decide, by decide⟩ 0 3 rfl rfl (As := [_]) rfl rfl (Nat.le_of_ble_eq_true rfl) ⟨by decide, by decide⟩ dX3_told_2 (out (fun E h => Or.inl h) (by decide) (by decide)) ?_
  intro g9 a9 c9 hq
  obtain ⟨⟨o, hoN, rfl⟩, hg, ha, hc⟩ := hq
  obtain rfl := hg.symm
  obtain rfl := ha.symm
  obtain rfl := hc.symm
  have ho : o < 60 := by omega
  refine hj_iload_n F 2 dX3_told_5 rfl rfl ?_
  refine hj_if_lt F 15 dX3_told_6 (by decide) (fun q6 => ?_) (fun q6 => ?_)
  · exact thr (by decide) (by decide) (th_X3_told_62 hxt) (fun A U H h => (hxt A U H h).2 (111, "an order tells 0 to 11") (by decide)) (by decide) (Nat.le_of_ble_eq_true rfl) dX3_told_15 dX3_told_18 dX3_told_19 dX3_told_21 dX3_told_24 (Or.inr ⟨rfl, xok hoN, Or.inl q6⟩)
  · refine hj_iload_n F 2 dX3_told_9 rfl rfl ?_
    refine hj_bipush F (v := 11) dX3_told_10 (by decide) ?_
    refine hj_icmp_le F 25 dX3_told_12 (by decide) (fun q12 => ?_) (fun q12 => ?_)
    · obtain ⟨j, hj, rfl⟩ : ∃ j, j < 12 ∧ w = nI j := by
        rcases pk_ix w (n := 12) (by decide) with z | z | z
        · exact absurd z q6
        · exact absurd q12 (Int32.not_le.mpr (Int32.lt_of_lt_of_le (by decide) z))
        · exact z
      refine hj_iload_n F 2 dX3_told_25 rfl rfl ?_
      refine hj_bipush F (v := 8) dX3_told_26 (by decide) ?_
      refine hj_icmp_ne F 39 dX3_told_28 (by decide) (fun q28 => ?_) (fun q28 => ?_)
      · have q28 : ¬ nI j = nI 8 := q28
        rw [nI_eq (by omega) (by omega)] at q28
        refine hj_aload_n F 0 dX3_told_39 rfl rfl ?_
        refine hg_X_orders F hi_X3_told_X lk_X3_told_29 dX3_told_40 ?_
        refine hj_iload_n F 1 dX3_told_43 rfl rfl ?_
        refine hl_X_orders F (vp_in_nI ho (by decide)) dX3_told_44 ?_
        rw [nI_clamp (show o < 2 ^ 31 by omega)]
        refine hj_iload_n F 2 dX3_told_45 rfl rfl ?_
        refine hl_X_order F ho (vp_in_nI (show j < 13 by omega) (by decide)) dX3_told_46 ?_
        exact ret (by decide) (by decide) dX3_told_47 rfl ⟨rfl, rfl, rfl, o, j, hoN, rfl, hj, rfl, by rw [if_neg q28, nI_clamp (by omega)]⟩
      · have q28 : nI j = nI 8 := q28
        rw [nI_eq (by omega) (by omega)] at q28
        refine hj_aload_n F 0 dX3_told_31 rfl rfl ?_
        refine hj_iload_n F 1 dX3_told_32 rfl rfl ?_
        refine hj_cVi F (n := 1) (k_X_stateOf hok ho) gX3_told_X3_stateOf rfl ⟨rfl, rfl⟩ (by decide +kernel) ⟨by decide, by decide⟩ 0 3 rfl rfl (As := [_]) rfl rfl (Nat.le_of_ble_eq_true rfl) ⟨by decide, by decide⟩ dX3_told_33 (hw_eq4 ?_)
        refine hj_goto F 47 dX3_told_36 (by decide) ?_
        exact ret (by decide) (by decide) dX3_told_47 rfl ⟨rfl, rfl, rfl, o, j, hoN, rfl, hj, rfl, by rw [if_pos q28]⟩
    · exact thr (by decide) (by decide) (th_X3_told_62 hxt) (fun A U H h => (hxt A U H h).2 (111, "an order tells 0 to 11") (by decide)) (by decide) (Nat.le_of_ble_eq_true rfl) dX3_told_15 dX3_told_18 dX3_told_19 dX3_told_21 dX3_told_24 (Or.inr ⟨rfl, xok hoN, Or.inr (Int32.not_le.mp q12)⟩)
set_option maxHeartbeats 4000000 in
set_option maxRecDepth 100000 in
theorem k_X_misfit (hok : hw_XOK X) (hlt : l.stackTraces = false) (hxt : ∀ A U H, X A U H → xt A U H) {n B : Nat} (h0 : g 0 = nI n) (hn : n ≤ 12) (h12 : g 12 = nI B) (hB : B ≤ 10) {x w : Int32} : hw_Xi l D (WH ad t) (hw_T t) X yX3_misfit wsX3_misfit (hw_rx 7 2) 2 [.ref (ad 0), .int x, .int w] g a c (fun E => (E = "java/lang/IndexOutOfBoundsException" ∧ (x < 0 ∨ nI B ≤ x)) ∨ (E = "java/lang/IllegalArgumentException" ∧ ¬ (x < 0 ∨ nI B ≤ x) ∧ (w < 0 ∨ 12 ≤ w))) (fun r g' a' c' => g' = g ∧ a' = a ∧ c' = c ∧ ∃ b j, b < B ∧ x = nI b ∧ j < 12 ∧ w = nI j ∧ r = (if n < 12 then -1 else ms (a 0) (a (200 + b)) j 12)) := by
  refine hw_Xi.mk (lv0 := [(0, _), (1, _), (2, _)]) hlt (by decide) rfl (Nat.le_of_ble_eq_true rfl) rfl (WH_ads ad t) hok ⟨rfl, rfl⟩ (fun K F ret thr out => ?_)
  have F : hw_F K l D (WH ad t) (hw_T t) X cX3_misfit RX3 wsX3_misfit (hw_rx 7 2) 3 := F
  have xok : ∀ {o : Nat}, o < B → ¬ (nI o < 0 ∨ nI B ≤ nI o) := fun {o} h z => z.elim (nI_pos (by omega)) (fun z => by rw [nI_leI (by omega) (by omega)] at z; omega)
  have thr : hw_TR K (WH ad t) X cX3_misfit RX3 wsX3_misfit (hw_rx 7 2) 2 g a c _ := thr
  refine hj_aload_n F 0 dX3_misfit_0 rfl rfl ?_
  refine hj_iload_n F 1 dX3_misfit_1 rfl rfl ?_
  refine hj_xVv F (n := 1) (k_X_checkBlock hok hlt hxt h12 (by omega)) gX3_misfit_X3_checkBlock rfl ⟨rfl, rfl⟩ (by decide +kernel) ⟨by decide, by decide⟩ 0 3 rfl rfl (As := [_]) rfl rfl (Nat.le_of_ble_eq_true rfl) ⟨by decide, by decide⟩ dX3_misfit_2 (out (fun E h => Or.inl h) (by decide) (by decide)) ?_
  intro g9 a9 c9 hq
  obtain ⟨⟨b, hbB, rfl⟩, hg, ha, hc⟩ := hq
  obtain rfl := hg.symm
  obtain rfl := ha.symm
  obtain rfl := hc.symm
  refine hj_iload_n F 2 dX3_misfit_5 rfl rfl ?_
  refine hj_if_lt F 15 dX3_misfit_6 (by decide) (fun q6 => ?_) (fun q6 => ?_)
  · exact thr (by decide) (by decide) (th_X3_misfit_62 hxt) (fun A U H h => (hxt A U H h).2 (102, "a turn is 0 to 11") (by decide)) (by decide) (Nat.le_of_ble_eq_true rfl) dX3_misfit_15 dX3_misfit_18 dX3_misfit_19 dX3_misfit_21 dX3_misfit_24 (Or.inr ⟨rfl, xok hbB, Or.inl q6⟩)
  · refine hj_iload_n F 2 dX3_misfit_9 rfl rfl ?_
    refine hj_bipush F (v := 12) dX3_misfit_10 (by decide) ?_
    refine hj_icmp_lt F 25 dX3_misfit_12 (by decide) (fun q12 => ?_) (fun q12 => ?_)
    · obtain ⟨j, hj, rfl⟩ : ∃ j, j < 12 ∧ w = nI j := by
        rcases pk_ix w (n := 12) (by decide) with z | z | z
        · exact absurd z q6
        · exact absurd q12 (Int32.not_lt.mpr z)
        · exact z
      refine hj_aload_n F 0 dX3_misfit_25 rfl rfl ?_
      refine hg_X_handSize F hi_X3_misfit_X lk_X3_misfit_39 dX3_misfit_26 ?_
      rw [h0]
      refine hj_bipush F (v := 12) dX3_misfit_29 (by decide) ?_
      refine hj_icmp_ge F 36 dX3_misfit_31 (by decide) (fun q31 => ?_) (fun q31 => ?_)
      · have q31 : nI 12 ≤ nI n := q31
        rw [nI_leI (by omega) (by omega)] at q31
        refine hj_aload_n F 0 dX3_misfit_36 rfl rfl ?_
        refine hg_X_blocks F hi_X3_misfit_X lk_X3_misfit_23 dX3_misfit_37 ?_
        refine hj_aload_n F 0 dX3_misfit_40 rfl rfl ?_
        refine hg_X_hand F hi_X3_misfit_X lk_X3_misfit_9 dX3_misfit_41 ?_
        refine hj_iload_n F 1 dX3_misfit_44 rfl rfl ?_
        refine hj_iload_n F 2 dX3_misfit_45 rfl rfl ?_
        refine hj_cVi F (n := 3) (k_B_misfitOf hok (b := b) (t9 := j) (by omega) hj) gX3_misfit_X0_misfitOf rfl ⟨rfl, rfl⟩ (by decide +kernel) ⟨by decide, by decide⟩ 2 0 rfl rfl (As := [_, _, _]) rfl rfl (Nat.le_of_ble_eq_true rfl) ⟨by decide, by decide⟩ dX3_misfit_46 (hw_eq4 ?_)
        exact ret (by decide) (by decide) dX3_misfit_49 rfl ⟨rfl, rfl, rfl, b, j, hbB, rfl, hj, rfl, by rw [if_neg (by omega)]⟩
      · have q31 : ¬ nI 12 ≤ nI n := q31
        rw [nI_leI (by omega) (by omega)] at q31
        refine hj_iconst F (v := -1) dX3_misfit_34 (by decide) ?_
        exact ret (by decide) (by decide) dX3_misfit_35 rfl ⟨rfl, rfl, rfl, b, j, hbB, rfl, hj, rfl, by rw [if_pos (by omega)]⟩
    · exact thr (by decide) (by decide) (th_X3_misfit_62 hxt) (fun A U H h => (hxt A U H h).2 (102, "a turn is 0 to 11") (by decide)) (by decide) (Nat.le_of_ble_eq_true rfl) dX3_misfit_15 dX3_misfit_18 dX3_misfit_19 dX3_misfit_21 dX3_misfit_24 (Or.inr ⟨rfl, xok hbB, Or.inr (Int32.not_lt.mp q12)⟩)
set_option maxHeartbeats 4000000 in
set_option maxRecDepth 100000 in
theorem k_X_wear (hok : hw_XOK X) (hlt : l.stackTraces = false) (hxt : ∀ A U H, X A U H → xt A U H) {B : Nat} (h12 : g 12 = nI B) (hB : B ≤ 10) {x w : Int32} : hw_Xi l D (WH ad t) (hw_T t) X yX3_wear wsX3_wear (hw_rx 7 2) 2 [.ref (ad 0), .int x, .int w] g a c (fun E => (E = "java/lang/IndexOutOfBoundsException" ∧ (x < 0 ∨ nI B ≤ x)) ∨ (E = "java/lang/IllegalArgumentException" ∧ ¬ (x < 0 ∨ nI B ≤ x) ∧ (w < 0 ∨ 2 < w))) (fun r g' a' c' => g' = g ∧ a' = a ∧ c' = c ∧ ∃ b j, b < B ∧ x = nI b ∧ j < 3 ∧ w = nI j ∧ r = a (300 + b) j) := by
  refine hw_Xi.mk (lv0 := [(0, _), (1, _), (2, _)]) hlt (by decide) rfl (Nat.le_of_ble_eq_true rfl) rfl (WH_ads ad t) hok ⟨rfl, rfl⟩ (fun K F ret thr out => ?_)
  have F : hw_F K l D (WH ad t) (hw_T t) X cX3_wear RX3 wsX3_wear (hw_rx 7 2) 3 := F
  have xok : ∀ {o : Nat}, o < B → ¬ (nI o < 0 ∨ nI B ≤ nI o) := fun {o} h z => z.elim (nI_pos (by omega)) (fun z => by rw [nI_leI (by omega) (by omega)] at z; omega)
  have thr : hw_TR K (WH ad t) X cX3_wear RX3 wsX3_wear (hw_rx 7 2) 2 g a c _ := thr
  refine hj_aload_n F 0 dX3_wear_0 rfl rfl ?_
  refine hj_iload_n F 1 dX3_wear_1 rfl rfl ?_
  refine hj_xVv F (n := 1) (k_X_checkBlock hok hlt hxt h12 (by omega)) gX3_wear_X3_checkBlock rfl ⟨rfl, rfl⟩ (by decide +kernel) ⟨by decide, by decide⟩ 0 3 rfl rfl (As := [_]) rfl rfl (Nat.le_of_ble_eq_true rfl) ⟨by decide, by decide⟩ dX3_wear_2 (out (fun E h => Or.inl h) (by decide) (by decide)) ?_
  intro g9 a9 c9 hq
  obtain ⟨⟨b, hbB, rfl⟩, hg, ha, hc⟩ := hq
  obtain rfl := hg.symm
  obtain rfl := ha.symm
  obtain rfl := hc.symm
  refine hj_iload_n F 2 dX3_wear_5 rfl rfl ?_
  refine hj_if_lt F 14 dX3_wear_6 (by decide) (fun q6 => ?_) (fun q6 => ?_)
  · exact thr (by decide) (by decide) (th_X3_wear_62 hxt) (fun A U H h => (hxt A U H h).2 (150, "a block's wear is 0 to 2") (by decide)) (by decide) (Nat.le_of_ble_eq_true rfl) dX3_wear_14 dX3_wear_17 dX3_wear_18 dX3_wear_20 dX3_wear_23 (Or.inr ⟨rfl, xok hbB, Or.inl q6⟩)
  · refine hj_iload_n F 2 dX3_wear_9 rfl rfl ?_
    refine hj_iconst F (v := 2) dX3_wear_10 (by decide) ?_
    refine hj_icmp_le F 24 dX3_wear_11 (by decide) (fun q11 => ?_) (fun q11 => ?_)
    · obtain ⟨j, hj, rfl⟩ : ∃ j, j < 3 ∧ w = nI j := by
        rcases pk_ix w (n := 3) (by decide) with z | z | z
        · exact absurd z q6
        · exact absurd q11 (Int32.not_le.mpr (Int32.lt_of_lt_of_le (by decide) z))
        · exact z
      refine hj_aload_n F 0 dX3_wear_24 rfl rfl ?_
      refine hg_X_blocks F hi_X3_wear_X lk_X3_wear_23 dX3_wear_25 ?_
      refine hg_B_wears F hi_X3_wear_B lk_X3_wear_147 dX3_wear_28 ?_
      refine hj_iload_n F 1 dX3_wear_31 rfl rfl ?_
      refine hl_B_wears F (vp_in_nI (show b < 10 by omega) (by decide)) dX3_wear_32 ?_
      rw [nI_clamp (show b < 2 ^ 31 by omega)]
      refine hj_iload_n F 2 dX3_wear_33 rfl rfl ?_
      refine hl_B_wear F (show b < 10 by omega) (vp_in_nI hj (by decide)) dX3_wear_34 ?_
      exact ret (by decide) (by decide) dX3_wear_35 rfl ⟨rfl, rfl, rfl, b, j, hbB, rfl, hj, rfl, by rw [nI_clamp (by omega)]⟩
    · exact thr (by decide) (by decide) (th_X3_wear_62 hxt) (fun A U H h => (hxt A U H h).2 (150, "a block's wear is 0 to 2") (by decide)) (by decide) (Nat.le_of_ble_eq_true rfl) dX3_wear_14 dX3_wear_17 dX3_wear_18 dX3_wear_20 dX3_wear_23 (Or.inr ⟨rfl, xok hbB, Or.inr (Int32.not_le.mp q11)⟩)
def ft_a (a : hw_A) (o b : Nat) (v : Int32) : hw_A := va_up (va_up a (100 + o) (upd (a (100 + o)) 12 1)) (300 + b) (upd (upd (a (300 + b)) 1 (a (300 + b) 1 + 1)) 2 (a (300 + b) 2 + v))
set_option maxHeartbeats 4000000 in
set_option maxRecDepth 100000 in
theorem k_X_fit (hok : hw_XOK X) (hlt : l.stackTraces = false) (hxt : ∀ A U H, X A U H → xt A U H) {N : Nat} (h1 : g 1 = nI N) (hN : N ≤ 60) {x v : Int32} (hrow : ∀ o, o < N → ub (a (100 + o) 0) 9) : hw_Xi l D (WH ad t) (hw_T t) X yX3_fit wsX3_fit (hw_rx 7 2) 2 [.ref (ad 0), .int x, .int v] g a c (fun E => (E = "java/lang/IndexOutOfBoundsException" ∧ (x < 0 ∨ nI N ≤ x)) ∨ (E = "java/lang/IllegalArgumentException" ∧ ¬ (x < 0 ∨ nI N ≤ x) ∧ (v < -2 ∨ 2 < v))) (fun r g' a' c' => g' = g ∧ c' = c ∧ ¬ (v < -2 ∨ 2 < v) ∧ ∃ o, o < N ∧ x = nI o ∧ (if ¬ a (100 + o) 9 = -1 ∧ a (100 + o) 10 ≤ g 2 then (if a (100 + o) 12 = 0 then r = 1 ∧ a' = ft_a a o (a (100 + o) 0).toNatClampNeg v else r = 0 ∧ a' = a) else r = -1 ∧ a' = a)) := by
  refine hw_Xi.mk (lv0 := [(0, _), (1, _), (2, _)]) hlt (by decide) rfl (Nat.le_of_ble_eq_true rfl) rfl (WH_ads ad t) hok ⟨rfl, rfl⟩ (fun K F ret thr out => ?_)
  have F : hw_F K l D (WH ad t) (hw_T t) X cX3_fit RX3 wsX3_fit (hw_rx 7 2) 5 := F
  have xok : ∀ {o : Nat}, o < N → ¬ (nI o < 0 ∨ nI N ≤ nI o) := fun {o} h z => z.elim (nI_pos (by omega)) (fun z => by rw [nI_leI (by omega) (by omega)] at z; omega)
  have thr : hw_TR K (WH ad t) X cX3_fit RX3 wsX3_fit (hw_rx 7 2) 2 g a c _ := thr
  refine hj_aload_n F 0 dX3_fit_0 rfl rfl ?_
  refine hj_iload_n F 1 dX3_fit_1 rfl rfl ?_
  refine hj_xVv F (n := 1) (k_X_checkOrder hok hlt hxt h1 (by omega)) gX3_fit_X3_checkOrder rfl ⟨rfl, rfl⟩ (by decide +kernel) ⟨by decide, by decide⟩ 0 3 rfl rfl (As := [_]) rfl rfl (Nat.le_of_ble_eq_true rfl) ⟨by decide, by decide⟩ dX3_fit_2 (out (fun E h => Or.inl h) (by decide) (by decide)) ?_
  intro g9 a9 c9 hq
  obtain ⟨⟨o, hoN, rfl⟩, hg, ha, hc⟩ := hq
  obtain rfl := hg.symm
  obtain rfl := ha.symm
  obtain rfl := hc.symm
  have ho : o < 60 := by omega
  refine hj_iload_n F 2 dX3_fit_5 rfl rfl ?_
  refine hj_bipush F (v := -2) dX3_fit_6 (by decide) ?_
  refine hj_icmp_lt F 16 dX3_fit_8 (by decide) (fun q8 => ?_) (fun q8 => ?_)
  · exact thr (by decide) (by decide) (th_X3_fit_62 hxt) (fun A U H h => (hxt A U H h).2 (142, "a fit is -2 to 2") (by decide)) (by decide) (Nat.le_of_ble_eq_true rfl) dX3_fit_16 dX3_fit_19 dX3_fit_20 dX3_fit_22 dX3_fit_25 (Or.inr ⟨rfl, xok hoN, Or.inl q8⟩)
  · refine hj_iload_n F 2 dX3_fit_11 rfl rfl ?_
    refine hj_iconst F (v := 2) dX3_fit_12 (by decide) ?_
    refine hj_icmp_le F 26 dX3_fit_13 (by decide) (fun q13 => ?_) (fun q13 => ?_)
    · refine hj_aload_n F 0 dX3_fit_26 rfl rfl ?_
      refine hj_iload_n F 1 dX3_fit_27 rfl rfl ?_
      refine hj_cVi F (n := 1) (k_X_isDone hok ho) gX3_fit_X3_isDone rfl ⟨rfl, rfl⟩ (by decide +kernel) ⟨by decide, by decide⟩ 0 3 rfl rfl (As := [_]) rfl rfl (Nat.le_of_ble_eq_true rfl) ⟨by decide, by decide⟩ dX3_fit_28 (hw_eq4 ?_)
      refine hj_if_ne F 36 dX3_fit_31 (by decide) (fun q31 => ?_) (fun q31 => ?_)
      · have hd : ¬ a (100 + o) 9 = -1 ∧ a (100 + o) 10 ≤ g 2 := Classical.byContradiction (fun z => q31 (if_neg z))
        have hb9 := (hrow o hoN).2
        refine hj_aload_n F 0 dX3_fit_36 rfl rfl ?_
        refine hg_X_orders F hi_X3_fit_X lk_X3_fit_29 dX3_fit_37 ?_
        refine hj_iload_n F 1 dX3_fit_40 rfl rfl ?_
        refine hl_X_orders F (vp_in_nI ho (by decide)) dX3_fit_41 ?_
        rw [nI_clamp (show o < 2 ^ 31 by omega)]
        refine hj_astore_n F (lv' := [(3, _), (0, _), (1, _), (2, _)]) dX3_fit_42 rfl (by decide) rfl ?_
        refine hj_aload_n F 0 dX3_fit_43 rfl rfl ?_
        refine hj_bipush F (v := 12) dX3_fit_44 (by decide) ?_
        refine hl_X_order F ho (by first | assumption | exact hw_inc (by decide)) dX3_fit_46 ?_
        try simp (disch := omega) only [va_up_ne, vau_s, bx_uu, pk_us, pk_un, cl0, cl1, cl2, cl3, cl4, cl5, cl6, cl7, cl8, cl9, cl10, cl11, cl12]
        refine hj_if_eq F 52 dX3_fit_47 (by decide) (fun q47 => ?_) (fun q47 => ?_)
        · refine hj_aload_n F 0 dX3_fit_52 rfl rfl ?_
          refine hj_bipush F (v := 12) dX3_fit_53 (by decide) ?_
          refine hj_iconst F (v := 1) dX3_fit_55 (by decide) ?_
          refine hs_X_order F ho (by first | assumption | exact hw_inc (by decide)) dX3_fit_56 ?_
          try simp (disch := omega) only [va_up_ne, vau_s, bx_uu, pk_us, pk_un, cl0, cl1, cl2, cl3, cl4, cl5, cl6, cl7, cl8, cl9, cl10, cl11, cl12]
          refine hj_aload_n F 1 dX3_fit_57 rfl rfl ?_
          refine hg_X_blocks F hi_X3_fit_X lk_X3_fit_23 dX3_fit_58 ?_
          refine hg_B_wears F hi_X3_fit_B lk_X3_fit_147 dX3_fit_61 ?_
          refine hj_aload_n F 0 dX3_fit_64 rfl rfl ?_
          refine hj_iconst F (v := 0) dX3_fit_65 (by decide) ?_
          refine hl_X_order F ho (by first | assumption | exact hw_inc (by decide)) dX3_fit_66 ?_
          try simp (disch := omega) only [va_up_ne, vau_s, bx_uu, pk_us, pk_un, cl0, cl1, cl2, cl3, cl4, cl5, cl6, cl7, cl8, cl9, cl10, cl11, cl12]
          rw [(hrow o hoN).1]
          generalize hbe : (a (100 + o) 0).toNatClampNeg = b at hb9 ⊢
          refine hl_B_wears F (vp_in_nI (show b < 10 by omega) (by decide)) dX3_fit_67 ?_
          rw [nI_clamp (show b < 2 ^ 31 by omega)]
          refine hj_astore F (lv' := [(4, _), (3, _), (0, _), (1, _), (2, _)]) dX3_fit_68 (by decide) rfl ?_
          refine hj_aload F 0 dX3_fit_70 rfl ?_
          refine hj_iconst F (v := 1) dX3_fit_72 (by decide) ?_
          refine hj_dup2 F dX3_fit_73 rfl rfl ?_
          refine hl_B_wear F (show b < 10 by omega) (by first | assumption | exact hw_inc (by decide)) dX3_fit_74 ?_
          try simp (disch := omega) only [va_up_ne, vau_s, bx_uu, pk_us, pk_un, cl0, cl1, cl2, cl3, cl4, cl5, cl6, cl7, cl8, cl9, cl10, cl11, cl12]
          refine hj_iconst F (v := 1) dX3_fit_75 (by decide) ?_
          refine hj_iadd F dX3_fit_76 ?_
          refine hs_B_wear F (show b < 10 by omega) (by first | assumption | exact hw_inc (by decide)) dX3_fit_77 ?_
          try simp (disch := omega) only [va_up_ne, vau_s, bx_uu, pk_us, pk_un, cl0, cl1, cl2, cl3, cl4, cl5, cl6, cl7, cl8, cl9, cl10, cl11, cl12]
          refine hj_aload F 0 dX3_fit_78 rfl ?_
          refine hj_iconst F (v := 2) dX3_fit_80 (by decide) ?_
          refine hj_dup2 F dX3_fit_81 rfl rfl ?_
          refine hl_B_wear F (show b < 10 by omega) (by first | assumption | exact hw_inc (by decide)) dX3_fit_82 ?_
          try simp (disch := omega) only [va_up_ne, vau_s, bx_uu, pk_us, pk_un, cl0, cl1, cl2, cl3, cl4, cl5, cl6, cl7, cl8, cl9, cl10, cl11, cl12]
          refine hj_iload_n F 4 dX3_fit_83 rfl rfl ?_
          refine hj_iadd F dX3_fit_84 ?_
          refine hs_B_wear F (show b < 10 by omega) (by first | assumption | exact hw_inc (by decide)) dX3_fit_85 ?_
          try simp (disch := omega) only [va_up_ne, vau_s, bx_uu, pk_us, pk_un, cl0, cl1, cl2, cl3, cl4, cl5, cl6, cl7, cl8, cl9, cl10, cl11, cl12]
          refine hj_iconst F (v := 1) dX3_fit_86 (by decide) ?_
          exact ret (by decide) (by decide) dX3_fit_87 rfl ⟨rfl, rfl, fun h => h.elim q8 (fun h => absurd q13 (Int32.not_le.mpr h)), o, hoN, rfl, by rw [if_pos hd, if_pos q47, hbe]; exact ⟨rfl, rfl⟩⟩
        · refine hj_iconst F (v := 0) dX3_fit_50 (by decide) ?_
          exact ret (by decide) (by decide) dX3_fit_51 rfl ⟨rfl, rfl, fun h => h.elim q8 (fun h => absurd q13 (Int32.not_le.mpr h)), o, hoN, rfl, by rw [if_pos hd, if_neg q47]; exact ⟨rfl, rfl⟩⟩
      · have hd : ¬ (¬ a (100 + o) 9 = -1 ∧ a (100 + o) 10 ≤ g 2) := fun z => by rw [if_pos z] at q31; exact absurd q31 (by decide)
        refine hj_iconst F (v := -1) dX3_fit_34 (by decide) ?_
        exact ret (by decide) (by decide) dX3_fit_35 rfl ⟨rfl, rfl, fun h => h.elim q8 (fun h => absurd q13 (Int32.not_le.mpr h)), o, hoN, rfl, by rw [if_neg hd]; exact ⟨rfl, rfl⟩⟩
    · exact thr (by decide) (by decide) (th_X3_fit_62 hxt) (fun A U H h => (hxt A U H h).2 (142, "a fit is -2 to 2") (by decide)) (by decide) (Nat.le_of_ble_eq_true rfl) dX3_fit_16 dX3_fit_19 dX3_fit_20 dX3_fit_22 dX3_fit_25 (Or.inr ⟨rfl, xok hoN, Or.inr (Int32.not_le.mp q13)⟩)
variable {τ : Nat → Nat}
def or_g (g : hw_G) (L : Nat) (x f p : Int32) : hw_G := upd (upd (upd (tp_G g (nI L) x f p) 5 p) 11 0) 0 0
set_option maxHeartbeats 4000000 in
set_option maxRecDepth 100000 in
theorem k_X_order (hok : hw_XOK X) (hlt : l.stackTraces = false) (hxt : ∀ A U H, X A U H → xt A U H) (hs : ∀ A U H, X A U H → sx τ A U H) (hs2 : ∀ A U H, X A U H → sx2 τ U) (hsT : ∀ A U H, X A U H → sxT τ A U H) {n B N ts : Nat} (h0 : g 0 = nI n) (hn : n ≤ 12) (h12 : g 12 = nI B) (hB : B ≤ 10) (h1 : g 1 = nI N) (hN : N ≤ 60) (h11 : g 11 = nI ts) (hts : ts ≤ 100) {x y z : Int32} : hw_Xi l D (WH ad t) (hw_T t) X yX3_order wsX3_order (hw_rx 9 1) 1 [.ref (ad 0), .int x, .int y, .int z] g a c (fun E => E = "java/lang/IllegalArgumentException" ∧ oa_bad g x y z) (fun r g' a' c' => ¬ oa_bad g x y z ∧ ∃ L, L ≤ ts ∧ x = nI L ∧ (if n < 12 then r = -1 ∧ g' = g ∧ a' = a ∧ c' = c else if B = 0 then r = -2 ∧ g' = g ∧ a' = a ∧ c' = c else if 60 ≤ N then r = -3 ∧ g' = g ∧ a' = a ∧ c' = c else ∃ x9, c' = c ∧ (if (tp_end (tp_hat (a 1) L 5 0 (tp_none (a 2))) L).1 = 0 then r = nI N ∧ g' = upd (upd (or_g g L x9 (tp_end (tp_hat (a 1) L 5 0 (tp_none (a 2))) L).1 (tp_end (tp_hat (a 1) L 5 0 (tp_none (a 2))) L).2) 1 (nI (N + 1))) 6 0 ∧ a' = va_up (va_up a 2 (tp_hat (a 1) L 5 0 (tp_none (a 2))).2.2) (100 + N) (ao_row (va_up a 2 (tp_hat (a 1) L 5 0 (tp_none (a 2))).2.2) N B y z) else r = (tp_end (tp_hat (a 1) L 5 0 (tp_none (a 2))) L).1 - 10 ∧ g' = or_g g L x9 (tp_end (tp_hat (a 1) L 5 0 (tp_none (a 2))) L).1 (tp_end (tp_hat (a 1) L 5 0 (tp_none (a 2))) L).2 ∧ a' = va_up a 2 (tp_hat (a 1) L 5 0 (tp_none (a 2))).2.2))) := by
  refine hw_Xi.mk (lv0 := [(0, _), (1, _), (2, _), (3, _)]) hlt (by decide) rfl (Nat.le_of_ble_eq_true rfl) rfl (WH_ads ad t) hok ⟨rfl, rfl⟩ (fun K F ret thr out => ?_)
  have F : hw_F K l D (WH ad t) (hw_T t) X cX3_order RX3 wsX3_order (hw_rx 9 1) 5 := F
  have thr : hw_TR K (WH ad t) X cX3_order RX3 wsX3_order (hw_rx 9 1) 1 g a c _ := thr
  refine hj_aload_n F 0 dX3_order_0 rfl rfl ?_
  refine hj_iload_n F 1 dX3_order_1 rfl rfl ?_
  refine hj_iload_n F 2 dX3_order_2 rfl rfl ?_
  refine hj_iload_n F 3 dX3_order_3 rfl rfl ?_
  refine hj_xVv F (n := 3) (k_X_checkOrderArguments hok hlt hxt) gX3_order_X3_checkOrderArguments rfl ⟨rfl, rfl⟩ (by decide +kernel) ⟨by decide, by decide⟩ 0 3 rfl rfl (As := [_, _, _]) rfl rfl (Nat.le_of_ble_eq_true rfl) ⟨by decide, by decide⟩ dX3_order_4 (out (fun E h => h) (by decide) (by decide)) ?_
  intro g9 a9 c9 hq
  obtain ⟨hbad, hg, ha, hc⟩ := hq
  obtain rfl := hg.symm
  obtain rfl := ha.symm
  obtain rfl := hc.symm
  obtain ⟨L, hL, rfl⟩ : ∃ L, L ≤ ts ∧ x = nI L := by
    rcases pk_ix x (n := ts + 1) (by omega) with z9 | z9 | ⟨j, hj, z9⟩
    · exact absurd (Or.inl z9) hbad
    · exact absurd (Or.inr (Or.inl (by rw [h11]; exact Int32.lt_of_lt_of_le (nI_lt (Nat.lt_succ_self ts) (by omega)) z9))) hbad
    · exact ⟨j, by omega, z9⟩
  refine hj_aload_n F 0 dX3_order_7 rfl rfl ?_
  refine hg_X_handSize F hi_X3_order_X lk_X3_order_39 dX3_order_8 ?_
  rw [h0]
  refine hj_bipush F (v := 12) dX3_order_11 (by decide) ?_
  refine hj_icmp_ge F 18 dX3_order_13 (by decide) (fun q13 => ?_) (fun q13 => ?_)
  · have q13 : nI 12 ≤ nI n := q13
    rw [nI_leI (by omega) (by omega)] at q13
    refine hj_aload_n F 0 dX3_order_18 rfl rfl ?_
    refine hg_X_blocks F hi_X3_order_X lk_X3_order_23 dX3_order_19 ?_
    refine hg_B_size F hi_X3_order_B lk_X3_order_69 dX3_order_22 ?_
    rw [h12]
    refine hj_if_ne F 31 dX3_order_25 (by decide) (fun q25 => ?_) (fun q25 => ?_)
    · have q25 : ¬ nI B = nI 0 := q25
      rw [nI_eq (by omega) (by omega)] at q25
      refine hj_aload_n F 0 dX3_order_31 rfl rfl ?_
      refine hg_X_orderCount F hi_X3_order_X lk_X3_order_43 dX3_order_32 ?_
      rw [h1]
      refine hj_bipush F (v := 60) dX3_order_35 (by decide) ?_
      refine hj_icmp_lt F 43 dX3_order_37 (by decide) (fun q37 => ?_) (fun q37 => ?_)
      · have q37 : nI N < nI 60 := q37
        rw [nI_ltI (by omega) (by omega)] at q37
        refine hj_aload_n F 0 dX3_order_43 rfl rfl ?_
        refine hg_X_tape F hi_X3_order_X lk_X3_order_16 dX3_order_44 ?_
        refine hj_iload_n F 1 dX3_order_47 rfl rfl ?_
        refine hj_cVi F (n := 1) (k_T_readHat hok hs hs2 hsT (L := L) (by omega) rfl) gX3_order_X2_readHat rfl ⟨rfl, rfl⟩ (by decide +kernel) ⟨by decide, by decide⟩ 1 2 rfl rfl (As := [_]) rfl rfl (Nat.le_of_ble_eq_true rfl) ⟨by decide, by decide⟩ dX3_order_48 ?_
        intro r9 g9 a9 c9 hq
        obtain ⟨x9, e1, e2, e3, e4⟩ := hq
        obtain rfl := e1.symm
        obtain rfl := e2.symm
        obtain rfl := e3.symm
        obtain rfl := e4.symm
        refine hj_istore F (lv' := [(4, _), (0, _), (1, _), (2, _), (3, _)]) dX3_order_51 (by decide) rfl ?_
        refine hj_aload_n F 1 dX3_order_53 rfl rfl ?_
        refine hj_aload_n F 1 dX3_order_54 rfl rfl ?_
        refine hg_X_tape F hi_X3_order_X lk_X3_order_16 dX3_order_55 ?_
        refine hg_T_faultPlace F hi_X3_order_T lk_X3_order_94 dX3_order_58 ?_
        rw [show tp_G g (nI L) x9 (tp_end (tp_hat (a 1) L 5 0 (tp_none (a 2))) L).1 (tp_end (tp_hat (a 1) L 5 0 (tp_none (a 2))) L).2 10 = (tp_end (tp_hat (a 1) L 5 0 (tp_none (a 2))) L).2 from rfl]
        refine hp_X_faultPlace F hi_X3_order_X lk_X3_order_55 dX3_order_61 ?_
        refine hj_aload_n F 1 dX3_order_64 rfl rfl ?_
        refine hg_X_tape F hi_X3_order_X lk_X3_order_16 dX3_order_65 ?_
        refine hj_iconst F (v := 0) dX3_order_68 (by decide) ?_
        refine hp_T_size F hi_X3_order_T lk_X3_order_81 dX3_order_69 ?_
        refine hj_aload_n F 1 dX3_order_72 rfl rfl ?_
        refine hj_iconst F (v := 0) dX3_order_73 (by decide) ?_
        refine hp_X_handSize F hi_X3_order_X lk_X3_order_39 dX3_order_74 ?_
        refine hj_iload F 0 dX3_order_77 rfl ?_
        refine hj_if_eq F 88 dX3_order_79 (by decide) (fun q79 => ?_) (fun q79 => ?_)
        · refine hj_aload_n F 1 dX3_order_88 rfl rfl ?_
          refine hj_iload_n F 3 dX3_order_89 rfl rfl ?_
          refine hj_iload_n F 4 dX3_order_90 rfl rfl ?_
          refine hj_cVi F (n := 2) (k_X_addOrder hok (N := N) (B := B) (by simp [tp_G, upd, h1]) (by omega) (by simp [tp_G, upd, h12]) hB) gX3_order_X3_addOrder rfl ⟨rfl, rfl⟩ (by decide +kernel) ⟨by decide, by decide⟩ 0 3 rfl rfl (As := [_, _]) rfl rfl (Nat.le_of_ble_eq_true rfl) ⟨by decide, by decide⟩ dX3_order_91 (hw_eq4 ?_)
          exact ret (by decide) (by decide) dX3_order_94 rfl ⟨hbad, L, hL, rfl, by rw [if_neg (by omega), if_neg q25, if_neg (by omega)]; exact ⟨x9, rfl, by rw [if_pos q79]; exact ⟨rfl, rfl, rfl⟩⟩⟩
        · refine hj_iload F 0 dX3_order_82 rfl ?_
          refine hj_bipush F (v := 10) dX3_order_84 (by decide) ?_
          refine hj_isub F dX3_order_86 ?_
          exact ret (by decide) (by decide) dX3_order_87 rfl ⟨hbad, L, hL, rfl, by rw [if_neg (by omega), if_neg q25, if_neg (by omega)]; exact ⟨x9, rfl, by rw [if_neg q79]; exact ⟨rfl, rfl, rfl⟩⟩⟩
      · have q37 : ¬ nI N < nI 60 := q37
        rw [nI_ltI (by omega) (by omega)] at q37
        refine hj_bipush F (v := -3) dX3_order_40 (by decide) ?_
        exact ret (by decide) (by decide) dX3_order_42 rfl ⟨hbad, L, hL, rfl, by rw [if_neg (by omega), if_neg q25, if_pos (by omega)]; exact ⟨rfl, rfl, rfl, rfl⟩⟩
    · have q25 : nI B = nI 0 := q25
      rw [nI_eq (by omega) (by omega)] at q25
      refine hj_bipush F (v := -2) dX3_order_28 (by decide) ?_
      exact ret (by decide) (by decide) dX3_order_30 rfl ⟨hbad, L, hL, rfl, by rw [if_neg (by omega), if_pos q25]; exact ⟨rfl, rfl, rfl, rfl⟩⟩
  · have q13 : ¬ nI 12 ≤ nI n := q13
    rw [nI_leI (by omega) (by omega)] at q13
    refine hj_iconst F (v := -1) dX3_order_16 (by decide) ?_
    exact ret (by decide) (by decide) dX3_order_17 rfl ⟨hbad, L, hL, rfl, by rw [if_pos (by omega)]; exact ⟨rfl, rfl, rfl, rfl⟩⟩
end STHROWS
