section SHAT2
theorem lc_X1_search_53 : Cond.constantLong RX1 53 9223372036854775807 ∈ wsX1_search := by decide +kernel
theorem hi_X1_search_P : ∀ w ∈ u_ws RX1 TX1 12, w ∈ wsX1_search := fun w h => by
  unfold wsX1_search
  simp only [List.mem_cons, List.mem_append]
  first | (simp only [h, or_true, true_or]; done) | (have h2 : w ∈ wsX10 := h; simp only [h2, or_true, true_or]; done)
theorem lk_X1_search_44 : Cond.fieldLink RX1 44 "HatWorks$Planner" "leastCost" "J" ∈ wsX1_search := List.mem_of_getElem? (i := 2) rfl
theorem hi_X3_addOrder_X : ∀ w ∈ u_ws RX3 TX3 12, w ∈ wsX3_addOrder := fun w h => by
  unfold wsX3_addOrder
  simp only [List.mem_cons, List.mem_append]
  first | (simp only [h, or_true, true_or]; done) | (have h2 : w ∈ wsX30 := h; simp only [h2, or_true, true_or]; done)
theorem lk_X3_addOrder_16 : Cond.fieldLink RX3 16 "HatWorks" "tape" "LHatWorks$Tape;" ∈ wsX3_addOrder := List.mem_of_getElem? (i := 5) rfl
theorem lk_X3_addOrder_23 : Cond.fieldLink RX3 23 "HatWorks" "blocks" "LHatWorks$Blocks;" ∈ wsX3_addOrder := List.mem_of_getElem? (i := 3) rfl
theorem lk_X3_addOrder_29 : Cond.fieldLink RX3 29 "HatWorks" "orders" "[[I" ∈ wsX3_addOrder := List.mem_of_getElem? (i := 2) rfl
theorem lk_X3_addOrder_43 : Cond.fieldLink RX3 43 "HatWorks" "orderCount" "I" ∈ wsX3_addOrder := List.mem_of_getElem? (i := 1) rfl
theorem lk_X3_addOrder_58 : Cond.fieldLink RX3 58 "HatWorks" "bestStands" "Z" ∈ wsX3_addOrder := List.mem_of_getElem? (i := 6) rfl
theorem lk_X3_addOrder_9 : Cond.fieldLink RX3 9 "HatWorks" "hand" "[I" ∈ wsX3_addOrder := List.mem_of_getElem? (i := 4) rfl
theorem hi_X3_count_B : ∀ w ∈ u_ws RX0 TX0 5, w ∈ wsX3_count := fun w h => by
  unfold wsX3_count
  simp only [List.mem_cons, List.mem_append]
  first | (simp only [h, or_true, true_or]; done) | (have h2 : w ∈ wsX00 := h; simp only [h2, or_true, true_or]; done)
theorem hi_X3_count_T : ∀ w ∈ u_ws RX2 TX2 7, w ∈ wsX3_count := fun w h => by
  unfold wsX3_count
  simp only [List.mem_cons, List.mem_append]
  first | (simp only [h, or_true, true_or]; done) | (have h2 : w ∈ wsX20 := h; simp only [h2, or_true, true_or]; done)
theorem hi_X3_count_X : ∀ w ∈ u_ws RX3 TX3 12, w ∈ wsX3_count := fun w h => by
  unfold wsX3_count
  simp only [List.mem_cons, List.mem_append]
  first | (simp only [h, or_true, true_or]; done) | (have h2 : w ∈ wsX30 := h; simp only [h2, or_true, true_or]; done)
theorem lk_X3_count_16 : Cond.fieldLink RX3 16 "HatWorks" "tape" "LHatWorks$Tape;" ∈ wsX3_count := List.mem_of_getElem? (i := 6) rfl
theorem lk_X3_count_23 : Cond.fieldLink RX3 23 "HatWorks" "blocks" "LHatWorks$Blocks;" ∈ wsX3_count := List.mem_of_getElem? (i := 1) rfl
theorem lk_X3_count_39 : Cond.fieldLink RX3 39 "HatWorks" "handSize" "I" ∈ wsX3_count := List.mem_of_getElem? (i := 5) rfl
theorem lk_X3_count_43 : Cond.fieldLink RX3 43 "HatWorks" "orderCount" "I" ∈ wsX3_count := List.mem_of_getElem? (i := 3) rfl
theorem lk_X3_count_46 : Cond.fieldLink RX3 46 "HatWorks" "now" "I" ∈ wsX3_count := List.mem_of_getElem? (i := 4) rfl
theorem lk_X3_count_49 : Cond.fieldLink RX3 49 "HatWorks" "steamerFree" "I" ∈ wsX3_count := List.mem_of_getElem? (i := 8) rfl
theorem lk_X3_count_69 : Cond.fieldLink RX3 69 "HatWorks$Blocks" "size" "I" ∈ wsX3_count := List.mem_of_getElem? (i := 2) rfl
theorem lk_X3_count_81 : Cond.fieldLink RX3 81 "HatWorks$Tape" "size" "I" ∈ wsX3_count := List.mem_of_getElem? (i := 7) rfl
theorem hi_X3_feed_T : ∀ w ∈ u_ws RX2 TX2 7, w ∈ wsX3_feed := fun w h => by
  unfold wsX3_feed
  simp only [List.mem_cons, List.mem_append]
  first | (simp only [h, or_true, true_or]; done) | (have h2 : w ∈ wsX20 := h; simp only [h2, or_true, true_or]; done)
theorem hi_X3_feed_X : ∀ w ∈ u_ws RX3 TX3 12, w ∈ wsX3_feed := fun w h => by
  unfold wsX3_feed
  simp only [List.mem_cons, List.mem_append]
  first | (simp only [h, or_true, true_or]; done) | (have h2 : w ∈ wsX30 := h; simp only [h2, or_true, true_or]; done)
theorem lk_X3_feed_16 : Cond.fieldLink RX3 16 "HatWorks" "tape" "LHatWorks$Tape;" ∈ wsX3_feed := List.mem_of_getElem? (i := 1) rfl
theorem lk_X3_feed_81 : Cond.fieldLink RX3 81 "HatWorks$Tape" "size" "I" ∈ wsX3_feed := List.mem_of_getElem? (i := 2) rfl
variable {K : hw_K} {l : Launch} {D : va_G} {ad : Nat → Nat} {t : Nat → ClassId} {X : hw_XT} {rm : Room} {g : hw_G} {a : hw_A} {c : Int64}
def fd_b (b : Nat → Int32) (n : Nat) (x1 x2 x3 x4 x5 : Int32) : Nat → Int32 := tp_put4 (tp_put4 (tp_put4 (tp_put4 (tp_put4 b n x1) (n + 4) x2) (n + 8) x3) (n + 12) x4) (n + 16) x5
set_option maxHeartbeats 4000000 in
set_option maxRecDepth 100000 in
theorem k_X_feed (hok : hw_XOK X) {n : Nat} {x1 x2 x3 x4 x5 : Int32} (h11 : g 11 = nI n) (hn : n ≤ 100) : hw_Ci l D (WH ad t) (hw_T t) X yX3_feed wsX3_feed (hw_rm 2) [.ref (ad 0), .int x1, .int x2, .int x3, .int x4, .int x5] g a c (fun r g' a' c' => c' = c ∧ (if n ≤ 80 then r = nI (n + 20) ∧ g' = upd g 11 (nI (n + 20)) ∧ a' = va_up a 1 (fd_b (a 1) n x1 x2 x3 x4 x5) else r = -1 ∧ g' = g ∧ a' = a)) := by
  refine hw_Ci.mk (lv0 := [(0, _), (1, _), (2, _), (3, _), (4, _), (5, _)]) (by decide) rfl (Nat.le_of_ble_eq_true rfl) rfl (WH_ads ad t) hok (fun K F ret => ?_)
  have F : hw_F K l D (WH ad t) (hw_T t) X cX3_feed RX3 wsX3_feed (hw_rm 2) 6 := F
  refine hj_aload_n F 0 dX3_feed_0 rfl rfl ?_
  refine hg_X_tape F hi_X3_feed_X lk_X3_feed_16 dX3_feed_1 ?_
  refine hg_T_size F hi_X3_feed_T lk_X3_feed_81 dX3_feed_4 ?_
  refine hj_bipush F (v := 80) dX3_feed_7 (by decide) ?_
  rw [h11]
  refine hj_icmp_le F 14 dX3_feed_9 (by decide) (fun q9 => ?_) (fun q9 => ?_)
  · have q9 : nI n ≤ nI 80 := q9
    rw [nI_leI (by omega) (by omega)] at q9
    refine hj_aload_n F 0 dX3_feed_14 rfl rfl ?_
    refine hg_X_tape F hi_X3_feed_X lk_X3_feed_16 dX3_feed_15 ?_
    refine hj_iload_n F 1 dX3_feed_18 rfl rfl ?_
    refine hj_cVv F (n := 1) (k_T_take hok (n := n + 0) h11 (by omega)) gX3_feed_X2_take rfl ⟨rfl, rfl⟩ (by decide +kernel) ⟨by decide, by decide⟩ 1 2 rfl rfl (As := [_]) rfl rfl (Nat.le_of_ble_eq_true rfl) ⟨Nat.zero_le _, Nat.zero_le _⟩ dX3_feed_19 (hw_eq3 ?_)
    try simp (disch := omega) only [vau_s, bx_uu, upd_uu, pk_us, va_up_ne]
    refine hj_aload_n F 0 dX3_feed_22 rfl rfl ?_
    refine hg_X_tape F hi_X3_feed_X lk_X3_feed_16 dX3_feed_23 ?_
    refine hj_iload_n F 2 dX3_feed_26 rfl rfl ?_
    refine hj_cVv F (n := 1) (k_T_take hok (n := n + 4) pk_us (by omega)) gX3_feed_X2_take rfl ⟨rfl, rfl⟩ (by decide +kernel) ⟨by decide, by decide⟩ 1 2 rfl rfl (As := [_]) rfl rfl (Nat.le_of_ble_eq_true rfl) ⟨Nat.zero_le _, Nat.zero_le _⟩ dX3_feed_27 (hw_eq3 ?_)
    try simp (disch := omega) only [vau_s, bx_uu, upd_uu, pk_us, va_up_ne]
    refine hj_aload_n F 0 dX3_feed_30 rfl rfl ?_
    refine hg_X_tape F hi_X3_feed_X lk_X3_feed_16 dX3_feed_31 ?_
    refine hj_iload_n F 3 dX3_feed_34 rfl rfl ?_
    refine hj_cVv F (n := 1) (k_T_take hok (n := n + 8) pk_us (by omega)) gX3_feed_X2_take rfl ⟨rfl, rfl⟩ (by decide +kernel) ⟨by decide, by decide⟩ 1 2 rfl rfl (As := [_]) rfl rfl (Nat.le_of_ble_eq_true rfl) ⟨Nat.zero_le _, Nat.zero_le _⟩ dX3_feed_35 (hw_eq3 ?_)
    try simp (disch := omega) only [vau_s, bx_uu, upd_uu, pk_us, va_up_ne]
    refine hj_aload_n F 0 dX3_feed_38 rfl rfl ?_
    refine hg_X_tape F hi_X3_feed_X lk_X3_feed_16 dX3_feed_39 ?_
    refine hj_iload F 4 dX3_feed_42 rfl ?_
    refine hj_cVv F (n := 1) (k_T_take hok (n := n + 12) pk_us (by omega)) gX3_feed_X2_take rfl ⟨rfl, rfl⟩ (by decide +kernel) ⟨by decide, by decide⟩ 1 2 rfl rfl (As := [_]) rfl rfl (Nat.le_of_ble_eq_true rfl) ⟨Nat.zero_le _, Nat.zero_le _⟩ dX3_feed_44 (hw_eq3 ?_)
    try simp (disch := omega) only [vau_s, bx_uu, upd_uu, pk_us, va_up_ne]
    refine hj_aload_n F 0 dX3_feed_47 rfl rfl ?_
    refine hg_X_tape F hi_X3_feed_X lk_X3_feed_16 dX3_feed_48 ?_
    refine hj_iload F 5 dX3_feed_51 rfl ?_
    refine hj_cVv F (n := 1) (k_T_take hok (n := n + 16) pk_us (by omega)) gX3_feed_X2_take rfl ⟨rfl, rfl⟩ (by decide +kernel) ⟨by decide, by decide⟩ 1 2 rfl rfl (As := [_]) rfl rfl (Nat.le_of_ble_eq_true rfl) ⟨Nat.zero_le _, Nat.zero_le _⟩ dX3_feed_53 (hw_eq3 ?_)
    try simp (disch := omega) only [vau_s, bx_uu, upd_uu, pk_us, va_up_ne]
    refine hj_aload_n F 0 dX3_feed_56 rfl rfl ?_
    refine hg_X_tape F hi_X3_feed_X lk_X3_feed_16 dX3_feed_57 ?_
    refine hg_T_size F hi_X3_feed_T lk_X3_feed_81 dX3_feed_60 ?_
    try simp (disch := omega) only [vau_s, bx_uu, upd_uu, pk_us, va_up_ne]
    exact ret dX3_feed_63 rfl ⟨rfl, by rw [if_pos q9]; exact ⟨rfl, rfl, rfl⟩⟩
  · have q9 : ¬ nI n ≤ nI 80 := q9
    rw [nI_leI (by omega) (by omega)] at q9
    refine hj_iconst F (v := -1) dX3_feed_12 (by decide) ?_
    exact ret dX3_feed_13 rfl ⟨rfl, by rw [if_neg q9]; exact ⟨rfl, rfl, rfl⟩⟩
def ao_m (a : hw_A) (N B : Nat) : Nat → Int32 := (mt_t (a 0) (fun b => a (200 + b)) B 12 (2147483647, a (100 + N))).2
def ao_row (a : hw_A) (N B : Nat) (due w : Int32) : Nat → Int32 := upd (upd (upd (upd (upd (upd (upd (upd (upd (ao_m a N B) 3 (4 * tp_v (a 2 0) * tp_v (a 2 3) + 3 * tp_v (a 2 1) * tp_v (a 2 3) + 10 * tp_v (a 2 2))) 4 (6 * tp_v (a 2 3) + tp_v (a 2 1))) 5 (10 + tp_v (a 2 0) + 20 * tp_v (a 2 3))) 6 due) 7 w) 9 (-1)) 10 (-1)) 11 (-1)) 12 0
set_option maxHeartbeats 4000000 in
set_option maxRecDepth 100000 in
theorem k_X_addOrder (hok : hw_XOK X) {N B : Nat} {due w : Int32} (h1 : g 1 = nI N) (hN : N < 60) (h12 : g 12 = nI B) (hB : B ≤ 10) : hw_Ci l D (WH ad t) (hw_T t) X yX3_addOrder wsX3_addOrder (hw_rm 3) [.ref (ad 0), .int due, .int w] g a c (fun r g' a' c' => r = nI N ∧ g' = upd (upd g 1 (nI (N + 1))) 6 0 ∧ a' = va_up a (100 + N) (ao_row a N B due w) ∧ c' = c) := by
  refine hw_Ci.mk (lv0 := [(0, _), (1, _), (2, _)]) (by decide) rfl (Nat.le_of_ble_eq_true rfl) rfl (WH_ads ad t) hok (fun K F ret => ?_)
  have F : hw_F K l D (WH ad t) (hw_T t) X cX3_addOrder RX3 wsX3_addOrder (hw_rm 3) 5 := F
  refine hj_aload_n F 0 dX3_addOrder_0 rfl rfl ?_
  refine hg_X_orderCount F hi_X3_addOrder_X lk_X3_addOrder_43 dX3_addOrder_1 ?_
  rw [h1]
  refine hj_istore_n F (lv' := [(3, _), (0, _), (1, _), (2, _)]) dX3_addOrder_4 rfl (by decide) rfl ?_
  refine hj_aload_n F 1 dX3_addOrder_5 rfl rfl ?_
  refine hg_X_orders F hi_X3_addOrder_X lk_X3_addOrder_29 dX3_addOrder_6 ?_
  refine hj_iload_n F 0 dX3_addOrder_9 rfl rfl ?_
  refine hl_X_orders F (vp_in_nI hN (by decide)) dX3_addOrder_10 ?_
  rw [nI_clamp (show N < 2 ^ 31 by omega)]
  refine hj_astore F (lv' := [(4, _), (3, _), (0, _), (1, _), (2, _)]) dX3_addOrder_11 (by decide) rfl ?_
  refine hj_aload_n F 2 dX3_addOrder_13 rfl rfl ?_
  refine hg_X_blocks F hi_X3_addOrder_X lk_X3_addOrder_23 dX3_addOrder_14 ?_
  refine hj_aload_n F 2 dX3_addOrder_17 rfl rfl ?_
  refine hg_X_hand F hi_X3_addOrder_X lk_X3_addOrder_9 dX3_addOrder_18 ?_
  refine hj_aload F 0 dX3_addOrder_21 rfl ?_
  refine hj_cVv F (n := 2) (k_B_match hok (N := B) h12 hB hN) gX3_addOrder_X0_match rfl ⟨rfl, rfl⟩ (by decide +kernel) ⟨by decide, by decide⟩ 2 0 rfl rfl (As := [_, _]) rfl rfl (Nat.le_of_ble_eq_true rfl) ⟨Nat.zero_le _, Nat.zero_le _⟩ dX3_addOrder_23 (hw_eq3 ?_)
  refine hj_aload F 0 dX3_addOrder_26 rfl ?_
  refine hj_iconst F (v := 3) dX3_addOrder_28 (by decide) ?_
  refine hj_aload_n F 2 dX3_addOrder_29 rfl rfl ?_
  refine hg_X_tape F hi_X3_addOrder_X lk_X3_addOrder_16 dX3_addOrder_30 ?_
  refine hj_cVi F (n := 0) (k_T_price hok) gX3_addOrder_X2_price rfl ⟨rfl, rfl⟩ (by decide +kernel) ⟨by decide, by decide⟩ 1 2 rfl rfl (As := []) rfl rfl (Nat.le_of_ble_eq_true rfl) ⟨Nat.zero_le _, Nat.zero_le _⟩ dX3_addOrder_33 (hw_eq4 ?_)
  try simp (disch := omega) only [va_up_ne, vau_s, bx_uu, pk_us, pk_un, cl0, cl1, cl2, cl3, cl4, cl5, cl6, cl7, cl8, cl9, cl10, cl11, cl12]
  refine hs_X_order F hN (by first | assumption | exact hw_inc (by decide)) dX3_addOrder_36 ?_
  try simp (disch := omega) only [va_up_ne, vau_s, bx_uu, pk_us, pk_un, cl0, cl1, cl2, cl3, cl4, cl5, cl6, cl7, cl8, cl9, cl10, cl11, cl12]
  refine hj_aload F 0 dX3_addOrder_37 rfl ?_
  refine hj_iconst F (v := 4) dX3_addOrder_39 (by decide) ?_
  refine hj_aload_n F 2 dX3_addOrder_40 rfl rfl ?_
  refine hg_X_tape F hi_X3_addOrder_X lk_X3_addOrder_16 dX3_addOrder_41 ?_
  refine hj_cVi F (n := 0) (k_T_steamMinutes hok) gX3_addOrder_X2_steamMinutes rfl ⟨rfl, rfl⟩ (by decide +kernel) ⟨by decide, by decide⟩ 1 2 rfl rfl (As := []) rfl rfl (Nat.le_of_ble_eq_true rfl) ⟨Nat.zero_le _, Nat.zero_le _⟩ dX3_addOrder_44 (hw_eq4 ?_)
  try simp (disch := omega) only [va_up_ne, vau_s, bx_uu, pk_us, pk_un, cl0, cl1, cl2, cl3, cl4, cl5, cl6, cl7, cl8, cl9, cl10, cl11, cl12]
  refine hs_X_order F hN (by first | assumption | exact hw_inc (by decide)) dX3_addOrder_47 ?_
  try simp (disch := omega) only [va_up_ne, vau_s, bx_uu, pk_us, pk_un, cl0, cl1, cl2, cl3, cl4, cl5, cl6, cl7, cl8, cl9, cl10, cl11, cl12]
  refine hj_aload F 0 dX3_addOrder_48 rfl ?_
  refine hj_iconst F (v := 5) dX3_addOrder_50 (by decide) ?_
  refine hj_aload_n F 2 dX3_addOrder_51 rfl rfl ?_
  refine hg_X_tape F hi_X3_addOrder_X lk_X3_addOrder_16 dX3_addOrder_52 ?_
  refine hj_cVi F (n := 0) (k_T_onMinutes hok) gX3_addOrder_X2_onMinutes rfl ⟨rfl, rfl⟩ (by decide +kernel) ⟨by decide, by decide⟩ 1 2 rfl rfl (As := []) rfl rfl (Nat.le_of_ble_eq_true rfl) ⟨Nat.zero_le _, Nat.zero_le _⟩ dX3_addOrder_55 (hw_eq4 ?_)
  try simp (disch := omega) only [va_up_ne, vau_s, bx_uu, pk_us, pk_un, cl0, cl1, cl2, cl3, cl4, cl5, cl6, cl7, cl8, cl9, cl10, cl11, cl12]
  refine hs_X_order F hN (by first | assumption | exact hw_inc (by decide)) dX3_addOrder_58 ?_
  try simp (disch := omega) only [va_up_ne, vau_s, bx_uu, pk_us, pk_un, cl0, cl1, cl2, cl3, cl4, cl5, cl6, cl7, cl8, cl9, cl10, cl11, cl12]
  refine hj_aload F 0 dX3_addOrder_59 rfl ?_
  refine hj_bipush F (v := 6) dX3_addOrder_61 (by decide) ?_
  refine hj_iload_n F 3 dX3_addOrder_63 rfl rfl ?_
  refine hs_X_order F hN (by first | assumption | exact hw_inc (by decide)) dX3_addOrder_64 ?_
  try simp (disch := omega) only [va_up_ne, vau_s, bx_uu, pk_us, pk_un, cl0, cl1, cl2, cl3, cl4, cl5, cl6, cl7, cl8, cl9, cl10, cl11, cl12]
  refine hj_aload F 0 dX3_addOrder_65 rfl ?_
  refine hj_bipush F (v := 7) dX3_addOrder_67 (by decide) ?_
  refine hj_iload_n F 4 dX3_addOrder_69 rfl rfl ?_
  refine hs_X_order F hN (by first | assumption | exact hw_inc (by decide)) dX3_addOrder_70 ?_
  try simp (disch := omega) only [va_up_ne, vau_s, bx_uu, pk_us, pk_un, cl0, cl1, cl2, cl3, cl4, cl5, cl6, cl7, cl8, cl9, cl10, cl11, cl12]
  refine hj_aload F 0 dX3_addOrder_71 rfl ?_
  refine hj_bipush F (v := 9) dX3_addOrder_73 (by decide) ?_
  refine hj_iconst F (v := -1) dX3_addOrder_75 (by decide) ?_
  refine hs_X_order F hN (by first | assumption | exact hw_inc (by decide)) dX3_addOrder_76 ?_
  try simp (disch := omega) only [va_up_ne, vau_s, bx_uu, pk_us, pk_un, cl0, cl1, cl2, cl3, cl4, cl5, cl6, cl7, cl8, cl9, cl10, cl11, cl12]
  refine hj_aload F 0 dX3_addOrder_77 rfl ?_
  refine hj_bipush F (v := 10) dX3_addOrder_79 (by decide) ?_
  refine hj_iconst F (v := -1) dX3_addOrder_81 (by decide) ?_
  refine hs_X_order F hN (by first | assumption | exact hw_inc (by decide)) dX3_addOrder_82 ?_
  try simp (disch := omega) only [va_up_ne, vau_s, bx_uu, pk_us, pk_un, cl0, cl1, cl2, cl3, cl4, cl5, cl6, cl7, cl8, cl9, cl10, cl11, cl12]
  refine hj_aload F 0 dX3_addOrder_83 rfl ?_
  refine hj_bipush F (v := 11) dX3_addOrder_85 (by decide) ?_
  refine hj_iconst F (v := -1) dX3_addOrder_87 (by decide) ?_
  refine hs_X_order F hN (by first | assumption | exact hw_inc (by decide)) dX3_addOrder_88 ?_
  try simp (disch := omega) only [va_up_ne, vau_s, bx_uu, pk_us, pk_un, cl0, cl1, cl2, cl3, cl4, cl5, cl6, cl7, cl8, cl9, cl10, cl11, cl12]
  refine hj_aload F 0 dX3_addOrder_89 rfl ?_
  refine hj_bipush F (v := 12) dX3_addOrder_91 (by decide) ?_
  refine hj_iconst F (v := 0) dX3_addOrder_93 (by decide) ?_
  refine hs_X_order F hN (by first | assumption | exact hw_inc (by decide)) dX3_addOrder_94 ?_
  try simp (disch := omega) only [va_up_ne, vau_s, bx_uu, pk_us, pk_un, cl0, cl1, cl2, cl3, cl4, cl5, cl6, cl7, cl8, cl9, cl10, cl11, cl12]
  refine hj_aload_n F 2 dX3_addOrder_95 rfl rfl ?_
  refine hj_dup F dX3_addOrder_96 rfl ?_
  refine hg_X_orderCount F hi_X3_addOrder_X lk_X3_addOrder_43 dX3_addOrder_97 ?_
  refine hj_iconst F (v := 1) dX3_addOrder_100 (by decide) ?_
  rw [h1]
  refine hj_iadd F dX3_addOrder_101 ?_
  rw [nI_1]
  refine hp_X_orderCount F hi_X3_addOrder_X lk_X3_addOrder_43 dX3_addOrder_102 ?_
  refine hj_aload_n F 2 dX3_addOrder_105 rfl rfl ?_
  refine hj_iconst F (v := 0) dX3_addOrder_106 (by decide) ?_
  refine hp_X_bestStands F hi_X3_addOrder_X lk_X3_addOrder_58 rfl rfl dX3_addOrder_107 ?_
  refine hj_iload_n F 1 dX3_addOrder_110 rfl rfl ?_
  exact ret dX3_addOrder_111 rfl ⟨rfl, rfl, rfl, rfl⟩
def ct_f (g : hw_G) (cw x : Int32) : Int32 := if x = 0 then g 12 else if x = 1 then g 1 else if x = 2 then cw else if x = 3 then g 2 else if x = 4 then g 0 else if x = 5 then g 11 else if x = 6 then g 3 else -1
theorem ct_out {x : Int32} (h : ∀ k : Nat, k ≤ 6 → x ≠ nI k) : x.toInt < 0 ∨ 6 < x.toInt := by
  rcases pk_ix x (n := 7) (by decide) with z | z | ⟨j, hj, rfl⟩
  · left
    have := Int32.lt_iff_toInt_lt.mp z
    simpa using this
  · right
    have := Int32.le_iff_toInt_le.mp z
    rw [nI_toInt (by decide)] at this
    omega
  · exact absurd rfl (h j (by omega))
set_option maxHeartbeats 4000000 in
set_option maxRecDepth 100000 in
theorem k_X_count (hok : hw_XOK X) {N : Nat} {x : Int32} (h1 : g 1 = nI N) (hN : N ≤ 60) : hw_Ci l D (WH ad t) (hw_T t) X yX3_count wsX3_count (hw_rm 3) [.ref (ad 0), .int x] g a c (fun r g' a' c' => r = ct_f g (hx_cw a N) x ∧ g' = g ∧ a' = a ∧ c' = c) := by
  refine hw_Ci.mk (lv0 := [(0, _), (1, _)]) (by decide) rfl (Nat.le_of_ble_eq_true rfl) rfl (WH_ads ad t) hok (fun K F ret => ?_)
  have F : hw_F K l D (WH ad t) (hw_T t) X cX3_count RX3 wsX3_count (hw_rm 3) 2 := F
  refine hj_iload_n F 1 dX3_count_0 rfl rfl ?_
  by_cases h0x : x = 0
  · subst h0x
    refine hj_tableIn F 44 dX3_count_1 (by decide) (by decide) (off := 43) (by decide) (by decide) ?_
    refine hj_aload_n F 0 dX3_count_44 rfl rfl ?_
    refine hg_X_blocks F hi_X3_count_X lk_X3_count_23 dX3_count_45 ?_
    refine hg_B_size F hi_X3_count_B lk_X3_count_69 dX3_count_48 ?_
    exact ret dX3_count_51 rfl ⟨rfl, rfl, rfl, rfl⟩
  by_cases h1x : x = 1
  · subst h1x
    refine hj_tableIn F 52 dX3_count_1 (by decide) (by decide) (off := 51) (by decide) (by decide) ?_
    refine hj_aload_n F 0 dX3_count_52 rfl rfl ?_
    refine hg_X_orderCount F hi_X3_count_X lk_X3_count_43 dX3_count_53 ?_
    exact ret dX3_count_56 rfl ⟨rfl, rfl, rfl, rfl⟩
  by_cases h2x : x = 2
  · subst h2x
    refine hj_tableIn F 57 dX3_count_1 (by decide) (by decide) (off := 56) (by decide) (by decide) ?_
    refine hj_aload_n F 0 dX3_count_57 rfl rfl ?_
    refine hj_cVi F (n := 0) (k_X_countWaiting hok h1 hN) gX3_count_X3_countWaiting rfl ⟨rfl, rfl⟩ (by decide +kernel) ⟨by decide, by decide⟩ 0 3 rfl rfl (As := []) rfl rfl (Nat.le_of_ble_eq_true rfl) ⟨Nat.zero_le _, Nat.zero_le _⟩ dX3_count_58 (hw_eq4 ?_)
    exact ret dX3_count_61 rfl ⟨rfl, rfl, rfl, rfl⟩
  by_cases h3x : x = 3
  · subst h3x
    refine hj_tableIn F 62 dX3_count_1 (by decide) (by decide) (off := 61) (by decide) (by decide) ?_
    refine hj_aload_n F 0 dX3_count_62 rfl rfl ?_
    refine hg_X_now F hi_X3_count_X lk_X3_count_46 dX3_count_63 ?_
    exact ret dX3_count_66 rfl ⟨rfl, rfl, rfl, rfl⟩
  by_cases h4x : x = 4
  · subst h4x
    refine hj_tableIn F 67 dX3_count_1 (by decide) (by decide) (off := 66) (by decide) (by decide) ?_
    refine hj_aload_n F 0 dX3_count_67 rfl rfl ?_
    refine hg_X_handSize F hi_X3_count_X lk_X3_count_39 dX3_count_68 ?_
    exact ret dX3_count_71 rfl ⟨rfl, rfl, rfl, rfl⟩
  by_cases h5x : x = 5
  · subst h5x
    refine hj_tableIn F 72 dX3_count_1 (by decide) (by decide) (off := 71) (by decide) (by decide) ?_
    refine hj_aload_n F 0 dX3_count_72 rfl rfl ?_
    refine hg_X_tape F hi_X3_count_X lk_X3_count_16 dX3_count_73 ?_
    refine hg_T_size F hi_X3_count_T lk_X3_count_81 dX3_count_76 ?_
    exact ret dX3_count_79 rfl ⟨rfl, rfl, rfl, rfl⟩
  by_cases h6x : x = 6
  · subst h6x
    refine hj_tableIn F 80 dX3_count_1 (by decide) (by decide) (off := 79) (by decide) (by decide) ?_
    refine hj_aload_n F 0 dX3_count_80 rfl rfl ?_
    refine hg_X_steamerFree F hi_X3_count_X lk_X3_count_49 dX3_count_81 ?_
    exact ret dX3_count_84 rfl ⟨rfl, rfl, rfl, rfl⟩
  refine hj_tableOut F 85 dX3_count_1 (ct_out (fun k hk => ?_)) (by decide) ?_
  · rcases (show k = 0 ∨ k = 1 ∨ k = 2 ∨ k = 3 ∨ k = 4 ∨ k = 5 ∨ k = 6 by omega) with rfl | rfl | rfl | rfl | rfl | rfl | rfl <;> assumption
  refine hj_iconst F (v := -1) dX3_count_85 (by decide) ?_
  exact ret dX3_count_86 rfl ⟨by simp [ct_f, h0x, h1x, h2x, h3x, h4x, h5x, h6x], rfl, rfl, rfl⟩
variable {host : String}
set_option maxHeartbeats 4000000 in
set_option maxRecDepth 100000 in
theorem k_P_search (hok : hw_XOK X) (hsn : ∀ A U H, X A U H → va_Nw (.methodLinkNest RX1 67 yX3_startOf host) U) {N nw sf : Nat} {ob st on wt bf : Nat → Nat} (hN : N ≤ 7) (hp : ∀ c0 : Int64, c0 = 9223372036854775807 → pl_P N nw ob st on wt g a c0 [] (sf, bf, 0) none 0) : hw_Cv l D (WH ad t) (hw_T t) X yX1_search wsX1_search (hw_rm 19) [.ref (ad 3), .int (nI sf)] g a c (pl_Q N g a 0 (pl_F N nw ob st on wt N [] (sf, bf, 0) none)) := by
  refine hw_Cv.mk (lv0 := [(0, _), (1, _)]) (by decide) rfl (Nat.le_of_ble_eq_true rfl) rfl (WH_ads ad t) hok (fun K F ret => ?_)
  have F : hw_F K l D (WH ad t) (hw_T t) X cX1_search RX1 wsX1_search (hw_rm 19) 2 := F
  refine hj_aload_n F 0 dX1_search_0 rfl rfl ?_
  refine hj_ldc2 F lc_X1_search_53 dX1_search_1 ?_
  refine hp_P_leastCost F hi_X1_search_P lk_X1_search_44 dX1_search_4 ?_
  refine hj_aload_n F 0 dX1_search_7 rfl rfl ?_
  refine hj_iconst F (v := 0) dX1_search_8 (by decide) ?_
  refine hj_iload_n F 1 dX1_search_9 rfl rfl ?_
  refine hj_lconst F (v := 0) dX1_search_10 (by decide) ?_
  refine hj_cVv F (n := 3) (k_P_tryAll hok hsn N g a 9223372036854775807 [] (sf, bf, 0) none 0 (by omega) (hp _ rfl) (fun q hq => by cases hq)) gX1_search_X1_tryAll rfl ⟨rfl, rfl⟩ (by decide +kernel) ⟨by show 2 * N + 3 + 1 ≤ 19; omega, by show 8 + (6 + 11) + 64 * (2 * N + 3) ≤ 64 * 19; omega⟩ 3 1 rfl rfl (As := [_, _, _]) rfl rfl (Nat.le_of_ble_eq_true rfl) ⟨Nat.zero_le _, Nat.zero_le _⟩ dX1_search_11 ?_
  intro g1 a1 c1 hq
  exact ret dX1_search_14 hq
end SHAT2
