section SMOD4
theorem hi_X4_count_M : ∀ w ∈ u_ws RX4 TX4 28, w ∈ wsX4_count := fun w h => by
  unfold wsX4_count
  simp only [List.mem_cons, List.mem_append]
  first | (simp only [h, or_true, true_or]; done) | (have h2 : w ∈ wsX40 := h; simp only [h2, or_true, true_or]; done)
theorem lk_X4_count_141 : Cond.fieldLink RX4 141 "HatWorksModel" "orders" "I" ∈ wsX4_count := List.mem_of_getElem? (i := 3) rfl
theorem lk_X4_count_150 : Cond.fieldLink RX4 150 "HatWorksModel" "now" "I" ∈ wsX4_count := List.mem_of_getElem? (i := 4) rfl
theorem lk_X4_count_153 : Cond.fieldLink RX4 153 "HatWorksModel" "steamer" "I" ∈ wsX4_count := List.mem_of_getElem? (i := 7) rfl
theorem lk_X4_count_61 : Cond.fieldLink RX4 61 "HatWorksModel" "thrown" "I" ∈ wsX4_count := List.mem_of_getElem? (i := 1) rfl
theorem lk_X4_count_68 : Cond.fieldLink RX4 68 "HatWorksModel" "handMany" "I" ∈ wsX4_count := List.mem_of_getElem? (i := 5) rfl
theorem lk_X4_count_71 : Cond.fieldLink RX4 71 "HatWorksModel" "blocks" "I" ∈ wsX4_count := List.mem_of_getElem? (i := 2) rfl
theorem lk_X4_count_82 : Cond.fieldLink RX4 82 "HatWorksModel" "taped" "I" ∈ wsX4_count := List.mem_of_getElem? (i := 6) rfl
theorem hi_X4_fit_M : ∀ w ∈ u_ws RX4 TX4 28, w ∈ wsX4_fit := fun w h => by
  unfold wsX4_fit
  simp only [List.mem_cons, List.mem_append]
  first | (simp only [h, or_true, true_or]; done) | (have h2 : w ∈ wsX40 := h; simp only [h2, or_true, true_or]; done)
theorem lk_X4_fit_150 : Cond.fieldLink RX4 150 "HatWorksModel" "now" "I" ∈ wsX4_fit := List.mem_of_getElem? (i := 2) rfl
theorem lk_X4_fit_40 : Cond.fieldLink RX4 40 "HatWorksModel" "order" "[I" ∈ wsX4_fit := List.mem_of_getElem? (i := 1) rfl
theorem lk_X4_fit_43 : Cond.fieldLink RX4 43 "HatWorksModel" "fits" "[I" ∈ wsX4_fit := List.mem_of_getElem? (i := 4) rfl
theorem lk_X4_fit_46 : Cond.fieldLink RX4 46 "HatWorksModel" "isTold" "[Z" ∈ wsX4_fit := List.mem_of_getElem? (i := 3) rfl
theorem hi_X4_late_M : ∀ w ∈ u_ws RX4 TX4 28, w ∈ wsX4_late := fun w h => by
  unfold wsX4_late
  simp only [List.mem_cons, List.mem_append]
  first | (simp only [h, or_true, true_or]; done) | (have h2 : w ∈ wsX40 := h; simp only [h2, or_true, true_or]; done)
theorem lk_X4_late_141 : Cond.fieldLink RX4 141 "HatWorksModel" "orders" "I" ∈ wsX4_late := List.mem_of_getElem? (i := 2) rfl
theorem lk_X4_late_150 : Cond.fieldLink RX4 150 "HatWorksModel" "now" "I" ∈ wsX4_late := List.mem_of_getElem? (i := 3) rfl
theorem lk_X4_late_40 : Cond.fieldLink RX4 40 "HatWorksModel" "order" "[I" ∈ wsX4_late := List.mem_of_getElem? (i := 4) rfl
theorem lk_X4_late_61 : Cond.fieldLink RX4 61 "HatWorksModel" "thrown" "I" ∈ wsX4_late := List.mem_of_getElem? (i := 1) rfl
theorem lc_X4_wait_140 : Cond.constant RX4 140 1000000 ∈ wsX4_wait := by decide +kernel
theorem hi_X4_wait_M : ∀ w ∈ u_ws RX4 TX4 28, w ∈ wsX4_wait := fun w h => by
  unfold wsX4_wait
  simp only [List.mem_cons, List.mem_append]
  first | (simp only [h, or_true, true_or]; done) | (have h2 : w ∈ wsX40 := h; simp only [h2, or_true, true_or]; done)
theorem lk_X4_wait_150 : Cond.fieldLink RX4 150 "HatWorksModel" "now" "I" ∈ wsX4_wait := List.mem_of_getElem? (i := 2) rfl
theorem lk_X4_wait_61 : Cond.fieldLink RX4 61 "HatWorksModel" "thrown" "I" ∈ wsX4_wait := List.mem_of_getElem? (i := 1) rfl
theorem hi_X4_wear_M : ∀ w ∈ u_ws RX4 TX4 28, w ∈ wsX4_wear := fun w h => by
  unfold wsX4_wear
  simp only [List.mem_cons, List.mem_append]
  first | (simp only [h, or_true, true_or]; done) | (have h2 : w ∈ wsX40 := h; simp only [h2, or_true, true_or]; done)
theorem lk_X4_wear_141 : Cond.fieldLink RX4 141 "HatWorksModel" "orders" "I" ∈ wsX4_wear := List.mem_of_getElem? (i := 1) rfl
theorem lk_X4_wear_40 : Cond.fieldLink RX4 40 "HatWorksModel" "order" "[I" ∈ wsX4_wear := List.mem_of_getElem? (i := 2) rfl
theorem lk_X4_wear_43 : Cond.fieldLink RX4 43 "HatWorksModel" "fits" "[I" ∈ wsX4_wear := List.mem_of_getElem? (i := 4) rfl
theorem lk_X4_wear_46 : Cond.fieldLink RX4 46 "HatWorksModel" "isTold" "[Z" ∈ wsX4_wear := List.mem_of_getElem? (i := 3) rfl
variable {K : hw_K} {l : Launch} {D : va_G} {ad : Nat → Nat} {t : Nat → ClassId} {X : hw_XT} {rm : Room} {g : hw_G} {a : hw_A} {c : Int64}
set_option maxHeartbeats 4000000 in
set_option maxRecDepth 100000 in
theorem k_M_go (hok : hw_XOK X) {N : Nat} (h9 : g 9 = nI N) (hN : N ≤ 60) {x : Int32} (hrow : ∀ o, o < N → ub (a 7 (12 * o)) 9) : hw_Ci l D (WM ad t) (hw_T t) X yX4_go wsX4_go (hw_rm 2) [.ref (ad 0), .int x] g a c (fun r g' a' c' => c' = c ∧ (if x < 0 ∨ nI N ≤ x then g' = upd g 0 1 ∧ a' = a else ∃ o, o < N ∧ x = nI o ∧ (if a 7 (12 * o + 8) = 0 then r = ge_s g a o (a 7 (12 * o)).toNatClampNeg ∧ g' = ge_g (upd g 0 0) a o (a 7 (12 * o)).toNatClampNeg ∧ a' = ge_a g a o (a 7 (12 * o)).toNatClampNeg else r = -1 ∧ g' = upd g 0 0 ∧ a' = a))) := by
  refine hw_Ci.mk (lv0 := [(0, _), (1, _)]) (by decide) rfl (Nat.le_of_ble_eq_true rfl) rfl (WM_ads ad t) hok (fun K F ret => ?_)
  have F : hw_F K l D (WM ad t) (hw_T t) X cX4_go RX4 wsX4_go (hw_rm 2) 2 := F
  by_cases hx : x < 0 ∨ nI N ≤ x
  · refine hj_aload_n F 0 dX4_go_0 rfl rfl ?_
    refine hj_iload_n F 1 dX4_go_1 rfl rfl ?_
    refine hj_cVi F (n := 1) (k_M_isOrder hok h9) gX4_go_X4_isOrder rfl ⟨rfl, rfl⟩ (by decide +kernel) ⟨by decide, by decide⟩ 0 4 rfl rfl (As := [_]) rfl rfl (Nat.le_of_ble_eq_true rfl) ⟨Nat.zero_le _, Nat.zero_le _⟩ dX4_go_2 ?_
    intro r9 g9 a9 c9 hq
    obtain ⟨hq, e2, e3⟩ := hq
    obtain rfl := e2.symm
    obtain rfl := e3.symm
    rw [if_pos hx] at hq
    obtain ⟨rfl, rfl⟩ := hq
    refine hj_if_ne F 10 dX4_go_5 (by decide) (fun q5 => ?_) (fun q5 => ?_)
    · exact absurd rfl q5
    · refine hj_iconst F (v := 0) dX4_go_8 (by decide) ?_
      exact ret dX4_go_9 rfl ⟨rfl, by rw [if_pos hx]; exact ⟨rfl, rfl⟩⟩
  obtain ⟨o, ho, rfl⟩ : ∃ b, b < N ∧ x = nI b := by
    rcases pk_ix x (n := N) (by omega) with z | z | z
    · exact absurd (Or.inl z) hx
    · exact absurd (Or.inr z) hx
    · exact z
  refine hj_aload_n F 0 dX4_go_0 rfl rfl ?_
  refine hj_iload_n F 1 dX4_go_1 rfl rfl ?_
  refine hj_cVi F (n := 1) (k_M_isOrder hok h9) gX4_go_X4_isOrder rfl ⟨rfl, rfl⟩ (by decide +kernel) ⟨by decide, by decide⟩ 0 4 rfl rfl (As := [_]) rfl rfl (Nat.le_of_ble_eq_true rfl) ⟨Nat.zero_le _, Nat.zero_le _⟩ dX4_go_2 ?_
  intro r9 g9 a9 c9 hq
  obtain ⟨hq, e2, e3⟩ := hq
  obtain rfl := e2.symm
  obtain rfl := e3.symm
  rw [if_neg hx] at hq
  obtain ⟨rfl, rfl⟩ := hq
  refine hj_if_ne F 10 dX4_go_5 (by decide) (fun q5 => ?_) (fun q5 => ?_)
  · refine hj_aload_n F 0 dX4_go_10 rfl rfl ?_
    refine hj_iload_n F 1 dX4_go_11 rfl rfl ?_
    refine hj_cVi F (n := 1) (k_M_waits hok (o := o) (by omega)) gX4_go_X4_waits rfl ⟨rfl, rfl⟩ (by decide +kernel) ⟨by decide, by decide⟩ 0 4 rfl rfl (As := [_]) rfl rfl (Nat.le_of_ble_eq_true rfl) ⟨Nat.zero_le _, Nat.zero_le _⟩ dX4_go_12 (hw_eq4 ?_)
    refine hj_if_eq F 26 dX4_go_15 (by decide) (fun q15 => ?_) (fun q15 => ?_)
    · have hw : ¬ a 7 (12 * o + 8) = 0 := fun z => by rw [if_pos z] at q15; exact absurd q15 (by decide)
      refine hj_iconst F (v := -1) dX4_go_26 (by decide) ?_
      exact ret dX4_go_27 rfl ⟨rfl, by rw [if_neg hx]; exact ⟨o, ho, rfl, by rw [if_neg hw]; exact ⟨rfl, rfl, rfl⟩⟩⟩
    · have hw : a 7 (12 * o + 8) = 0 := Classical.byContradiction (fun z => q15 (if_neg z))
      refine hj_aload_n F 0 dX4_go_18 rfl rfl ?_
      refine hj_iload_n F 1 dX4_go_19 rfl rfl ?_
      refine hj_cVi F (n := 1) (k_M_goes hok (o := o) (b := (a 7 (12 * o)).toNatClampNeg) (by omega) (by have := (hrow o ho).2; omega) (hrow o ho).1) gX4_go_X4_goes rfl ⟨rfl, rfl⟩ (by decide +kernel) ⟨by decide, by decide⟩ 0 4 rfl rfl (As := [_]) rfl rfl (Nat.le_of_ble_eq_true rfl) ⟨Nat.zero_le _, Nat.zero_le _⟩ dX4_go_20 (hw_eq4 ?_)
      refine hj_goto F 27 dX4_go_23 (by decide) ?_
      exact ret dX4_go_27 rfl ⟨rfl, by rw [if_neg hx]; exact ⟨o, ho, rfl, by rw [if_pos hw]; exact ⟨rfl, rfl, rfl⟩⟩⟩
  · exact absurd q5 (by decide)
set_option maxHeartbeats 4000000 in
set_option maxRecDepth 100000 in
theorem k_M_wait (hok : hw_XOK X) {x : Int32} : hw_Ci l D (WM ad t) (hw_T t) X yX4_wait wsX4_wait (hw_rm 2) [.ref (ad 0), .int x] g a c (fun r g' a' c' => c' = c ∧ a' = a ∧ (if x < 0 ∨ 10000 < x ∨ 1000000 < g 8 + x then g' = upd g 0 1 else r = g 8 + x ∧ g' = upd (upd g 0 0) 8 (g 8 + x))) := by
  refine hw_Ci.mk (lv0 := [(0, _), (1, _)]) (by decide) rfl (Nat.le_of_ble_eq_true rfl) rfl (WM_ads ad t) hok (fun K F ret => ?_)
  have F : hw_F K l D (WM ad t) (hw_T t) X cX4_wait RX4 wsX4_wait (hw_rm 2) 2 := F
  refine hj_aload_n F 0 dX4_wait_0 rfl rfl ?_
  refine hj_iconst F (v := 0) dX4_wait_1 (by decide) ?_
  refine hp_M_thrown F hi_X4_wait_M lk_X4_wait_61 dX4_wait_2 ?_
  refine hj_aload_n F 0 dX4_wait_5 rfl rfl ?_
  refine hj_iload_n F 1 dX4_wait_6 rfl rfl ?_
  refine hj_if_lt F 28 dX4_wait_7 (by decide) (fun q7 => ?_) (fun q7 => ?_)
  · refine hj_iconst F (v := 1) dX4_wait_28 (by decide) ?_
    refine hj_goto F 33 dX4_wait_29 (by decide) ?_
    refine hj_iconst F (v := 1) dX4_wait_33 (by decide) ?_
    refine hj_cVi F (n := 2) (k_M_bad hok (by decide)) gX4_wait_X4_bad rfl ⟨rfl, rfl⟩ (by decide +kernel) ⟨by decide, by decide⟩ 0 4 rfl rfl (As := [_, _]) rfl rfl (Nat.le_of_ble_eq_true rfl) ⟨Nat.zero_le _, Nat.zero_le _⟩ dX4_wait_34 (hw_eq4 ?_)
    rw [if_neg (by decide)]
    refine hj_if_eq F 42 dX4_wait_37 (by decide) (fun q37 => ?_) (fun q37 => ?_)
    · exact absurd q37 (by decide)
    · refine hj_iconst F (v := 0) dX4_wait_40 (by decide) ?_
      exact ret dX4_wait_41 rfl ⟨rfl, rfl, by rw [if_pos (Or.inl q7), upd_uu]⟩
  · refine hj_iload_n F 1 dX4_wait_10 rfl rfl ?_
    refine hj_sipush F (v := 10000) dX4_wait_11 (by decide) ?_
    refine hj_icmp_gt F 28 dX4_wait_14 (by decide) (fun q14 => ?_) (fun q14 => ?_)
    · refine hj_iconst F (v := 1) dX4_wait_28 (by decide) ?_
      refine hj_goto F 33 dX4_wait_29 (by decide) ?_
      refine hj_iconst F (v := 1) dX4_wait_33 (by decide) ?_
      refine hj_cVi F (n := 2) (k_M_bad hok (by decide)) gX4_wait_X4_bad rfl ⟨rfl, rfl⟩ (by decide +kernel) ⟨by decide, by decide⟩ 0 4 rfl rfl (As := [_, _]) rfl rfl (Nat.le_of_ble_eq_true rfl) ⟨Nat.zero_le _, Nat.zero_le _⟩ dX4_wait_34 (hw_eq4 ?_)
      rw [if_neg (by decide)]
      refine hj_if_eq F 42 dX4_wait_37 (by decide) (fun q37_2 => ?_) (fun q37_2 => ?_)
      · exact absurd q37_2 (by decide)
      · refine hj_iconst F (v := 0) dX4_wait_40 (by decide) ?_
        exact ret dX4_wait_41 rfl ⟨rfl, rfl, by rw [if_pos (Or.inr (Or.inl q14)), upd_uu]⟩
    · refine hj_aload_n F 0 dX4_wait_17 rfl rfl ?_
      refine hg_M_now F hi_X4_wait_M lk_X4_wait_150 dX4_wait_18 ?_
      rw [pk_un (by decide)]
      refine hj_iload_n F 1 dX4_wait_21 rfl rfl ?_
      refine hj_iadd F dX4_wait_22 ?_
      refine hj_ldc F lc_X4_wait_140 dX4_wait_23 ?_
      refine hj_icmp_le F 32 dX4_wait_25 (by decide) (fun q25 => ?_) (fun q25 => ?_)
      · refine hj_iconst F (v := 0) dX4_wait_32 (by decide) ?_
        refine hj_iconst F (v := 1) dX4_wait_33 (by decide) ?_
        refine hj_cVi F (n := 2) (k_M_bad hok (by decide)) gX4_wait_X4_bad rfl ⟨rfl, rfl⟩ (by decide +kernel) ⟨by decide, by decide⟩ 0 4 rfl rfl (As := [_, _]) rfl rfl (Nat.le_of_ble_eq_true rfl) ⟨Nat.zero_le _, Nat.zero_le _⟩ dX4_wait_34 (hw_eq4 ?_)
        rw [if_pos rfl]
        refine hj_if_eq F 42 dX4_wait_37 (by decide) (fun q37_3 => ?_) (fun q37_3 => ?_)
        · refine hj_aload_n F 0 dX4_wait_42 rfl rfl ?_
          refine hj_dup F dX4_wait_43 rfl ?_
          refine hg_M_now F hi_X4_wait_M lk_X4_wait_150 dX4_wait_44 ?_
          rw [pk_un (by decide)]
          refine hj_iload_n F 1 dX4_wait_47 rfl rfl ?_
          refine hj_iadd F dX4_wait_48 ?_
          refine hp_M_now F hi_X4_wait_M lk_X4_wait_150 dX4_wait_49 ?_
          refine hj_aload_n F 0 dX4_wait_52 rfl rfl ?_
          refine hg_M_now F hi_X4_wait_M lk_X4_wait_150 dX4_wait_53 ?_
          rw [pk_us]
          exact ret dX4_wait_56 rfl ⟨rfl, rfl, by rw [if_neg (fun z => z.elim q7 (fun z => z.elim q14 (fun z => absurd q25 (Int32.not_le.mpr z))))]; exact ⟨rfl, rfl⟩⟩
        · exact absurd rfl q37_3
      · refine hj_iconst F (v := 1) dX4_wait_28 (by decide) ?_
        refine hj_goto F 33 dX4_wait_29 (by decide) ?_
        refine hj_iconst F (v := 1) dX4_wait_33 (by decide) ?_
        refine hj_cVi F (n := 2) (k_M_bad hok (by decide)) gX4_wait_X4_bad rfl ⟨rfl, rfl⟩ (by decide +kernel) ⟨by decide, by decide⟩ 0 4 rfl rfl (As := [_, _]) rfl rfl (Nat.le_of_ble_eq_true rfl) ⟨Nat.zero_le _, Nat.zero_le _⟩ dX4_wait_34 (hw_eq4 ?_)
        rw [if_neg (by decide)]
        refine hj_if_eq F 42 dX4_wait_37 (by decide) (fun q37_4 => ?_) (fun q37_4 => ?_)
        · exact absurd q37_4 (by decide)
        · refine hj_iconst F (v := 0) dX4_wait_40 (by decide) ?_
          exact ret dX4_wait_41 rfl ⟨rfl, rfl, by rw [if_pos (Or.inr (Or.inr (Int32.not_le.mp q25))), upd_uu]⟩
def mf_a (a : hw_A) (o : Nat) (v : Int32) : hw_A := va_up (va_up a 9 (upd (a 9) o 1)) 8 (upd (a 8) o v)
set_option maxHeartbeats 4000000 in
set_option maxRecDepth 100000 in
theorem k_M_fit (hok : hw_XOK X) {N : Nat} (h9 : g 9 = nI N) (hN : N ≤ 60) {x v : Int32} : hw_Ci l D (WM ad t) (hw_T t) X yX4_fit wsX4_fit (hw_rm 2) [.ref (ad 0), .int x, .int v] g a c (fun r g' a' c' => c' = c ∧ (if x < 0 ∨ nI N ≤ x then g' = upd g 0 1 ∧ a' = a else if v < -2 ∨ 2 < v then g' = upd g 0 2 ∧ a' = a else g' = upd g 0 0 ∧ ∃ o, o < N ∧ x = nI o ∧ (if ¬ a 7 (12 * o + 8) = 0 ∧ a 7 (12 * o + 10) ≤ g 8 then (if a 9 o = 0 then r = 1 ∧ a' = mf_a a o v else r = 0 ∧ a' = a) else r = -1 ∧ a' = a))) := by
  refine hw_Ci.mk (lv0 := [(0, _), (1, _), (2, _)]) (by decide) rfl (Nat.le_of_ble_eq_true rfl) rfl (WM_ads ad t) hok (fun K F ret => ?_)
  have F : hw_F K l D (WM ad t) (hw_T t) X cX4_fit RX4 wsX4_fit (hw_rm 2) 3 := F
  by_cases hx : x < 0 ∨ nI N ≤ x
  · refine hj_aload_n F 0 dX4_fit_0 rfl rfl ?_
    refine hj_iload_n F 1 dX4_fit_1 rfl rfl ?_
    refine hj_cVi F (n := 1) (k_M_isOrder hok h9) gX4_fit_X4_isOrder rfl ⟨rfl, rfl⟩ (by decide +kernel) ⟨by decide, by decide⟩ 0 4 rfl rfl (As := [_]) rfl rfl (Nat.le_of_ble_eq_true rfl) ⟨Nat.zero_le _, Nat.zero_le _⟩ dX4_fit_2 ?_
    intro r9 g9 a9 c9 hq
    obtain ⟨hq, e2, e3⟩ := hq
    obtain rfl := e2.symm
    obtain rfl := e3.symm
    rw [if_pos hx] at hq
    obtain ⟨rfl, rfl⟩ := hq
    refine hj_if_eq F 32 dX4_fit_5 (by decide) (fun q5 => ?_) (fun q5 => ?_)
    · refine hj_iconst F (v := 0) dX4_fit_32 (by decide) ?_
      exact ret dX4_fit_33 rfl ⟨rfl, by rw [if_pos hx]; exact ⟨rfl, rfl⟩⟩
    · exact absurd rfl q5
  obtain ⟨o, ho, rfl⟩ : ∃ b, b < N ∧ x = nI b := by
    rcases pk_ix x (n := N) (by omega) with z | z | z
    · exact absurd (Or.inl z) hx
    · exact absurd (Or.inr z) hx
    · exact z
  refine hj_aload_n F 0 dX4_fit_0 rfl rfl ?_
  refine hj_iload_n F 1 dX4_fit_1 rfl rfl ?_
  refine hj_cVi F (n := 1) (k_M_isOrder hok h9) gX4_fit_X4_isOrder rfl ⟨rfl, rfl⟩ (by decide +kernel) ⟨by decide, by decide⟩ 0 4 rfl rfl (As := [_]) rfl rfl (Nat.le_of_ble_eq_true rfl) ⟨Nat.zero_le _, Nat.zero_le _⟩ dX4_fit_2 ?_
  intro r9 g9 a9 c9 hq
  obtain ⟨hq, e2, e3⟩ := hq
  obtain rfl := e2.symm
  obtain rfl := e3.symm
  rw [if_neg hx] at hq
  obtain ⟨rfl, rfl⟩ := hq
  refine hj_if_eq F 32 dX4_fit_5 (by decide) (fun q5 => ?_) (fun q5 => ?_)
  · exact absurd q5 (by decide)
  · refine hj_aload_n F 0 dX4_fit_8 rfl rfl ?_
    refine hj_iload_n F 2 dX4_fit_9 rfl rfl ?_
    refine hj_bipush F (v := -2) dX4_fit_10 (by decide) ?_
    refine hj_icmp_lt F 20 dX4_fit_12 (by decide) (fun q12 => ?_) (fun q12 => ?_)
    · refine hj_iconst F (v := 1) dX4_fit_20 (by decide) ?_
      refine hj_goto F 25 dX4_fit_21 (by decide) ?_
      refine hj_iconst F (v := 2) dX4_fit_25 (by decide) ?_
      refine hj_cVi F (n := 2) (k_M_bad hok (by decide)) gX4_fit_X4_bad rfl ⟨rfl, rfl⟩ (by decide +kernel) ⟨by decide, by decide⟩ 0 4 rfl rfl (As := [_, _]) rfl rfl (Nat.le_of_ble_eq_true rfl) ⟨Nat.zero_le _, Nat.zero_le _⟩ dX4_fit_26 (hw_eq4 ?_)
      rw [if_neg (by decide)]
      refine hj_if_eq F 34 dX4_fit_29 (by decide) (fun q29 => ?_) (fun q29 => ?_)
      · exact absurd q29 (by decide)
      · refine hj_iconst F (v := 0) dX4_fit_32 (by decide) ?_
        exact ret dX4_fit_33 rfl ⟨rfl, by rw [if_neg hx, if_pos (Or.inl q12), upd_uu]; exact ⟨rfl, rfl⟩⟩
    · refine hj_iload_n F 2 dX4_fit_15 rfl rfl ?_
      refine hj_iconst F (v := 2) dX4_fit_16 (by decide) ?_
      refine hj_icmp_le F 24 dX4_fit_17 (by decide) (fun q17 => ?_) (fun q17 => ?_)
      · refine hj_iconst F (v := 0) dX4_fit_24 (by decide) ?_
        refine hj_iconst F (v := 2) dX4_fit_25 (by decide) ?_
        refine hj_cVi F (n := 2) (k_M_bad hok (by decide)) gX4_fit_X4_bad rfl ⟨rfl, rfl⟩ (by decide +kernel) ⟨by decide, by decide⟩ 0 4 rfl rfl (As := [_, _]) rfl rfl (Nat.le_of_ble_eq_true rfl) ⟨Nat.zero_le _, Nat.zero_le _⟩ dX4_fit_26 (hw_eq4 ?_)
        rw [if_pos rfl]
        refine hj_if_eq F 34 dX4_fit_29 (by decide) (fun q29_2 => ?_) (fun q29_2 => ?_)
        · refine hj_aload_n F 0 dX4_fit_34 rfl rfl ?_
          refine hj_iload_n F 1 dX4_fit_35 rfl rfl ?_
          refine hj_cVi F (n := 1) (k_M_waits hok (o := o) (by omega)) gX4_fit_X4_waits rfl ⟨rfl, rfl⟩ (by decide +kernel) ⟨by decide, by decide⟩ 0 4 rfl rfl (As := [_]) rfl rfl (Nat.le_of_ble_eq_true rfl) ⟨Nat.zero_le _, Nat.zero_le _⟩ dX4_fit_36 (hw_eq4 ?_)
          refine hj_if_ne F 61 dX4_fit_39 (by decide) (fun q39 => ?_) (fun q39 => ?_)
          · have hw : a 7 (12 * o + 8) = 0 := Classical.byContradiction (fun z => q39 (if_neg z))
            refine hj_iconst F (v := -1) dX4_fit_61 (by decide) ?_
            exact ret dX4_fit_62 rfl ⟨rfl, by rw [if_neg hx, if_neg (fun z => z.elim q12 (fun z => absurd q17 (Int32.not_le.mpr z)))]; exact ⟨rfl, o, ho, rfl, by rw [if_neg (fun z => z.1 hw)]; exact ⟨rfl, rfl⟩⟩⟩
          · have hw : ¬ a 7 (12 * o + 8) = 0 := fun z => by rw [if_pos z] at q39; exact absurd q39 (by decide)
            refine hj_aload_n F 0 dX4_fit_42 rfl rfl ?_
            refine hg_M_order F hi_X4_fit_M lk_X4_fit_40 dX4_fit_43 ?_
            refine hj_bipush F (v := 12) dX4_fit_46 (by decide) ?_
            refine hj_iload_n F 1 dX4_fit_48 rfl rfl ?_
            refine hj_imul F dX4_fit_49 ?_
            refine hj_bipush F (v := 10) dX4_fit_50 (by decide) ?_
            refine hj_iadd F dX4_fit_52 ?_
            rw [show (12 : Int32) * nI o + 10 = nI (12 * o + 10) from md_ix (k := 12) (j := 10)]
            refine hl_M_order F (vp_in_nI (show 12 * o + 10 < 720 by omega) (by decide)) dX4_fit_53 ?_
            rw [nI_clamp (by omega)]
            refine hj_aload_n F 0 dX4_fit_54 rfl rfl ?_
            refine hg_M_now F hi_X4_fit_M lk_X4_fit_150 dX4_fit_55 ?_
            rw [pk_un (by decide)]
            refine hj_icmp_le F 63 dX4_fit_58 (by decide) (fun q58 => ?_) (fun q58 => ?_)
            · refine hj_aload_n F 0 dX4_fit_63 rfl rfl ?_
              refine hg_M_isTold F hi_X4_fit_M lk_X4_fit_46 dX4_fit_64 ?_
              refine hj_iload_n F 1 dX4_fit_67 rfl rfl ?_
              refine hl_M_isTold F (vp_in_nI (show o < 60 by omega) (by decide)) dX4_fit_68 ?_
              rw [nI_clamp (by omega)]
              refine hj_if_eq F 74 dX4_fit_69 (by decide) (fun q69 => ?_) (fun q69 => ?_)
              · refine hj_aload_n F 0 dX4_fit_74 rfl rfl ?_
                refine hg_M_isTold F hi_X4_fit_M lk_X4_fit_46 dX4_fit_75 ?_
                refine hj_iload_n F 1 dX4_fit_78 rfl rfl ?_
                refine hj_iconst F (v := 1) dX4_fit_79 (by decide) ?_
                refine hs_M_isTold F (vp_in_nI (show o < 60 by omega) (by decide)) dX4_fit_80 ?_
                refine hj_aload_n F 0 dX4_fit_81 rfl rfl ?_
                refine hg_M_fits F hi_X4_fit_M lk_X4_fit_43 dX4_fit_82 ?_
                refine hj_iload_n F 1 dX4_fit_85 rfl rfl ?_
                refine hj_iload_n F 2 dX4_fit_86 rfl rfl ?_
                refine hs_M_fits F (vp_in_nI (show o < 60 by omega) (by decide)) dX4_fit_87 ?_
                rw [nI_clamp (by omega), va_up_ne _ _ (show (8 : Nat) ≠ 9 by decide), show vp_nar .boolean 1 = 1 from rfl]
                refine hj_iconst F (v := 1) dX4_fit_88 (by decide) ?_
                exact ret dX4_fit_89 rfl ⟨rfl, by rw [if_neg hx, if_neg (fun z => z.elim q12 (fun z => absurd q17 (Int32.not_le.mpr z)))]; exact ⟨rfl, o, ho, rfl, by rw [if_pos ⟨hw, q58⟩, if_pos q69]; exact ⟨rfl, rfl⟩⟩⟩
              · refine hj_iconst F (v := 0) dX4_fit_72 (by decide) ?_
                exact ret dX4_fit_73 rfl ⟨rfl, by rw [if_neg hx, if_neg (fun z => z.elim q12 (fun z => absurd q17 (Int32.not_le.mpr z)))]; exact ⟨rfl, o, ho, rfl, by rw [if_pos ⟨hw, q58⟩, if_neg q69]; exact ⟨rfl, rfl⟩⟩⟩
            · refine hj_iconst F (v := -1) dX4_fit_61 (by decide) ?_
              exact ret dX4_fit_62 rfl ⟨rfl, by rw [if_neg hx, if_neg (fun z => z.elim q12 (fun z => absurd q17 (Int32.not_le.mpr z)))]; exact ⟨rfl, o, ho, rfl, by rw [if_neg (fun z => q58 z.2)]; exact ⟨rfl, rfl⟩⟩⟩
        · exact absurd rfl q29_2
      · refine hj_iconst F (v := 1) dX4_fit_20 (by decide) ?_
        refine hj_goto F 25 dX4_fit_21 (by decide) ?_
        refine hj_iconst F (v := 2) dX4_fit_25 (by decide) ?_
        refine hj_cVi F (n := 2) (k_M_bad hok (by decide)) gX4_fit_X4_bad rfl ⟨rfl, rfl⟩ (by decide +kernel) ⟨by decide, by decide⟩ 0 4 rfl rfl (As := [_, _]) rfl rfl (Nat.le_of_ble_eq_true rfl) ⟨Nat.zero_le _, Nat.zero_le _⟩ dX4_fit_26 (hw_eq4 ?_)
        rw [if_neg (by decide)]
        refine hj_if_eq F 34 dX4_fit_29 (by decide) (fun q29_3 => ?_) (fun q29_3 => ?_)
        · exact absurd q29_3 (by decide)
        · refine hj_iconst F (v := 0) dX4_fit_32 (by decide) ?_
          exact ret dX4_fit_33 rfl ⟨rfl, by rw [if_neg hx, if_pos (Or.inr (Int32.not_le.mp q17)), upd_uu]; exact ⟨rfl, rfl⟩⟩
def wr_t (a : hw_A) (j o : Nat) : Int32 := if j = 0 then 1 else if a 9 o = 0 then 0 else if j = 1 then 1 else a 8 o
def wr (a : hw_A) (b j : Nat) : Nat → Int32
  | 0 => 0
  | o + 1 => if a 7 (12 * o + 8) = 0 ∨ ¬ a 7 (12 * o) = nI b then wr a b j o else wr a b j o + wr_t a j o
set_option maxHeartbeats 4000000 in
set_option maxRecDepth 100000 in
theorem lp_M_wear (F : hw_F K l D (WM ad t) (hw_T t) X cX4_wear RX4 wsX4_wear (hw_rm 2) 5) (hok : hw_XOK X) {N b j : Nat} (h9 : g 9 = nI N) (hN : N ≤ 60) (hj : j < 3) (hx : hw_J K (WM ad t) 0 0 g a c [(4, .int (nI N)), (3, .int (wr a b j N)), (0, .ref (ad 0)), (1, .int (nI b)), (2, .int (nI j))] 119 []) : ∀ m o : Nat, N - o < m → o ≤ N → hw_J K (WM ad t) 0 0 g a c [(4, .int (nI o)), (3, .int (wr a b j o)), (0, .ref (ad 0)), (1, .int (nI b)), (2, .int (nI j))] 37 [] := by
  intro m
  induction m with
  | zero => intro o hm; exact absurd hm (Nat.not_lt_zero _)
  | succ m ih =>
    intro o hm hi
    refine hj_iload F 0 dX4_wear_37 rfl ?_
    refine hj_aload_n F 2 dX4_wear_39 rfl rfl ?_
    refine hg_M_orders F hi_X4_wear_M lk_X4_wear_141 dX4_wear_40 ?_
    rw [h9]
    refine hj_icmp_ge F 119 dX4_wear_43 (by decide) (fun q43 => ?_) (fun q43 => ?_)
    · rw [nI_leI (by omega) (by omega)] at q43
      obtain rfl : o = N := by omega
      exact hx
    · rw [nI_leI (by omega) (by omega)] at q43
      have ho : o < 60 := by omega
      refine hj_aload_n F 2 dX4_wear_46 rfl rfl ?_
      refine hj_iload F 0 dX4_wear_47 rfl ?_
      refine hj_cVi F (n := 1) (k_M_waits hok ho) gX4_wear_X4_waits rfl ⟨rfl, rfl⟩ (by decide +kernel) ⟨by decide, by decide⟩ 0 4 rfl rfl (As := [_]) rfl rfl (Nat.le_of_ble_eq_true rfl) ⟨Nat.zero_le _, Nat.zero_le _⟩ dX4_wear_49 (hw_eq4 ?_)
      refine hj_if_ne F 113 dX4_wear_52 (by decide) (fun q52 => ?_) (fun q52 => ?_)
      · have hw : a 7 (12 * o + 8) = 0 := Classical.byContradiction (fun z => q52 (if_neg z))
        refine hj_iinc F 0 (v := _ + 1) (lv' := [(4, _), (3, _), (0, _), (1, _), (2, _)]) dX4_wear_113 rfl rfl (by decide) rfl ?_
        refine hj_goto F 37 dX4_wear_116 (by decide) ?_
        refine hj_lv [0, 1, 2, 3, 4] rfl ?_
        have e := ih (o + 1) (by omega) (by omega)
        rw [show wr a b j (o + 1) = _ from if_pos (Or.inl hw)] at e
        rw [nI_1]
        exact e
      · have hw : ¬ a 7 (12 * o + 8) = 0 := fun z => by rw [if_pos z] at q52; exact absurd q52 (by decide)
        refine hj_aload_n F 2 dX4_wear_55 rfl rfl ?_
        refine hg_M_order F hi_X4_wear_M lk_X4_wear_40 dX4_wear_56 ?_
        refine hj_bipush F (v := 12) dX4_wear_59 (by decide) ?_
        refine hj_iload F 0 dX4_wear_61 rfl ?_
        refine hj_imul F dX4_wear_63 ?_
        rw [show (12 : Int32) * nI o = nI (12 * o) from pk_mul 12 o]
        refine hl_M_order F (vp_in_nI (show 12 * o < 720 by omega) (by decide)) dX4_wear_64 ?_
        rw [nI_clamp (by omega)]
        refine hj_iload_n F 3 dX4_wear_65 rfl rfl ?_
        refine hj_icmp_eq F 72 dX4_wear_66 (by decide) (fun q66 => ?_) (fun q66 => ?_)
        · refine hj_iload_n F 1 dX4_wear_72 rfl rfl ?_
          refine hj_iload_n F 4 dX4_wear_73 rfl rfl ?_
          refine hj_if_ne F 81 dX4_wear_74 (by decide) (fun q74 => ?_) (fun q74 => ?_)
          · have q74 : ¬ nI j = nI 0 := q74
            rw [nI_eq (by omega) (by omega)] at q74
            refine hj_aload_n F 2 dX4_wear_81 rfl rfl ?_
            refine hg_M_isTold F hi_X4_wear_M lk_X4_wear_46 dX4_wear_82 ?_
            refine hj_iload F 0 dX4_wear_85 rfl ?_
            refine hl_M_isTold F (vp_in_nI ho (by decide)) dX4_wear_87 ?_
            rw [nI_clamp (by omega)]
            refine hj_if_ne F 95 dX4_wear_88 (by decide) (fun q88 => ?_) (fun q88 => ?_)
            · refine hj_iload_n F 4 dX4_wear_95 rfl rfl ?_
              refine hj_iconst F (v := 1) dX4_wear_96 (by decide) ?_
              refine hj_icmp_ne F 104 dX4_wear_97 (by decide) (fun q97 => ?_) (fun q97 => ?_)
              · have q97 : ¬ nI j = nI 1 := q97
                rw [nI_eq (by omega) (by omega)] at q97
                refine hj_aload_n F 2 dX4_wear_104 rfl rfl ?_
                refine hg_M_fits F hi_X4_wear_M lk_X4_wear_43 dX4_wear_105 ?_
                refine hj_iload F 0 dX4_wear_108 rfl ?_
                refine hl_M_fits F (vp_in_nI ho (by decide)) dX4_wear_110 ?_
                refine hj_iadd F dX4_wear_111 ?_
                refine hj_istore_n F (lv' := [(3, _), (4, _), (0, _), (1, _), (2, _)]) dX4_wear_112 rfl (by decide) rfl ?_
                refine hj_iinc F 1 (v := _ + 1) (lv' := [(4, _), (3, _), (0, _), (1, _), (2, _)]) dX4_wear_113 rfl rfl (by decide) rfl ?_
                refine hj_goto F 37 dX4_wear_116 (by decide) ?_
                refine hj_lv [0, 1, 2, 3, 4] rfl ?_
                have e := ih (o + 1) (by omega) (by omega)
                rw [show wr a b j (o + 1) = _ from if_neg (fun z => z.elim hw (fun z => z q66))] at e
                rw [show wr_t a j o = a 8 o by unfold wr_t; rw [if_neg q74, if_neg q88, if_neg q97]] at e
                rw [nI_clamp (by omega)]
                rw [nI_1]
                exact e
              · have q97 : nI j = nI 1 := q97
                rw [nI_eq (by omega) (by omega)] at q97
                refine hj_iconst F (v := 1) dX4_wear_100 (by decide) ?_
                refine hj_goto F 111 dX4_wear_101 (by decide) ?_
                refine hj_iadd F dX4_wear_111 ?_
                refine hj_istore_n F (lv' := [(3, _), (4, _), (0, _), (1, _), (2, _)]) dX4_wear_112 rfl (by decide) rfl ?_
                refine hj_iinc F 1 (v := _ + 1) (lv' := [(4, _), (3, _), (0, _), (1, _), (2, _)]) dX4_wear_113 rfl rfl (by decide) rfl ?_
                refine hj_goto F 37 dX4_wear_116 (by decide) ?_
                refine hj_lv [0, 1, 2, 3, 4] rfl ?_
                have e := ih (o + 1) (by omega) (by omega)
                rw [show wr a b j (o + 1) = _ from if_neg (fun z => z.elim hw (fun z => z q66))] at e
                rw [show wr_t a j o = 1 by unfold wr_t; rw [if_neg q74, if_neg q88, if_pos q97]] at e
                rw [nI_1]
                exact e
            · refine hj_iconst F (v := 0) dX4_wear_91 (by decide) ?_
              refine hj_goto F 111 dX4_wear_92 (by decide) ?_
              refine hj_iadd F dX4_wear_111 ?_
              refine hj_istore_n F (lv' := [(3, _), (4, _), (0, _), (1, _), (2, _)]) dX4_wear_112 rfl (by decide) rfl ?_
              refine hj_iinc F 1 (v := _ + 1) (lv' := [(4, _), (3, _), (0, _), (1, _), (2, _)]) dX4_wear_113 rfl rfl (by decide) rfl ?_
              refine hj_goto F 37 dX4_wear_116 (by decide) ?_
              refine hj_lv [0, 1, 2, 3, 4] rfl ?_
              have e := ih (o + 1) (by omega) (by omega)
              rw [show wr a b j (o + 1) = _ from if_neg (fun z => z.elim hw (fun z => z q66))] at e
              rw [show wr_t a j o = 0 by unfold wr_t; rw [if_neg q74, if_pos q88]] at e
              rw [nI_1]
              exact e
          · have q74 : nI j = nI 0 := q74
            rw [nI_eq (by omega) (by omega)] at q74
            refine hj_iconst F (v := 1) dX4_wear_77 (by decide) ?_
            refine hj_goto F 111 dX4_wear_78 (by decide) ?_
            refine hj_iadd F dX4_wear_111 ?_
            refine hj_istore_n F (lv' := [(3, _), (4, _), (0, _), (1, _), (2, _)]) dX4_wear_112 rfl (by decide) rfl ?_
            refine hj_iinc F 1 (v := _ + 1) (lv' := [(4, _), (3, _), (0, _), (1, _), (2, _)]) dX4_wear_113 rfl rfl (by decide) rfl ?_
            refine hj_goto F 37 dX4_wear_116 (by decide) ?_
            refine hj_lv [0, 1, 2, 3, 4] rfl ?_
            have e := ih (o + 1) (by omega) (by omega)
            rw [show wr a b j (o + 1) = _ from if_neg (fun z => z.elim hw (fun z => z q66))] at e
            rw [show wr_t a j o = 1 by unfold wr_t; rw [if_pos q74]] at e
            rw [nI_1]
            exact e
        · refine hj_goto F 113 dX4_wear_69 (by decide) ?_
          refine hj_iinc F 0 (v := _ + 1) (lv' := [(4, _), (3, _), (0, _), (1, _), (2, _)]) dX4_wear_113 rfl rfl (by decide) rfl ?_
          refine hj_goto F 37 dX4_wear_116 (by decide) ?_
          refine hj_lv [0, 1, 2, 3, 4] rfl ?_
          have e := ih (o + 1) (by omega) (by omega)
          rw [show wr a b j (o + 1) = _ from if_pos (Or.inr q66)] at e
          rw [nI_1]
          exact e
set_option maxHeartbeats 4000000 in
set_option maxRecDepth 100000 in
theorem k_M_wear (hok : hw_XOK X) {B N : Nat} (h2 : g 2 = nI B) (hB : B ≤ 10) (h9 : g 9 = nI N) (hN : N ≤ 60) {x w : Int32} : hw_Ci l D (WM ad t) (hw_T t) X yX4_wear wsX4_wear (hw_rm 2) [.ref (ad 0), .int x, .int w] g a c (fun r g' a' c' => c' = c ∧ a' = a ∧ (if x < 0 ∨ nI B ≤ x then g' = upd g 0 1 else if w < 0 ∨ 2 < w then g' = upd g 0 2 else g' = upd g 0 0 ∧ ∃ b j, b < B ∧ x = nI b ∧ j < 3 ∧ w = nI j ∧ r = wr a b j N)) := by
  refine hw_Ci.mk (lv0 := [(0, _), (1, _), (2, _)]) (by decide) rfl (Nat.le_of_ble_eq_true rfl) rfl (WM_ads ad t) hok (fun K F ret => ?_)
  have F : hw_F K l D (WM ad t) (hw_T t) X cX4_wear RX4 wsX4_wear (hw_rm 2) 5 := F
  by_cases hx : x < 0 ∨ nI B ≤ x
  · refine hj_aload_n F 0 dX4_wear_0 rfl rfl ?_
    refine hj_iload_n F 1 dX4_wear_1 rfl rfl ?_
    refine hj_cVi F (n := 1) (k_M_isBlock hok h2) gX4_wear_X4_isBlock rfl ⟨rfl, rfl⟩ (by decide +kernel) ⟨by decide, by decide⟩ 0 4 rfl rfl (As := [_]) rfl rfl (Nat.le_of_ble_eq_true rfl) ⟨Nat.zero_le _, Nat.zero_le _⟩ dX4_wear_2 ?_
    intro r9 g9 a9 c9 hq
    obtain ⟨hq, e2, e3⟩ := hq
    obtain rfl := e2.symm
    obtain rfl := e3.symm
    rw [if_pos hx] at hq
    obtain ⟨rfl, rfl⟩ := hq
    refine hj_if_eq F 30 dX4_wear_5 (by decide) (fun q5 => ?_) (fun q5 => ?_)
    · refine hj_iconst F (v := 0) dX4_wear_30 (by decide) ?_
      exact ret dX4_wear_31 rfl ⟨rfl, rfl, by rw [if_pos hx]⟩
    · exact absurd rfl q5
  obtain ⟨b, hb, rfl⟩ : ∃ b, b < B ∧ x = nI b := by
    rcases pk_ix x (n := B) (by omega) with z | z | z
    · exact absurd (Or.inl z) hx
    · exact absurd (Or.inr z) hx
    · exact z
  refine hj_aload_n F 0 dX4_wear_0 rfl rfl ?_
  refine hj_iload_n F 1 dX4_wear_1 rfl rfl ?_
  refine hj_cVi F (n := 1) (k_M_isBlock hok h2) gX4_wear_X4_isBlock rfl ⟨rfl, rfl⟩ (by decide +kernel) ⟨by decide, by decide⟩ 0 4 rfl rfl (As := [_]) rfl rfl (Nat.le_of_ble_eq_true rfl) ⟨Nat.zero_le _, Nat.zero_le _⟩ dX4_wear_2 ?_
  intro r9 g9 a9 c9 hq
  obtain ⟨hq, e2, e3⟩ := hq
  obtain rfl := e2.symm
  obtain rfl := e3.symm
  rw [if_neg hx] at hq
  obtain ⟨rfl, rfl⟩ := hq
  refine hj_if_eq F 30 dX4_wear_5 (by decide) (fun q5 => ?_) (fun q5 => ?_)
  · exact absurd q5 (by decide)
  · refine hj_aload_n F 0 dX4_wear_8 rfl rfl ?_
    refine hj_iload_n F 2 dX4_wear_9 rfl rfl ?_
    refine hj_if_lt F 18 dX4_wear_10 (by decide) (fun q10 => ?_) (fun q10 => ?_)
    · refine hj_iconst F (v := 1) dX4_wear_18 (by decide) ?_
      refine hj_goto F 23 dX4_wear_19 (by decide) ?_
      refine hj_iconst F (v := 2) dX4_wear_23 (by decide) ?_
      refine hj_cVi F (n := 2) (k_M_bad hok (by decide)) gX4_wear_X4_bad rfl ⟨rfl, rfl⟩ (by decide +kernel) ⟨by decide, by decide⟩ 0 4 rfl rfl (As := [_, _]) rfl rfl (Nat.le_of_ble_eq_true rfl) ⟨Nat.zero_le _, Nat.zero_le _⟩ dX4_wear_24 (hw_eq4 ?_)
      rw [if_neg (by decide)]
      refine hj_if_eq F 32 dX4_wear_27 (by decide) (fun q27 => ?_) (fun q27 => ?_)
      · exact absurd q27 (by decide)
      · refine hj_iconst F (v := 0) dX4_wear_30 (by decide) ?_
        exact ret dX4_wear_31 rfl ⟨rfl, rfl, by rw [if_neg hx, if_pos (Or.inl q10), upd_uu]⟩
    · refine hj_iload_n F 2 dX4_wear_13 rfl rfl ?_
      refine hj_iconst F (v := 2) dX4_wear_14 (by decide) ?_
      refine hj_icmp_le F 22 dX4_wear_15 (by decide) (fun q15 => ?_) (fun q15 => ?_)
      · refine hj_iconst F (v := 0) dX4_wear_22 (by decide) ?_
        refine hj_iconst F (v := 2) dX4_wear_23 (by decide) ?_
        refine hj_cVi F (n := 2) (k_M_bad hok (by decide)) gX4_wear_X4_bad rfl ⟨rfl, rfl⟩ (by decide +kernel) ⟨by decide, by decide⟩ 0 4 rfl rfl (As := [_, _]) rfl rfl (Nat.le_of_ble_eq_true rfl) ⟨Nat.zero_le _, Nat.zero_le _⟩ dX4_wear_24 (hw_eq4 ?_)
        rw [if_pos rfl]
        refine hj_if_eq F 32 dX4_wear_27 (by decide) (fun q27_2 => ?_) (fun q27_2 => ?_)
        · obtain ⟨j, hj, rfl⟩ : ∃ j, j < 3 ∧ w = nI j := by
            rcases pk_ix w (n := 3) (by decide) with z | z | z
            · exact absurd z q10
            · exact absurd q15 (Int32.not_le.mpr (Int32.lt_of_lt_of_le (by decide) z))
            · exact z
          refine hj_iconst F (v := 0) dX4_wear_32 (by decide) ?_
          refine hj_istore_n F (lv' := [(3, _), (0, _), (1, _), (2, _)]) dX4_wear_33 rfl (by decide) rfl ?_
          refine hj_iconst F (v := 0) dX4_wear_34 (by decide) ?_
          refine hj_istore F (lv' := [(4, _), (3, _), (0, _), (1, _), (2, _)]) dX4_wear_35 (by decide) rfl ?_
          refine lp_M_wear F hok (b := b) (by rw [pk_un (by decide)]; exact h9) hN hj ?_ (N + 1) 0 (by omega) (Nat.zero_le _)
          refine hj_iload_n F 1 dX4_wear_119 rfl rfl ?_
          exact ret dX4_wear_120 rfl ⟨rfl, rfl, by rw [if_neg hx, if_neg (fun z => z.elim q10 (fun z => absurd q15 (Int32.not_le.mpr z)))]; exact ⟨rfl, b, j, hb, rfl, hj, rfl, rfl⟩⟩
        · exact absurd rfl q27_2
      · refine hj_iconst F (v := 1) dX4_wear_18 (by decide) ?_
        refine hj_goto F 23 dX4_wear_19 (by decide) ?_
        refine hj_iconst F (v := 2) dX4_wear_23 (by decide) ?_
        refine hj_cVi F (n := 2) (k_M_bad hok (by decide)) gX4_wear_X4_bad rfl ⟨rfl, rfl⟩ (by decide +kernel) ⟨by decide, by decide⟩ 0 4 rfl rfl (As := [_, _]) rfl rfl (Nat.le_of_ble_eq_true rfl) ⟨Nat.zero_le _, Nat.zero_le _⟩ dX4_wear_24 (hw_eq4 ?_)
        rw [if_neg (by decide)]
        refine hj_if_eq F 32 dX4_wear_27 (by decide) (fun q27_3 => ?_) (fun q27_3 => ?_)
        · exact absurd q27_3 (by decide)
        · refine hj_iconst F (v := 0) dX4_wear_30 (by decide) ?_
          exact ret dX4_wear_31 rfl ⟨rfl, rfl, by rw [if_neg hx, if_pos (Or.inr (Int32.not_le.mp q15)), upd_uu]⟩
def lt_m (p : Nat → Bool) : Nat → Nat → Int32 → Int32
  | 0, _, _ => -1
  | m + 1, o, lf => if p o = true then (if lf = 0 then nI o else lt_m p m (o + 1) (lf + (-1))) else lt_m p m (o + 1) lf
def md_when (g : hw_G) (a : hw_A) (o : Nat) : Int32 := if a 7 (12 * o + 8) = 0 then g 8 else a 7 (12 * o + 10)
def md_late (g : hw_G) (a : hw_A) (o : Nat) : Bool := decide (a 7 (12 * o + 6) < md_when g a o)
set_option maxHeartbeats 4000000 in
set_option maxRecDepth 100000 in
theorem lp_M_late (F : hw_F K l D (WM ad t) (hw_T t) X cX4_late RX4 wsX4_late (hw_rm 2) 5) (hok : hw_XOK X) {N : Nat} {k : Int32} (hk : ¬ k < 0) (h9 : g 9 = nI N) (hN : N ≤ 60) (ret : ∀ {lv : List (Nat × Value)} {pc : Nat} {v : Int32}, decode cX4_late pc = .ok (.ireturn, 1) → v = lt_m (md_late g a) N 0 k → hw_J K (WM ad t) 0 0 g a c lv pc [.int v]) : ∀ (m o : Nat) (lf : Int32), N - o < m → o ≤ N → lt_m (md_late g a) N 0 k = lt_m (md_late g a) (N - o) o lf → hw_J K (WM ad t) 0 0 g a c [(3, .int (nI o)), (2, .int lf), (0, .ref (ad 0)), (1, .int k)] 9 [] := by
  intro m
  induction m with
  | zero => intro o lf hm; exact absurd hm (Nat.not_lt_zero _)
  | succ m ih =>
    intro o lf hm hi he
    refine hj_iload_n F 0 dX4_late_9 rfl rfl ?_
    refine hj_aload_n F 2 dX4_late_10 rfl rfl ?_
    refine hg_M_orders F hi_X4_late_M lk_X4_late_141 dX4_late_11 ?_
    rw [h9]
    refine hj_icmp_ge F 85 dX4_late_14 (by decide) (fun q14 => ?_) (fun q14 => ?_)
    · rw [nI_leI (by omega) (by omega)] at q14
      refine hj_iconst F (v := -1) dX4_late_85 (by decide) ?_
      exact ret dX4_late_86 (by rw [he, show N - o = 0 by omega]; rfl)
    · rw [nI_leI (by omega) (by omega)] at q14
      obtain ⟨r, hr⟩ : ∃ r, N - o = r + 1 := ⟨N - o - 1, by omega⟩
      rw [hr] at he
      refine hj_iload_n F 3 dX4_late_17 rfl rfl ?_
      refine hj_if_lt F 85 dX4_late_18 (by decide) (fun q18 => ?_) (fun q18 => ?_)
      · exact absurd q18 hk
      · have ho : o < 60 := by omega
        refine hj_aload_n F 2 dX4_late_21 rfl rfl ?_
        refine hj_iload_n F 0 dX4_late_22 rfl rfl ?_
        refine hj_cVi F (n := 1) (k_M_waits hok ho) gX4_late_X4_waits rfl ⟨rfl, rfl⟩ (by decide +kernel) ⟨by decide, by decide⟩ 0 4 rfl rfl (As := [_]) rfl rfl (Nat.le_of_ble_eq_true rfl) ⟨Nat.zero_le _, Nat.zero_le _⟩ dX4_late_23 (hw_eq4 ?_)
        refine hj_if_eq F 36 dX4_late_26 (by decide) (fun q26 => ?_) (fun q26 => ?_)
        · have hw : ¬ a 7 (12 * o + 8) = 0 := fun z => by rw [if_pos z] at q26; exact absurd q26 (by decide)
          refine hj_aload_n F 2 dX4_late_36 rfl rfl ?_
          refine hg_M_order F hi_X4_late_M lk_X4_late_40 dX4_late_37 ?_
          refine hj_bipush F (v := 12) dX4_late_40 (by decide) ?_
          refine hj_iload_n F 0 dX4_late_42 rfl rfl ?_
          refine hj_imul F dX4_late_43 ?_
          refine hj_bipush F (v := 10) dX4_late_44 (by decide) ?_
          refine hj_iadd F dX4_late_46 ?_
          rw [show (12 : Int32) * nI o + 10 = nI (12 * o + 10) from md_ix (k := 12) (j := 10)]
          refine hl_M_order F (vp_in_nI (show 12 * o + 10 < 720 by omega) (by decide)) dX4_late_47 ?_
          rw [nI_clamp (by omega), show a 7 (12 * o + 10) = md_when g a o from (if_neg hw).symm]
          refine hj_istore F (lv' := [(4, _), (3, _), (2, _), (0, _), (1, _)]) dX4_late_48 (by decide) rfl ?_
          refine hj_iload F 0 dX4_late_50 rfl ?_
          refine hj_aload_n F 3 dX4_late_52 rfl rfl ?_
          refine hg_M_order F hi_X4_late_M lk_X4_late_40 dX4_late_53 ?_
          refine hj_bipush F (v := 12) dX4_late_56 (by decide) ?_
          refine hj_iload_n F 1 dX4_late_58 rfl rfl ?_
          refine hj_imul F dX4_late_59 ?_
          refine hj_bipush F (v := 6) dX4_late_60 (by decide) ?_
          refine hj_iadd F dX4_late_62 ?_
          rw [show (12 : Int32) * nI o + 6 = nI (12 * o + 6) from md_ix (k := 12) (j := 6)]
          refine hl_M_order F (vp_in_nI (show 12 * o + 6 < 720 by omega) (by decide)) dX4_late_63 ?_
          rw [nI_clamp (by omega)]
          refine hj_icmp_gt F 70 dX4_late_64 (by decide) (fun q64 => ?_) (fun q64 => ?_)
          · rw [lt_m, if_pos (show md_late g a o = true from decide_eq_true q64)] at he
            refine hj_iload_n F 2 dX4_late_70 rfl rfl ?_
            refine hj_if_ne F 76 dX4_late_71 (by decide) (fun q71 => ?_) (fun q71 => ?_)
            · rw [if_neg q71] at he
              refine hj_iinc F 2 (v := _ + (-1)) (lv' := [(2, _), (4, _), (3, _), (0, _), (1, _)]) dX4_late_76 rfl rfl (by decide) rfl ?_
              refine hj_iinc F 2 (v := _ + 1) (lv' := [(3, _), (2, _), (4, _), (0, _), (1, _)]) dX4_late_79 rfl rfl (by decide) rfl ?_
              refine hj_goto F 9 dX4_late_82 (by decide) ?_
              refine hj_lv [0, 1, 3, 4] rfl ?_
              rw [nI_1]
              exact ih (o + 1) _ (by omega) (by omega) (by rw [he]; congr 1; omega)
            · rw [if_pos q71] at he
              refine hj_iload_n F 1 dX4_late_74 rfl rfl ?_
              exact ret dX4_late_75 he.symm
          · rw [lt_m, if_neg (show ¬ md_late g a o = true from fun z => q64 (of_decide_eq_true z))] at he
            refine hj_goto F 79 dX4_late_67 (by decide) ?_
            refine hj_iinc F 1 (v := _ + 1) (lv' := [(3, _), (4, _), (2, _), (0, _), (1, _)]) dX4_late_79 rfl rfl (by decide) rfl ?_
            refine hj_goto F 9 dX4_late_82 (by decide) ?_
            refine hj_lv [0, 2, 3, 4] rfl ?_
            rw [nI_1]
            exact ih (o + 1) _ (by omega) (by omega) (by rw [he]; congr 1; omega)
        · have hw : a 7 (12 * o + 8) = 0 := Classical.byContradiction (fun z => q26 (if_neg z))
          refine hj_aload_n F 2 dX4_late_29 rfl rfl ?_
          refine hg_M_now F hi_X4_late_M lk_X4_late_150 dX4_late_30 ?_
          refine hj_goto F 48 dX4_late_33 (by decide) ?_
          rw [show g 8 = md_when g a o from (if_pos hw).symm]
          refine hj_istore F (lv' := [(4, _), (3, _), (2, _), (0, _), (1, _)]) dX4_late_48 (by decide) rfl ?_
          refine hj_iload F 0 dX4_late_50 rfl ?_
          refine hj_aload_n F 3 dX4_late_52 rfl rfl ?_
          refine hg_M_order F hi_X4_late_M lk_X4_late_40 dX4_late_53 ?_
          refine hj_bipush F (v := 12) dX4_late_56 (by decide) ?_
          refine hj_iload_n F 1 dX4_late_58 rfl rfl ?_
          refine hj_imul F dX4_late_59 ?_
          refine hj_bipush F (v := 6) dX4_late_60 (by decide) ?_
          refine hj_iadd F dX4_late_62 ?_
          rw [show (12 : Int32) * nI o + 6 = nI (12 * o + 6) from md_ix (k := 12) (j := 6)]
          refine hl_M_order F (vp_in_nI (show 12 * o + 6 < 720 by omega) (by decide)) dX4_late_63 ?_
          rw [nI_clamp (by omega)]
          refine hj_icmp_gt F 70 dX4_late_64 (by decide) (fun q64_2 => ?_) (fun q64_2 => ?_)
          · rw [lt_m, if_pos (show md_late g a o = true from decide_eq_true q64_2)] at he
            refine hj_iload_n F 2 dX4_late_70 rfl rfl ?_
            refine hj_if_ne F 76 dX4_late_71 (by decide) (fun q71_2 => ?_) (fun q71_2 => ?_)
            · rw [if_neg q71_2] at he
              refine hj_iinc F 2 (v := _ + (-1)) (lv' := [(2, _), (4, _), (3, _), (0, _), (1, _)]) dX4_late_76 rfl rfl (by decide) rfl ?_
              refine hj_iinc F 2 (v := _ + 1) (lv' := [(3, _), (2, _), (4, _), (0, _), (1, _)]) dX4_late_79 rfl rfl (by decide) rfl ?_
              refine hj_goto F 9 dX4_late_82 (by decide) ?_
              refine hj_lv [0, 1, 3, 4] rfl ?_
              rw [nI_1]
              exact ih (o + 1) _ (by omega) (by omega) (by rw [he]; congr 1; omega)
            · rw [if_pos q71_2] at he
              refine hj_iload_n F 1 dX4_late_74 rfl rfl ?_
              exact ret dX4_late_75 he.symm
          · rw [lt_m, if_neg (show ¬ md_late g a o = true from fun z => q64_2 (of_decide_eq_true z))] at he
            refine hj_goto F 79 dX4_late_67 (by decide) ?_
            refine hj_iinc F 1 (v := _ + 1) (lv' := [(3, _), (4, _), (2, _), (0, _), (1, _)]) dX4_late_79 rfl rfl (by decide) rfl ?_
            refine hj_goto F 9 dX4_late_82 (by decide) ?_
            refine hj_lv [0, 2, 3, 4] rfl ?_
            rw [nI_1]
            exact ih (o + 1) _ (by omega) (by omega) (by rw [he]; congr 1; omega)
set_option maxHeartbeats 4000000 in
set_option maxRecDepth 100000 in
theorem k_M_late (hok : hw_XOK X) {N : Nat} (h9 : g 9 = nI N) (hN : N ≤ 60) {k : Int32} : hw_Ci l D (WM ad t) (hw_T t) X yX4_late wsX4_late (hw_rm 2) [.ref (ad 0), .int k] g a c (fun r g' a' c' => r = (if k < 0 then -1 else lt_m (md_late g a) N 0 k) ∧ g' = upd g 0 0 ∧ a' = a ∧ c' = c) := by
  refine hw_Ci.mk (lv0 := [(0, _), (1, _)]) (by decide) rfl (Nat.le_of_ble_eq_true rfl) rfl (WM_ads ad t) hok (fun K F ret => ?_)
  have F : hw_F K l D (WM ad t) (hw_T t) X cX4_late RX4 wsX4_late (hw_rm 2) 5 := F
  refine hj_aload_n F 0 dX4_late_0 rfl rfl ?_
  refine hj_iconst F (v := 0) dX4_late_1 (by decide) ?_
  refine hp_M_thrown F hi_X4_late_M lk_X4_late_61 dX4_late_2 ?_
  refine hj_iload_n F 1 dX4_late_5 rfl rfl ?_
  refine hj_istore_n F (lv' := [(2, _), (0, _), (1, _)]) dX4_late_6 rfl (by decide) rfl ?_
  refine hj_iconst F (v := 0) dX4_late_7 (by decide) ?_
  refine hj_istore_n F (lv' := [(3, _), (2, _), (0, _), (1, _)]) dX4_late_8 rfl (by decide) rfl ?_
  by_cases hk : k < 0
  · refine hj_iload_n F 0 dX4_late_9 rfl rfl ?_
    refine hj_aload_n F 2 dX4_late_10 rfl rfl ?_
    refine hg_M_orders F hi_X4_late_M lk_X4_late_141 dX4_late_11 ?_
    refine hj_icmp_ge F 85 dX4_late_14 (by decide) (fun q14 => ?_) (fun q14 => ?_)
    · refine hj_iconst F (v := -1) dX4_late_85 (by decide) ?_
      exact ret dX4_late_86 rfl ⟨by rw [if_pos hk], rfl, rfl, rfl⟩
    · refine hj_iload_n F 3 dX4_late_17 rfl rfl ?_
      refine hj_if_lt F 85 dX4_late_18 (by decide) (fun q18 => ?_) (fun q18 => ?_)
      · refine hj_iconst F (v := -1) dX4_late_85 (by decide) ?_
        exact ret dX4_late_86 rfl ⟨by rw [if_pos hk], rfl, rfl, rfl⟩
      · exact absurd hk q18
  · exact lp_M_late F hok hk (by rw [pk_un (by decide)]; exact h9) hN (fun d hv => ret d rfl ⟨by rw [if_neg hk]; exact hv, rfl, rfl, rfl⟩) (N + 1) 0 k (by omega) (Nat.zero_le _) rfl
def md_cw (a : hw_A) : Nat → Int32
  | 0 => 0
  | o + 1 => md_cw a o + (if a 7 (12 * o + 8) = 0 then 1 else 0)
def ct_m (g : hw_G) (cw x : Int32) : Int32 := if x = 0 then g 2 else if x = 1 then g 9 else if x = 2 then cw else if x = 3 then g 8 else if x = 4 then g 1 else if x = 5 then g 3 else if x = 6 then g 10 else -1
set_option maxHeartbeats 4000000 in
set_option maxRecDepth 100000 in
theorem lp_M_count (F : hw_F K l D (WM ad t) (hw_T t) X cX4_count RX4 wsX4_count (hw_rm 2) 4) (hok : hw_XOK X) {N : Nat} {x : Int32} (h9 : g 9 = nI N) (hN : N ≤ 60) (hx : hw_J K (WM ad t) 0 0 g a c [(3, .int (nI N)), (2, .int (md_cw a N)), (0, .ref (ad 0)), (1, .int x)] 92 []) : ∀ m o : Nat, N - o < m → o ≤ N → hw_J K (WM ad t) 0 0 g a c [(3, .int (nI o)), (2, .int (md_cw a o)), (0, .ref (ad 0)), (1, .int x)] 62 [] := by
  intro m
  induction m with
  | zero => intro o hm; exact absurd hm (Nat.not_lt_zero _)
  | succ m ih =>
    intro o hm hi
    refine hj_iload_n F 0 dX4_count_62 rfl rfl ?_
    refine hj_aload_n F 2 dX4_count_63 rfl rfl ?_
    refine hg_M_orders F hi_X4_count_M lk_X4_count_141 dX4_count_64 ?_
    rw [h9]
    refine hj_icmp_ge F 92 dX4_count_67 (by decide) (fun q67 => ?_) (fun q67 => ?_)
    · rw [nI_leI (by omega) (by omega)] at q67
      obtain rfl : o = N := by omega
      exact hx
    · rw [nI_leI (by omega) (by omega)] at q67
      have ho : o < 60 := by omega
      refine hj_iload_n F 1 dX4_count_70 rfl rfl ?_
      refine hj_aload_n F 2 dX4_count_71 rfl rfl ?_
      refine hj_iload_n F 0 dX4_count_72 rfl rfl ?_
      refine hj_cVi F (n := 1) (k_M_waits hok ho) gX4_count_X4_waits rfl ⟨rfl, rfl⟩ (by decide +kernel) ⟨by decide, by decide⟩ 0 4 rfl rfl (As := [_]) rfl rfl (Nat.le_of_ble_eq_true rfl) ⟨Nat.zero_le _, Nat.zero_le _⟩ dX4_count_73 (hw_eq4 ?_)
      refine hj_if_eq F 83 dX4_count_76 (by decide) (fun q76 => ?_) (fun q76 => ?_)
      · have hw : ¬ a 7 (12 * o + 8) = 0 := fun z => by rw [if_pos z] at q76; exact absurd q76 (by decide)
        refine hj_iconst F (v := 0) dX4_count_83 (by decide) ?_
        refine hj_iadd F dX4_count_84 ?_
        refine hj_istore_n F (lv' := [(2, _), (3, _), (0, _), (1, _)]) dX4_count_85 rfl (by decide) rfl ?_
        refine hj_iinc F 1 (v := _ + 1) (lv' := [(3, _), (2, _), (0, _), (1, _)]) dX4_count_86 rfl rfl (by decide) rfl ?_
        refine hj_goto F 62 dX4_count_89 (by decide) ?_
        refine hj_lv [0, 1, 2, 3] rfl ?_
        have e := ih (o + 1) (by omega) (by omega)
        rw [show md_cw a (o + 1) = md_cw a o + 0 by show _ + (if _ then _ else _) = _; rw [if_neg hw]] at e
        rw [nI_1]
        exact e
      · have hw : a 7 (12 * o + 8) = 0 := Classical.byContradiction (fun z => q76 (if_neg z))
        refine hj_iconst F (v := 1) dX4_count_79 (by decide) ?_
        refine hj_goto F 84 dX4_count_80 (by decide) ?_
        refine hj_iadd F dX4_count_84 ?_
        refine hj_istore_n F (lv' := [(2, _), (3, _), (0, _), (1, _)]) dX4_count_85 rfl (by decide) rfl ?_
        refine hj_iinc F 1 (v := _ + 1) (lv' := [(3, _), (2, _), (0, _), (1, _)]) dX4_count_86 rfl rfl (by decide) rfl ?_
        refine hj_goto F 62 dX4_count_89 (by decide) ?_
        refine hj_lv [0, 1, 2, 3] rfl ?_
        have e := ih (o + 1) (by omega) (by omega)
        rw [show md_cw a (o + 1) = md_cw a o + 1 by show _ + (if _ then _ else _) = _; rw [if_pos hw]] at e
        rw [nI_1]
        exact e
set_option maxHeartbeats 4000000 in
set_option maxRecDepth 100000 in
theorem k_M_count (hok : hw_XOK X) {N : Nat} (h9 : g 9 = nI N) (hN : N ≤ 60) {x : Int32} : hw_Ci l D (WM ad t) (hw_T t) X yX4_count wsX4_count (hw_rm 2) [.ref (ad 0), .int x] g a c (fun r g' a' c' => r = ct_m g (md_cw a N) x ∧ g' = upd g 0 0 ∧ a' = a ∧ c' = c) := by
  refine hw_Ci.mk (lv0 := [(0, _), (1, _)]) (by decide) rfl (Nat.le_of_ble_eq_true rfl) rfl (WM_ads ad t) hok (fun K F ret => ?_)
  have F : hw_F K l D (WM ad t) (hw_T t) X cX4_count RX4 wsX4_count (hw_rm 2) 4 := F
  have hsw : hw_J K (WM ad t) 0 0 (upd g 0 0) a c [(0, .ref (ad 0)), (1, .int x)] 6 [.int x] := by
    by_cases h0x : x = 0
    · subst h0x
      refine hj_tableIn F 48 dX4_count_6 (by decide) (by decide) (off := 42) (by decide) (by decide) ?_
      refine hj_aload_n F 0 dX4_count_48 rfl rfl ?_
      refine hg_M_blocks F hi_X4_count_M lk_X4_count_71 dX4_count_49 ?_
      exact ret dX4_count_52 rfl ⟨rfl, rfl, rfl, rfl⟩
    by_cases h1x : x = 1
    · subst h1x
      refine hj_tableIn F 53 dX4_count_6 (by decide) (by decide) (off := 47) (by decide) (by decide) ?_
      refine hj_aload_n F 0 dX4_count_53 rfl rfl ?_
      refine hg_M_orders F hi_X4_count_M lk_X4_count_141 dX4_count_54 ?_
      exact ret dX4_count_57 rfl ⟨rfl, rfl, rfl, rfl⟩
    by_cases h2x : x = 2
    · subst h2x
      refine hj_tableIn F 58 dX4_count_6 (by decide) (by decide) (off := 52) (by decide) (by decide) ?_
      refine hj_iconst F (v := 0) dX4_count_58 (by decide) ?_
      refine hj_istore_n F (lv' := [(2, _), (0, _), (1, _)]) dX4_count_59 rfl (by decide) rfl ?_
      refine hj_iconst F (v := 0) dX4_count_60 (by decide) ?_
      refine hj_istore_n F (lv' := [(3, _), (2, _), (0, _), (1, _)]) dX4_count_61 rfl (by decide) rfl ?_
      refine lp_M_count F hok (by rw [pk_un (by decide)]; exact h9) hN ?_ (N + 1) 0 (by omega) (Nat.zero_le _)
      refine hj_iload_n F 1 dX4_count_92 rfl rfl ?_
      exact ret dX4_count_93 rfl ⟨rfl, rfl, rfl, rfl⟩
    by_cases h3x : x = 3
    · subst h3x
      refine hj_tableIn F 94 dX4_count_6 (by decide) (by decide) (off := 88) (by decide) (by decide) ?_
      refine hj_aload_n F 0 dX4_count_94 rfl rfl ?_
      refine hg_M_now F hi_X4_count_M lk_X4_count_150 dX4_count_95 ?_
      exact ret dX4_count_98 rfl ⟨rfl, rfl, rfl, rfl⟩
    by_cases h4x : x = 4
    · subst h4x
      refine hj_tableIn F 99 dX4_count_6 (by decide) (by decide) (off := 93) (by decide) (by decide) ?_
      refine hj_aload_n F 0 dX4_count_99 rfl rfl ?_
      refine hg_M_handMany F hi_X4_count_M lk_X4_count_68 dX4_count_100 ?_
      exact ret dX4_count_103 rfl ⟨rfl, rfl, rfl, rfl⟩
    by_cases h5x : x = 5
    · subst h5x
      refine hj_tableIn F 104 dX4_count_6 (by decide) (by decide) (off := 98) (by decide) (by decide) ?_
      refine hj_aload_n F 0 dX4_count_104 rfl rfl ?_
      refine hg_M_taped F hi_X4_count_M lk_X4_count_82 dX4_count_105 ?_
      exact ret dX4_count_108 rfl ⟨rfl, rfl, rfl, rfl⟩
    by_cases h6x : x = 6
    · subst h6x
      refine hj_tableIn F 109 dX4_count_6 (by decide) (by decide) (off := 103) (by decide) (by decide) ?_
      refine hj_aload_n F 0 dX4_count_109 rfl rfl ?_
      refine hg_M_steamer F hi_X4_count_M lk_X4_count_153 dX4_count_110 ?_
      exact ret dX4_count_113 rfl ⟨rfl, rfl, rfl, rfl⟩
    refine hj_tableOut F 114 dX4_count_6 (ct_out (fun k hk => ?_)) (by decide) ?_
    · rcases (show k = 0 ∨ k = 1 ∨ k = 2 ∨ k = 3 ∨ k = 4 ∨ k = 5 ∨ k = 6 by omega) with rfl | rfl | rfl | rfl | rfl | rfl | rfl <;> assumption
    refine hj_iconst F (v := -1) dX4_count_114 (by decide) ?_
    exact ret dX4_count_115 rfl ⟨by simp [ct_m, h0x, h1x, h2x, h3x, h4x, h5x, h6x], rfl, rfl, rfl⟩
  refine hj_aload_n F 0 dX4_count_0 rfl rfl ?_
  refine hj_iconst F (v := 0) dX4_count_1 (by decide) ?_
  refine hp_M_thrown F hi_X4_count_M lk_X4_count_61 dX4_count_2 ?_
  refine hj_iload_n F 1 dX4_count_5 rfl rfl ?_
  exact hsw
end SMOD4
