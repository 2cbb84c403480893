section SMOD11
theorem hi_X4_plan_M : ∀ w ∈ u_ws RX4 TX4 28, w ∈ wsX4_plan := fun w h => by
  unfold wsX4_plan
  simp only [List.mem_cons, List.mem_append]
  first | (simp only [h, or_true, true_or]; done) | (have h2 : w ∈ wsX40 := h; simp only [h2, or_true, true_or]; done)
theorem lk_X4_plan_162 : Cond.fieldLink RX4 162 "HatWorksModel" "many" "I" ∈ wsX4_plan := List.mem_of_getElem? (i := 2) rfl
theorem lk_X4_plan_167 : Cond.fieldLink RX4 167 "HatWorksModel" "bestCost" "J" ∈ wsX4_plan := List.mem_of_getElem? (i := 3) rfl
theorem lk_X4_plan_61 : Cond.fieldLink RX4 61 "HatWorksModel" "thrown" "I" ∈ wsX4_plan := List.mem_of_getElem? (i := 1) rfl
theorem hi_X4_planned_M : ∀ w ∈ u_ws RX4 TX4 28, w ∈ wsX4_planned := fun w h => by
  unfold wsX4_planned
  simp only [List.mem_cons, List.mem_append]
  first | (simp only [h, or_true, true_or]; done) | (have h2 : w ∈ wsX40 := h; simp only [h2, or_true, true_or]; done)
theorem lk_X4_planned_162 : Cond.fieldLink RX4 162 "HatWorksModel" "many" "I" ∈ wsX4_planned := List.mem_of_getElem? (i := 2) rfl
theorem lk_X4_planned_49 : Cond.fieldLink RX4 49 "HatWorksModel" "of" "[I" ∈ wsX4_planned := List.mem_of_getElem? (i := 3) rfl
theorem lk_X4_planned_55 : Cond.fieldLink RX4 55 "HatWorksModel" "best" "[I" ∈ wsX4_planned := List.mem_of_getElem? (i := 4) rfl
theorem lk_X4_planned_61 : Cond.fieldLink RX4 61 "HatWorksModel" "thrown" "I" ∈ wsX4_planned := List.mem_of_getElem? (i := 1) rfl
theorem lc_X4_plans_165 : Cond.constantLong RX4 165 (-1) ∈ wsX4_plans := by decide +kernel
theorem lk_X4_plans_141 : Cond.fieldLink RX4 141 "HatWorksModel" "orders" "I" ∈ wsX4_plans := List.mem_of_getElem? (i := 2) rfl
theorem lk_X4_plans_49 : Cond.fieldLink RX4 49 "HatWorksModel" "of" "[I" ∈ wsX4_plans := List.mem_of_getElem? (i := 3) rfl
theorem hi_X4_run_M : ∀ w ∈ u_ws RX4 TX4 28, w ∈ wsX4_run := fun w h => by
  unfold wsX4_run
  simp only [List.mem_cons, List.mem_append]
  first | (simp only [h, or_true, true_or]; done) | (have h2 : w ∈ wsX40 := h; simp only [h2, or_true, true_or]; done)
theorem lk_X4_run_162 : Cond.fieldLink RX4 162 "HatWorksModel" "many" "I" ∈ wsX4_run := List.mem_of_getElem? (i := 2) rfl
theorem lk_X4_run_49 : Cond.fieldLink RX4 49 "HatWorksModel" "of" "[I" ∈ wsX4_run := List.mem_of_getElem? (i := 3) rfl
theorem lk_X4_run_55 : Cond.fieldLink RX4 55 "HatWorksModel" "best" "[I" ∈ wsX4_run := List.mem_of_getElem? (i := 4) rfl
theorem lk_X4_run_61 : Cond.fieldLink RX4 61 "HatWorksModel" "thrown" "I" ∈ wsX4_run := List.mem_of_getElem? (i := 1) rfl
variable {K : hw_K} {l : Launch} {D : va_G} {ad : Nat → Nat} {t : Nat → ClassId} {X : hw_XT} {rm : Room} {g : hw_G} {a : hw_A} {c : Int64}
/-- the reference: which wait, their numbers, the cheapest -/
def mw (a : hw_A) (o : Nat) : Bool := decide (a 7 (12 * o + 8) = 0)
abbrev mW (a : hw_A) (n : Nat) : List Nat := wl (mw a) n
abbrev mN (a : hw_A) (n : Nat) : Nat := (mW a n).length
abbrev m_at (a : hw_A) (n k i : Nat) : Nat := (a 7 (12 * (mW a n).getD i 0 + k)).toNatClampNeg
abbrev m_bf (a : hw_A) (b : Nat) : Nat := if b < 10 then (a 5 b).toNatClampNeg else 0
def mF (g : hw_G) (a : hw_A) (n : Nat) : Option (Nat × List Nat) := pl_F (mN a n) (g 8).toNatClampNeg (m_at a n 0) (m_at a n 4) (m_at a n 5) (m_at a n 7) (mN a n) [] ((g 10).toNatClampNeg, m_bf a, 0) none
def DM (g : hw_G) (a : hw_A) (n B : Nat) : Prop := g 9 = nI n ∧ n ≤ 60 ∧ g 2 = nI B ∧ B ≤ 10 ∧ ub (g 8) 1000000 ∧ ub (g 10) 2000000 ∧ (∀ b, b < 10 → ub (a 5 b) 2000000) ∧ ∀ o, o < n → (ub (a 7 (12 * o)) 9 ∧ (a 7 (12 * o)).toNatClampNeg < B) ∧ ub (a 7 (12 * o + 4)) 50 ∧ ub (a 7 (12 * o + 5)) 140 ∧ ub (a 7 (12 * o + 7)) 9
def MQQ (g : hw_G) (a : hw_A) (n : Nat) (g' : hw_G) (a' : hw_A) (c' : Int64) : Prop := g' = upd g 12 (nI (mN a n)) ∧ ∃ w x y z : Nat → Int32, a' = pA (va_up a 10 w) x y z ∧ (∀ i, i < mN a n → w i = nI ((mW a n).getD i 0)) ∧ (0 < mN a n → pm_R (mN a n) c' y (mF g a n))
theorem mF_some (g : hw_G) (a : hw_A) (n : Nat) : ∃ q, mF g a n = some q := pl_some (mN a n) 0 _ none (by omega)
theorem wl_s_t {w : Nat → Bool} {o : Nat} (h1 : (wl w o).length < 7) (h2 : w o = true) : wl w (o + 1) = wl w o ++ [o] := if_pos ⟨h1, h2⟩
theorem wl_s_f {w : Nat → Bool} {o : Nat} (h : ¬ w o = true) : wl w (o + 1) = wl w o := if_neg (fun z => h z.2)
theorem gd_app {l : List Nat} {x i : Nat} (h : i < l.length) : (l ++ [x]).getD i 0 = l.getD i 0 := by
  rw [List.getD_eq_getElem?_getD, List.getD_eq_getElem?_getD, List.getElem?_append_left h]
theorem gd_end {l : List Nat} {x : Nat} : (l ++ [x]).getD l.length 0 = x := by
  rw [List.getD_eq_getElem?_getD, List.getElem?_append_right (Nat.le_refl _)]
  simp
theorem DM_MP {g : hw_G} {a : hw_A} {n B : Nat} (h : DM g a n B) {w : Nat → Int32} (hw : ∀ i, i < mN a n → w i = nI ((mW a n).getD i 0)) : MP (mN a n) (g 8).toNatClampNeg (g 10).toNatClampNeg B (m_bf a) (m_at a n 0) (m_at a n 4) (m_at a n 5) (m_at a n 7) (upd g 12 (nI (mN a n))) (va_up a 10 w) := by
  obtain ⟨h9, hn, h2, hB, h8, h10, h5, hr⟩ := h
  refine ⟨pk_us, wl_len _ _, ?_, by have := h8.2; omega, ?_, hB, ?_, h10.2, fun b hb => ?_, fun b => ?_, fun v hv => ?_⟩
  · rw [pk_un (by decide)]; exact h8.1
  · rw [pk_un (by decide)]; exact h2
  · rw [pk_un (by decide)]; exact h10.1
  · rw [va_up_ne _ _ (by decide)]
    show _ = nI (if b < 10 then _ else _)
    rw [if_pos (by omega)]
    exact (h5 b (by omega)).1
  · show (if b < 10 then _ else _) ≤ _
    by_cases e : b < 10
    · rw [if_pos e]; exact (h5 b e).2
    · rw [if_neg e]; omega
  · have hg := wl_get hv
    obtain ⟨r0, r4, r5, r7⟩ := hr _ hg.1
    refine ⟨r0.2, r4.2, r5.2, r7.2, _, Nat.lt_of_lt_of_le hg.1 hn, ?_, ?_, ?_, ?_, ?_⟩
    · rw [vau_s]; exact hw v hv
    · rw [va_up_ne _ _ (by decide)]; exact r0.1.1
    · rw [va_up_ne _ _ (by decide)]; exact r4.1
    · rw [va_up_ne _ _ (by decide)]; exact r5.1
    · rw [va_up_ne _ _ (by decide)]; exact r7.1
set_option maxHeartbeats 4000000 in
set_option maxRecDepth 100000 in
theorem l7_M_plans (F : hw_F K l D (WM ad t) (hw_T t) X cX4_plans RX4 wsX4_plans (hw_rm 2) 8) (hok : hw_XOK X) {n : Nat} (h9 : g 9 = nI n) (hn : n ≤ 60) (hx : ∀ w : Nat → Int32, (∀ i, i < (mW a n).length → w i = nI ((mW a n).getD i 0)) → hw_J K (WM ad t) 0 0 (upd g 12 (nI (mW a n).length)) (va_up a 10 w) c [(0, .ref (ad 0))] 61 []) : ∀ (m o : Nat) (w : Nat → Int32), n - o < m → o ≤ n → (∀ i, i < (mW a o).length → w i = nI ((mW a o).getD i 0)) → hw_J K (WM ad t) 0 0 (upd g 12 (nI (mW a o).length)) (va_up a 10 w) c [(1, .int (nI o)), (0, .ref (ad 0))] 7 [] := by
  intro m
  induction m with
  | zero => intro o w hm; exact absurd hm (Nat.not_lt_zero _)
  | succ m ih =>
    intro o w hm ho hw
    have hl7 : (mW a o).length ≤ 7 := wl_len (mw a) o
    refine hj_iload_n F 0 dX4_plans_7 rfl rfl ?_
    refine hj_aload_n F 1 dX4_plans_8 rfl rfl ?_
    refine hg_M_orders F hi_X4_plans_M lk_X4_plans_141 dX4_plans_9 ?_
    rw [pk_un (by decide), h9]
    refine hj_icmp_ge F 61 dX4_plans_12 (by decide) (fun q12 => ?_) (fun q12 => ?_)
    · rw [nI_leI (by omega) (by omega)] at q12
      obtain rfl : o = n := by omega
      exact hj_lv [1] rfl (hx w hw)
    · rw [nI_leI (by omega) (by omega)] at q12
      refine hj_aload_n F 1 dX4_plans_15 rfl rfl ?_
      refine hg_M_many F hi_X4_plans_M lk_X4_plans_162 dX4_plans_16 ?_
      rw [pk_us]
      refine hj_bipush F (v := 7) dX4_plans_19 (by decide) ?_
      refine hj_icmp_ge F 61 dX4_plans_21 (by decide) (fun q21 => ?_) (fun q21 => ?_)
      · have q21 : nI 7 ≤ nI (mW a o).length := q21
        rw [nI_leI (by omega) (by omega)] at q21
        have e9 : mW a n = mW a o := wl_full q21 n (by omega)
        have e8 := hx w (by rw [e9]; exact hw)
        rw [e9] at e8
        exact hj_lv [1] rfl e8
      · have q21 : ¬ nI 7 ≤ nI (mW a o).length := q21
        rw [nI_leI (by omega) (by omega)] at q21
        refine hj_aload_n F 1 dX4_plans_24 rfl rfl ?_
        refine hj_iload_n F 0 dX4_plans_25 rfl rfl ?_
        refine hj_cVi F (n := 1) (k_M_waits hok (o := o) (by omega)) gX4_plans_X4_waits rfl ⟨rfl, rfl⟩ (by decide +kernel) ⟨by decide, by decide⟩ 0 4 rfl rfl (As := [_]) rfl rfl (Nat.le_of_ble_eq_true rfl) ⟨Nat.zero_le _, Nat.zero_le _⟩ dX4_plans_26 (hw_eq4 ?_)
        refine hj_if_ne F 35 dX4_plans_29 (by decide) (fun q29 => ?_) (fun q29 => ?_)
        · have hwt : mw a o = true := decide_eq_true (Classical.byContradiction (fun z => q29 (if_neg z)))
          have es := wl_s_t (w := mw a) (show (mW a o).length < 7 by omega) hwt
          refine hj_aload_n F 1 dX4_plans_35 rfl rfl ?_
          refine hg_M_of F hi_X4_plans_M lk_X4_plans_49 dX4_plans_36 ?_
          refine hj_aload_n F 1 dX4_plans_39 rfl rfl ?_
          refine hg_M_many F hi_X4_plans_M lk_X4_plans_162 dX4_plans_40 ?_
          refine hj_iload_n F 0 dX4_plans_43 rfl rfl ?_
          refine hs_M_of F (by rw [pk_us]; exact vp_in_nI (show (mW a o).length < 7 by omega) (by decide)) dX4_plans_44 ?_
          rw [pk_us, nI_clamp (by omega), vau_s, bx_uu]
          refine hj_aload_n F 1 dX4_plans_45 rfl rfl ?_
          refine hj_dup F dX4_plans_46 rfl ?_
          refine hg_M_many F hi_X4_plans_M lk_X4_plans_162 dX4_plans_47 ?_
          rw [pk_us]
          refine hj_iconst F (v := 1) dX4_plans_50 (by decide) ?_
          refine hj_iadd F dX4_plans_51 ?_
          refine hp_M_many F hi_X4_plans_M lk_X4_plans_162 dX4_plans_52 ?_
          rw [nI_1, upd_uu]
          refine hj_iinc F 0 (v := _ + 1) (lv' := [(1, _), (0, _)]) dX4_plans_55 rfl rfl (by decide) rfl ?_
          refine hj_goto F 7 dX4_plans_58 (by decide) ?_
          refine hj_lv [0, 1] rfl ?_
          have e9 := ih (o + 1) (upd w (mW a o).length (nI o)) (by omega) (by omega) (fun i hi => by
            rw [show mW a (o + 1) = mW a o ++ [o] from es] at hi ⊢
            rw [List.length_append] at hi
            have hi : i < (mW a o).length + 1 := hi
            by_cases e : i = (mW a o).length
            · rw [e, pk_us, gd_end]
            · rw [pk_un e, gd_app (by omega)]; exact hw i (by omega))
          rw [show mW a (o + 1) = mW a o ++ [o] from es, show (mW a o ++ [o]).length = (mW a o).length + 1 by simp] at e9
          rw [nI_1]
          exact e9
        · have hwt : ¬ mw a o = true := fun z => by rw [if_pos (show va_up a 10 w 7 (12 * o + 8) = 0 from of_decide_eq_true z)] at q29; exact absurd q29 (by decide)
          have es := wl_s_f (w := mw a) hwt
          refine hj_goto F 55 dX4_plans_32 (by decide) ?_
          refine hj_iinc F 0 (v := _ + 1) (lv' := [(1, _), (0, _)]) dX4_plans_55 rfl rfl (by decide) rfl ?_
          refine hj_goto F 7 dX4_plans_58 (by decide) ?_
          refine hj_lv [0, 1] rfl ?_
          have e9 := ih (o + 1) w (by omega) (by omega) (by rw [show mW a (o + 1) = mW a o from es]; exact hw)
          rw [show mW a (o + 1) = mW a o from es] at e9
          rw [nI_1]
          exact e9
set_option maxHeartbeats 4000000 in
set_option maxRecDepth 100000 in
theorem l70_M_plans (F : hw_F K l D (WM ad t) (hw_T t) X cX4_plans RX4 wsX4_plans (hw_rm 2) 8) {N : Nat} (hN : g 12 = nI N) (hN7 : N ≤ 7) (hx : ∀ x : Nat → Int32, (∀ i, i < N → x i = nI i) → hw_J K (WM ad t) 0 0 g (va_up a 11 x) c [(0, .ref (ad 0))] 91 []) : ∀ (m i : Nat) (x : Nat → Int32), N - i < m → i ≤ N → (∀ j, j < i → x j = nI j) → hw_J K (WM ad t) 0 0 g (va_up a 11 x) c [(1, .int (nI i)), (0, .ref (ad 0))] 70 [] := by
  intro m
  induction m with
  | zero => intro i x hm; exact absurd hm (Nat.not_lt_zero _)
  | succ m ih =>
    intro i x hm hi hr
    refine hj_iload_n F 0 dX4_plans_70 rfl rfl ?_
    refine hj_aload_n F 1 dX4_plans_71 rfl rfl ?_
    refine hg_M_many F hi_X4_plans_M lk_X4_plans_162 dX4_plans_72 ?_
    rw [hN]
    refine hj_icmp_ge F 91 dX4_plans_75 (by decide) (fun q75 => ?_) (fun q75 => ?_)
    · rw [nI_leI (by omega) (by omega)] at q75
      obtain rfl : i = N := by omega
      exact hj_lv [1] rfl (hx x hr)
    · rw [nI_leI (by omega) (by omega)] at q75
      refine hj_aload_n F 1 dX4_plans_78 rfl rfl ?_
      refine hg_M_row F hi_X4_plans_M lk_X4_plans_52 dX4_plans_79 ?_
      refine hj_iload_n F 0 dX4_plans_82 rfl rfl ?_
      refine hj_iload_n F 0 dX4_plans_83 rfl rfl ?_
      refine hs_M_row F (vp_in_nI (show i < 7 by omega) (by decide)) dX4_plans_84 ?_
      rw [nI_clamp (by omega), vau_s, bx_uu]
      refine hj_iinc F 0 (v := _ + 1) (lv' := [(1, _), (0, _)]) dX4_plans_85 rfl rfl (by decide) rfl ?_
      refine hj_goto F 70 dX4_plans_88 (by decide) ?_
      refine hj_lv [0, 1] rfl ?_
      rw [nI_1]
      refine ih (i + 1) _ (by omega) (by omega) (fun j hj => ?_)
      by_cases e : j = i
      · rw [e, pk_us]
      · rw [pk_un e]; exact hr j (by omega)
theorem pa_self {a : hw_A} {w x : Nat → Int32} : pA (va_up a 10 w) x (va_up a 10 w 12) (va_up a 10 w 13) = va_up (va_up a 10 w) 11 x := by
  unfold pA
  rw [vau_self (va_up (va_up a 10 w) 11 x) 12 (show _ = va_up a 10 w 12 from va_up_ne _ _ (by decide)), vau_self (va_up (va_up a 10 w) 11 x) 13 (show _ = va_up a 10 w 13 from va_up_ne _ _ (by decide))]
set_option maxHeartbeats 4000000 in
set_option maxRecDepth 100000 in
theorem k_M_plans (hok : hw_XOK X) {n B : Nat} (hD : DM g a n B) : hw_Cv l D (WM ad t) (hw_T t) X yX4_plans wsX4_plans (hw_rm 2) [.ref (ad 0)] g a c (MQQ g a n) := by
  refine hw_Cv.mk (lv0 := [(0, _)]) (by decide) rfl (Nat.le_of_ble_eq_true rfl) rfl (WM_ads ad t) hok (fun K F ret => ?_)
  have F : hw_F K l D (WM ad t) (hw_T t) X cX4_plans RX4 wsX4_plans (hw_rm 2) 8 := F
  refine hj_aload_n F 0 dX4_plans_0 rfl rfl ?_
  refine hj_iconst F (v := 0) dX4_plans_1 (by decide) ?_
  refine hp_M_many F hi_X4_plans_M lk_X4_plans_162 dX4_plans_2 ?_
  refine hj_iconst F (v := 0) dX4_plans_5 (by decide) ?_
  refine hj_istore_n F (lv' := [(1, _), (0, _)]) dX4_plans_6 rfl (by decide) rfl ?_
  refine hj_lv [0, 1] rfl ?_
  have l7 := l7_M_plans F hok (g := g) (a := a) (c := c) (n := n) hD.1 hD.2.1 (fun w hw => ?_) (n + 1) 0 (a 10) (by omega) (Nat.zero_le _) (fun i hi => absurd hi (Nat.not_lt_zero _))
  · rw [vau_self a 10 rfl] at l7
    exact l7
  have hN : (upd g 12 (nI (mN a n))) 12 = nI (mN a n) := pk_us
  have hN7 : mN a n ≤ 7 := wl_len _ _
  refine hj_aload_n F 0 dX4_plans_61 rfl rfl ?_
  refine hj_ldc2 F lc_X4_plans_165 dX4_plans_62 ?_
  refine hp_M_bestCost F hi_X4_plans_M lk_X4_plans_167 dX4_plans_65 ?_
  refine hj_iconst F (v := 0) dX4_plans_68 (by decide) ?_
  refine hj_istore_n F (lv' := [(1, _), (0, _)]) dX4_plans_69 rfl (by decide) rfl ?_
  refine hj_lv [0, 1] rfl ?_
  rw [← vau_self (va_up a 10 w) 11 rfl]
  refine l70_M_plans F hN hN7 (fun x hx => ?_) (mN a n + 1) 0 _ (by omega) (Nat.zero_le _) (fun j hj => absurd hj (Nat.not_lt_zero _))
  refine hj_aload_n F 0 dX4_plans_91 rfl rfl ?_
  refine hg_M_many F hi_X4_plans_M lk_X4_plans_162 dX4_plans_92 ?_
  rw [hN]
  refine hj_if_le F 102 dX4_plans_95 (by decide) (fun q95 => ?_) (fun q95 => ?_)
  · have hN0 : ¬ 0 < mN a n := fun z => absurd q95 (Int32.not_le.mpr (nI_lt (a := 0) z (by omega)))
    refine hj_iconst F (v := 0) dX4_plans_102 (by decide) ?_
    refine hj_istore_n F (lv' := [(1, _), (0, _)]) dX4_plans_103 rfl (by decide) rfl ?_
    refine hj_iload_n F 0 dX4_plans_104 rfl rfl ?_
    refine hj_if_eq F 328 dX4_plans_105 (by decide) (fun q105 => ?_) (fun q105 => ?_)
    · exact ret dX4_plans_328 ⟨rfl, w, x, va_up a 10 w 12, va_up a 10 w 13, by rw [pa_self], hw, fun z => absurd z hN0⟩
    · exact absurd rfl q105
  · have hN0 : 0 < mN a n := by
      rcases Nat.eq_zero_or_pos (mN a n) with e | e
      · rw [e] at q95; exact absurd (by decide) q95
      · exact e
    refine hj_iconst F (v := 1) dX4_plans_98 (by decide) ?_
    refine hj_goto F 103 dX4_plans_99 (by decide) ?_
    refine hj_istore_n F (lv' := [(1, _), (0, _)]) dX4_plans_103 rfl (by decide) rfl ?_
    refine hj_lv [0, 1] rfl ?_
    rw [← pa_self]
    refine pV_all F hok (DM_MP hD hw) (mN a n) (fun i => i) x _ _ (-1) none 0 (by omega) (fun i hi => ⟨hx i hi, hi⟩) (fun i _ _ => ⟨fun z => by obtain ⟨j, hj, e⟩ := pf_mem.mp z; have e : j = i := e; omega, fun u hu => pf_mem.mpr ⟨u, hu, rfl⟩⟩) rfl (fun R' x' y' z' c' _ _ hpm => ?_)
    refine hj_iload F 1 dX4_plans_182 rfl ?_
    refine hj_if_lt F 248 dX4_plans_184 (by decide) (fun q184 => ?_) (fun q184 => ?_)
    · refine hj_iload F 1 dX4_plans_248 rfl ?_
      refine hj_if_lt F 257 dX4_plans_250 (by decide) (fun q250 => ?_) (fun q250 => ?_)
      · refine hj_iconst F (v := 0) dX4_plans_257 (by decide) ?_
        refine hj_istore_n F (lv' := [(1, _), (5, _), (4, _), (0, _)]) dX4_plans_258 rfl (by decide) rfl ?_
        refine hj_iload_n F 0 dX4_plans_259 rfl rfl ?_
        refine hj_if_ne F 266 dX4_plans_260 (by decide) (fun q260 => ?_) (fun q260 => ?_)
        · exact absurd rfl q260
        · refine hj_goto F 104 dX4_plans_263 (by decide) ?_
          refine hj_iload_n F 0 dX4_plans_104 rfl rfl ?_
          refine hj_if_eq F 328 dX4_plans_105 (by decide) (fun q105 => ?_) (fun q105 => ?_)
          · exact ret dX4_plans_328 ⟨rfl, w, x', y', z', rfl, hw, fun _ => hpm⟩
          · exact absurd rfl q105
      · exact absurd (by decide) q250
    · exact absurd (by decide) q184
theorem DM_0 {g : hw_G} {a : hw_A} {n B : Nat} {x : Int32} (h : DM g a n B) : DM (upd g 0 x) a n B := by
  unfold DM
  rw [pk_un (by decide), pk_un (by decide), pk_un (by decide), pk_un (by decide)]
  exact h
theorem mF_0 {g : hw_G} {a : hw_A} {n : Nat} {x : Int32} : mF (upd g 0 x) a n = mF g a n := by
  unfold mF
  rw [pk_un (by decide), pk_un (by decide)]
set_option maxHeartbeats 4000000 in
set_option maxRecDepth 100000 in
theorem k_M_plan (hok : hw_XOK X) {n B : Nat} (hD : DM g a n B) : hw_Cl l D (WM ad t) (hw_T t) X yX4_plan wsX4_plan (hw_rm 3) [.ref (ad 0)] g a c (fun r g' a' c' => r = (if mN a n = 0 then 0 else c') ∧ MQQ (upd g 0 0) a n g' a' c') := by
  refine hw_Cl.mk (lv0 := [(0, _)]) (by decide) rfl (Nat.le_of_ble_eq_true rfl) rfl (WM_ads ad t) hok (fun K F ret => ?_)
  have F : hw_F K l D (WM ad t) (hw_T t) X cX4_plan RX4 wsX4_plan (hw_rm 3) 1 := F
  refine hj_aload_n F 0 dX4_plan_0 rfl rfl ?_
  refine hj_iconst F (v := 0) dX4_plan_1 (by decide) ?_
  refine hp_M_thrown F hi_X4_plan_M lk_X4_plan_61 dX4_plan_2 ?_
  refine hj_aload_n F 0 dX4_plan_5 rfl rfl ?_
  refine hj_cVv F (n := 0) (k_M_plans hok (DM_0 hD)) gX4_plan_X4_plans rfl ⟨rfl, rfl⟩ (by decide +kernel) ⟨by decide, by decide⟩ 0 4 rfl rfl (As := []) rfl rfl (Nat.le_of_ble_eq_true rfl) ⟨Nat.zero_le _, Nat.zero_le _⟩ dX4_plan_6 ?_
  intro g1 a1 c1 hq
  have hQ := hq
  obtain ⟨rfl, w, x, y, z, rfl, hw, hpm⟩ := hq
  rw [mF_0] at hpm
  refine hj_aload_n F 0 dX4_plan_9 rfl rfl ?_
  refine hg_M_many F hi_X4_plan_M lk_X4_plan_162 dX4_plan_10 ?_
  rw [pk_us]
  have hl7 : mN a n ≤ 7 := wl_len (mw a) n
  refine hj_if_ne F 20 dX4_plan_13 (by decide) (fun q13 => ?_) (fun q13 => ?_)
  · have q13 : ¬ nI (mN a n) = nI 0 := q13
    rw [nI_eq (by omega) (by omega)] at q13
    refine hj_aload_n F 0 dX4_plan_20 rfl rfl ?_
    refine hg_M_bestCost F hi_X4_plan_M lk_X4_plan_167 dX4_plan_21 ?_
    exact ret dX4_plan_24 ⟨by rw [if_neg q13], hQ⟩
  · have q13 : nI (mN a n) = nI 0 := q13
    rw [nI_eq (by omega) (by omega)] at q13
    refine hj_lconst F (v := 0) dX4_plan_16 (by decide) ?_
    refine hj_goto F 24 dX4_plan_17 (by decide) ?_
    exact ret dX4_plan_24 ⟨by rw [if_pos q13], hQ⟩
set_option maxHeartbeats 4000000 in
set_option maxRecDepth 100000 in
theorem k_M_planned (hok : hw_XOK X) {n B : Nat} (hD : DM g a n B) {k : Int32} {q : Nat × List Nat} (hq : mF g a n = some q) : hw_Ci l D (WM ad t) (hw_T t) X yX4_planned wsX4_planned (hw_rm 3) [.ref (ad 0), .int k] g a c (fun r g' a' c' => r = (if k < 0 ∨ nI (mN a n) ≤ k then -1 else nI ((mW a n).getD (q.2.getD k.toNatClampNeg 0) 0)) ∧ MQQ (upd g 0 0) a n g' a' c') := by
  refine hw_Ci.mk (lv0 := [(0, _), (1, _)]) (by decide) rfl (Nat.le_of_ble_eq_true rfl) rfl (WM_ads ad t) hok (fun K F ret => ?_)
  have F : hw_F K l D (WM ad t) (hw_T t) X cX4_planned RX4 wsX4_planned (hw_rm 3) 2 := F
  refine hj_aload_n F 0 dX4_planned_0 rfl rfl ?_
  refine hj_iconst F (v := 0) dX4_planned_1 (by decide) ?_
  refine hp_M_thrown F hi_X4_planned_M lk_X4_planned_61 dX4_planned_2 ?_
  refine hj_aload_n F 0 dX4_planned_5 rfl rfl ?_
  refine hj_cVv F (n := 0) (k_M_plans hok (DM_0 hD)) gX4_planned_X4_plans rfl ⟨rfl, rfl⟩ (by decide +kernel) ⟨by decide, by decide⟩ 0 4 rfl rfl (As := []) rfl rfl (Nat.le_of_ble_eq_true rfl) ⟨Nat.zero_le _, Nat.zero_le _⟩ dX4_planned_6 ?_
  intro g1 a1 c1 hq
  have hQ := hq
  obtain ⟨rfl, w, x, y, z, rfl, hw, hpm⟩ := hq
  rw [mF_0] at hpm
  refine hj_iload_n F 1 dX4_planned_9 rfl rfl ?_
  refine hj_if_lt F 35 dX4_planned_10 (by decide) (fun q10 => ?_) (fun q10 => ?_)
  · refine hj_iconst F (v := -1) dX4_planned_35 (by decide) ?_
    exact ret dX4_planned_36 rfl ⟨by rw [if_pos (Or.inl q10)], hQ⟩
  · refine hj_iload_n F 1 dX4_planned_13 rfl rfl ?_
    refine hj_aload_n F 0 dX4_planned_14 rfl rfl ?_
    refine hg_M_many F hi_X4_planned_M lk_X4_planned_162 dX4_planned_15 ?_
    rw [pk_us]
    have hl7 : mN a n ≤ 7 := wl_len (mw a) n
    refine hj_icmp_ge F 35 dX4_planned_18 (by decide) (fun q18 => ?_) (fun q18 => ?_)
    · refine hj_iconst F (v := -1) dX4_planned_35 (by decide) ?_
      exact ret dX4_planned_36 rfl ⟨by rw [if_pos (Or.inr q18)], hQ⟩
    · have hk : vp_in k (mN a n) := fun z9 => z9.elim q10 (fun z9 => q18 (by
        rcases pk_ix k (n := mN a n) (by omega) with z | z | ⟨j, hj, rfl⟩
        · exact absurd z q10
        · exact z
        · rw [nI_clamp (by omega)] at z9; omega))
      have hp : ∀ i, i < mN a n → y i = nI (q.2.getD i 0) ∧ q.2.getD i 0 < mN a n := by
        have := hpm (Nat.lt_of_le_of_lt (Nat.zero_le _) (hw_lt hk))
        rw [hq] at this
        exact this.2.2.2
      have hp9 := (hp k.toNatClampNeg (hw_lt hk)).2
      refine hj_aload_n F 0 dX4_planned_21 rfl rfl ?_
      refine hg_M_of F hi_X4_planned_M lk_X4_planned_49 dX4_planned_22 ?_
      refine hj_aload_n F 0 dX4_planned_25 rfl rfl ?_
      refine hg_M_best F hi_X4_planned_M lk_X4_planned_55 dX4_planned_26 ?_
      refine hj_iload_n F 1 dX4_planned_29 rfl rfl ?_
      refine hl_M_best F (fun z9 => hk (z9.elim Or.inl (fun z8 => Or.inr (by omega)))) dX4_planned_30 ?_
      rw [show pA (va_up a 10 w) x y z 12 k.toNatClampNeg = y k.toNatClampNeg from rfl, (hp k.toNatClampNeg (hw_lt hk)).1]
      refine hl_M_of F (vp_in_nI (show q.2.getD k.toNatClampNeg 0 < 7 by omega) (by decide)) dX4_planned_31 ?_
      rw [nI_clamp (by omega), show pA (va_up a 10 w) x y z 10 = w from rfl, hw _ (hp k.toNatClampNeg (hw_lt hk)).2]
      refine hj_goto F 36 dX4_planned_32 (by decide) ?_
      exact ret dX4_planned_36 rfl ⟨by rw [if_neg (fun z9 => z9.elim q10 q18)], hQ⟩
def rm_S (ol : Nat → Nat) (g : hw_G) (a : hw_A) : Nat → hw_G × hw_A
  | 0 => (g, a)
  | k + 1 => (ge_g (rm_S ol g a k).1 (rm_S ol g a k).2 (ol k) ((rm_S ol g a k).2 7 (12 * ol k)).toNatClampNeg, ge_a (rm_S ol g a k).1 (rm_S ol g a k).2 (ol k) ((rm_S ol g a k).2 7 (12 * ol k)).toNatClampNeg)
theorem ge_7_ne {g : hw_G} {a : hw_A} {o b x j : Nat} (hj : j < 8) : ge_7 g a o b (12 * x + j) = a 7 (12 * x + j) := by
  unfold ge_7
  rw [pk_un (by omega), pk_un (by omega), pk_un (by omega), pk_un (by omega)]
theorem ge_a7 {g : hw_G} {a : hw_A} {o b : Nat} : ge_a g a o b 7 = ge_7 g a o b := by
  unfold ge_a
  rw [va_up_ne _ _ (by decide), va_up_ne _ _ (by decide), vau_s]
theorem ge_a_ne {g : hw_G} {a : hw_A} {o b k : Nat} (h7 : k ≠ 7) (h5 : k ≠ 5) (h6 : k ≠ 6) : ge_a g a o b k = a k := by
  unfold ge_a
  rw [va_up_ne _ _ h6, va_up_ne _ _ h5, va_up_ne _ _ h7]
theorem ge_g_ne {g : hw_G} {a : hw_A} {o b r : Nat} (h : r ≠ 10) (h1 : r ≠ 11) : ge_g g a o b r = g r := by
  unfold ge_g
  rw [pk_un h1, pk_un h]
theorem rm_keep {ol : Nat → Nat} {g : hw_G} {a : hw_A} : ∀ k, (rm_S ol g a k).1 12 = g 12 ∧ (rm_S ol g a k).2 10 = a 10 ∧ (rm_S ol g a k).2 12 = a 12 ∧ ∀ x, (rm_S ol g a k).2 7 (12 * x) = a 7 (12 * x)
  | 0 => ⟨rfl, rfl, rfl, fun _ => rfl⟩
  | k + 1 => by
    obtain ⟨h1, h2, h3, h4⟩ := rm_keep (ol := ol) (g := g) (a := a) k
    refine ⟨?_, ?_, ?_, fun x => ?_⟩
    · exact (ge_g_ne (a := (rm_S ol g a k).2) (o := ol k) (b := ((rm_S ol g a k).2 7 (12 * ol k)).toNatClampNeg) (by decide) (by decide)).trans h1
    · exact (ge_a_ne (g := (rm_S ol g a k).1) (a := (rm_S ol g a k).2) (o := ol k) (b := ((rm_S ol g a k).2 7 (12 * ol k)).toNatClampNeg) (by decide) (by decide) (by decide)).trans h2
    · exact (ge_a_ne (g := (rm_S ol g a k).1) (a := (rm_S ol g a k).2) (o := ol k) (b := ((rm_S ol g a k).2 7 (12 * ol k)).toNatClampNeg) (by decide) (by decide) (by decide)).trans h3
    · refine Eq.trans ?_ (h4 x)
      show ge_a _ _ _ _ 7 _ = _
      rw [ge_a7]
      exact ge_7_ne (j := 0) (by decide)
set_option maxHeartbeats 4000000 in
set_option maxRecDepth 100000 in
theorem lp_M_run (F : hw_F K l D (WM ad t) (hw_T t) X cX4_run RX4 wsX4_run (hw_rm 3) 2) (hok : hw_XOK X) {N : Nat} {ol qi : Nat → Nat} (h12 : g 12 = nI N) (hN : N ≤ 7) (hol : ∀ k, k < N → a 12 k = nI (qi k) ∧ qi k < 7 ∧ a 10 (qi k) = nI (ol k) ∧ ol k < 60 ∧ ub (a 7 (12 * ol k)) 9) (hx : hw_J K (WM ad t) 0 0 (rm_S ol g a N).1 (rm_S ol g a N).2 c [(1, .int (nI N)), (0, .ref (ad 0))] 41 []) : ∀ m k : Nat, N - k < m → k ≤ N → hw_J K (WM ad t) 0 0 (rm_S ol g a k).1 (rm_S ol g a k).2 c [(1, .int (nI k)), (0, .ref (ad 0))] 11 [] := by
  intro m
  induction m with
  | zero => intro k hm; exact absurd hm (Nat.not_lt_zero _)
  | succ m ih =>
    intro k hm hi
    obtain ⟨r12, r10, r2, r7⟩ := rm_keep (ol := ol) (g := g) (a := a) k
    have hq7 : ∀ k, k < N → qi k < 7 := fun k hk => (hol k hk).2.1
    refine hj_iload_n F 0 dX4_run_11 rfl rfl ?_
    refine hj_aload_n F 1 dX4_run_12 rfl rfl ?_
    refine hg_M_many F hi_X4_run_M lk_X4_run_162 dX4_run_13 ?_
    rw [r12, h12]
    refine hj_icmp_ge F 41 dX4_run_16 (by decide) (fun q16 => ?_) (fun q16 => ?_)
    · rw [nI_leI (by omega) (by omega)] at q16
      obtain rfl : k = N := by omega
      exact hx
    · rw [nI_leI (by omega) (by omega)] at q16
      have hk := hol k (by omega)
      have hb9 := hk.2.2.2.2
      refine hj_aload_n F 1 dX4_run_19 rfl rfl ?_
      refine hj_aload_n F 1 dX4_run_20 rfl rfl ?_
      refine hg_M_of F hi_X4_run_M lk_X4_run_49 dX4_run_21 ?_
      refine hj_aload_n F 1 dX4_run_24 rfl rfl ?_
      refine hg_M_best F hi_X4_run_M lk_X4_run_55 dX4_run_25 ?_
      refine hj_iload_n F 0 dX4_run_28 rfl rfl ?_
      refine hl_M_best F (vp_in_nI (show k < 7 by omega) (by decide)) dX4_run_29 ?_
      rw [nI_clamp (by omega), r2, (hol k (by omega)).1]
      refine hl_M_of F (vp_in_nI (show qi k < 7 by omega) (by decide)) dX4_run_30 ?_
      rw [nI_clamp (by omega), r10, (hol k (by omega)).2.2.1]
      refine hj_cVi F (n := 1) (k_M_goes hok (o := ol k) (b := ((rm_S ol g a k).2 7 (12 * ol k)).toNatClampNeg) hk.2.2.2.1 (by rw [r7]; have := hb9.2; omega) (by rw [r7]; exact hb9.1)) gX4_run_X4_goes rfl ⟨rfl, rfl⟩ (by decide +kernel) ⟨by decide, by decide⟩ 0 4 rfl rfl (As := [_]) rfl rfl (Nat.le_of_ble_eq_true rfl) ⟨Nat.zero_le _, Nat.zero_le _⟩ dX4_run_31 (hw_eq4 ?_)
      refine hj_pop F dX4_run_34 rfl ?_
      refine hj_iinc F 0 (v := _ + 1) (lv' := [(1, _), (0, _)]) dX4_run_35 rfl rfl (by decide) rfl ?_
      refine hj_goto F 11 dX4_run_38 (by decide) ?_
      refine hj_lv [0, 1] rfl ?_
      rw [nI_1]
      exact ih (k + 1) (by omega) (by omega)
set_option maxHeartbeats 4000000 in
set_option maxRecDepth 100000 in
theorem k_M_run (hok : hw_XOK X) {n B : Nat} (hD : DM g a n B) {q : Nat × List Nat} (hq : mF g a n = some q) : hw_Ci l D (WM ad t) (hw_T t) X yX4_run wsX4_run (hw_rm 3) [.ref (ad 0)] g a c (fun r g' a' c' => ∃ (g1 : hw_G) (a1 : hw_A) (c1 : Int64), MQQ (upd g 0 0) a n g1 a1 c1 ∧ r = nI (mN a n) ∧ g' = (rm_S (fun k => (mW a n).getD (q.2.getD k 0) 0) g1 a1 (mN a n)).1 ∧ a' = (rm_S (fun k => (mW a n).getD (q.2.getD k 0) 0) g1 a1 (mN a n)).2 ∧ c' = c1) := by
  refine hw_Ci.mk (lv0 := [(0, _)]) (by decide) rfl (Nat.le_of_ble_eq_true rfl) rfl (WM_ads ad t) hok (fun K F ret => ?_)
  have F : hw_F K l D (WM ad t) (hw_T t) X cX4_run RX4 wsX4_run (hw_rm 3) 2 := F
  refine hj_aload_n F 0 dX4_run_0 rfl rfl ?_
  refine hj_iconst F (v := 0) dX4_run_1 (by decide) ?_
  refine hp_M_thrown F hi_X4_run_M lk_X4_run_61 dX4_run_2 ?_
  refine hj_aload_n F 0 dX4_run_5 rfl rfl ?_
  refine hj_cVv F (n := 0) (k_M_plans hok (DM_0 hD)) gX4_run_X4_plans rfl ⟨rfl, rfl⟩ (by decide +kernel) ⟨by decide, by decide⟩ 0 4 rfl rfl (As := []) rfl rfl (Nat.le_of_ble_eq_true rfl) ⟨Nat.zero_le _, Nat.zero_le _⟩ dX4_run_6 ?_
  intro g1 a1 c1 hq
  have hQ := hq
  obtain ⟨rfl, w, x, y, z, rfl, hw, hpm⟩ := hq
  rw [mF_0] at hpm
  refine hj_iconst F (v := 0) dX4_run_9 (by decide) ?_
  refine hj_istore_n F (lv' := [(1, _), (0, _)]) dX4_run_10 rfl (by decide) rfl ?_
  have hl7 : mN a n ≤ 7 := wl_len (mw a) n
  have hp : ∀ i, i < mN a n → y i = nI (q.2.getD i 0) ∧ q.2.getD i 0 < mN a n := fun i hi => by
    have := hpm (by omega)
    rw [hq] at this
    exact this.2.2.2 i hi
  refine lp_M_run F hok (ol := (fun k => (mW a n).getD (q.2.getD k 0) 0)) (qi := fun k => q.2.getD k 0) pk_us hl7 (fun k hk => ?_) ?_ (mN a n + 1) 0 (by omega) (Nat.zero_le _)
  · have h1 := hp k hk
    have hg := wl_get h1.2
    exact ⟨h1.1, by have := h1.2; show q.2.getD k 0 < 7; omega, hw _ h1.2, Nat.lt_of_lt_of_le hg.1 hD.2.1, (hD.2.2.2.2.2.2.2 _ hg.1).1.1⟩
  refine hj_aload_n F 1 dX4_run_41 rfl rfl ?_
  refine hg_M_many F hi_X4_run_M lk_X4_run_162 dX4_run_42 ?_
  rw [(rm_keep _).1, pk_us]
  exact ret dX4_run_45 rfl ⟨_, _, _, hQ, rfl, rfl, rfl, rfl⟩
end SMOD11
