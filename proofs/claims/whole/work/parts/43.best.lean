section SBEST
theorem hi_X3_findBest_B : ∀ w ∈ u_ws RX0 TX0 5, w ∈ wsX3_findBest := fun w h => by
  unfold wsX3_findBest
  simp only [List.mem_cons, List.mem_append]
  first | (simp only [h, or_true, true_or]; done) | (have h2 : w ∈ wsX00 := h; simp only [h2, or_true, true_or]; done)
theorem hi_X3_findBest_P : ∀ w ∈ u_ws RX1 TX1 12, w ∈ wsX3_findBest := fun w h => by
  unfold wsX3_findBest
  simp only [List.mem_cons, List.mem_append]
  first | (simp only [h, or_true, true_or]; done) | (have h2 : w ∈ wsX10 := h; simp only [h2, or_true, true_or]; done)
theorem hi_X3_findBest_X : ∀ w ∈ u_ws RX3 TX3 12, w ∈ wsX3_findBest := fun w h => by
  unfold wsX3_findBest
  simp only [List.mem_cons, List.mem_append]
  first | (simp only [h, or_true, true_or]; done) | (have h2 : w ∈ wsX30 := h; simp only [h2, or_true, true_or]; done)
theorem lk_X3_findBest_138 : Cond.fieldLink RX3 138 "HatWorks$Planner" "size" "I" ∈ wsX3_findBest := List.mem_of_getElem? (i := 7) rfl
theorem lk_X3_findBest_187 : Cond.fieldLink RX3 187 "HatWorks$Blocks" "freeFrom" "[I" ∈ wsX3_findBest := List.mem_of_getElem? (i := 5) rfl
theorem lk_X3_findBest_23 : Cond.fieldLink RX3 23 "HatWorks" "blocks" "LHatWorks$Blocks;" ∈ wsX3_findBest := List.mem_of_getElem? (i := 4) rfl
theorem lk_X3_findBest_29 : Cond.fieldLink RX3 29 "HatWorks" "orders" "[[I" ∈ wsX3_findBest := List.mem_of_getElem? (i := 8) rfl
theorem lk_X3_findBest_35 : Cond.fieldLink RX3 35 "HatWorks" "planner" "LHatWorks$Planner;" ∈ wsX3_findBest := List.mem_of_getElem? (i := 2) rfl
theorem lk_X3_findBest_43 : Cond.fieldLink RX3 43 "HatWorks" "orderCount" "I" ∈ wsX3_findBest := List.mem_of_getElem? (i := 6) rfl
theorem lk_X3_findBest_46 : Cond.fieldLink RX3 46 "HatWorks" "now" "I" ∈ wsX3_findBest := List.mem_of_getElem? (i := 3) rfl
theorem lk_X3_findBest_49 : Cond.fieldLink RX3 49 "HatWorks" "steamerFree" "I" ∈ wsX3_findBest := List.mem_of_getElem? (i := 9) rfl
theorem lk_X3_findBest_58 : Cond.fieldLink RX3 58 "HatWorks" "bestStands" "Z" ∈ wsX3_findBest := List.mem_of_getElem? (i := 1) rfl
theorem hi_X3_plan_X : ∀ w ∈ u_ws RX3 TX3 12, w ∈ wsX3_plan := fun w h => by
  unfold wsX3_plan
  simp only [List.mem_cons, List.mem_append]
  first | (simp only [h, or_true, true_or]; done) | (have h2 : w ∈ wsX30 := h; simp only [h2, or_true, true_or]; done)
theorem lk_X3_plan_35 : Cond.fieldLink RX3 35 "HatWorks" "planner" "LHatWorks$Planner;" ∈ wsX3_plan := List.mem_of_getElem? (i := 1) rfl
theorem hi_X3_planned_X : ∀ w ∈ u_ws RX3 TX3 12, w ∈ wsX3_planned := fun w h => by
  unfold wsX3_planned
  simp only [List.mem_cons, List.mem_append]
  first | (simp only [h, or_true, true_or]; done) | (have h2 : w ∈ wsX30 := h; simp only [h2, or_true, true_or]; done)
theorem lk_X3_planned_35 : Cond.fieldLink RX3 35 "HatWorks" "planner" "LHatWorks$Planner;" ∈ wsX3_planned := List.mem_of_getElem? (i := 1) rfl
theorem hi_X3_run_P : ∀ w ∈ u_ws RX1 TX1 12, w ∈ wsX3_run := fun w h => by
  unfold wsX3_run
  simp only [List.mem_cons, List.mem_append]
  first | (simp only [h, or_true, true_or]; done) | (have h2 : w ∈ wsX10 := h; simp only [h2, or_true, true_or]; done)
theorem hi_X3_run_X : ∀ w ∈ u_ws RX3 TX3 12, w ∈ wsX3_run := fun w h => by
  unfold wsX3_run
  simp only [List.mem_cons, List.mem_append]
  first | (simp only [h, or_true, true_or]; done) | (have h2 : w ∈ wsX30 := h; simp only [h2, or_true, true_or]; done)
theorem lk_X3_run_138 : Cond.fieldLink RX3 138 "HatWorks$Planner" "size" "I" ∈ wsX3_run := List.mem_of_getElem? (i := 2) rfl
theorem lk_X3_run_35 : Cond.fieldLink RX3 35 "HatWorks" "planner" "LHatWorks$Planner;" ∈ wsX3_run := List.mem_of_getElem? (i := 1) rfl
variable {K : hw_K} {l : Launch} {D : va_G} {ad : Nat → Nat} {t : Nat → ClassId} {X : hw_XT} {rm : Room} {g : hw_G} {a : hw_A} {c : Int64}
variable {host : String}
theorem pl_keep {N nw : Nat} {ob st on wt : Nat → Nat} : ∀ (k : Nat) (p : List Nat) (S : Nat × (Nat → Nat) × Nat) (q : Nat × List Nat), ∃ q', pl_F N nw ob st on wt k p S (some q) = some q'
  | 0, p, S, q => by
    show ∃ q', (if S.2.2 < q.1 then some (S.2.2, p) else some q) = some q'
    by_cases h : S.2.2 < q.1
    · exact ⟨_, if_pos h⟩
    · exact ⟨_, if_neg h⟩
  | k + 1, p, S, q => by
    rw [pl_LN]
    have : ∀ j, ∃ q', pl_L N nw ob st on wt k p S (some q) j = some q' := by
      intro j
      induction j with
      | zero => exact ⟨q, rfl⟩
      | succ j ih =>
        obtain ⟨q', e⟩ := ih
        rw [pl_Ls, e]
        by_cases h : j ∈ p
        · exact ⟨_, if_pos h⟩
        · rw [if_neg h]
          exact pl_keep k _ _ q'
    exact this N
theorem pl_some {N nw : Nat} {ob st on wt : Nat → Nat} : ∀ (k d : Nat) (S : Nat × (Nat → Nat) × Nat) (acc : Option (Nat × List Nat)), d + k = N → ∃ q, pl_F N nw ob st on wt k (List.range d) S acc = some q
  | 0, d, S, acc, h => by
    show ∃ q, pl_acc acc S.2.2 (List.range d) = some q
    cases acc with
    | none => exact ⟨_, rfl⟩
    | some q =>
      show ∃ q', (if S.2.2 < q.1 then some (S.2.2, List.range d) else some q) = some q'
      by_cases h : S.2.2 < q.1
      · exact ⟨_, if_pos h⟩
      · exact ⟨_, if_neg h⟩
  | k + 1, d, S, acc, h => by
    rw [pl_LN]
    have : ∀ j, d < j → ∃ q', pl_L N nw ob st on wt k (List.range d) S acc j = some q' := by
      intro j hj
      induction j with
      | zero => omega
      | succ j ih =>
        rw [pl_Ls]
        by_cases e : j = d
        · subst e
          rw [if_neg (by simp), ← List.range_succ]
          exact pl_some k (j + 1) _ _ (by omega)
        · obtain ⟨q', e⟩ := ih (by omega)
          rw [e]
          by_cases h : j ∈ List.range d
          · exact ⟨_, if_pos h⟩
          · rw [if_neg h]
            exact pl_keep k _ _ q'
    exact this N (by omega)
theorem pb_some (g : hw_G) (a : hw_A) (n : Nat) : ∃ q, pb_F g a n = some q := pl_some (pb_N a n) 0 _ none (by omega)
theorem PB_in {g : hw_G} {a : hw_A} {c : Int64} {n : Nat} (h : PB g a c n) : ∀ i, i < pb_N a n → vp_in (a 12 i) 7 := by
  obtain ⟨q, hq⟩ := pb_some g a n
  intro i hi
  obtain ⟨-, -, h3⟩ := h
  rw [hq] at h3
  obtain ⟨e, hl⟩ := h3.2.2.2 i hi
  have : pb_N a n ≤ 7 := wl_len (hx_wz a) n
  rw [e]
  exact vp_in_nI (by omega) (by decide)
set_option maxHeartbeats 4000000 in
set_option maxRecDepth 100000 in
theorem lp_X_findBest (F : hw_F K l D (WH ad t) (hw_T t) X cX3_findBest RX3 wsX3_findBest (hw_rm 20) 2) (hok : hw_XOK X) {n : Nat} (h1 : g 1 = nI n) (hn : n ≤ 60) (hend : ∀ (z : Int32) (g1 : hw_G) (a1 : hw_A), LD g a (wl (hx_wz a) n) g1 a1 → hw_J K (WH ad t) 0 0 g1 a1 c [(1, .int z), (0, .ref (ad 0))] 76 []) : ∀ (m o : Nat) (g1 : hw_G) (a1 : hw_A), n - o < m → o ≤ n → LD g a (wl (hx_wz a) o) g1 a1 → hw_J K (WH ad t) 0 0 g1 a1 c [(1, .int (nI o)), (0, .ref (ad 0))] 28 [] := by
  intro m
  induction m with
  | zero => intro o g1 a1 hm; exact absurd hm (Nat.not_lt_zero _)
  | succ m ih =>
    intro o g1 a1 hm hi hLD
    have hl7 := wl_len (hx_wz a) o
    have e1 : g1 1 = nI n := by rw [hLD.1, pk_un (by decide)]; exact h1
    have e14 : g1 14 = nI (wl (hx_wz a) o).length := by rw [hLD.1, pk_us]
    refine hj_iload_n F 0 dX3_findBest_28 rfl rfl ?_
    refine hj_aload_n F 1 dX3_findBest_29 rfl rfl ?_
    refine hg_X_orderCount F hi_X3_findBest_X lk_X3_findBest_43 dX3_findBest_30 ?_
    rw [e1]
    refine hj_icmp_ge F 76 dX3_findBest_33 (by decide) (fun q33 => ?_) (fun q33 => ?_)
    · rw [nI_leI (by omega) (by omega)] at q33
      obtain rfl : o = n := by omega
      exact hend _ _ _ hLD
    · rw [nI_leI (by omega) (by omega)] at q33
      have ho : o < 60 := by omega
      refine hj_aload_n F 1 dX3_findBest_36 rfl rfl ?_
      refine hg_X_planner F hi_X3_findBest_X lk_X3_findBest_35 dX3_findBest_37 ?_
      refine hg_P_size F hi_X3_findBest_P lk_X3_findBest_138 dX3_findBest_40 ?_
      rw [e14]
      refine hj_bipush F (v := 7) dX3_findBest_43 (by decide) ?_
      refine hj_icmp_ge F 76 dX3_findBest_45 (by decide) (fun q45 => ?_) (fun q45 => ?_)
      · have q45 : nI 7 ≤ nI (wl (hx_wz a) o).length := q45
        rw [nI_leI (by omega) (by omega)] at q45
        exact hend _ _ _ (by rw [wl_full q45 n (by omega)]; exact hLD)
      · have q45 : ¬ nI 7 ≤ nI (wl (hx_wz a) o).length := q45
        rw [nI_leI (by omega) (by omega)] at q45
        have ea : a1 (100 + o) = a (100 + o) := hLD.2.1 _ (Or.inr (by omega))
        refine hj_aload_n F 1 dX3_findBest_48 rfl rfl ?_
        refine hj_iload_n F 0 dX3_findBest_49 rfl rfl ?_
        refine hj_cVi F (n := 1) (k_X_isWaiting hok ho) gX3_findBest_X3_isWaiting rfl ⟨rfl, rfl⟩ (by decide +kernel) ⟨by decide, by decide⟩ 0 3 rfl rfl (As := [_]) rfl rfl (Nat.le_of_ble_eq_true rfl) ⟨Nat.zero_le _, Nat.zero_le _⟩ dX3_findBest_50 (hw_eq4 ?_)
        rw [ea]
        refine hj_if_eq F 70 dX3_findBest_53 (by decide) (fun q53 => ?_) (fun q53 => ?_)
        · have hw : ¬ hx_wz a o = true := fun z => by rw [if_pos (of_decide_eq_true z)] at q53; exact absurd q53 (by decide)
          refine hj_iinc F 0 (v := _ + 1) (lv' := [(1, _), (0, _)]) dX3_findBest_70 rfl rfl (by decide) rfl ?_
          refine hj_goto F 28 dX3_findBest_73 (by decide) ?_
          refine hj_lv [0, 1] rfl ?_
          rw [nI_1]
          refine ih (o + 1) _ _ (by omega) (by omega) ?_
          rw [show wl (hx_wz a) (o + 1) = wl (hx_wz a) o from if_neg (fun z => hw z.2)]
          exact hLD
        · have hw : hx_wz a o = true := decide_eq_true (Classical.byContradiction (fun z => q53 (if_neg z)))
          refine hj_aload_n F 1 dX3_findBest_56 rfl rfl ?_
          refine hg_X_planner F hi_X3_findBest_X lk_X3_findBest_35 dX3_findBest_57 ?_
          refine hj_iload_n F 0 dX3_findBest_60 rfl rfl ?_
          refine hj_aload_n F 1 dX3_findBest_61 rfl rfl ?_
          refine hg_X_orders F hi_X3_findBest_X lk_X3_findBest_29 dX3_findBest_62 ?_
          refine hj_iload_n F 0 dX3_findBest_65 rfl rfl ?_
          refine hl_X_orders F (vp_in_nI ho (by decide)) dX3_findBest_66 ?_
          rw [nI_clamp (show o < 2 ^ 31 by omega)]
          refine hj_cVv F (n := 2) (k_P_add hok e14 (by omega) ho) gX3_findBest_X1_add rfl ⟨rfl, rfl⟩ (by decide +kernel) ⟨by decide, by decide⟩ 3 1 rfl rfl (As := [_, _]) rfl rfl (Nat.le_of_ble_eq_true rfl) ⟨Nat.zero_le _, Nat.zero_le _⟩ dX3_findBest_67 (hw_eq3 ?_)
          refine hj_iinc F 0 (v := _ + 1) (lv' := [(1, _), (0, _)]) dX3_findBest_70 rfl rfl (by decide) rfl ?_
          refine hj_goto F 28 dX3_findBest_73 (by decide) ?_
          refine hj_lv [0, 1] rfl ?_
          rw [nI_1]
          refine ih (o + 1) _ _ (by omega) (by omega) ?_
          rw [show wl (hx_wz a) (o + 1) = wl (hx_wz a) o ++ [o] from if_pos ⟨by omega, hw⟩]
          exact LD_add hLD
set_option maxHeartbeats 4000000 in
set_option maxRecDepth 100000 in
theorem k_X_findBest (hok : hw_XOK X) (hsn : ∀ A U H, X A U H → va_Nw (.methodLinkNest RX1 67 yX3_startOf host) U) {n : Nat} (hD : DT g a n) (hPB : ¬ g 6 = 0 → g 6 = 1 ∧ PB g a c n) : hw_Cv l D (WH ad t) (hw_T t) X yX3_findBest wsX3_findBest (hw_rm 20) [.ref (ad 0)] g a c (FB g a n) := by
  refine hw_Cv.mk (lv0 := [(0, _)]) (by decide) rfl (Nat.le_of_ble_eq_true rfl) rfl (WH_ads ad t) hok (fun K F ret => ?_)
  have F : hw_F K l D (WH ad t) (hw_T t) X cX3_findBest RX3 wsX3_findBest (hw_rm 20) 2 := F
  obtain ⟨h1, hn, h2u, h3u, hbu, hou⟩ := id hD
  have hl7 : pb_N a n ≤ 7 := wl_len (hx_wz a) n
  have h76 : ∀ (z : Int32) (g1 : hw_G) (a1 : hw_A), LD (upd (upd g 13 (g 2)) 14 0) (va_up a 13 (cp_n (a 13) (a 3) 10)) (wl (hx_wz (va_up a 13 (cp_n (a 13) (a 3) 10))) n) g1 a1 → hw_J K (WH ad t) 0 0 g1 a1 c [(1, .int z), (0, .ref (ad 0))] 76 [] := by
    intro z g1 a1 hLD
    have hW : wl (hx_wz (va_up a 13 (cp_n (a 13) (a 3) 10))) n = pb_W a n := wl_congr n (fun o ho => by unfold hx_wz; rw [va_up_ne _ _ (by omega)])
    have e14 : g1 14 = nI (pb_N a n) := by rw [hLD.1, pk_us, hW]
    have e3 : g1 3 = nI (g 3).toNatClampNeg := by rw [hLD.1, pk_un (by decide), pk_un (by decide), pk_un (by decide)]; exact h3u.1
    have hpl : ∀ c0 : Int64, c0 = 9223372036854775807 → pl_P (pb_N a n) (g 2).toNatClampNeg (pb_at a n 0) (pb_at a n 4) (pb_at a n 5) (pb_at a n 7) g1 a1 c0 [] ((g 3).toNatClampNeg, pb_bf a, 0) none 0 := by
      intro c0 hc0
      refine ⟨e14, hl7, ?_, by have := h2u.2; omega, fun v hv => ?_, rfl, Nat.zero_le _, fun v hv => (by cases hv), fun i hi => absurd hi (Nat.not_lt_zero _), fun v hv => ?_, fun b hb => ?_, ⟨by have := h3u.2; show (g 3).toNatClampNeg ≤ _; omega, fun b => ?_, Nat.zero_le _⟩, hc0⟩
      · rw [hLD.1, pk_un (by decide), pk_un (by decide), pk_us]; exact h2u.1
      · obtain ⟨hw1, -⟩ := wl_get (w := hx_wz a) (n := n) hv
        obtain ⟨u0, u4, u5, u7⟩ := hou _ hw1
        obtain ⟨-, m6, m7, m8, m9, -⟩ := hLD.2.2 v (by rw [hW]; exact hv)
        rw [hW, va_up_ne _ _ (by omega)] at m6 m7 m8 m9
        have := u0.2
        exact ⟨Nat.lt_succ_of_le u0.2, u4.2, u5.2, u7.2, m6.trans u0.1, m7.trans u4.1, m8.trans u5.1, m9.trans u7.1⟩
      · rw [(hLD.2.2 v (by rw [hW]; exact hv)).2.2.2.2.2]; rfl
      · rw [hLD.2.1 13 (Or.inr (by decide)), vau_s, cp_at, if_pos hb]
        show _ = nI (pb_bf a b)
        rw [show pb_bf a b = (a 3 b).toNatClampNeg from if_pos hb]
        exact (hbu b hb).1
      · show pb_bf a b ≤ _
        by_cases hb : b < 10
        · rw [show pb_bf a b = (a 3 b).toNatClampNeg from if_pos hb]; have := (hbu b hb).2; omega
        · rw [show pb_bf a b = 0 from if_neg hb]; omega
    refine hj_aload_n F 1 dX3_findBest_76 rfl rfl ?_
    refine hg_X_planner F hi_X3_findBest_X lk_X3_findBest_35 dX3_findBest_77 ?_
    refine hj_aload_n F 1 dX3_findBest_80 rfl rfl ?_
    refine hg_X_steamerFree F hi_X3_findBest_X lk_X3_findBest_49 dX3_findBest_81 ?_
    rw [e3]
    refine hj_cVv F (n := 1) (k_P_search hok hsn (N := pb_N a n) (nw := (g 2).toNatClampNeg) (ob := pb_at a n 0) (st := pb_at a n 4) (on := pb_at a n 5) (wt := pb_at a n 7) (bf := pb_bf a) (sf := (g 3).toNatClampNeg) hl7 hpl) gX3_findBest_X1_search rfl ⟨rfl, rfl⟩ (by decide +kernel) ⟨by decide, by decide⟩ 3 1 rfl rfl (As := [_]) rfl rfl (Nat.le_of_ble_eq_true rfl) ⟨Nat.zero_le _, Nat.zero_le _⟩ dX3_findBest_84 ?_
    intro g2 a2 c2 hq
    obtain ⟨hg2, x, y, ha2, -, hR⟩ := hq
    obtain rfl := hg2.symm
    obtain rfl := ha2.symm
    refine hj_aload_n F 1 dX3_findBest_87 rfl rfl ?_
    refine hj_iconst F (v := 1) dX3_findBest_88 (by decide) ?_
    refine hp_X_bestStands F hi_X3_findBest_X lk_X3_findBest_58 rfl rfl dX3_findBest_89 ?_
    have hfr : ∀ k, k < 5 ∨ 13 < k → va_up (va_up a1 11 x) 12 y k = a k := fun k hk => by
      rw [va_up_ne _ _ (by omega), va_up_ne _ _ (by omega), hLD.2.1 k (by omega), va_up_ne _ _ (by omega)]
    refine ret dX3_findBest_92 ⟨fun r h6 h13 h14 => ?_, pk_us, hfr, ?_⟩
    · rw [pk_un h6, hLD.1, pk_un h14, pk_un h14, pk_un h13]
    · have eW : pb_W (va_up (va_up a1 11 x) 12 y) n = pb_W a n := hx_wz_c hn hfr
      have eF : pb_F (upd g1 6 1) (va_up (va_up a1 11 x) 12 y) n = pb_F g a n := pb_F_c hn hfr (by rw [pk_un (by decide), hLD.1, pk_un (by decide), pk_un (by decide), pk_un (by decide)]) (by rw [pk_un (by decide), hLD.1, pk_un (by decide), pk_un (by decide), pk_un (by decide)])
      refine ⟨?_, fun i hi => ?_, ?_⟩
      · show _ = nI (pb_W _ n).length
        rw [eW, pk_un (by decide)]
        exact e14
      · have hi : i < (pb_W (va_up (va_up a1 11 x) 12 y) n).length := hi
        rw [eW] at hi ⊢
        simp (disch := omega) only [va_up_ne]
        exact (hLD.2.2 i (by rw [hW]; exact hi)).1.trans (by rw [hW])
      · rw [eF, vau_s, show pb_N (va_up (va_up a1 11 x) 12 y) n = pb_N a n by show (pb_W _ n).length = _; rw [eW]]
        exact hR
  refine hj_aload_n F 0 dX3_findBest_0 rfl rfl ?_
  refine hg_X_bestStands F hi_X3_findBest_X lk_X3_findBest_58 dX3_findBest_1 ?_
  refine hj_if_eq F 8 dX3_findBest_4 (by decide) (fun q4 => ?_) (fun q4 => ?_)
  · refine hj_aload_n F 0 dX3_findBest_8 rfl rfl ?_
    refine hg_X_planner F hi_X3_findBest_X lk_X3_findBest_35 dX3_findBest_9 ?_
    refine hj_aload_n F 0 dX3_findBest_12 rfl rfl ?_
    refine hg_X_now F hi_X3_findBest_X lk_X3_findBest_46 dX3_findBest_13 ?_
    refine hj_aload_n F 0 dX3_findBest_16 rfl rfl ?_
    refine hg_X_blocks F hi_X3_findBest_X lk_X3_findBest_23 dX3_findBest_17 ?_
    refine hg_B_freeFrom F hi_X3_findBest_B lk_X3_findBest_187 dX3_findBest_20 ?_
    refine hj_cVv F (n := 2) (k_P_clear hok) gX3_findBest_X1_clear rfl ⟨rfl, rfl⟩ (by decide +kernel) ⟨by decide, by decide⟩ 3 1 rfl rfl (As := [_, _]) rfl rfl (Nat.le_of_ble_eq_true rfl) ⟨Nat.zero_le _, Nat.zero_le _⟩ dX3_findBest_23 (hw_eq3 ?_)
    refine hj_iconst F (v := 0) dX3_findBest_26 (by decide) ?_
    refine hj_istore_n F (lv' := [(1, _), (0, _)]) dX3_findBest_27 rfl (by decide) rfl ?_
    refine lp_X_findBest F hok (n := n) (by rw [pk_un (by decide), pk_un (by decide)]; exact h1) hn h76 (n + 1) 0 _ _ (by omega) (Nat.zero_le _) ⟨?_, fun k _ => rfl, fun i hi => absurd hi (Nat.not_lt_zero _)⟩
    rw [upd_uu]
    rfl
  · exact ret dX3_findBest_7 ⟨fun r _ _ _ => rfl, (hPB q4).1, fun k _ => rfl, (hPB q4).2⟩
set_option maxHeartbeats 4000000 in
set_option maxRecDepth 100000 in
theorem k_X_plan (hok : hw_XOK X) (hsn : ∀ A U H, X A U H → va_Nw (.methodLinkNest RX1 67 yX3_startOf host) U) {n : Nat} (hD : DT g a n) (hPB : ¬ g 6 = 0 → g 6 = 1 ∧ PB g a c n) : hw_Cl l D (WH ad t) (hw_T t) X yX3_plan wsX3_plan (hw_rm 21) [.ref (ad 0)] g a c (fun r g' a' c' => r = (if g' 14 = 0 then 0 else c') ∧ FB g a n g' a' c') := by
  refine hw_Cl.mk (lv0 := [(0, _)]) (by decide) rfl (Nat.le_of_ble_eq_true rfl) rfl (WH_ads ad t) hok (fun K F ret => ?_)
  have F : hw_F K l D (WH ad t) (hw_T t) X cX3_plan RX3 wsX3_plan (hw_rm 21) 1 := F
  refine hj_aload_n F 0 dX3_plan_0 rfl rfl ?_
  refine hj_cVv F (n := 0) (k_X_findBest hok hsn hD hPB) gX3_plan_X3_findBest rfl ⟨rfl, rfl⟩ (by decide +kernel) ⟨by decide, by decide⟩ 0 3 rfl rfl (As := []) rfl rfl (Nat.le_of_ble_eq_true rfl) ⟨Nat.zero_le _, Nat.zero_le _⟩ dX3_plan_1 ?_
  intro g1 a1 c1 hFB
  refine hj_aload_n F 0 dX3_plan_4 rfl rfl ?_
  refine hg_X_planner F hi_X3_plan_X lk_X3_plan_35 dX3_plan_5 ?_
  refine hj_cVl F (n := 0) (k_P_bestCost hok) gX3_plan_X1_bestCost rfl ⟨rfl, rfl⟩ (by decide +kernel) ⟨by decide, by decide⟩ 3 1 rfl rfl (As := []) rfl rfl (Nat.le_of_ble_eq_true rfl) ⟨Nat.zero_le _, Nat.zero_le _⟩ dX3_plan_8 (hw_eq4 ?_)
  exact ret dX3_plan_11 ⟨rfl, hFB⟩
set_option maxHeartbeats 4000000 in
set_option maxRecDepth 100000 in
theorem k_X_planned (hok : hw_XOK X) (hsn : ∀ A U H, X A U H → va_Nw (.methodLinkNest RX1 67 yX3_startOf host) U) {n : Nat} (hD : DT g a n) (hPB : ¬ g 6 = 0 → g 6 = 1 ∧ PB g a c n) {k : Int32} : hw_Ci l D (WH ad t) (hw_T t) X yX3_planned wsX3_planned (hw_rm 21) [.ref (ad 0), .int k] g a c (fun r g' a' c' => r = (if k < 0 ∨ nI (pb_N a' n) ≤ k then -1 else a' 5 (a' 12 k.toNatClampNeg).toNatClampNeg) ∧ FB g a n g' a' c') := by
  refine hw_Ci.mk (lv0 := [(0, _), (1, _)]) (by decide) rfl (Nat.le_of_ble_eq_true rfl) rfl (WH_ads ad t) hok (fun K F ret => ?_)
  have F : hw_F K l D (WH ad t) (hw_T t) X cX3_planned RX3 wsX3_planned (hw_rm 21) 2 := F
  refine hj_aload_n F 0 dX3_planned_0 rfl rfl ?_
  refine hj_cVv F (n := 0) (k_X_findBest hok hsn hD hPB) gX3_planned_X3_findBest rfl ⟨rfl, rfl⟩ (by decide +kernel) ⟨by decide, by decide⟩ 0 3 rfl rfl (As := []) rfl rfl (Nat.le_of_ble_eq_true rfl) ⟨Nat.zero_le _, Nat.zero_le _⟩ dX3_planned_1 ?_
  intro g1 a1 c1 hFB
  refine hj_aload_n F 0 dX3_planned_4 rfl rfl ?_
  refine hg_X_planner F hi_X3_planned_X lk_X3_planned_35 dX3_planned_5 ?_
  refine hj_iload_n F 1 dX3_planned_8 rfl rfl ?_
  refine hj_cVi F (n := 1) (k_P_bestAt hok hFB.2.2.2.1 (wl_len _ _) (PB_in hFB.2.2.2)) gX3_planned_X1_bestAt rfl ⟨rfl, rfl⟩ (by decide +kernel) ⟨by decide, by decide⟩ 3 1 rfl rfl (As := [_]) rfl rfl (Nat.le_of_ble_eq_true rfl) ⟨Nat.zero_le _, Nat.zero_le _⟩ dX3_planned_9 (hw_eq4 ?_)
  exact ret dX3_planned_12 rfl ⟨rfl, hFB⟩
/-- the orders go, one behind another -/
def rn_S (ol : Nat → Nat) (g : hw_G) (a : hw_A) : Nat → hw_G × hw_A
  | 0 => (g, a)
  | k + 1 => (sn_g (rn_S ol g a k).1 (rn_S ol g a k).2 (ol k) ((rn_S ol g a k).2 (100 + ol k) 0).toNatClampNeg, sn_a (rn_S ol g a k).1 (rn_S ol g a k).2 (ol k) ((rn_S ol g a k).2 (100 + ol k) 0).toNatClampNeg)
theorem sn_row_ne {g : hw_G} {a : hw_A} {o b j : Nat} (h9 : j ≠ 9) (h10 : j ≠ 10) (h11 : j ≠ 11) : sn_row g a o b j = a (100 + o) j := by
  unfold sn_row
  rw [pk_un h10, pk_un h11, pk_un h9]
theorem sn_a_row {g : hw_G} {a : hw_A} {o b x j : Nat} (hx : x < 200) (h9 : j ≠ 9) (h10 : j ≠ 10) (h11 : j ≠ 11) : sn_a g a o b (100 + x) j = a (100 + x) j := by
  unfold sn_a
  rw [va_up_ne _ _ (by omega), va_up_ne _ _ (by omega), va_up_ne _ _ (by omega)]
  by_cases e : x = o
  · subst e
    rw [vau_s]
    exact sn_row_ne h9 h10 h11
  · rw [va_up_ne _ _ (by omega)]
theorem sn_a_lo {g : hw_G} {a : hw_A} {o b k : Nat} (hk : k < 100) (h3 : k ≠ 3) (h4 : k ≠ 4) : sn_a g a o b k = a k := by
  unfold sn_a
  rw [va_up_ne _ _ (by omega), va_up_ne _ _ h4, va_up_ne _ _ h3, va_up_ne _ _ (by omega)]
theorem sn_g_ne {g : hw_G} {a : hw_A} {o b r : Nat} (h3 : r ≠ 3) (h4 : r ≠ 4) (h6 : r ≠ 6) : sn_g g a o b r = g r := by
  unfold sn_g
  rw [pk_un h6, pk_un h4, pk_un h3]
theorem rn_keep {ol : Nat → Nat} {g : hw_G} {a : hw_A} : ∀ k, (rn_S ol g a k).1 14 = g 14 ∧ (rn_S ol g a k).2 5 = a 5 ∧ (rn_S ol g a k).2 12 = a 12 ∧ ∀ x, x < 200 → (rn_S ol g a k).2 (100 + x) 0 = a (100 + x) 0
  | 0 => ⟨rfl, rfl, rfl, fun _ _ => rfl⟩
  | k + 1 => by
    obtain ⟨h1, h2, h3, h4⟩ := rn_keep (ol := ol) (g := g) (a := a) k
    refine ⟨?_, ?_, ?_, fun x hx => ?_⟩
    · exact (sn_g_ne (a := (rn_S ol g a k).2) (o := ol k) (b := ((rn_S ol g a k).2 (100 + ol k) 0).toNatClampNeg) (by decide) (by decide) (by decide)).trans h1
    · exact (sn_a_lo (by decide) (by decide) (by decide)).trans h2
    · exact (sn_a_lo (by decide) (by decide) (by decide)).trans h3
    · exact (sn_a_row hx (by decide) (by decide) (by decide)).trans (h4 x hx)
set_option maxHeartbeats 4000000 in
set_option maxRecDepth 100000 in
theorem lp_X_run (F : hw_F K l D (WH ad t) (hw_T t) X cX3_run RX3 wsX3_run (hw_rm 21) 3) (hok : hw_XOK X) {N : Nat} {ol : Nat → Nat} (h14 : g 14 = nI N) (hN : N ≤ 7) (hin : ∀ i, i < N → vp_in (a 12 i) 7) (hol : ∀ k, k < N → ol k < 60 ∧ a 5 (a 12 k).toNatClampNeg = nI (ol k) ∧ ub (a (100 + ol k) 0) 9) (hx : hw_J K (WH ad t) 0 0 (rn_S ol g a N).1 (rn_S ol g a N).2 c [(2, .int (nI N)), (1, .int (nI N)), (0, .ref (ad 0))] 38 []) : ∀ m k : Nat, N - k < m → k ≤ N → hw_J K (WH ad t) 0 0 (rn_S ol g a k).1 (rn_S ol g a k).2 c [(2, .int (nI k)), (1, .int (nI N)), (0, .ref (ad 0))] 14 [] := by
  intro m
  induction m with
  | zero => intro k hm; exact absurd hm (Nat.not_lt_zero _)
  | succ m ih =>
    intro k hm hi
    obtain ⟨r14, r5, r12, r0⟩ := rn_keep (ol := ol) (g := g) (a := a) k
    refine hj_iload_n F 0 dX3_run_14 rfl rfl ?_
    refine hj_iload_n F 1 dX3_run_15 rfl rfl ?_
    refine hj_icmp_ge F 38 dX3_run_16 (by decide) (fun q16 => ?_) (fun q16 => ?_)
    · rw [nI_leI (by omega) (by omega)] at q16
      obtain rfl : k = N := by omega
      exact hx
    · rw [nI_leI (by omega) (by omega)] at q16
      have hk : k < N := by omega
      have hol2 : ol k < 200 := by have := (hol k hk).1; omega
      refine hj_aload_n F 2 dX3_run_19 rfl rfl ?_
      refine hj_aload_n F 2 dX3_run_20 rfl rfl ?_
      refine hg_X_planner F hi_X3_run_X lk_X3_run_35 dX3_run_21 ?_
      refine hj_iload_n F 0 dX3_run_24 rfl rfl ?_
      refine hj_cVi F (n := 1) (k_P_bestAt hok (r14.trans h14) hN (by rw [r12]; exact hin)) gX3_run_X1_bestAt rfl ⟨rfl, rfl⟩ (by decide +kernel) ⟨by decide, by decide⟩ 3 1 rfl rfl (As := [_]) rfl rfl (Nat.le_of_ble_eq_true rfl) ⟨Nat.zero_le _, Nat.zero_le _⟩ dX3_run_25 (hw_eq4 ?_)
      rw [if_neg (fun z => z.elim (fun z => absurd z (nI_pos (by omega))) (fun z => by rw [nI_leI (by omega) (by omega)] at z; omega)), nI_clamp (by omega), r12, r5, (hol k hk).2.1]
      refine hj_cVi F (n := 1) (k_X_send hok (o := ol k) (b := ((rn_S ol g a k).2 (100 + ol k) 0).toNatClampNeg) (hol k hk).1 (by rw [r0 _ hol2]; have := (hol k hk).2.2.2; omega) (by rw [r0 _ hol2]; exact (hol k hk).2.2.1)) gX3_run_X3_send rfl ⟨rfl, rfl⟩ (by decide +kernel) ⟨by decide, by decide⟩ 0 3 rfl rfl (As := [_]) rfl rfl (Nat.le_of_ble_eq_true rfl) ⟨Nat.zero_le _, Nat.zero_le _⟩ dX3_run_28 (hw_eq4 ?_)
      refine hj_pop F dX3_run_31 rfl ?_
      refine hj_iinc F 0 (v := _ + 1) (lv' := [(2, _), (1, _), (0, _)]) dX3_run_32 rfl rfl (by decide) rfl ?_
      refine hj_goto F 14 dX3_run_35 (by decide) ?_
      refine hj_lv [0, 1, 2] rfl ?_
      rw [nI_1]
      exact ih (k + 1) (by omega) (by omega)
set_option maxHeartbeats 4000000 in
set_option maxRecDepth 100000 in
theorem k_X_run (hok : hw_XOK X) (hsn : ∀ A U H, X A U H → va_Nw (.methodLinkNest RX1 67 yX3_startOf host) U) {n : Nat} (hD : DT g a n) (hPB : ¬ g 6 = 0 → g 6 = 1 ∧ PB g a c n) : hw_Ci l D (WH ad t) (hw_T t) X yX3_run wsX3_run (hw_rm 21) [.ref (ad 0)] g a c (fun r g' a' c' => ∃ (g1 : hw_G) (a1 : hw_A) (c1 : Int64) (q : Nat × List Nat), FB g a n g1 a1 c1 ∧ pb_F g a n = some q ∧ r = nI (pb_N a n) ∧ g' = (rn_S (fun k => (pb_W a n).getD (q.2.getD k 0) 0) g1 a1 (pb_N a n)).1 ∧ a' = (rn_S (fun k => (pb_W a n).getD (q.2.getD k 0) 0) g1 a1 (pb_N a n)).2 ∧ c' = c1) := by
  refine hw_Ci.mk (lv0 := [(0, _)]) (by decide) rfl (Nat.le_of_ble_eq_true rfl) rfl (WH_ads ad t) hok (fun K F ret => ?_)
  have F : hw_F K l D (WH ad t) (hw_T t) X cX3_run RX3 wsX3_run (hw_rm 21) 3 := F
  obtain ⟨h1, hn, h2u, h3u, hbu, hou⟩ := id hD
  refine hj_aload_n F 0 dX3_run_0 rfl rfl ?_
  refine hj_cVv F (n := 0) (k_X_findBest hok hsn hD hPB) gX3_run_X3_findBest rfl ⟨rfl, rfl⟩ (by decide +kernel) ⟨by decide, by decide⟩ 0 3 rfl rfl (As := []) rfl rfl (Nat.le_of_ble_eq_true rfl) ⟨Nat.zero_le _, Nat.zero_le _⟩ dX3_run_1 ?_
  intro g1 a1 c1 hFB
  obtain ⟨q, hq⟩ := pb_some g a n
  have hfin := hFB
  obtain ⟨f1, f2, f3, f4⟩ := hFB
  have eW : pb_W a1 n = pb_W a n := hx_wz_c hn f3
  have eN : pb_N a1 n = pb_N a n := by show (pb_W a1 n).length = _; rw [eW]
  have eF : pb_F g1 a1 n = pb_F g a n := pb_F_c hn f3 (f1 2 (by decide) (by decide) (by decide)) (f1 3 (by decide) (by decide) (by decide))
  have hin := PB_in f4
  obtain ⟨p14, p5, pR⟩ := f4
  rw [eF, hq] at pR
  rw [eN] at p14 p5 pR hin
  rw [eW] at p5
  refine hj_aload_n F 0 dX3_run_4 rfl rfl ?_
  refine hg_X_planner F hi_X3_run_X lk_X3_run_35 dX3_run_5 ?_
  refine hg_P_size F hi_X3_run_P lk_X3_run_138 dX3_run_8 ?_
  rw [p14]
  refine hj_istore_n F (lv' := [(1, _), (0, _)]) dX3_run_11 rfl (by decide) rfl ?_
  refine hj_iconst F (v := 0) dX3_run_12 (by decide) ?_
  refine hj_istore_n F (lv' := [(2, _), (1, _), (0, _)]) dX3_run_13 rfl (by decide) rfl ?_
  refine lp_X_run F hok (ol := fun k => (pb_W a n).getD (q.2.getD k 0) 0) p14 (wl_len _ _) hin (fun k hk => ?_) ?_ (pb_N a n + 1) 0 (by omega) (Nat.zero_le _)
  · obtain ⟨e1, e2⟩ := pR.2.2.2 k hk
    have hl7 : pb_N a n ≤ 7 := wl_len (hx_wz a) n
    obtain ⟨w1, -⟩ := wl_get (w := hx_wz a) (n := n) e2
    refine ⟨by show (wl (hx_wz a) n).getD _ 0 < 60; omega, ?_, ?_⟩
    · rw [e1, nI_clamp (by omega)]; exact p5 _ e2
    · rw [f3 _ (Or.inr (by omega))]; exact (hou _ w1).1
  · refine hj_iload_n F 1 dX3_run_38 rfl rfl ?_
    exact ret dX3_run_39 rfl ⟨g1, a1, c1, q, hfin, hq, rfl, rfl, rfl, rfl⟩
end SBEST
