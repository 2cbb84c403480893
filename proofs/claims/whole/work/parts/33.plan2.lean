section SPLAN2
theorem hi_X1_tryAll_P : ∀ w ∈ u_ws RX1 TX1 12, w ∈ wsX1_tryAll := fun w h => by
  unfold wsX1_tryAll
  simp only [List.mem_cons, List.mem_append]
  first | (simp only [h, or_true, true_or]; done) | (have h2 : w ∈ wsX10 := h; simp only [h2, or_true, true_or]; done)
theorem lk_X1_tryAll_27 : Cond.fieldLink RX1 27 "HatWorks$Planner" "gone" "[Z" ∈ wsX1_tryAll := List.mem_of_getElem? (i := 2) rfl
theorem lk_X1_tryAll_48 : Cond.fieldLink RX1 48 "HatWorks$Planner" "size" "I" ∈ wsX1_tryAll := List.mem_of_getElem? (i := 1) rfl
theorem hi_X1_tryNext_P : ∀ w ∈ u_ws RX1 TX1 12, w ∈ wsX1_tryNext := fun w h => by
  unfold wsX1_tryNext
  simp only [List.mem_cons, List.mem_append]
  first | (simp only [h, or_true, true_or]; done) | (have h2 : w ∈ wsX10 := h; simp only [h2, or_true, true_or]; done)
theorem ls_X1_tryNext_i : Cond.initialized RX3 ∈ wsX1_tryNext := by decide +kernel
theorem ls_X1_tryNext_startOf : Cond.static yX3_startOf ∈ wsX1_tryNext := by decide +kernel
theorem lk_X1_tryNext_15 : Cond.fieldLink RX1 15 "HatWorks$Planner" "onBlock" "[I" ∈ wsX1_tryNext := List.mem_of_getElem? (i := 1) rfl
theorem lk_X1_tryNext_18 : Cond.fieldLink RX1 18 "HatWorks$Planner" "steams" "[I" ∈ wsX1_tryNext := List.mem_of_getElem? (i := 4) rfl
theorem lk_X1_tryNext_21 : Cond.fieldLink RX1 21 "HatWorks$Planner" "ons" "[I" ∈ wsX1_tryNext := List.mem_of_getElem? (i := 5) rfl
theorem lk_X1_tryNext_24 : Cond.fieldLink RX1 24 "HatWorks$Planner" "weights" "[I" ∈ wsX1_tryNext := List.mem_of_getElem? (i := 6) rfl
theorem lk_X1_tryNext_27 : Cond.fieldLink RX1 27 "HatWorks$Planner" "gone" "[Z" ∈ wsX1_tryNext := List.mem_of_getElem? (i := 9) rfl
theorem lk_X1_tryNext_31 : Cond.fieldLink RX1 31 "HatWorks$Planner" "tried" "[I" ∈ wsX1_tryNext := List.mem_of_getElem? (i := 8) rfl
theorem lk_X1_tryNext_37 : Cond.fieldLink RX1 37 "HatWorks$Planner" "blockFree" "[I" ∈ wsX1_tryNext := List.mem_of_getElem? (i := 2) rfl
theorem lk_X1_tryNext_40 : Cond.fieldLink RX1 40 "HatWorks$Planner" "minute" "I" ∈ wsX1_tryNext := List.mem_of_getElem? (i := 3) rfl
theorem lk_X1_tryNext_44 : Cond.fieldLink RX1 44 "HatWorks$Planner" "leastCost" "J" ∈ wsX1_tryNext := List.mem_of_getElem? (i := 7) rfl
variable {K : hw_K} {l : Launch} {D : va_G} {ad : Nat → Nat} {t : Nat → ClassId} {X : hw_XT} {rm : Room} {g : hw_G} {a : hw_A} {c : Int64}
variable {N nw : Nat} {ob st on wt : Nat → Nat} {host : String}
def pl_All (l : Launch) (D : va_G) (ad : Nat → Nat) (t : Nat → ClassId) (X : hw_XT) (N nw : Nat) (ob st on wt : Nat → Nat) (k : Nat) : Prop := ∀ (g : hw_G) (a : hw_A) (c : Int64) (p : List Nat) (S : Nat × (Nat → Nat) × Nat) (acc : Option (Nat × List Nat)) (d : Nat), d + k = N → pl_P N nw ob st on wt g a c p S acc d → (∀ q, acc = some q → S.2.2 < q.1) → hw_Cv l D (WH ad t) (hw_T t) X yX1_tryAll wsX1_tryAll (hw_rm (2 * k + 3)) [.ref (ad 3), .int (nI d), .int (nI S.1), .long (lN S.2.2)] g a c (pl_Q N g a d (pl_F N nw ob st on wt k p S acc))
set_option maxHeartbeats 4000000 in
set_option maxRecDepth 100000 in
theorem k_P_tryNext (hok : hw_XOK X) (hsn : ∀ A U H, X A U H → va_Nw (.methodLinkNest RX1 67 yX3_startOf host) U) {k d v : Nat} {p : List Nat} {S : Nat × (Nat → Nat) × Nat} {acc : Option (Nat × List Nat)} (hall : pl_All l D ad t X N nw ob st on wt k) (hdk : d + (k + 1) = N) (hp : pl_P N nw ob st on wt g a c p S acc d) (hv : v < N) (hvp : v ∉ p) : hw_Cv l D (WH ad t) (hw_T t) X yX1_tryNext wsX1_tryNext (hw_rm (2 * k + 4)) [.ref (ad 3), .int (nI v), .int (nI d), .int (nI S.1), .long (lN S.2.2)] g a c (pl_Q N g a d (pl_F N nw ob st on wt k (p ++ [v]) (pl_step nw ob st on wt v S) acc)) := by
  refine hw_Cv.mk (lv0 := [(0, _), (1, _), (2, _), (3, _), (4, _)]) (by decide) rfl (Nat.le_of_ble_eq_true rfl) rfl (WH_ads ad t) hok (fun K F ret => ?_)
  have F : hw_F K l D (WH ad t) (hw_T t) X cX1_tryNext RX1 wsX1_tryNext (hw_rm (2 * k + 4)) 12 := F
  obtain ⟨h14, hN, h13, hnw, hdat, hpl, hdN, hpN, hpt, hpg, hpb, hokS, hR⟩ := id hp
  obtain ⟨hob, hst, hon, hwt, e6, e7, e8, e9⟩ := hdat v hv
  obtain ⟨s1, hs1⟩ : ∃ z, pl_st nw S.1 (S.2.1 (ob v)) (st v) = z := ⟨_, rfl⟩
  have hstep : pl_step nw ob st on wt v S = (s1 + st v, va_up S.2.1 (ob v) (s1 + st v + on v), S.2.2 + wt v * (s1 + st v + on v)) := by
    unfold pl_step pl_done
    rw [hs1]
  obtain ⟨hok1, hdone⟩ := pl_ok_s (ob := ob) (st := st) (on := on) (wt := wt) (v := v) hnw (show d ≤ 7 by omega) hokS hst hon hwt
  rw [hstep] at hok1
  unfold pl_done at hdone
  rw [hs1] at hdone
  have hb1 := hokS.1
  have hb2 := hokS.2.1 (ob v)
  have hb3 := hokS.2.2
  have hsum : wt v * (s1 + st v + on v) ≤ 9 * (2000000 + 200 * (d + 1)) := Nat.mul_le_mul hwt hdone
  refine hj_aload_n F 0 dX1_tryNext_0 rfl rfl ?_
  refine hg_P_onBlock F hi_X1_tryNext_P lk_X1_tryNext_15 dX1_tryNext_1 ?_
  refine hj_iload_n F 1 dX1_tryNext_4 rfl rfl ?_
  refine hl_P_onBlock F (vp_in_nI (show v < 7 by omega) (by decide)) dX1_tryNext_5 ?_
  rw [nI_clamp (by omega), e6]
  refine hj_istore F (lv' := [(6, _), (0, _), (1, _), (2, _), (3, _), (4, _)]) dX1_tryNext_6 (by decide) rfl ?_
  refine hj_aload_n F 1 dX1_tryNext_8 rfl rfl ?_
  refine hg_P_blockFree F hi_X1_tryNext_P lk_X1_tryNext_37 dX1_tryNext_9 ?_
  refine hj_iload F 0 dX1_tryNext_12 rfl ?_
  refine hl_P_blockFree F (vp_in_nI hob (by decide)) dX1_tryNext_14 ?_
  rw [nI_clamp (by omega), hpb _ hob]
  refine hj_istore F (lv' := [(7, _), (6, _), (0, _), (1, _), (2, _), (3, _), (4, _)]) dX1_tryNext_15 (by decide) rfl ?_
  refine hj_aload_n F 2 dX1_tryNext_17 rfl rfl ?_
  refine hg_P_minute F hi_X1_tryNext_P lk_X1_tryNext_40 dX1_tryNext_18 ?_
  refine hj_iload_n F 5 dX1_tryNext_21 rfl rfl ?_
  refine hj_iload F 0 dX1_tryNext_22 rfl ?_
  refine hj_aload_n F 2 dX1_tryNext_24 rfl rfl ?_
  refine hg_P_steams F hi_X1_tryNext_P lk_X1_tryNext_18 dX1_tryNext_25 ?_
  refine hj_iload_n F 3 dX1_tryNext_28 rfl rfl ?_
  refine hl_P_steams F (vp_in_nI (show v < 7 by omega) (by decide)) dX1_tryNext_29 ?_
  rw [nI_clamp (by omega), e7]
  refine hj_cNi F (n := 4) (k_X_startOf hok) gX1_tryNext_X3_startOf_n67 hsn ls_X1_tryNext_i ls_X1_tryNext_startOf rfl ⟨rfl, rfl⟩ (by decide +kernel) ⟨by show 1 + 1 ≤ 2 * k + 4; omega, by show 8 + (4 + 11) + 64 * (1) ≤ 64 * (2 * k + 4); omega⟩ (As := [_, _, _, _]) rfl rfl (Nat.le_of_ble_eq_true rfl) ⟨Nat.zero_le _, Nat.zero_le _⟩ dX1_tryNext_30 (hw_eq4 ?_)
  rw [h13, mxi_st (by omega) (by omega) (by omega) (by omega), hs1]
  refine hj_aload_n F 2 dX1_tryNext_33 rfl rfl ?_
  refine hg_P_steams F hi_X1_tryNext_P lk_X1_tryNext_18 dX1_tryNext_34 ?_
  refine hj_iload_n F 3 dX1_tryNext_37 rfl rfl ?_
  refine hl_P_steams F (vp_in_nI (show v < 7 by omega) (by decide)) dX1_tryNext_38 ?_
  rw [nI_clamp (by omega), e7]
  refine hj_iadd F dX1_tryNext_39 ?_
  rw [nI_add]
  refine hj_istore F (lv' := [(8, _), (7, _), (6, _), (0, _), (1, _), (2, _), (3, _), (4, _)]) dX1_tryNext_40 (by decide) rfl ?_
  refine hj_iload F 0 dX1_tryNext_42 rfl ?_
  refine hj_aload_n F 3 dX1_tryNext_44 rfl rfl ?_
  refine hg_P_ons F hi_X1_tryNext_P lk_X1_tryNext_21 dX1_tryNext_45 ?_
  refine hj_iload_n F 4 dX1_tryNext_48 rfl rfl ?_
  refine hl_P_ons F (vp_in_nI (show v < 7 by omega) (by decide)) dX1_tryNext_49 ?_
  rw [nI_clamp (by omega), e8]
  refine hj_iadd F dX1_tryNext_50 ?_
  rw [nI_add]
  refine hj_istore F (lv' := [(9, _), (8, _), (7, _), (6, _), (0, _), (1, _), (2, _), (3, _), (4, _)]) dX1_tryNext_51 (by decide) rfl ?_
  refine hj_lload F 8 dX1_tryNext_53 rfl ?_
  refine hj_aload_n F 4 dX1_tryNext_55 rfl rfl ?_
  refine hg_P_weights F hi_X1_tryNext_P lk_X1_tryNext_24 dX1_tryNext_56 ?_
  refine hj_iload_n F 5 dX1_tryNext_59 rfl rfl ?_
  refine hl_P_weights F (vp_in_nI (show v < 7 by omega) (by decide)) dX1_tryNext_60 ?_
  rw [nI_clamp (by omega), e9]
  refine hj_i2l F dX1_tryNext_61 ?_
  refine hj_iload F 0 dX1_tryNext_62 rfl ?_
  refine hj_i2l F dX1_tryNext_64 ?_
  refine hj_lmul F dX1_tryNext_65 ?_
  refine hj_ladd F dX1_tryNext_66 ?_
  rw [nI_l (by omega), nI_l (by omega), lN_mul, lN_add]
  refine hj_lstore F (lv' := [(10, _), (9, _), (8, _), (7, _), (6, _), (0, _), (1, _), (2, _), (3, _), (4, _)]) dX1_tryNext_67 (by decide) rfl ?_
  refine hj_lload F 0 dX1_tryNext_69 rfl ?_
  refine hj_aload_n F 5 dX1_tryNext_71 rfl rfl ?_
  refine hg_P_leastCost F hi_X1_tryNext_P lk_X1_tryNext_44 dX1_tryNext_72 ?_
  refine hj_lcmp F dX1_tryNext_75 ?_
  refine hj_if_lt F 80 dX1_tryNext_76 (by decide) (fun q76 => ?_) (fun q76 => ?_)
  · rw [lgc_lt] at q76
    refine hj_aload_n F 5 dX1_tryNext_80 rfl rfl ?_
    refine hg_P_tried F hi_X1_tryNext_P lk_X1_tryNext_31 dX1_tryNext_81 ?_
    refine hj_iload_n F 7 dX1_tryNext_84 rfl rfl ?_
    refine hj_iload_n F 6 dX1_tryNext_85 rfl rfl ?_
    refine hs_P_tried F (vp_in_nI (show d < 7 by omega) (by decide)) dX1_tryNext_86 ?_
    refine hj_aload_n F 5 dX1_tryNext_87 rfl rfl ?_
    refine hg_P_gone F hi_X1_tryNext_P lk_X1_tryNext_27 dX1_tryNext_88 ?_
    refine hj_iload_n F 6 dX1_tryNext_91 rfl rfl ?_
    refine hj_iconst F (v := 1) dX1_tryNext_92 (by decide) ?_
    refine hs_P_gone F (vp_in_nI (show v < 7 by omega) (by decide)) dX1_tryNext_93 ?_
    refine hj_aload_n F 5 dX1_tryNext_94 rfl rfl ?_
    refine hg_P_blockFree F hi_X1_tryNext_P lk_X1_tryNext_37 dX1_tryNext_95 ?_
    refine hj_iload F 4 dX1_tryNext_98 rfl ?_
    refine hj_iload F 1 dX1_tryNext_100 rfl ?_
    refine hs_P_blockFree F (vp_in_nI hob (by decide)) dX1_tryNext_102 ?_
    refine hj_aload_n F 5 dX1_tryNext_103 rfl rfl ?_
    refine hj_iload_n F 7 dX1_tryNext_104 rfl rfl ?_
    refine hj_iconst F (v := 1) dX1_tryNext_105 (by decide) ?_
    refine hj_iadd F dX1_tryNext_106 ?_
    rw [nI_1]
    refine hj_iload F 2 dX1_tryNext_107 rfl ?_
    refine hj_lload F 0 dX1_tryNext_109 rfl ?_
    refine hj_cVv F (n := 3) (hall _ _ _ (p ++ [v]) (s1 + st v, va_up S.2.1 (ob v) (s1 + st v + on v), S.2.2 + wt v * (s1 + st v + on v)) acc (d + 1) (by omega) (by
      refine ⟨h14, hN, h13, hnw, fun w hw => ?_, by rw [List.length_append, hpl]; rfl, by omega, fun w hw => ?_, fun i hi => ?_, fun w hw => ?_, fun b hb => ?_, hok1, ?_⟩
      · simp (disch := omega) only [va_up_ne]
        exact hdat w hw
      · rcases List.mem_append.mp hw with h | h
        · exact hpN w h
        · rw [List.mem_singleton.mp h]; exact hv
      · simp (disch := omega) only [va_up_ne, vau_s]
        by_cases e : i = d
        · rw [e, nI_clamp (by omega), pk_us, List.getD_eq_getElem?_getD, List.getElem?_append_right (by omega), hpl]
          simp
        · rw [nI_clamp (by omega), pk_un e, hpt i (by omega), List.getD_eq_getElem?_getD, List.getD_eq_getElem?_getD, List.getElem?_append_left (by omega)]
      · simp (disch := omega) only [va_up_ne, vau_s]
        rw [nI_clamp (by omega), show vp_nar .boolean 1 = 1 from rfl]
        by_cases e : w = v
        · rw [e, pk_us, if_pos (by simp)]
        · rw [pk_un e, hpg w hw]
          by_cases e2 : w ∈ p
          · rw [if_pos e2, if_pos (by simp [e2])]
          · rw [if_neg e2, if_neg (by simp [e2, e])]
      · simp (disch := omega) only [va_up_ne, vau_s]
        rw [nI_clamp (by omega)]
        by_cases e : b = ob v
        · rw [e, pk_us]
          show _ = nI (va_up S.2.1 (ob v) _ (ob v))
          rw [vau_s]
        · rw [pk_un e, hpb b hb]
          show _ = nI (va_up S.2.1 (ob v) _ b)
          rw [va_up_ne _ _ e]
      · simp (disch := omega) only [va_up_ne]
        exact hR) (fun q hq => ?_)) gX1_tryNext_X1_tryAll rfl ⟨rfl, rfl⟩ (by decide +kernel) ⟨by show 2 * k + 3 + 1 ≤ 2 * k + 4; omega, by show 8 + (6 + 11) + 64 * (2 * k + 3) ≤ 64 * (2 * k + 4); omega⟩ 3 1 rfl rfl (As := [_, _, _]) rfl rfl (Nat.le_of_ble_eq_true rfl) ⟨Nat.zero_le _, Nat.zero_le _⟩ dX1_tryNext_111 ?_
    · subst hq
      rw [hR.1, pk_lLT (by omega) (by have := hR.2.1; omega)] at q76
      exact q76
    intro g1 a1 c1 hq9
    obtain ⟨rfl, x, y, rfl, hx, hR9⟩ := hq9
    have hx9 := 0
    refine hj_aload_n F 5 dX1_tryNext_114 rfl rfl ?_
    refine hg_P_blockFree F hi_X1_tryNext_P lk_X1_tryNext_37 dX1_tryNext_115 ?_
    refine hj_iload F 4 dX1_tryNext_118 rfl ?_
    refine hj_iload F 3 dX1_tryNext_120 rfl ?_
    refine hs_P_blockFree F (vp_in_nI hob (by decide)) dX1_tryNext_122 ?_
    refine hj_aload_n F 5 dX1_tryNext_123 rfl rfl ?_
    refine hg_P_gone F hi_X1_tryNext_P lk_X1_tryNext_27 dX1_tryNext_124 ?_
    refine hj_iload_n F 6 dX1_tryNext_127 rfl rfl ?_
    refine hj_iconst F (v := 0) dX1_tryNext_128 (by decide) ?_
    refine hs_P_gone F (vp_in_nI (show v < 7 by omega) (by decide)) dX1_tryNext_129 ?_
    refine ret dX1_tryNext_130 ⟨rfl, x, y, ?_, fun i hi => ?_, ?_⟩
    · funext z
      by_cases e10 : z = 10
      · subst e10
        simp (disch := omega) only [va_up_ne, vau_s, upd_uu]
        rw [show vp_nar .boolean 0 = 0 from rfl, nI_clamp (by omega)]
        exact upd_self _ _ (by rw [hpg v hv, if_neg hvp])
      · by_cases e13 : z = 13
        · subst e13
          simp (disch := omega) only [va_up_ne, vau_s, upd_uu]
          rw [nI_clamp (by omega)]
          exact upd_self _ _ (hpb _ hob)
        · by_cases e12 : z = 12
          · subst e12
            simp (disch := omega) only [va_up_ne, vau_s]
          · by_cases e11 : z = 11
            · subst e11
              simp (disch := omega) only [va_up_ne, vau_s]
            · simp (disch := omega) only [va_up_ne]
    · rw [hx i (by omega)]
      simp (disch := omega) only [va_up_ne, vau_s]
      rw [nI_clamp (by omega), pk_un (by omega)]
    · rw [hstep]
      exact hR9
  · rw [lgc_lt] at q76
    refine ret dX1_tryNext_79 ⟨rfl, a 11, a 12, ?_, fun i _ => rfl, ?_⟩
    · rw [vau_self a 11 rfl, vau_self a 12 rfl]
    · match acc, hR with
      | none, hR =>
        exact absurd (by rw [show c = _ from hR]; exact (pk_lLT (a := S.2.2 + wt v * (s1 + st v + on v)) (b := 9223372036854775807) (by omega) (by decide)).mpr (by omega)) q76
      | some q, hR =>
        have hq : q.1 ≤ S.2.2 + wt v * (s1 + st v + on v) := by
          rw [hR.1, pk_lLT (by omega) (by have := hR.2.1; omega)] at q76
          omega
        rw [hstep, pl_prune _ _ _ q hq]
        exact hR
set_option maxHeartbeats 4000000 in
set_option maxRecDepth 100000 in
theorem k_P_tryAll0 (hok : hw_XOK X) : pl_All l D ad t X N nw ob st on wt 0 := by
  intro g a c p S acc d hdk hp hlt
  refine hw_Cv.mk (lv0 := [(0, _), (1, _), (2, _), (3, _)]) (by decide) rfl (Nat.le_of_ble_eq_true rfl) rfl (WH_ads ad t) hok (fun K F ret => ?_)
  have F : hw_F K l D (WH ad t) (hw_T t) X cX1_tryAll RX1 wsX1_tryAll (hw_rm 3) 6 := F
  obtain ⟨h14, hN, h13, hnw, hdat, hpl, hdN, hpN, hpt, hpg, hpb, hokS, hR⟩ := id hp
  refine hj_iload_n F 1 dX1_tryAll_0 rfl rfl ?_
  refine hj_aload_n F 0 dX1_tryAll_1 rfl rfl ?_
  refine hg_P_size F hi_X1_tryAll_P lk_X1_tryAll_48 dX1_tryAll_2 ?_
  rw [h14]
  refine hj_icmp_lt F 14 dX1_tryAll_5 (by decide) (fun q5 => ?_) (fun q5 => ?_)
  · exact absurd q5 (by rw [nI_ltI (by omega) (by omega)]; omega)
  · refine hj_aload_n F 0 dX1_tryAll_8 rfl rfl ?_
    refine hj_lload_n F 3 dX1_tryAll_9 rfl rfl ?_
    refine hj_cVv F (n := 1) (k_P_keepTried hok h14 hN) gX1_tryAll_X1_keepTried rfl ⟨rfl, rfl⟩ (by decide +kernel) ⟨by decide, by decide⟩ 3 1 rfl rfl (As := [_]) rfl rfl (Nat.le_of_ble_eq_true rfl) ⟨Nat.zero_le _, Nat.zero_le _⟩ dX1_tryAll_10 (hw_eq3 ?_)
    refine ret dX1_tryAll_13 ⟨rfl, a 11, cp_n (a 12) (a 11) N, ?_, fun i _ => rfl, ?_⟩
    · rw [vau_self a 11 rfl]
    · have hacc : pl_F N nw ob st on wt 0 p S acc = some (S.2.2, p) := by
        show pl_acc acc S.2.2 p = _
        match acc, hlt with
        | none, _ => rfl
        | some q, hlt => exact if_pos (hlt q rfl)
      rw [hacc]
      refine ⟨rfl, by have := hokS.2.2; show S.2.2 < _; omega, by show p.length = N; omega, fun i hi => ?_⟩
      refine ⟨by rw [cp_at, if_pos hi]; exact hpt i (by omega), ?_⟩
      have hm : p.getD i 0 ∈ p := by
        rw [List.getD_eq_getElem?_getD, List.getElem?_eq_getElem (show i < p.length by omega)]
        exact List.getElem_mem _
      exact hpN _ hm
set_option maxHeartbeats 4000000 in
set_option maxRecDepth 100000 in
theorem lp_P_tryAll {k : Nat} (F : hw_F K l D (WH ad t) (hw_T t) X cX1_tryAll RX1 wsX1_tryAll (hw_rm (2 * k + 5)) 6) (hok : hw_XOK X) (hsn : ∀ A U H, X A U H → va_Nw (.methodLinkNest RX1 67 yX3_startOf host) U) {d : Nat} {p : List Nat} {S : Nat × (Nat → Nat) × Nat} {acc : Option (Nat × List Nat)} (hall : pl_All l D ad t X N nw ob st on wt k) (hdk : d + (k + 1) = N) (hp : pl_P N nw ob st on wt g a c p S acc d)
    (hend : ∀ (x y : Nat → Int32) (c1 : Int64), (∀ i, i < d → x i = a 11 i) → pl_R N c1 y (pl_L N nw ob st on wt k p S acc N) → hw_J K (WH ad t) 0 0 g (va_up (va_up a 11 x) 12 y) c1 [(5, .int (nI N)), (0, .ref (ad 3)), (1, .int (nI d)), (2, .int (nI S.1)), (3, .long (lN S.2.2))] 51 []) : ∀ (m j : Nat) (x y : Nat → Int32) (c1 : Int64), N - j < m → j ≤ N → (∀ i, i < d → x i = a 11 i) → pl_R N c1 y (pl_L N nw ob st on wt k p S acc j) → hw_J K (WH ad t) 0 0 g (va_up (va_up a 11 x) 12 y) c1 [(5, .int (nI j)), (0, .ref (ad 3)), (1, .int (nI d)), (2, .int (nI S.1)), (3, .long (lN S.2.2))] 17 [] := by
  obtain ⟨h14, hN, h13, hnw, hdat, hpl, hdN, hpN, hpt, hpg, hpb, hokS, hR⟩ := id hp
  have hpj : ∀ (x y : Nat → Int32) (c1 : Int64), (∀ i, i < d → x i = a 11 i) → ∀ {acc1 : Option (Nat × List Nat)}, pl_R N c1 y acc1 → pl_P N nw ob st on wt g (va_up (va_up a 11 x) 12 y) c1 p S acc1 d := by
    intro x y c1 hxl acc1 hR1
    refine ⟨h14, hN, h13, hnw, fun w hw => ?_, hpl, hdN, hpN, fun i hi => ?_, fun w hw => ?_, fun b hb => ?_, hokS, ?_⟩
    · simp (disch := omega) only [va_up_ne]; exact hdat w hw
    · simp (disch := omega) only [va_up_ne, vau_s]; rw [hxl i hi]; exact hpt i hi
    · simp (disch := omega) only [va_up_ne]; exact hpg w hw
    · simp (disch := omega) only [va_up_ne]; exact hpb b hb
    · rw [vau_s]; exact hR1
  intro m
  induction m with
  | zero => intro j x y c1 hm; exact absurd hm (Nat.not_lt_zero _)
  | succ m ih =>
    intro j x y c1 hm hj hxl hRj
    refine hj_iload F 0 dX1_tryAll_17 rfl ?_
    refine hj_aload_n F 1 dX1_tryAll_19 rfl rfl ?_
    refine hg_P_size F hi_X1_tryAll_P lk_X1_tryAll_48 dX1_tryAll_20 ?_
    rw [h14]
    refine hj_icmp_ge F 51 dX1_tryAll_23 (by decide) (fun q23 => ?_) (fun q23 => ?_)
    · rw [nI_leI (by omega) (by omega)] at q23
      obtain rfl : j = N := by omega
      exact hend _ _ _ hxl hRj
    · rw [nI_leI (by omega) (by omega)] at q23
      refine hj_aload_n F 1 dX1_tryAll_26 rfl rfl ?_
      refine hg_P_gone F hi_X1_tryAll_P lk_X1_tryAll_27 dX1_tryAll_27 ?_
      refine hj_iload F 0 dX1_tryAll_30 rfl ?_
      refine hl_P_gone F (vp_in_nI (show j < 7 by omega) (by decide)) dX1_tryAll_32 ?_
      rw [nI_clamp (by omega), show va_up (va_up a 11 x) 12 y 10 = a 10 by simp (disch := omega) only [va_up_ne], hpg j (by omega)]
      refine hj_if_ne F 45 dX1_tryAll_33 (by decide) (fun q33 => ?_) (fun q33 => ?_)
      · have hjp : j ∈ p := Classical.byContradiction (fun z => q33 (if_neg z))
        refine hj_iinc F 0 (v := _ + 1) (lv' := [(5, _), (0, _), (1, _), (2, _), (3, _)]) dX1_tryAll_45 rfl rfl (by decide) rfl ?_
        refine hj_goto F 17 dX1_tryAll_48 (by decide) ?_
        refine hj_lv [0, 1, 2, 3, 4] rfl ?_
        rw [nI_1]
        exact ih (j + 1) x y c1 (by omega) (by omega) hxl (by rw [pl_Ls, if_pos hjp]; exact hRj)
      · have hjp : j ∉ p := fun z => by rw [if_pos z] at q33; exact absurd q33 (by decide)
        refine hj_aload_n F 1 dX1_tryAll_36 rfl rfl ?_
        refine hj_iload F 0 dX1_tryAll_37 rfl ?_
        refine hj_iload_n F 2 dX1_tryAll_39 rfl rfl ?_
        refine hj_iload_n F 3 dX1_tryAll_40 rfl rfl ?_
        refine hj_lload_n F 4 dX1_tryAll_41 rfl rfl ?_
        refine hj_cVv F (n := 4) (k_P_tryNext hok hsn (p := p) (S := S) (acc := pl_L N nw ob st on wt k p S acc j) hall hdk (hpj _ _ _ hxl hRj) (by omega) hjp) gX1_tryAll_X1_tryNext rfl ⟨rfl, rfl⟩ (by decide +kernel) ⟨by show 2 * k + 4 + 1 ≤ 2 * k + 5; omega, by show 8 + (12 + 11) + 64 * (2 * k + 4) ≤ 64 * (2 * k + 5); omega⟩ 3 1 rfl rfl (As := [_, _, _, _]) rfl rfl (Nat.le_of_ble_eq_true rfl) ⟨Nat.zero_le _, Nat.zero_le _⟩ dX1_tryAll_42 ?_
        intro g1 a1 c1 hq9
        obtain ⟨rfl, x1, y1, rfl, hx1, hR1⟩ := hq9
        refine hj_iinc F 0 (v := _ + 1) (lv' := [(5, _), (0, _), (1, _), (2, _), (3, _)]) dX1_tryAll_45 rfl rfl (by decide) rfl ?_
        refine hj_goto F 17 dX1_tryAll_48 (by decide) ?_
        refine hj_lv [0, 1, 2, 3, 4] rfl ?_
        rw [nI_1, show va_up (va_up (va_up (va_up a 11 x) 12 y) 11 x1) 12 y1 = va_up (va_up a 11 x1) 12 y1 by rw [vau_comm _ _ _ (show (12 : Nat) ≠ 11 by decide), bx_uu, bx_uu]]
        exact ih (j + 1) x1 y1 _ (by omega) (by omega) (fun i hi => by rw [hx1 i hi]; simp (disch := omega) only [va_up_ne, vau_s]; exact hxl i hi) (by rw [pl_Ls, if_neg hjp]; exact hR1)
set_option maxHeartbeats 4000000 in
set_option maxRecDepth 100000 in
theorem k_P_tryAllS (hok : hw_XOK X) (hsn : ∀ A U H, X A U H → va_Nw (.methodLinkNest RX1 67 yX3_startOf host) U) {k : Nat} (hall : pl_All l D ad t X N nw ob st on wt k) : pl_All l D ad t X N nw ob st on wt (k + 1) := by
  intro g a c p S acc d hdk hp hlt
  refine hw_Cv.mk (lv0 := [(0, _), (1, _), (2, _), (3, _)]) (by decide) rfl (Nat.le_of_ble_eq_true rfl) rfl (WH_ads ad t) hok (fun K F ret => ?_)
  have F : hw_F K l D (WH ad t) (hw_T t) X cX1_tryAll RX1 wsX1_tryAll (hw_rm (2 * k + 5)) 6 := F
  obtain ⟨h14, hN, h13, hnw, hdat, hpl, hdN, hpN, hpt, hpg, hpb, hokS, hR⟩ := id hp
  refine hj_iload_n F 1 dX1_tryAll_0 rfl rfl ?_
  refine hj_aload_n F 0 dX1_tryAll_1 rfl rfl ?_
  refine hg_P_size F hi_X1_tryAll_P lk_X1_tryAll_48 dX1_tryAll_2 ?_
  rw [h14]
  refine hj_icmp_lt F 14 dX1_tryAll_5 (by decide) (fun q5 => ?_) (fun q5 => ?_)
  · refine hj_iconst F (v := 0) dX1_tryAll_14 (by decide) ?_
    refine hj_istore F (lv' := [(5, _), (0, _), (1, _), (2, _), (3, _)]) dX1_tryAll_15 (by decide) rfl ?_
    have h := lp_P_tryAll F hok hsn hall (by omega) hp (fun x y c1 hxl hR1 => ret dX1_tryAll_51 ⟨rfl, x, y, rfl, hxl, hR1⟩) (N + 1) 0 (a 11) (a 12) c (by omega) (Nat.zero_le _) (fun i _ => rfl) hR
    rw [vau_self a 11 rfl, vau_self a 12 rfl] at h
    exact h
  · exact absurd (by rw [nI_ltI (by omega) (by omega)]; omega) q5
theorem k_P_tryAll (hok : hw_XOK X) (hsn : ∀ A U H, X A U H → va_Nw (.methodLinkNest RX1 67 yX3_startOf host) U) : ∀ k : Nat, pl_All l D ad t X N nw ob st on wt k
  | 0 => k_P_tryAll0 hok
  | k + 1 => k_P_tryAllS hok hsn (k_P_tryAll hok hsn k)
end SPLAN2
