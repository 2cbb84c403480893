section STAPE3
theorem hi_X2_readHat_T : ∀ w ∈ u_ws RX2 TX2 7, w ∈ wsX2_readHat := fun w h => by
  unfold wsX2_readHat
  simp only [List.mem_cons, List.mem_append]
  first | (simp only [h, or_true, true_or]; done) | (have h2 : w ∈ wsX20 := h; simp only [h2, or_true, true_or]; done)
theorem lk_X2_readHat_15 : Cond.fieldLink RX2 15 "HatWorks$Tape" "parts" "[I" ∈ wsX2_readHat := List.mem_of_getElem? (i := 2) rfl
theorem lk_X2_readHat_19 : Cond.fieldLink RX2 19 "HatWorks$Tape" "length" "I" ∈ wsX2_readHat := List.mem_of_getElem? (i := 3) rfl
theorem lk_X2_readHat_26 : Cond.fieldLink RX2 26 "HatWorks$Tape" "fault" "I" ∈ wsX2_readHat := List.mem_of_getElem? (i := 1) rfl
theorem hi_X2_readPart_T : ∀ w ∈ u_ws RX2 TX2 7, w ∈ wsX2_readPart := fun w h => by
  unfold wsX2_readPart
  simp only [List.mem_cons, List.mem_append]
  first | (simp only [h, or_true, true_or]; done) | (have h2 : w ∈ wsX20 := h; simp only [h2, or_true, true_or]; done)
theorem lk_X2_readPart_15 : Cond.fieldLink RX2 15 "HatWorks$Tape" "parts" "[I" ∈ wsX2_readPart := List.mem_of_getElem? (i := 2) rfl
theorem lk_X2_readPart_23 : Cond.fieldLink RX2 23 "HatWorks$Tape" "at" "I" ∈ wsX2_readPart := List.mem_of_getElem? (i := 1) rfl
variable {K : hw_K} {l : Launch} {D : va_G} {ad : Nat → Nat} {t : Nat → ClassId} {X : hw_XT} {rm : Room} {g : hw_G} {a : hw_A} {c : Int64}
variable {τ : Nat → Nat}
/-- what readPart does; n1 .. n4: where blanks, word, blanks, digits end; p: the part; v: its number -/
def tp_PP (g : hw_G) (a : hw_A) (c : Int64) (n1 n2 n3 n4 p : Nat) (v r : Int32) (g' : hw_G) (a' : hw_A) (c' : Int64) : Prop := c' = c ∧
  (if p = 4 ∨ ¬ a 2 p = -1 then r = 0 ∧ a' = a ∧ g' = upd (upd (upd g 8 (nI n2)) 9 1) 10 (nI n1)
   else if n4 = n3 then r = 0 ∧ a' = a ∧ g' = upd (upd (upd g 8 (nI n4)) 9 1) 10 (nI n3)
   else if v < tp_least p ∨ tp_most p < v then r = 0 ∧ a' = a ∧ g' = upd (upd (upd g 8 (nI n4)) 9 2) 10 (nI n3)
   else r = 1 ∧ a' = va_up a 2 (upd (a 2) p v) ∧ g' = upd g 8 (nI n4))
theorem tp_pr_m {b : Nat → Int32} {n1 n2 : Nat} (h : tp_pr b n1 n2 = -1) : tp_pn b n1 n2 = 4 := by
  unfold tp_pr at h
  by_cases e : tp_pn b n1 n2 = 4
  · exact e
  · rw [if_neg e] at h
    have h9 := tp_pn_le b n1 n2
    have h3 : (nI (tp_pn b n1 n2)).toInt = (-1 : Int32).toInt := by rw [h]
    rw [nI_toInt (by omega)] at h3
    have h4 : (-1 : Int32).toInt = -1 := by decide
    omega
theorem tp_pr_p {b : Nat → Int32} {n1 n2 p : Nat} {pr : Int32} (h : tp_pr b n1 n2 = pr) (ep : tp_pn b n1 n2 = p) (hq : ¬ pr = -1) : p < 4 ∧ nI p = pr := by
  subst ep
  have h9 := tp_pn_le b n1 n2
  unfold tp_pr at h
  by_cases e : tp_pn b n1 n2 = 4
  · rw [if_pos e] at h
    exact absurd h.symm hq
  · rw [if_neg e] at h
    exact ⟨by omega, h⟩
set_option maxHeartbeats 4000000 in
set_option maxRecDepth 100000 in
theorem k_T_readPart (hok : hw_XOK X) (hs : ∀ A U H, X A U H → sx τ A U H) (hs2 : ∀ A U H, X A U H → sx2 τ U) (hsT : ∀ A U H, X A U H → sxT τ A U H) {L n n1 n2 n3 n4 p : Nat} {v : Int32} (hL : g 7 = nI L) (hL1 : L ≤ 100) (hn : g 8 = nI n) (hnL : n ≤ L) (e1 : skp (tp_bl (a 1)) L n = n1) (e2 : skp (tp_le (a 1)) L n1 = n2) (ep : tp_pn (a 1) n1 n2 = p) (e3 : skp (tp_bl (a 1)) L n2 = n3) (e4 : skp (tp_di (a 1)) L n3 = n4) (ev : tp_rv (a 1) L n3 0 = v) : hw_Ci l D (WH ad t) (hw_T t) X yX2_readPart wsX2_readPart (hw_rm 7) [.ref (ad 1)] g a c (tp_PP g a c n1 n2 n3 n4 p v) := by
  refine hw_Ci.mk (lv0 := [(0, _)]) (by decide) rfl (Nat.le_of_ble_eq_true rfl) rfl (WH_ads ad t) hok (fun K F ret => ?_)
  have F : hw_F K l D (WH ad t) (hw_T t) X cX2_readPart RX2 wsX2_readPart (hw_rm 7) 5 := F
  have h1 : n ≤ n1 ∧ n1 ≤ L := by rw [← e1]; exact skp_ge _ hnL
  have h2 : n1 ≤ n2 ∧ n2 ≤ L := by rw [← e2]; exact skp_ge _ h1.2
  have h3 : n2 ≤ n3 ∧ n3 ≤ L := by rw [← e3]; exact skp_ge _ h2.2
  have h4 : n3 ≤ n4 ∧ n4 ≤ L := by rw [← e4]; exact skp_ge _ h3.2
  refine hj_aload_n F 0 dX2_readPart_0 rfl rfl ?_
  refine hj_cVv F (n := 0) (k_T_skipBlanks hok hL hL1 hn hnL) gX2_readPart_X2_skipBlanks rfl ⟨rfl, rfl⟩ (by decide +kernel) ⟨by decide, by decide⟩ 1 2 rfl rfl (As := []) rfl rfl (Nat.le_of_ble_eq_true rfl) ⟨Nat.zero_le _, Nat.zero_le _⟩ dX2_readPart_1 (hw_eq3 ?_)
  rw [e1]
  refine hj_aload_n F 0 dX2_readPart_4 rfl rfl ?_
  refine hg_T_at F hi_X2_readPart_T lk_X2_readPart_23 dX2_readPart_5 ?_
  rw [pk_us]
  refine hj_istore_n F (lv' := [(1, _), (0, _)]) dX2_readPart_8 rfl (by decide) rfl ?_
  refine hj_aload_n F 1 dX2_readPart_9 rfl rfl ?_
  refine hj_cVv F (n := 0) (k_T_skipLetters hok (by rw [pk_un (by decide)]; exact hL) hL1 pk_us h1.2) gX2_readPart_X2_skipLetters rfl ⟨rfl, rfl⟩ (by decide +kernel) ⟨by decide, by decide⟩ 1 2 rfl rfl (As := []) rfl rfl (Nat.le_of_ble_eq_true rfl) ⟨Nat.zero_le _, Nat.zero_le _⟩ dX2_readPart_10 (hw_eq3 ?_)
  rw [e2, upd_uu]
  refine hj_aload_n F 1 dX2_readPart_13 rfl rfl ?_
  refine hj_iload_n F 0 dX2_readPart_14 rfl rfl ?_
  refine hj_cVi F (n := 1) (k_T_partNamed hok hs hs2 (n1 := n1) (n2 := n2) pk_us h2.1 (by omega)) gX2_readPart_X2_partNamed rfl ⟨rfl, rfl⟩ (by decide +kernel) ⟨by decide, by decide⟩ 1 2 rfl rfl (As := [_]) rfl rfl (Nat.le_of_ble_eq_true rfl) ⟨Nat.zero_le _, Nat.zero_le _⟩ dX2_readPart_15 (hw_eq4 ?_)
  generalize hpr : tp_pr (a 1) n1 n2 = pr
  refine hj_istore_n F (lv' := [(2, _), (1, _), (0, _)]) dX2_readPart_18 rfl (by decide) rfl ?_
  refine hj_iload_n F 0 dX2_readPart_19 rfl rfl ?_
  refine hj_iconst F (v := -1) dX2_readPart_20 (by decide) ?_
  refine hj_icmp_eq F 34 dX2_readPart_21 (by decide) (fun q21 => ?_) (fun q21 => ?_)
  · have hp4 : p = 4 := by rw [← ep]; exact tp_pr_m (hpr.trans q21)
    refine hj_aload_n F 2 dX2_readPart_34 rfl rfl ?_
    refine hj_iconst F (v := 1) dX2_readPart_35 (by decide) ?_
    refine hj_iload_n F 1 dX2_readPart_36 rfl rfl ?_
    refine hj_cVv F (n := 2) (k_T_blame hok) gX2_readPart_X2_blame rfl ⟨rfl, rfl⟩ (by decide +kernel) ⟨by decide, by decide⟩ 1 2 rfl rfl (As := [_, _]) rfl rfl (Nat.le_of_ble_eq_true rfl) ⟨Nat.zero_le _, Nat.zero_le _⟩ dX2_readPart_37 (hw_eq3 ?_)
    refine hj_iconst F (v := 0) dX2_readPart_40 (by decide) ?_
    exact ret dX2_readPart_41 rfl ⟨rfl, by rw [if_pos (Or.inl hp4)]; exact ⟨rfl, rfl, rfl⟩⟩
  · obtain ⟨hp, rfl⟩ := tp_pr_p hpr ep q21
    have hp0 := hp
    refine hj_aload_n F 2 dX2_readPart_24 rfl rfl ?_
    refine hg_T_parts F hi_X2_readPart_T lk_X2_readPart_15 dX2_readPart_25 ?_
    refine hj_iload_n F 0 dX2_readPart_28 rfl rfl ?_
    refine hl_T_parts F (vp_in_nI hp (by decide)) dX2_readPart_29 ?_
    refine hj_iconst F (v := -1) dX2_readPart_30 (by decide) ?_
    refine hj_icmp_eq F 42 dX2_readPart_31 (by decide) (fun q31 => ?_) (fun q31 => ?_)
    · rw [nI_clamp (by omega)] at q31
      refine hj_aload_n F 2 dX2_readPart_42 rfl rfl ?_
      refine hj_cVv F (n := 0) (k_T_skipBlanks hok (by rw [pk_un (by decide)]; exact hL) hL1 pk_us h2.2) gX2_readPart_X2_skipBlanks rfl ⟨rfl, rfl⟩ (by decide +kernel) ⟨by decide, by decide⟩ 1 2 rfl rfl (As := []) rfl rfl (Nat.le_of_ble_eq_true rfl) ⟨Nat.zero_le _, Nat.zero_le _⟩ dX2_readPart_43 (hw_eq3 ?_)
      rw [e3, upd_uu]
      refine hj_aload_n F 2 dX2_readPart_46 rfl rfl ?_
      refine hg_T_at F hi_X2_readPart_T lk_X2_readPart_23 dX2_readPart_47 ?_
      rw [pk_us]
      refine hj_istore_n F (lv' := [(3, _), (2, _), (1, _), (0, _)]) dX2_readPart_50 rfl (by decide) rfl ?_
      refine hj_aload_n F 3 dX2_readPart_51 rfl rfl ?_
      refine hj_cVi F (n := 0) (k_T_readNumber hok (by rw [pk_un (by decide)]; exact hL) hL1 pk_us h3.2) gX2_readPart_X2_readNumber rfl ⟨rfl, rfl⟩ (by decide +kernel) ⟨by decide, by decide⟩ 1 2 rfl rfl (As := []) rfl rfl (Nat.le_of_ble_eq_true rfl) ⟨Nat.zero_le _, Nat.zero_le _⟩ dX2_readPart_52 (hw_eq4 ?_)
      rw [e4, ev, upd_uu]
      refine hj_istore F (lv' := [(4, _), (3, _), (2, _), (1, _), (0, _)]) dX2_readPart_55 (by decide) rfl ?_
      refine hj_aload_n F 4 dX2_readPart_57 rfl rfl ?_
      refine hg_T_at F hi_X2_readPart_T lk_X2_readPart_23 dX2_readPart_58 ?_
      refine hj_iload_n F 1 dX2_readPart_61 rfl rfl ?_
      refine hj_icmp_ne F 73 dX2_readPart_62 (by decide) (fun q62 => ?_) (fun q62 => ?_)
      · rw [pk_us, nI_eq (by omega) (by omega)] at q62
        refine hj_iload F 0 dX2_readPart_73 rfl ?_
        refine hj_gets F (fun A U H h => (hsT A U H h).1) (List.mem_of_getElem? (i := 3) rfl) dX2_readPart_75 ?_
        refine hj_iload_n F 2 dX2_readPart_78 rfl rfl ?_
        refine hj_ti F (fun A U H h => (hsT A U H h).2.1) (vp_in_nI hp (by decide)) dX2_readPart_79 ?_
        refine hj_icmp_lt F 93 dX2_readPart_80 (by decide) (fun q80 => ?_) (fun q80 => ?_)
        · have q80 : v < tp_least (nI p).toNatClampNeg := q80
          rw [nI_clamp (by omega)] at q80
          refine hj_aload_n F 4 dX2_readPart_93 rfl rfl ?_
          refine hj_iconst F (v := 2) dX2_readPart_94 (by decide) ?_
          refine hj_iload_n F 1 dX2_readPart_95 rfl rfl ?_
          refine hj_cVv F (n := 2) (k_T_blame hok) gX2_readPart_X2_blame rfl ⟨rfl, rfl⟩ (by decide +kernel) ⟨by decide, by decide⟩ 1 2 rfl rfl (As := [_, _]) rfl rfl (Nat.le_of_ble_eq_true rfl) ⟨Nat.zero_le _, Nat.zero_le _⟩ dX2_readPart_96 (hw_eq3 ?_)
          refine hj_iconst F (v := 0) dX2_readPart_99 (by decide) ?_
          exact ret dX2_readPart_100 rfl ⟨rfl, by rw [if_neg (fun z => z.elim (by omega) (fun z => z q31)), if_neg q62, if_pos (Or.inl q80)]; exact ⟨rfl, rfl, rfl⟩⟩
        · have q80 : ¬ v < tp_least (nI p).toNatClampNeg := q80
          rw [nI_clamp (by omega)] at q80
          refine hj_iload F 0 dX2_readPart_83 rfl ?_
          refine hj_gets F (fun A U H h => (hsT A U H h).2.2.1) (List.mem_of_getElem? (i := 4) rfl) dX2_readPart_85 ?_
          refine hj_iload_n F 2 dX2_readPart_88 rfl rfl ?_
          refine hj_ti F (fun A U H h => (hsT A U H h).2.2.2) (vp_in_nI hp (by decide)) dX2_readPart_89 ?_
          refine hj_icmp_le F 101 dX2_readPart_90 (by decide) (fun q90 => ?_) (fun q90 => ?_)
          · have q90 : v ≤ tp_most (nI p).toNatClampNeg := q90
            rw [nI_clamp (by omega)] at q90
            refine hj_aload_n F 4 dX2_readPart_101 rfl rfl ?_
            refine hg_T_parts F hi_X2_readPart_T lk_X2_readPart_15 dX2_readPart_102 ?_
            refine hj_iload_n F 2 dX2_readPart_105 rfl rfl ?_
            refine hj_iload F 0 dX2_readPart_106 rfl ?_
            refine hs_T_parts F (vp_in_nI hp (by decide)) dX2_readPart_108 ?_
            refine hj_iconst F (v := 1) dX2_readPart_109 (by decide) ?_
            exact ret dX2_readPart_110 rfl ⟨rfl, by rw [if_neg (fun z => z.elim (by omega) (fun z => z q31)), if_neg q62, if_neg (fun z => z.elim q80 (fun z => absurd q90 (Int32.not_le.mpr z))), nI_clamp (by omega)]; exact ⟨rfl, rfl, rfl⟩⟩
          · have q90 : ¬ v ≤ tp_most (nI p).toNatClampNeg := q90
            rw [nI_clamp (by omega)] at q90
            refine hj_aload_n F 4 dX2_readPart_93 rfl rfl ?_
            refine hj_iconst F (v := 2) dX2_readPart_94 (by decide) ?_
            refine hj_iload_n F 1 dX2_readPart_95 rfl rfl ?_
            refine hj_cVv F (n := 2) (k_T_blame hok) gX2_readPart_X2_blame rfl ⟨rfl, rfl⟩ (by decide +kernel) ⟨by decide, by decide⟩ 1 2 rfl rfl (As := [_, _]) rfl rfl (Nat.le_of_ble_eq_true rfl) ⟨Nat.zero_le _, Nat.zero_le _⟩ dX2_readPart_96 (hw_eq3 ?_)
            refine hj_iconst F (v := 0) dX2_readPart_99 (by decide) ?_
            exact ret dX2_readPart_100 rfl ⟨rfl, by rw [if_neg (fun z => z.elim (by omega) (fun z => z q31)), if_neg q62, if_pos (Or.inr (Int32.not_le.mp q90))]; exact ⟨rfl, rfl, rfl⟩⟩
      · rw [pk_us, nI_eq (by omega) (by omega)] at q62
        refine hj_aload_n F 4 dX2_readPart_65 rfl rfl ?_
        refine hj_iconst F (v := 1) dX2_readPart_66 (by decide) ?_
        refine hj_iload_n F 1 dX2_readPart_67 rfl rfl ?_
        refine hj_cVv F (n := 2) (k_T_blame hok) gX2_readPart_X2_blame rfl ⟨rfl, rfl⟩ (by decide +kernel) ⟨by decide, by decide⟩ 1 2 rfl rfl (As := [_, _]) rfl rfl (Nat.le_of_ble_eq_true rfl) ⟨Nat.zero_le _, Nat.zero_le _⟩ dX2_readPart_68 (hw_eq3 ?_)
        refine hj_iconst F (v := 0) dX2_readPart_71 (by decide) ?_
        exact ret dX2_readPart_72 rfl ⟨rfl, by rw [if_neg (fun z => z.elim (by omega) (fun z => z q31)), if_pos q62]; exact ⟨rfl, rfl, rfl⟩⟩
    · rw [nI_clamp (by omega)] at q31
      refine hj_aload_n F 2 dX2_readPart_34 rfl rfl ?_
      refine hj_iconst F (v := 1) dX2_readPart_35 (by decide) ?_
      refine hj_iload_n F 1 dX2_readPart_36 rfl rfl ?_
      refine hj_cVv F (n := 2) (k_T_blame hok) gX2_readPart_X2_blame rfl ⟨rfl, rfl⟩ (by decide +kernel) ⟨by decide, by decide⟩ 1 2 rfl rfl (As := [_, _]) rfl rfl (Nat.le_of_ble_eq_true rfl) ⟨Nat.zero_le _, Nat.zero_le _⟩ dX2_readPart_37 (hw_eq3 ?_)
      refine hj_iconst F (v := 0) dX2_readPart_40 (by decide) ?_
      exact ret dX2_readPart_41 rfl ⟨rfl, by rw [if_pos (Or.inr q31)]; exact ⟨rfl, rfl, rfl⟩⟩
/-- the reading of a hat from n on: fault, place, parts; k: how many parts at most -/
def tp_hat (b : Nat → Int32) (L : Nat) : Nat → Nat → (Nat → Int32) → Int32 × Int32 × (Nat → Int32)
  | 0, _, ps => (0, -1, ps)
  | k + 1, n, ps =>
    if tp_pn b (skp (tp_bl b) L n) (skp (tp_le b) L (skp (tp_bl b) L n)) = 4 ∨ ¬ ps (tp_pn b (skp (tp_bl b) L n) (skp (tp_le b) L (skp (tp_bl b) L n))) = -1 then (1, nI (skp (tp_bl b) L n), ps)
    else if skp (tp_di b) L (skp (tp_bl b) L (skp (tp_le b) L (skp (tp_bl b) L n))) = skp (tp_bl b) L (skp (tp_le b) L (skp (tp_bl b) L n)) then (1, nI (skp (tp_bl b) L (skp (tp_le b) L (skp (tp_bl b) L n))), ps)
    else if tp_rv b L (skp (tp_bl b) L (skp (tp_le b) L (skp (tp_bl b) L n))) 0 < tp_least (tp_pn b (skp (tp_bl b) L n) (skp (tp_le b) L (skp (tp_bl b) L n))) ∨ tp_most (tp_pn b (skp (tp_bl b) L n) (skp (tp_le b) L (skp (tp_bl b) L n))) < tp_rv b L (skp (tp_bl b) L (skp (tp_le b) L (skp (tp_bl b) L n))) 0 then (2, nI (skp (tp_bl b) L (skp (tp_le b) L (skp (tp_bl b) L n))), ps)
    else
      if L ≤ skp (tp_bl b) L (skp (tp_di b) L (skp (tp_bl b) L (skp (tp_le b) L (skp (tp_bl b) L n)))) then (0, -1, upd ps (tp_pn b (skp (tp_bl b) L n) (skp (tp_le b) L (skp (tp_bl b) L n))) (tp_rv b L (skp (tp_bl b) L (skp (tp_le b) L (skp (tp_bl b) L n))) 0))
      else if b (skp (tp_bl b) L (skp (tp_di b) L (skp (tp_bl b) L (skp (tp_le b) L (skp (tp_bl b) L n))))) = 44 then tp_hat b L k (skp (tp_bl b) L (skp (tp_di b) L (skp (tp_bl b) L (skp (tp_le b) L (skp (tp_bl b) L n)))) + 1) (upd ps (tp_pn b (skp (tp_bl b) L n) (skp (tp_le b) L (skp (tp_bl b) L n))) (tp_rv b L (skp (tp_bl b) L (skp (tp_le b) L (skp (tp_bl b) L n))) 0))
      else (1, nI (skp (tp_bl b) L (skp (tp_di b) L (skp (tp_bl b) L (skp (tp_le b) L (skp (tp_bl b) L n))))), upd ps (tp_pn b (skp (tp_bl b) L n) (skp (tp_le b) L (skp (tp_bl b) L n))) (tp_rv b L (skp (tp_bl b) L (skp (tp_le b) L (skp (tp_bl b) L n))) 0))
theorem tp_hat_s {b : Nat → Int32} {L k n n1 n2 n3 n4 n5 p : Nat} {ps : Nat → Int32} {v : Int32} (e1 : skp (tp_bl b) L n = n1) (e2 : skp (tp_le b) L n1 = n2) (ep : tp_pn b n1 n2 = p) (e3 : skp (tp_bl b) L n2 = n3) (e4 : skp (tp_di b) L n3 = n4) (ev : tp_rv b L n3 0 = v) (e5 : skp (tp_bl b) L n4 = n5) :
    tp_hat b L (k + 1) n ps = if p = 4 ∨ ¬ ps p = -1 then (1, nI n1, ps) else if n4 = n3 then (1, nI n3, ps) else if v < tp_least p ∨ tp_most p < v then (2, nI n3, ps) else if L ≤ n5 then (0, -1, upd ps p v) else if b n5 = 44 then tp_hat b L k (n5 + 1) (upd ps p v) else (1, nI n5, upd ps p v) := by
  subst e1; subst e2; subst ep; subst e3; subst e4; subst ev; subst e5
  rfl
def tp_G (g : hw_G) (l x f p : Int32) : hw_G := upd (upd (upd (upd g 7 l) 8 x) 9 f) 10 p
theorem tp_G8 (g : hw_G) (l x f p y : Int32) : upd (tp_G g l x f p) 8 y = tp_G g l y f p := by
  unfold tp_G
  rw [upd_comm _ _ _ (show (10 : Nat) ≠ 8 by decide), upd_comm _ _ _ (show (9 : Nat) ≠ 8 by decide), upd_uu]
theorem tp_G9 (g : hw_G) (l x f p y z : Int32) : upd (upd (tp_G g l x f p) 9 y) 10 z = tp_G g l x y z := by
  unfold tp_G
  rw [upd_comm _ _ _ (show (10 : Nat) ≠ 9 by decide), upd_uu, upd_uu]
set_option maxHeartbeats 4000000 in
set_option maxRecDepth 100000 in
theorem l0_T_readHat (F : hw_F K l D (WH ad t) (hw_T t) X cX2_readHat RX2 wsX2_readHat (hw_rm 8) 4) {z1 k3 : Int32} (h44 : ∀ k3 m2 : Int32, hw_J K (WH ad t) 0 0 g a c [(3, .int k3), (2, .int m2), (0, .ref (ad 1)), (1, .int z1)] 44 []) : hw_J K (WH ad t) 0 0 g a c [(3, .int k3), (2, .int 0), (0, .ref (ad 1)), (1, .int z1)] 9 [] := by
  refine hj_iload_n F 0 dX2_readHat_9 rfl rfl ?_
  refine hj_iconst F (v := 4) dX2_readHat_10 (by decide) ?_
  refine hj_icmp_gt F 44 dX2_readHat_11 (by decide) (fun q11 => ?_) (fun q11 => ?_)
  · exact h44 _ _
  · refine hj_iload_n F 1 dX2_readHat_14 rfl rfl ?_
    refine hj_if_eq F 44 dX2_readHat_15 (by decide) (fun q15 => ?_) (fun q15 => ?_)
    · exact h44 _ _
    · exact absurd rfl q15
set_option maxHeartbeats 4000000 in
set_option maxRecDepth 100000 in
theorem l1_T_readHat (F : hw_F K l D (WH ad t) (hw_T t) X cX2_readHat RX2 wsX2_readHat (hw_rm 8) 4) {z1 k3 m2 : Int32} (h44 : ∀ k3 m2 : Int32, hw_J K (WH ad t) 0 0 g a c [(3, .int k3), (2, .int m2), (0, .ref (ad 1)), (1, .int z1)] 44 []) : hw_J K (WH ad t) 0 0 g a c [(3, .int k3), (2, .int m2), (0, .ref (ad 1)), (1, .int z1)] 22 [.int 0] := by
  refine hj_if_eq F 36 dX2_readHat_22 (by decide) (fun q22 => ?_) (fun q22 => ?_)
  · refine hj_iconst F (v := 0) dX2_readHat_36 (by decide) ?_
    refine hj_istore_n F (lv' := [(2, _), (3, _), (0, _), (1, _)]) dX2_readHat_37 rfl (by decide) rfl ?_
    refine hj_iinc F 1 (v := _ + 1) (lv' := [(3, _), (2, _), (0, _), (1, _)]) dX2_readHat_38 rfl rfl (by decide) rfl ?_
    refine hj_goto F 9 dX2_readHat_41 (by decide) ?_
    refine hj_lv [0, 1, 2, 3] rfl ?_
    exact l0_T_readHat F h44
  · exact absurd rfl q22
set_option maxHeartbeats 4000000 in
set_option maxRecDepth 100000 in
theorem l2_T_readHat (F : hw_F K l D (WH ad t) (hw_T t) X cX2_readHat RX2 wsX2_readHat (hw_rm 8) 4) {z1 k3 m2 : Int32} (h44 : ∀ k3 m2 : Int32, hw_J K (WH ad t) 0 0 g a c [(3, .int k3), (2, .int m2), (0, .ref (ad 1)), (1, .int z1)] 44 []) : hw_J K (WH ad t) 0 0 g a c [(3, .int k3), (2, .int m2), (0, .ref (ad 1)), (1, .int z1)] 29 [.int 0] := by
  refine hj_if_eq F 36 dX2_readHat_29 (by decide) (fun q29 => ?_) (fun q29 => ?_)
  · refine hj_iconst F (v := 0) dX2_readHat_36 (by decide) ?_
    refine hj_istore_n F (lv' := [(2, _), (3, _), (0, _), (1, _)]) dX2_readHat_37 rfl (by decide) rfl ?_
    refine hj_iinc F 1 (v := _ + 1) (lv' := [(3, _), (2, _), (0, _), (1, _)]) dX2_readHat_38 rfl rfl (by decide) rfl ?_
    refine hj_goto F 9 dX2_readHat_41 (by decide) ?_
    refine hj_lv [0, 1, 2, 3] rfl ?_
    exact l0_T_readHat F h44
  · exact absurd rfl q29
set_option maxHeartbeats 4000000 in
set_option maxRecDepth 100000 in
theorem lp_T_readHat (F : hw_F K l D (WH ad t) (hw_T t) X cX2_readHat RX2 wsX2_readHat (hw_rm 8) 4) (hok : hw_XOK X) (hs : ∀ A U H, X A U H → sx τ A U H) (hs2 : ∀ A U H, X A U H → sx2 τ U) (hsT : ∀ A U H, X A U H → sxT τ A U H) {z1 : Int32} {L : Nat} (hL1 : L ≤ 100) : ∀ (k n : Nat) (ps : Nat → Int32), k ≤ 5 → n ≤ L → (∀ x k3 m2 : Int32, hw_J K (WH ad t) 0 0 (tp_G g (nI L) x (tp_hat (a 1) L k n ps).1 (tp_hat (a 1) L k n ps).2.1) (va_up a 2 (tp_hat (a 1) L k n ps).2.2) c [(3, .int k3), (2, .int m2), (0, .ref (ad 1)), (1, .int z1)] 44 []) → hw_J K (WH ad t) 0 0 (tp_G g (nI L) (nI n) 0 (-1)) (va_up a 2 ps) c [(3, .int (nI (5 - k))), (2, .int 1), (0, .ref (ad 1)), (1, .int z1)] 9 [] := by
  intro k
  induction k with
  | zero =>
    intro n ps hk hnL h44
    refine hj_iload_n F 0 dX2_readHat_9 rfl rfl ?_
    refine hj_iconst F (v := 4) dX2_readHat_10 (by decide) ?_
    refine hj_icmp_gt F 44 dX2_readHat_11 (by decide) (fun q11 => ?_) (fun q11 => ?_)
    · exact h44 _ _ _
    · exact absurd (by decide) q11
  | succ k ih =>
    intro n ps hk hnL h44
    obtain ⟨n1, e1⟩ : ∃ z, skp (tp_bl (a 1)) L n = z := ⟨_, rfl⟩
    obtain ⟨n2, e2⟩ : ∃ z, skp (tp_le (a 1)) L n1 = z := ⟨_, rfl⟩
    obtain ⟨p, ep⟩ : ∃ z, tp_pn (a 1) n1 n2 = z := ⟨_, rfl⟩
    obtain ⟨n3, e3⟩ : ∃ z, skp (tp_bl (a 1)) L n2 = z := ⟨_, rfl⟩
    obtain ⟨n4, e4⟩ : ∃ z, skp (tp_di (a 1)) L n3 = z := ⟨_, rfl⟩
    obtain ⟨v, ev⟩ : ∃ z, tp_rv (a 1) L n3 0 = z := ⟨_, rfl⟩
    obtain ⟨n5, e5⟩ : ∃ z, skp (tp_bl (a 1)) L n4 = z := ⟨_, rfl⟩
    have h1 : n ≤ n1 ∧ n1 ≤ L := by rw [← e1]; exact skp_ge _ hnL
    have h2 : n1 ≤ n2 ∧ n2 ≤ L := by rw [← e2]; exact skp_ge _ h1.2
    have h3 : n2 ≤ n3 ∧ n3 ≤ L := by rw [← e3]; exact skp_ge _ h2.2
    have h4 : n3 ≤ n4 ∧ n4 ≤ L := by rw [← e4]; exact skp_ge _ h3.2
    have h5 : n4 ≤ n5 ∧ n5 ≤ L := by rw [← e5]; exact skp_ge _ h4.2
    rw [tp_hat_s e1 e2 ep e3 e4 ev e5] at h44
    have hs5 : ∀ hbad : ¬ (p = 4 ∨ ¬ ps p = -1), ∀ hd : ¬ n4 = n3, ∀ hv : ¬ (v < tp_least p ∨ tp_most p < v), hw_J K (WH ad t) 0 0 (tp_G g (nI L) (nI n4) 0 (-1)) (va_up a 2 (upd ps p v)) c [(3, .int (nI (5 - (k + 1)))), (2, .int 1), (0, .ref (ad 1)), (1, .int z1)] 22 [.int 1] := by
      intro hbad hd hv
      rw [if_neg hbad, if_neg hd, if_neg hv] at h44
      have comma : ∀ (r : Int32) (g1 : hw_G), (if L ≤ n5 then r = 0 ∧ g1 = (tp_G g (nI L) (nI n5) 0 (-1)) else if a 1 n5 = 44 then r = 1 ∧ g1 = (tp_G g (nI L) (nI (n5 + 1)) 0 (-1)) else r = 0 ∧ g1 = (tp_G g (nI L) (nI n5) 1 (nI n5))) → hw_J K (WH ad t) 0 0 g1 (va_up a 2 (upd ps p v)) c [(3, .int (nI (5 - (k + 1)))), (2, .int 1), (0, .ref (ad 1)), (1, .int z1)] 29 [.int r] := by
        intro r g1 hc
        by_cases c1 : L ≤ n5
        · rw [if_pos c1] at hc h44
          obtain ⟨rfl, rfl⟩ := hc
          exact l2_T_readHat F (h44 _)
        · by_cases c2 : a 1 n5 = 44
          · rw [if_neg c1, if_pos c2] at hc h44
            obtain ⟨rfl, rfl⟩ := hc
            refine hj_if_eq F 36 dX2_readHat_29 (by decide) (fun q29 => ?_) (fun q29 => ?_)
            · exact absurd q29 (by decide)
            · refine hj_iconst F (v := 1) dX2_readHat_32 (by decide) ?_
              refine hj_goto F 37 dX2_readHat_33 (by decide) ?_
              refine hj_istore_n F (lv' := [(2, _), (3, _), (0, _), (1, _)]) dX2_readHat_37 rfl (by decide) rfl ?_
              refine hj_iinc F 1 (v := _ + 1) (lv' := [(3, _), (2, _), (0, _), (1, _)]) dX2_readHat_38 rfl rfl (by decide) rfl ?_
              refine hj_goto F 9 dX2_readHat_41 (by decide) ?_
              refine hj_lv [0, 1, 2, 3] rfl ?_
              rw [show nI (5 - (k + 1)) + 1 = nI (5 - k) by rw [nI_1]; congr 1; omega]
              exact ih (n5 + 1) _ (by omega) (by omega) h44
          · rw [if_neg c1, if_neg c2] at hc h44
            obtain ⟨rfl, rfl⟩ := hc
            exact l2_T_readHat F (h44 _)
      refine hj_if_eq F 36 dX2_readHat_22 (by decide) (fun q22 => ?_) (fun q22 => ?_)
      · exact absurd q22 (by decide)
      · refine hj_aload_n F 2 dX2_readHat_25 rfl rfl ?_
        refine hj_cVi F (n := 0) (k_T_readComma hok (n := n4) (L := L) (by simp [tp_G, upd]) hL1 (by simp [tp_G, upd]) h4.2) gX2_readHat_X2_readComma rfl ⟨rfl, rfl⟩ (by decide +kernel) ⟨by decide, by decide⟩ 1 2 rfl rfl (As := []) rfl rfl (Nat.le_of_ble_eq_true rfl) ⟨Nat.zero_le _, Nat.zero_le _⟩ dX2_readHat_26 ?_
        intro r g1 a1 c1 hpp
        obtain ⟨rfl, rfl, hpp⟩ := hpp
        rw [show va_up a 2 (upd ps p v) 1 = a 1 from va_up_ne _ _ (by decide), e5, tp_G8, tp_G8, tp_G9] at hpp
        exact comma r g1 hpp
    have part : ∀ (r : Int32) (g1 : hw_G) (a1 : hw_A), (if p = 4 ∨ ¬ (va_up a 2 ps) 2 p = -1 then r = 0 ∧ a1 = va_up a 2 ps ∧ g1 = upd (upd (upd (tp_G g (nI L) (nI n) 0 (-1)) 8 (nI n2)) 9 1) 10 (nI n1) else if n4 = n3 then r = 0 ∧ a1 = va_up a 2 ps ∧ g1 = upd (upd (upd (tp_G g (nI L) (nI n) 0 (-1)) 8 (nI n4)) 9 1) 10 (nI n3) else if v < tp_least p ∨ tp_most p < v then r = 0 ∧ a1 = va_up a 2 ps ∧ g1 = upd (upd (upd (tp_G g (nI L) (nI n) 0 (-1)) 8 (nI n4)) 9 2) 10 (nI n3) else r = 1 ∧ a1 = va_up (va_up a 2 ps) 2 (upd ((va_up a 2 ps) 2) p v) ∧ g1 = upd (tp_G g (nI L) (nI n) 0 (-1)) 8 (nI n4)) → hw_J K (WH ad t) 0 0 g1 a1 c [(3, .int (nI (5 - (k + 1)))), (2, .int 1), (0, .ref (ad 1)), (1, .int z1)] 22 [.int r] := by
      intro r g1 a1 hc
      rw [vau_s, bx_uu] at hc
      by_cases c1 : p = 4 ∨ ¬ ps p = -1
      · rw [if_pos c1] at hc h44
        obtain ⟨rfl, rfl, rfl⟩ := hc
        rw [tp_G8, tp_G9]
        exact l1_T_readHat F (h44 _)
      · by_cases c2 : n4 = n3
        · rw [if_neg c1, if_pos c2] at hc h44
          obtain ⟨rfl, rfl, rfl⟩ := hc
          rw [tp_G8, tp_G9]
          exact l1_T_readHat F (h44 _)
        · by_cases c3 : v < tp_least p ∨ tp_most p < v
          · rw [if_neg c1, if_neg c2, if_pos c3] at hc h44
            obtain ⟨rfl, rfl, rfl⟩ := hc
            rw [tp_G8, tp_G9]
            exact l1_T_readHat F (h44 _)
          · rw [if_neg c1, if_neg c2, if_neg c3] at hc
            obtain ⟨rfl, rfl, rfl⟩ := hc
            rw [tp_G8]
            exact hs5 c1 c2 c3
    refine hj_iload_n F 0 dX2_readHat_9 rfl rfl ?_
    refine hj_iconst F (v := 4) dX2_readHat_10 (by decide) ?_
    refine hj_icmp_gt F 44 dX2_readHat_11 (by decide) (fun q11 => ?_) (fun q11 => ?_)
    · exact absurd q11 (Int32.not_lt.mpr (nI_le (show 5 - (k + 1) ≤ 4 by omega) (by decide)))
    · refine hj_iload_n F 1 dX2_readHat_14 rfl rfl ?_
      refine hj_if_eq F 44 dX2_readHat_15 (by decide) (fun q15 => ?_) (fun q15 => ?_)
      · exact absurd q15 (by decide)
      · refine hj_aload_n F 2 dX2_readHat_18 rfl rfl ?_
        refine hj_cVi F (n := 0) (k_T_readPart hok hs hs2 hsT (n := n) (L := L) (by simp [tp_G, upd]) hL1 (by simp [tp_G, upd]) hnL e1 e2 ep e3 e4 ev) gX2_readHat_X2_readPart rfl ⟨rfl, rfl⟩ (by decide +kernel) ⟨by decide, by decide⟩ 1 2 rfl rfl (As := []) rfl rfl (Nat.le_of_ble_eq_true rfl) ⟨Nat.zero_le _, Nat.zero_le _⟩ dX2_readHat_19 ?_
        intro r g1 a1 c1 hpp
        obtain ⟨rfl, hpp⟩ := hpp
        exact part r g1 a1 hpp
def tp_end (h : Int32 × Int32 × (Nat → Int32)) (L : Nat) : Int32 × Int32 := if h.1 = 0 ∧ (h.2.2 0 = -1 ∨ h.2.2 3 = -1) then (3, nI L) else (h.1, h.2.1)
set_option maxHeartbeats 4000000 in
set_option maxRecDepth 100000 in
theorem k_T_readHat (hok : hw_XOK X) (hs : ∀ A U H, X A U H → sx τ A U H) (hs2 : ∀ A U H, X A U H → sx2 τ U) (hsT : ∀ A U H, X A U H → sxT τ A U H) {L : Nat} (hL1 : L ≤ 100) {h : Int32 × Int32 × (Nat → Int32)} (hh : tp_hat (a 1) L 5 0 (tp_none (a 2)) = h) : hw_Ci l D (WH ad t) (hw_T t) X yX2_readHat wsX2_readHat (hw_rm 8) [.ref (ad 1), .int (nI L)] g a c (fun r g' a' c' => ∃ x : Int32, r = (tp_end h L).1 ∧ g' = tp_G g (nI L) x (tp_end h L).1 (tp_end h L).2 ∧ a' = va_up a 2 h.2.2 ∧ c' = c) := by
  refine hw_Ci.mk (lv0 := [(0, _), (1, _)]) (by decide) rfl (Nat.le_of_ble_eq_true rfl) rfl (WH_ads ad t) hok (fun K F ret => ?_)
  have F : hw_F K l D (WH ad t) (hw_T t) X cX2_readHat RX2 wsX2_readHat (hw_rm 8) 4 := F
  have h44 : ∀ x k3 m2 : Int32, hw_J K (WH ad t) 0 0 (tp_G g (nI L) x (tp_hat (a 1) L 5 0 (tp_none (a 2))).1 (tp_hat (a 1) L 5 0 (tp_none (a 2))).2.1) (va_up a 2 (tp_hat (a 1) L 5 0 (tp_none (a 2))).2.2) c [(3, .int k3), (2, .int m2), (0, .ref (ad 1)), (1, .int (nI L))] 44 [] := by
    intro x k3 m2
    rw [hh]
    refine hj_aload_n F 2 dX2_readHat_44 rfl rfl ?_
    refine hg_T_fault F hi_X2_readHat_T lk_X2_readHat_26 dX2_readHat_45 ?_
    rw [show tp_G g (nI L) x h.1 h.2.1 9 = h.1 by simp [tp_G, upd]]
    refine hj_if_ne F 80 dX2_readHat_48 (by decide) (fun q48 => ?_) (fun q48 => ?_)
    · refine hj_aload_n F 2 dX2_readHat_80 rfl rfl ?_
      refine hg_T_fault F hi_X2_readHat_T lk_X2_readHat_26 dX2_readHat_81 ?_
      exact ret dX2_readHat_84 rfl ⟨x, by rw [show tp_end h L = (h.1, h.2.1) from if_neg (fun z => q48 z.1)]; exact ⟨by simp [tp_G, upd], rfl, rfl, rfl⟩⟩
    · refine hj_aload_n F 2 dX2_readHat_51 rfl rfl ?_
      refine hg_T_parts F hi_X2_readHat_T lk_X2_readHat_15 dX2_readHat_52 ?_
      refine hj_iconst F (v := 0) dX2_readHat_55 (by decide) ?_
      refine hl_T_parts F (by first | assumption | exact hw_inc (by decide)) dX2_readHat_56 ?_
      refine hj_iconst F (v := -1) dX2_readHat_57 (by decide) ?_
      refine hj_icmp_eq F 71 dX2_readHat_58 (by decide) (fun q58 => ?_) (fun q58 => ?_)
      · have q58 : h.2.2 0 = -1 := q58
        refine hj_aload_n F 2 dX2_readHat_71 rfl rfl ?_
        refine hj_iconst F (v := 3) dX2_readHat_72 (by decide) ?_
        refine hj_aload_n F 2 dX2_readHat_73 rfl rfl ?_
        refine hg_T_length F hi_X2_readHat_T lk_X2_readHat_19 dX2_readHat_74 ?_
        rw [show tp_G g (nI L) x h.1 h.2.1 7 = nI L by simp [tp_G, upd]]
        refine hj_cVv F (n := 2) (k_T_blame hok) gX2_readHat_X2_blame rfl ⟨rfl, rfl⟩ (by decide +kernel) ⟨by decide, by decide⟩ 1 2 rfl rfl (As := [_, _]) rfl rfl (Nat.le_of_ble_eq_true rfl) ⟨Nat.zero_le _, Nat.zero_le _⟩ dX2_readHat_77 (hw_eq3 ?_)
        refine hj_aload_n F 2 dX2_readHat_80 rfl rfl ?_
        refine hg_T_fault F hi_X2_readHat_T lk_X2_readHat_26 dX2_readHat_81 ?_
        exact ret dX2_readHat_84 rfl ⟨x, by rw [show tp_end h L = (3, nI L) from if_pos ⟨q48, Or.inl q58⟩, tp_G9]; exact ⟨by simp [tp_G, upd], rfl, rfl, rfl⟩⟩
      · have q58 : ¬ h.2.2 0 = -1 := q58
        refine hj_aload_n F 2 dX2_readHat_61 rfl rfl ?_
        refine hg_T_parts F hi_X2_readHat_T lk_X2_readHat_15 dX2_readHat_62 ?_
        refine hj_iconst F (v := 3) dX2_readHat_65 (by decide) ?_
        refine hl_T_parts F (by first | assumption | exact hw_inc (by decide)) dX2_readHat_66 ?_
        refine hj_iconst F (v := -1) dX2_readHat_67 (by decide) ?_
        refine hj_icmp_ne F 80 dX2_readHat_68 (by decide) (fun q68 => ?_) (fun q68 => ?_)
        · have q68 : ¬ h.2.2 3 = -1 := q68
          refine hj_aload_n F 2 dX2_readHat_80 rfl rfl ?_
          refine hg_T_fault F hi_X2_readHat_T lk_X2_readHat_26 dX2_readHat_81 ?_
          exact ret dX2_readHat_84 rfl ⟨x, by rw [show tp_end h L = (h.1, h.2.1) from if_neg (fun z => z.2.elim q58 q68)]; exact ⟨by simp [tp_G, upd], rfl, rfl, rfl⟩⟩
        · have q68 : h.2.2 3 = -1 := q68
          refine hj_aload_n F 2 dX2_readHat_71 rfl rfl ?_
          refine hj_iconst F (v := 3) dX2_readHat_72 (by decide) ?_
          refine hj_aload_n F 2 dX2_readHat_73 rfl rfl ?_
          refine hg_T_length F hi_X2_readHat_T lk_X2_readHat_19 dX2_readHat_74 ?_
          rw [show tp_G g (nI L) x h.1 h.2.1 7 = nI L by simp [tp_G, upd]]
          refine hj_cVv F (n := 2) (k_T_blame hok) gX2_readHat_X2_blame rfl ⟨rfl, rfl⟩ (by decide +kernel) ⟨by decide, by decide⟩ 1 2 rfl rfl (As := [_, _]) rfl rfl (Nat.le_of_ble_eq_true rfl) ⟨Nat.zero_le _, Nat.zero_le _⟩ dX2_readHat_77 (hw_eq3 ?_)
          refine hj_aload_n F 2 dX2_readHat_80 rfl rfl ?_
          refine hg_T_fault F hi_X2_readHat_T lk_X2_readHat_26 dX2_readHat_81 ?_
          exact ret dX2_readHat_84 rfl ⟨x, by rw [show tp_end h L = (3, nI L) from if_pos ⟨q48, Or.inr q68⟩, tp_G9]; exact ⟨by simp [tp_G, upd], rfl, rfl, rfl⟩⟩
  refine hj_aload_n F 0 dX2_readHat_0 rfl rfl ?_
  refine hj_iload_n F 1 dX2_readHat_1 rfl rfl ?_
  refine hj_cVv F (n := 1) (k_T_startReading hok) gX2_readHat_X2_startReading rfl ⟨rfl, rfl⟩ (by decide +kernel) ⟨by decide, by decide⟩ 1 2 rfl rfl (As := [_]) rfl rfl (Nat.le_of_ble_eq_true rfl) ⟨Nat.zero_le _, Nat.zero_le _⟩ dX2_readHat_2 (hw_eq3 ?_)
  refine hj_iconst F (v := 1) dX2_readHat_5 (by decide) ?_
  refine hj_istore_n F (lv' := [(2, _), (0, _), (1, _)]) dX2_readHat_6 rfl (by decide) rfl ?_
  refine hj_iconst F (v := 0) dX2_readHat_7 (by decide) ?_
  refine hj_istore_n F (lv' := [(3, _), (2, _), (0, _), (1, _)]) dX2_readHat_8 rfl (by decide) rfl ?_
  have hz : upd (upd (upd (upd g 7 (nI L)) 8 0) 9 0) 10 (-1) = tp_G g (nI L) (nI 0) 0 (-1) := rfl
  rw [hz]
  exact lp_T_readHat F hok hs hs2 hsT hL1 5 0 (tp_none (a 2)) (Nat.le_refl _) (Nat.zero_le _) h44
end STAPE3
