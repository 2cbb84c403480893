section SMOD6
theorem lk_X4_readPart_27 : Cond.fieldLink RX4 27 "HatWorksModel" "has" "[Z" ∈ wsX4_readPart := List.mem_of_getElem? (i := 1) rfl
variable {K : hw_K} {l : Launch} {D : va_G} {ad : Nat → Nat} {t : Nat → ClassId} {X : hw_XT} {rm : Room} {g : hw_G} {a : hw_A} {c : Int64}
variable {τ : Nat → Nat}
/-- what the reference's readPart does -/
def md_PP (g : hw_G) (a : hw_A) (c : Int64) (n1 n3 n4 p : Nat) (v : Int32) (g' : hw_G) (a' : hw_A) (c' : Int64) : Prop := c' = c ∧
  (if p = 4 ∨ ¬ a 4 p = 0 then g' = upd (upd (upd g 5 (nI n1)) 6 1) 7 (nI n1) ∧ a' = a
   else if n4 = n3 then g' = upd (upd (upd g 5 (nI n3)) 6 1) 7 (nI n3) ∧ a' = va_up a 4 (upd (a 4) p 1)
   else if v < tp_least p ∨ tp_most p < v then g' = upd (upd (upd g 5 (nI n4)) 6 2) 7 (nI n3) ∧ ∃ x, a' = va_up (va_up a 4 (upd (a 4) p 1)) 3 (upd (a 3) p x)
   else g' = upd g 5 (nI n4) ∧ a' = va_up (va_up a 4 (upd (a 4) p 1)) 3 (upd (a 3) p v))
theorem md_pn {b : Nat → Int32} {n1 n2 p : Nat} (h : tp_pn b n1 n2 = p) (hp : p < 4) : n2 = n1 + tp_len p := by
  unfold tp_pn at h
  by_cases z0 : tp_isb b 0 n1 n2 = true
  · rw [if_pos z0] at h; subst h; exact (tp_isb_iff.mp z0).1
  · rw [if_neg z0] at h
    by_cases z1 : tp_isb b 1 n1 n2 = true
    · rw [if_pos z1] at h; subst h; exact (tp_isb_iff.mp z1).1
    · rw [if_neg z1] at h
      by_cases z2 : tp_isb b 2 n1 n2 = true
      · rw [if_pos z2] at h; subst h; exact (tp_isb_iff.mp z2).1
      · rw [if_neg z2] at h
        by_cases z3 : tp_isb b 3 n1 n2 = true
        · rw [if_pos z3] at h; subst h; exact (tp_isb_iff.mp z3).1
        · rw [if_neg z3] at h; omega
theorem md_sameP {b : Nat → Int32} {L n : Nat} {p : Nat} (hp : p < 4) : ((md_rv b L n 0 < tp_least p ∨ tp_most p < md_rv b L n 0) ↔ (tp_rv b L n 0 < tp_least p ∨ tp_most p < tp_rv b L n 0)) ∧ (¬ (tp_rv b L n 0 < tp_least p ∨ tp_most p < tp_rv b L n 0) → md_rv b L n 0 = tp_rv b L n 0) := by
  match p, hp with
  | 0, _ => exact md_same (lo := 5) (hi := 30) (by decide) (by decide)
  | 1, _ => exact md_same (lo := 0) (hi := 20) (by decide) (by decide)
  | 2, _ => exact md_same (lo := 0) (hi := 9) (by decide) (by decide)
  | 3, _ => exact md_same (lo := 1) (hi := 5) (by decide) (by decide)
set_option maxHeartbeats 4000000 in
set_option maxRecDepth 100000 in
theorem l28_M_readPart (F : hw_F K l D (WM ad t) (hw_T t) X cX4_readPart RX4 wsX4_readPart (hw_rm 6) 6) (hok : hw_XOK X) (hs : ∀ A U H, X A U H → sx τ A U H) (hs4 : ∀ A U H, X A U H → sx4 τ U) {L n1 n2 n3 n4 p : Nat} {v : Int32} (h4 : g 4 = nI L) (hL : L ≤ 100) (h5 : g 5 = nI n1) (h6 : g 6 = 0) (hn1 : n1 ≤ L) (hby : by_ok (a 2)) (e2 : skp (tp_le (a 2)) L n1 = n2) (ep : tp_pn (a 2) n1 n2 = p) (e3 : skp (tp_bl (a 2)) L n2 = n3) (e4 : skp (tp_di (a 2)) L n3 = n4) (ev : tp_rv (a 2) L n3 0 = v) (ret : ∀ {g' : hw_G} {a' : hw_A} {c' : Int64} {lv : List (Nat × Value)} {pc : Nat}, decode cX4_readPart pc = .ok (.return_, 1) → md_PP g a c n1 n3 n4 p v g' a' c' → hw_J K (WM ad t) 0 0 g' a' c' lv pc []) : hw_J K (WM ad t) 0 0 g a c [(1, .int (nI p)), (0, .ref (ad 0))] 28 [] := by
  have hp9 : p ≤ 4 := by rw [← ep]; exact tp_pn_le _ _ _
  have h2 : n1 ≤ n2 ∧ n2 ≤ L := by rw [← e2]; exact skp_ge _ hn1
  have h3 : n2 ≤ n3 ∧ n3 ≤ L := by rw [← e3]; exact skp_ge _ h2.2
  have h4' : n3 ≤ n4 ∧ n4 ≤ L := by rw [← e4]; exact skp_ge _ h3.2
  refine hj_iload_n F 0 dX4_readPart_28 rfl rfl ?_
  refine hj_iconst F (v := 4) dX4_readPart_29 (by decide) ?_
  refine hj_icmp_eq F 42 dX4_readPart_30 (by decide) (fun q30 => ?_) (fun q30 => ?_)
  · have hp4 : p = 4 := (nI_eq (b := 4) (by omega) (by omega)).mp q30
    refine hj_aload_n F 1 dX4_readPart_42 rfl rfl ?_
    refine hj_iconst F (v := 1) dX4_readPart_43 (by decide) ?_
    refine hj_aload_n F 1 dX4_readPart_44 rfl rfl ?_
    refine hg_M_at F hi_X4_readPart_M lk_X4_readPart_88 dX4_readPart_45 ?_
    rw [h5]
    refine hj_cVv F (n := 2) (k_M_wrong hok) gX4_readPart_X4_wrong rfl ⟨rfl, rfl⟩ (by decide +kernel) ⟨by decide, by decide⟩ 0 4 rfl rfl (As := [_, _]) rfl rfl (Nat.le_of_ble_eq_true rfl) ⟨Nat.zero_le _, Nat.zero_le _⟩ dX4_readPart_48 ?_
    rintro _ _ _ ⟨rfl, rfl, rfl⟩
    rw [if_neg (by rw [h6]; decide)]
    exact ret dX4_readPart_51 ⟨rfl, by rw [if_pos (Or.inl hp4)]; exact ⟨by rw [upd_self g 5 h5], rfl⟩⟩
  · have hp : p < 4 := by
      have : ¬ p = 4 := fun z => q30 (by rw [z]; rfl)
      omega
    have h2n : n2 = n1 + tp_len p := md_pn ep hp
    refine hj_aload_n F 1 dX4_readPart_33 rfl rfl ?_
    refine hg_M_has F hi_X4_readPart_M lk_X4_readPart_27 dX4_readPart_34 ?_
    refine hj_iload_n F 0 dX4_readPart_37 rfl rfl ?_
    refine hl_M_has F (vp_in_nI hp (by decide)) dX4_readPart_38 ?_
    refine hj_if_eq F 52 dX4_readPart_39 (by decide) (fun q39 => ?_) (fun q39 => ?_)
    · rw [nI_clamp (by omega)] at q39
      refine hj_aload_n F 1 dX4_readPart_52 rfl rfl ?_
      refine hg_M_has F hi_X4_readPart_M lk_X4_readPart_27 dX4_readPart_53 ?_
      refine hj_iload_n F 0 dX4_readPart_56 rfl rfl ?_
      refine hj_iconst F (v := 1) dX4_readPart_57 (by decide) ?_
      refine hs_M_has F (vp_in_nI hp (by decide)) dX4_readPart_58 ?_
      rw [nI_clamp (show p < 2 ^ 31 by omega), show vp_nar .boolean 1 = 1 from rfl]
      refine hj_aload_n F 1 dX4_readPart_59 rfl rfl ?_
      refine hj_dup F dX4_readPart_60 rfl ?_
      refine hg_M_at F hi_X4_readPart_M lk_X4_readPart_88 dX4_readPart_61 ?_
      rw [h5]
      refine hj_iload_n F 0 dX4_readPart_64 rfl rfl ?_
      refine hj_cSr F (n := 1) (k_M_partName hok hs4 (i := p) hp) gX4_readPart_X4_partName rfl ⟨rfl, rfl⟩ (by decide +kernel) ⟨by decide, by decide⟩ (As := [_]) rfl rfl (Nat.le_of_ble_eq_true rfl) ⟨Nat.zero_le _, Nat.zero_le _⟩ dX4_readPart_65 ?_
      refine hj_cXi F (n := 0) (k_S_length hok (WM_ads ad t) hs (i := p) hp) gX4_readPart_J0_length_8abf5 rfl ⟨rfl, rfl⟩ (by decide +kernel) ⟨by decide, by decide⟩ (fun A U H h => ((hs A U H h).1.1 p hp).1) (As := []) rfl rfl (Nat.le_of_ble_eq_true rfl) ⟨Nat.zero_le _, Nat.zero_le _⟩ dX4_readPart_68 (hw_eq4 ?_)
      refine hj_iadd F dX4_readPart_71 ?_
      rw [nI_add, ← h2n]
      refine hp_M_at F hi_X4_readPart_M lk_X4_readPart_88 dX4_readPart_72 ?_
      refine hj_aload_n F 1 dX4_readPart_75 rfl rfl ?_
      refine hj_cVv F (n := 0) (k_M_blanks hok (L := L) (n := n2) (by rw [pk_un (by decide)]; exact h4) hL hby pk_us h2.2) gX4_readPart_X4_blanks rfl ⟨rfl, rfl⟩ (by decide +kernel) ⟨by decide, by decide⟩ 0 4 rfl rfl (As := []) rfl rfl (Nat.le_of_ble_eq_true rfl) ⟨Nat.zero_le _, Nat.zero_le _⟩ dX4_readPart_76 (hw_eq3 ?_)
      rw [upd_uu, show skp (tp_bl ((va_up a 4 (upd (a 4) p 1)) 2)) L n2 = n3 from e3]
      refine hj_aload_n F 1 dX4_readPart_79 rfl rfl ?_
      refine hg_M_at F hi_X4_readPart_M lk_X4_readPart_88 dX4_readPart_80 ?_
      rw [pk_us]
      refine hj_istore_n F (lv' := [(2, _), (1, _), (0, _)]) dX4_readPart_83 rfl (by decide) rfl ?_
      refine hj_aload_n F 2 dX4_readPart_84 rfl rfl ?_
      refine hj_aload_n F 2 dX4_readPart_85 rfl rfl ?_
      refine hg_M_at F hi_X4_readPart_M lk_X4_readPart_88 dX4_readPart_86 ?_
      rw [pk_us]
      refine hj_cVi F (n := 1) (k_M_byteAt hok (L := L) (n := n3) (by rw [pk_un (by decide)]; exact h4) hL (by omega)) gX4_readPart_X4_byteAt rfl ⟨rfl, rfl⟩ (by decide +kernel) ⟨by decide, by decide⟩ 0 4 rfl rfl (As := [_]) rfl rfl (Nat.le_of_ble_eq_true rfl) ⟨Nat.zero_le _, Nat.zero_le _⟩ dX4_readPart_89 (hw_eq4 ?_)
      refine hj_cSi F (n := 1) (k_M_isDigit hok) gX4_readPart_X4_isDigit rfl ⟨rfl, rfl⟩ (by decide +kernel) ⟨by decide, by decide⟩ (As := [_]) rfl rfl (Nat.le_of_ble_eq_true rfl) ⟨Nat.zero_le _, Nat.zero_le _⟩ dX4_readPart_92 (hw_eq4 ?_)
      refine hj_if_ne F 108 dX4_readPart_95 (by decide) (fun q95 => ?_) (fun q95 => ?_)
      · have hdg : n3 < L ∧ tp_di (a 2) n3 = true := (mb_di hby).mp (Classical.byContradiction (fun z => q95 (if_neg z)))
        have hne : ¬ n4 = n3 := fun z => ((skp_eq_iff h3.2).mp (e4.trans z)) hdg
        refine hj_iconst F (v := 0) dX4_readPart_108 (by decide) ?_
        refine hj_istore_n F (lv' := [(3, _), (2, _), (1, _), (0, _)]) dX4_readPart_109 rfl (by decide) rfl ?_
        refine lp_M_digits F hok (g := g) (a := (va_up a 4 (upd (a 4) p 1))) (L := L) h4 hL hby (L - n3 + 1) n3 0 (by omega) h3.2 ?_
        rw [show skp (tp_di ((va_up a 4 (upd (a 4) p 1)) 2)) L n3 = n4 from e4]
        have sm := md_sameP (b := a 2) (L := L) (n := n3) hp
        rw [ev] at sm
        refine ep_M_readPart F hok hp (g := upd g 5 (nI n4)) (by rw [pk_un (by decide)]; exact h6) (fun hb {lv pc} d => ret d ⟨rfl, ?_⟩) (fun hb {lv pc} d => ret d ⟨rfl, ?_⟩)
        · rw [if_neg (fun z => z.elim (by omega) (fun z => z q39)), if_neg hne, if_pos (sm.1.mp hb)]
          exact ⟨rfl, _, rfl⟩
        · have hb2 := fun z => hb (sm.1.mpr z)
          rw [if_neg (fun z => z.elim (by omega) (fun z => z q39)), if_neg hne, if_neg hb2, ← sm.2 hb2]
          exact ⟨rfl, rfl⟩
      · have hdg : ¬ (n3 < L ∧ tp_di (a 2) n3 = true) := fun z => by
          have z9 : (48 ≤ mb (a 2) L n3 ∧ mb (a 2) L n3 ≤ 57) := (mb_di hby).mpr z
          have q95 : (if 48 ≤ mb (a 2) L n3 ∧ mb (a 2) L n3 ≤ 57 then (1 : Int32) else 0) = 0 := q95
          rw [if_pos z9] at q95
          exact absurd q95 (by decide)
        have heq : n4 = n3 := e4.symm.trans (skp_f hdg)
        refine hj_aload_n F 2 dX4_readPart_98 rfl rfl ?_
        refine hj_iconst F (v := 1) dX4_readPart_99 (by decide) ?_
        refine hj_aload_n F 2 dX4_readPart_100 rfl rfl ?_
        refine hg_M_at F hi_X4_readPart_M lk_X4_readPart_88 dX4_readPart_101 ?_
        rw [pk_us]
        refine hj_cVv F (n := 2) (k_M_wrong hok) gX4_readPart_X4_wrong rfl ⟨rfl, rfl⟩ (by decide +kernel) ⟨by decide, by decide⟩ 0 4 rfl rfl (As := [_, _]) rfl rfl (Nat.le_of_ble_eq_true rfl) ⟨Nat.zero_le _, Nat.zero_le _⟩ dX4_readPart_104 ?_
        rintro _ _ _ ⟨rfl, rfl, rfl⟩
        rw [if_neg (by rw [pk_un (by decide), h6]; decide)]
        exact ret dX4_readPart_107 ⟨rfl, by rw [if_neg (fun z => z.elim (by omega) (fun z => z q39)), if_pos heq]; exact ⟨rfl, rfl⟩⟩
    · rw [nI_clamp (by omega)] at q39
      refine hj_aload_n F 1 dX4_readPart_42 rfl rfl ?_
      refine hj_iconst F (v := 1) dX4_readPart_43 (by decide) ?_
      refine hj_aload_n F 1 dX4_readPart_44 rfl rfl ?_
      refine hg_M_at F hi_X4_readPart_M lk_X4_readPart_88 dX4_readPart_45 ?_
      rw [h5]
      refine hj_cVv F (n := 2) (k_M_wrong hok) gX4_readPart_X4_wrong rfl ⟨rfl, rfl⟩ (by decide +kernel) ⟨by decide, by decide⟩ 0 4 rfl rfl (As := [_, _]) rfl rfl (Nat.le_of_ble_eq_true rfl) ⟨Nat.zero_le _, Nat.zero_le _⟩ dX4_readPart_48 ?_
      rintro _ _ _ ⟨rfl, rfl, rfl⟩
      rw [if_neg (by rw [h6]; decide)]
      exact ret dX4_readPart_51 ⟨rfl, by rw [if_pos (Or.inr q39)]; exact ⟨by rw [upd_self g 5 h5], rfl⟩⟩
set_option maxHeartbeats 4000000 in
set_option maxRecDepth 100000 in
theorem k_M_readPart (hok : hw_XOK X) (hs : ∀ A U H, X A U H → sx τ A U H) (hs4 : ∀ A U H, X A U H → sx4 τ U) {L n n1 n2 n3 n4 p : Nat} {v : Int32} (h4 : g 4 = nI L) (hL : L ≤ 100) (h5 : g 5 = nI n) (h6 : g 6 = 0) (hn : n ≤ L) (hby : by_ok (a 2)) (e1 : skp (tp_bl (a 2)) L n = n1) (e2 : skp (tp_le (a 2)) L n1 = n2) (ep : tp_pn (a 2) n1 n2 = p) (e3 : skp (tp_bl (a 2)) L n2 = n3) (e4 : skp (tp_di (a 2)) L n3 = n4) (ev : tp_rv (a 2) L n3 0 = v) : hw_Cv l D (WM ad t) (hw_T t) X yX4_readPart wsX4_readPart (hw_rm 6) [.ref (ad 0)] g a c (md_PP g a c n1 n3 n4 p v) := by
  refine hw_Cv.mk (lv0 := [(0, _)]) (by decide) rfl (Nat.le_of_ble_eq_true rfl) rfl (WM_ads ad t) hok (fun K F ret => ?_)
  have F : hw_F K l D (WM ad t) (hw_T t) X cX4_readPart RX4 wsX4_readPart (hw_rm 6) 6 := F
  have h1 : n ≤ n1 ∧ n1 ≤ L := by rw [← e1]; exact skp_ge _ hn
  refine hj_aload_n F 0 dX4_readPart_0 rfl rfl ?_
  refine hj_cVv F (n := 0) (k_M_blanks hok h4 hL hby h5 hn) gX4_readPart_X4_blanks rfl ⟨rfl, rfl⟩ (by decide +kernel) ⟨by decide, by decide⟩ 0 4 rfl rfl (As := []) rfl rfl (Nat.le_of_ble_eq_true rfl) ⟨Nat.zero_le _, Nat.zero_le _⟩ dX4_readPart_1 (hw_eq3 ?_)
  rw [e1]
  refine hj_iconst F (v := 0) dX4_readPart_4 (by decide) ?_
  refine hj_istore_n F (lv' := [(1, _), (0, _)]) dX4_readPart_5 rfl (by decide) rfl ?_
  refine hj_iload_n F 0 dX4_readPart_6 rfl rfl ?_
  refine hj_iconst F (v := 4) dX4_readPart_7 (by decide) ?_
  refine hj_icmp_ge F 28 dX4_readPart_8 (by decide) (fun q8 => ?_) (fun q8 => ?_)
  · exact absurd q8 (by decide)
  · refine hj_aload_n F 1 dX4_readPart_11 rfl rfl ?_
    refine hj_iload_n F 0 dX4_readPart_12 rfl rfl ?_
    refine hj_cSr F (n := 1) (k_M_partName hok hs4 (i := 0) (by decide)) gX4_readPart_X4_partName rfl ⟨rfl, rfl⟩ (by decide +kernel) ⟨by decide, by decide⟩ (As := [_]) rfl rfl (Nat.le_of_ble_eq_true rfl) ⟨Nat.zero_le _, Nat.zero_le _⟩ dX4_readPart_13 ?_
    refine hj_cVi F (n := 1) (k_M_isWord hok hs (i := 0) (L := L) (n1 := n1) (by decide) (by rw [pk_un (by decide)]; exact h4) hL pk_us h1.2 hby) gX4_readPart_X4_isWord rfl ⟨rfl, rfl⟩ (by decide +kernel) ⟨by decide, by decide⟩ 0 4 rfl rfl (As := [_]) rfl rfl (Nat.le_of_ble_eq_true rfl) ⟨Nat.zero_le _, Nat.zero_le _⟩ dX4_readPart_16 (hw_eq4 ?_)
    refine hj_if_ne F 28 dX4_readPart_19 (by decide) (fun q19 => ?_) (fun q19 => ?_)
    · have z1 : tp_isb (a 2) 0 n1 (skp (tp_le (a 2)) L n1) = true := Classical.byContradiction (fun z => q19 (if_neg z))
      refine hj_lv [0, 1] rfl ?_
      refine l28_M_readPart F hok hs hs4 (p := 0) (L := L) (n1 := n1) (n2 := n2) (n3 := n3) (n4 := n4) (v := v) (by rw [pk_un (by decide)]; exact h4) hL pk_us (by rw [pk_un (by decide)]; exact h6) h1.2 hby e2 (by rw [← e2]; simp [tp_pn, z1]) e3 e4 ev ?_
      intro g9 a9 c9 lv pc d hp
      have hp9 : p = 0 := by rw [← ep, ← e2]; simp [tp_pn, z1]
      subst hp9
      exact ret d (by unfold md_PP at hp ⊢; simp only [upd_uu] at hp; exact hp)
    · have z1 : ¬ tp_isb (a 2) 0 n1 (skp (tp_le (a 2)) L n1) = true := fun z => by rw [if_pos z] at q19; exact absurd q19 (by decide)
      refine hj_iinc F 0 (v := _ + 1) (lv' := [(1, _), (0, _)]) dX4_readPart_22 rfl rfl (by decide) rfl ?_
      refine hj_goto F 6 dX4_readPart_25 (by decide) ?_
      refine hj_iload_n F 0 dX4_readPart_6 rfl rfl ?_
      refine hj_iconst F (v := 4) dX4_readPart_7 (by decide) ?_
      refine hj_icmp_ge F 28 dX4_readPart_8 (by decide) (fun q8_2 => ?_) (fun q8_2 => ?_)
      · exact absurd q8_2 (by decide)
      · refine hj_aload_n F 1 dX4_readPart_11 rfl rfl ?_
        refine hj_iload_n F 0 dX4_readPart_12 rfl rfl ?_
        refine hj_cSr F (n := 1) (k_M_partName hok hs4 (i := 1) (by decide)) gX4_readPart_X4_partName rfl ⟨rfl, rfl⟩ (by decide +kernel) ⟨by decide, by decide⟩ (As := [_]) rfl rfl (Nat.le_of_ble_eq_true rfl) ⟨Nat.zero_le _, Nat.zero_le _⟩ dX4_readPart_13 ?_
        refine hj_cVi F (n := 1) (k_M_isWord hok hs (i := 1) (L := L) (n1 := n1) (by decide) (by rw [pk_un (by decide)]; exact h4) hL pk_us h1.2 hby) gX4_readPart_X4_isWord rfl ⟨rfl, rfl⟩ (by decide +kernel) ⟨by decide, by decide⟩ 0 4 rfl rfl (As := [_]) rfl rfl (Nat.le_of_ble_eq_true rfl) ⟨Nat.zero_le _, Nat.zero_le _⟩ dX4_readPart_16 (hw_eq4 ?_)
        refine hj_if_ne F 28 dX4_readPart_19 (by decide) (fun q19_2 => ?_) (fun q19_2 => ?_)
        · have z2 : tp_isb (a 2) 1 n1 (skp (tp_le (a 2)) L n1) = true := Classical.byContradiction (fun z => q19_2 (if_neg z))
          refine hj_lv [0, 1] rfl ?_
          refine l28_M_readPart F hok hs hs4 (p := 1) (L := L) (n1 := n1) (n2 := n2) (n3 := n3) (n4 := n4) (v := v) (by rw [pk_un (by decide)]; exact h4) hL pk_us (by rw [pk_un (by decide)]; exact h6) h1.2 hby e2 (by rw [← e2]; simp [tp_pn, z1, z2]) e3 e4 ev ?_
          intro g9 a9 c9 lv pc d hp
          have hp9 : p = 1 := by rw [← ep, ← e2]; simp [tp_pn, z1, z2]
          subst hp9
          exact ret d (by unfold md_PP at hp ⊢; simp only [upd_uu] at hp; exact hp)
        · have z2 : ¬ tp_isb (a 2) 1 n1 (skp (tp_le (a 2)) L n1) = true := fun z => by rw [if_pos z] at q19_2; exact absurd q19_2 (by decide)
          refine hj_iinc F 0 (v := _ + 1) (lv' := [(1, _), (0, _)]) dX4_readPart_22 rfl rfl (by decide) rfl ?_
          refine hj_goto F 6 dX4_readPart_25 (by decide) ?_
          refine hj_iload_n F 0 dX4_readPart_6 rfl rfl ?_
          refine hj_iconst F (v := 4) dX4_readPart_7 (by decide) ?_
          refine hj_icmp_ge F 28 dX4_readPart_8 (by decide) (fun q8_3 => ?_) (fun q8_3 => ?_)
          · exact absurd q8_3 (by decide)
          · refine hj_aload_n F 1 dX4_readPart_11 rfl rfl ?_
            refine hj_iload_n F 0 dX4_readPart_12 rfl rfl ?_
            refine hj_cSr F (n := 1) (k_M_partName hok hs4 (i := 2) (by decide)) gX4_readPart_X4_partName rfl ⟨rfl, rfl⟩ (by decide +kernel) ⟨by decide, by decide⟩ (As := [_]) rfl rfl (Nat.le_of_ble_eq_true rfl) ⟨Nat.zero_le _, Nat.zero_le _⟩ dX4_readPart_13 ?_
            refine hj_cVi F (n := 1) (k_M_isWord hok hs (i := 2) (L := L) (n1 := n1) (by decide) (by rw [pk_un (by decide)]; exact h4) hL pk_us h1.2 hby) gX4_readPart_X4_isWord rfl ⟨rfl, rfl⟩ (by decide +kernel) ⟨by decide, by decide⟩ 0 4 rfl rfl (As := [_]) rfl rfl (Nat.le_of_ble_eq_true rfl) ⟨Nat.zero_le _, Nat.zero_le _⟩ dX4_readPart_16 (hw_eq4 ?_)
            refine hj_if_ne F 28 dX4_readPart_19 (by decide) (fun q19_3 => ?_) (fun q19_3 => ?_)
            · have z3 : tp_isb (a 2) 2 n1 (skp (tp_le (a 2)) L n1) = true := Classical.byContradiction (fun z => q19_3 (if_neg z))
              refine hj_lv [0, 1] rfl ?_
              refine l28_M_readPart F hok hs hs4 (p := 2) (L := L) (n1 := n1) (n2 := n2) (n3 := n3) (n4 := n4) (v := v) (by rw [pk_un (by decide)]; exact h4) hL pk_us (by rw [pk_un (by decide)]; exact h6) h1.2 hby e2 (by rw [← e2]; simp [tp_pn, z1, z2, z3]) e3 e4 ev ?_
              intro g9 a9 c9 lv pc d hp
              have hp9 : p = 2 := by rw [← ep, ← e2]; simp [tp_pn, z1, z2, z3]
              subst hp9
              exact ret d (by unfold md_PP at hp ⊢; simp only [upd_uu] at hp; exact hp)
            · have z3 : ¬ tp_isb (a 2) 2 n1 (skp (tp_le (a 2)) L n1) = true := fun z => by rw [if_pos z] at q19_3; exact absurd q19_3 (by decide)
              refine hj_iinc F 0 (v := _ + 1) (lv' := [(1, _), (0, _)]) dX4_readPart_22 rfl rfl (by decide) rfl ?_
              refine hj_goto F 6 dX4_readPart_25 (by decide) ?_
              refine hj_iload_n F 0 dX4_readPart_6 rfl rfl ?_
              refine hj_iconst F (v := 4) dX4_readPart_7 (by decide) ?_
              refine hj_icmp_ge F 28 dX4_readPart_8 (by decide) (fun q8_4 => ?_) (fun q8_4 => ?_)
              · exact absurd q8_4 (by decide)
              · refine hj_aload_n F 1 dX4_readPart_11 rfl rfl ?_
                refine hj_iload_n F 0 dX4_readPart_12 rfl rfl ?_
                refine hj_cSr F (n := 1) (k_M_partName hok hs4 (i := 3) (by decide)) gX4_readPart_X4_partName rfl ⟨rfl, rfl⟩ (by decide +kernel) ⟨by decide, by decide⟩ (As := [_]) rfl rfl (Nat.le_of_ble_eq_true rfl) ⟨Nat.zero_le _, Nat.zero_le _⟩ dX4_readPart_13 ?_
                refine hj_cVi F (n := 1) (k_M_isWord hok hs (i := 3) (L := L) (n1 := n1) (by decide) (by rw [pk_un (by decide)]; exact h4) hL pk_us h1.2 hby) gX4_readPart_X4_isWord rfl ⟨rfl, rfl⟩ (by decide +kernel) ⟨by decide, by decide⟩ 0 4 rfl rfl (As := [_]) rfl rfl (Nat.le_of_ble_eq_true rfl) ⟨Nat.zero_le _, Nat.zero_le _⟩ dX4_readPart_16 (hw_eq4 ?_)
                refine hj_if_ne F 28 dX4_readPart_19 (by decide) (fun q19_4 => ?_) (fun q19_4 => ?_)
                · have z4 : tp_isb (a 2) 3 n1 (skp (tp_le (a 2)) L n1) = true := Classical.byContradiction (fun z => q19_4 (if_neg z))
                  refine hj_lv [0, 1] rfl ?_
                  refine l28_M_readPart F hok hs hs4 (p := 3) (L := L) (n1 := n1) (n2 := n2) (n3 := n3) (n4 := n4) (v := v) (by rw [pk_un (by decide)]; exact h4) hL pk_us (by rw [pk_un (by decide)]; exact h6) h1.2 hby e2 (by rw [← e2]; simp [tp_pn, z1, z2, z3, z4]) e3 e4 ev ?_
                  intro g9 a9 c9 lv pc d hp
                  have hp9 : p = 3 := by rw [← ep, ← e2]; simp [tp_pn, z1, z2, z3, z4]
                  subst hp9
                  exact ret d (by unfold md_PP at hp ⊢; simp only [upd_uu] at hp; exact hp)
                · have z4 : ¬ tp_isb (a 2) 3 n1 (skp (tp_le (a 2)) L n1) = true := fun z => by rw [if_pos z] at q19_4; exact absurd q19_4 (by decide)
                  refine hj_iinc F 0 (v := _ + 1) (lv' := [(1, _), (0, _)]) dX4_readPart_22 rfl rfl (by decide) rfl ?_
                  refine hj_goto F 6 dX4_readPart_25 (by decide) ?_
                  refine hj_iload_n F 0 dX4_readPart_6 rfl rfl ?_
                  refine hj_iconst F (v := 4) dX4_readPart_7 (by decide) ?_
                  refine hj_icmp_ge F 28 dX4_readPart_8 (by decide) (fun q8_5 => ?_) (fun q8_5 => ?_)
                  · refine hj_lv [0, 1] rfl ?_
                    refine l28_M_readPart F hok hs hs4 (p := 4) (L := L) (n1 := n1) (n2 := n2) (n3 := n3) (n4 := n4) (v := v) (by rw [pk_un (by decide)]; exact h4) hL pk_us (by rw [pk_un (by decide)]; exact h6) h1.2 hby e2 (by rw [← e2]; simp [tp_pn, z1, z2, z3, z4]) e3 e4 ev ?_
                    intro g9 a9 c9 lv pc d hp
                    have hp9 : p = 4 := by rw [← ep, ← e2]; simp [tp_pn, z1, z2, z3, z4]
                    subst hp9
                    exact ret d (by unfold md_PP at hp ⊢; simp only [upd_uu] at hp; exact hp)
                  · exact absurd (by decide) q8_5
end SMOD6
