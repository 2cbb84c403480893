section TAPE
theorem hi_X2_skipBlanks_T : ∀ w ∈ u_ws RX2 TX2 7, w ∈ wsX2_skipBlanks := fun w h => by
  unfold wsX2_skipBlanks
  simp only [List.mem_cons, List.mem_append]
  first | (simp only [h, or_true, true_or]; done) | (have h2 : w ∈ wsX20 := h; simp only [h2, or_true, true_or]; done)
theorem lk_X2_skipBlanks_19 : Cond.fieldLink RX2 19 "HatWorks$Tape" "length" "I" ∈ wsX2_skipBlanks := List.mem_of_getElem? (i := 2) rfl
theorem lk_X2_skipBlanks_23 : Cond.fieldLink RX2 23 "HatWorks$Tape" "at" "I" ∈ wsX2_skipBlanks := List.mem_of_getElem? (i := 1) rfl
theorem lk_X2_skipBlanks_9 : Cond.fieldLink RX2 9 "HatWorks$Tape" "bytes" "[B" ∈ wsX2_skipBlanks := List.mem_of_getElem? (i := 3) rfl
variable {K : hw_K} {l : Launch} {D : va_G} {ad : Nat → Nat} {t : Nat → ClassId} {X : hw_XT} {rm : Room} {g : hw_G} {a : hw_A} {c : Int64}
def tp_bl (a : hw_A) (i : Nat) : Bool := a 1 i == 32
set_option maxHeartbeats 4000000 in
set_option maxRecDepth 100000 in
theorem lp_T_skipBlanks (F : hw_F K l D (WH ad t) (hw_T t) X cX2_skipBlanks RX2 wsX2_skipBlanks rm 1) {L : Nat} (hL : g 7 = nI L) (hL1 : L ≤ 100) : ∀ m n : Nat, L - n < m → n ≤ L → hw_J K (WH ad t) 0 0 (upd g 8 (nI (skp (tp_bl a) L n))) a c [(0, .ref (ad 1))] 38 [] → hw_J K (WH ad t) 0 0 (upd g 8 (nI n)) a c [(0, .ref (ad 1))] 0 [] := by
  intro m
  induction m with
  | zero => intro n hm; exact absurd hm (Nat.not_lt_zero _)
  | succ m ih =>
    intro n hm hn hx
    have e8 : upd g 8 (nI n) 8 = nI n := pk_us
    have e7 : upd g 8 (nI n) 7 = nI L := by rw [pk_un (by decide)]; exact hL
    refine hj_aload_n F 0 dX2_skipBlanks_0 rfl rfl ?_
    refine hg_T_at F hi_X2_skipBlanks_T lk_X2_skipBlanks_23 dX2_skipBlanks_1 ?_
    refine hj_aload_n F 0 dX2_skipBlanks_4 rfl rfl ?_
    refine hg_T_length F hi_X2_skipBlanks_T lk_X2_skipBlanks_19 dX2_skipBlanks_5 ?_
    refine hj_icmp_ge F 38 dX2_skipBlanks_8 (by decide) (fun q8 => ?_) (fun q8 => ?_)
    · rw [e7, e8, nI_leI (by omega) (by omega)] at q8
      rw [skp_f (by omega)] at hx
      exact hx
    · rw [e7, e8, nI_leI (by omega) (by omega)] at q8
      have hlt : n < L := by omega
      refine hj_aload_n F 0 dX2_skipBlanks_11 rfl rfl ?_
      refine hg_T_bytes F hi_X2_skipBlanks_T lk_X2_skipBlanks_9 dX2_skipBlanks_12 ?_
      refine hj_aload_n F 0 dX2_skipBlanks_15 rfl rfl ?_
      refine hg_T_at F hi_X2_skipBlanks_T lk_X2_skipBlanks_23 dX2_skipBlanks_16 ?_
      refine hl_T_bytes F (by rw [e8]; exact vp_in_nI (by omega) (by decide)) dX2_skipBlanks_19 ?_
      refine hj_bipush F (v := 32) dX2_skipBlanks_20 (by decide) ?_
      refine hj_icmp_ne F 38 dX2_skipBlanks_22 (by decide) (fun q22 => ?_) (fun q22 => ?_)
      · rw [e8, nI_clamp (by omega)] at q22
        rw [skp_f (fun z => q22 (by simpa [tp_bl] using z.2))] at hx
        exact hx
      · rw [e8, nI_clamp (by omega)] at q22
        refine hj_aload_n F 0 dX2_skipBlanks_25 rfl rfl ?_
        refine hj_dup F dX2_skipBlanks_26 rfl ?_
        refine hg_T_at F hi_X2_skipBlanks_T lk_X2_skipBlanks_23 dX2_skipBlanks_27 ?_
        refine hj_iconst F (v := 1) dX2_skipBlanks_30 (by decide) ?_
        refine hj_iadd F dX2_skipBlanks_31 ?_
        refine hp_T_at F hi_X2_skipBlanks_T lk_X2_skipBlanks_23 dX2_skipBlanks_32 ?_
        refine hj_goto F 0 dX2_skipBlanks_35 (by decide) ?_
        rw [e8, nI_1, upd_uu]
        exact ih (n + 1) (by omega) (by omega) (by rw [skp_t hlt (by simp [tp_bl, q22])] at hx; exact hx)
set_option maxHeartbeats 4000000 in
set_option maxRecDepth 100000 in
theorem k_T_skipBlanks (hok : hw_XOK X) {L n : Nat} (hL : g 7 = nI L) (hL1 : L ≤ 100) (hn : g 8 = nI n) (hnL : n ≤ L) : hw_Cv l D (WH ad t) (hw_T t) X yX2_skipBlanks wsX2_skipBlanks (hw_rm 1) [.ref (ad 1)] g a c (fun g' a' c' => g' = upd g 8 (nI (skp (tp_bl a) L n)) ∧ a' = a ∧ c' = c) := by
  refine hw_Cv.mk (lv0 := [(0, _)]) (by decide) rfl (Nat.le_of_ble_eq_true rfl) rfl (WH_ads ad t) hok (fun K F ret => ?_)
  have F : hw_F K l D (WH ad t) (hw_T t) X cX2_skipBlanks RX2 wsX2_skipBlanks (hw_rm 1) 1 := F
  have h := lp_T_skipBlanks F hL hL1 (a := a) (c := c) (L - n + 1) n (by omega) hnL (ret dX2_skipBlanks_38 ⟨rfl, rfl, rfl⟩)
  rw [upd_self g 8 hn] at h
  exact h
end TAPE
