section SMOD2
theorem hi_X4_block_M : ∀ w ∈ u_ws RX4 TX4 28, w ∈ wsX4_block := fun w h => by
  unfold wsX4_block
  simp only [List.mem_cons, List.mem_append]
  first | (simp only [h, or_true, true_or]; done) | (have h2 : w ∈ wsX40 := h; simp only [h2, or_true, true_or]; done)
theorem lk_X4_block_13 : Cond.fieldLink RX4 13 "HatWorksModel" "rings" "[I" ∈ wsX4_block := List.mem_of_getElem? (i := 4) rfl
theorem lk_X4_block_61 : Cond.fieldLink RX4 61 "HatWorksModel" "thrown" "I" ∈ wsX4_block := List.mem_of_getElem? (i := 1) rfl
theorem lk_X4_block_68 : Cond.fieldLink RX4 68 "HatWorksModel" "handMany" "I" ∈ wsX4_block := List.mem_of_getElem? (i := 3) rfl
theorem lk_X4_block_71 : Cond.fieldLink RX4 71 "HatWorksModel" "blocks" "I" ∈ wsX4_block := List.mem_of_getElem? (i := 2) rfl
theorem lk_X4_block_9 : Cond.fieldLink RX4 9 "HatWorksModel" "hand" "[I" ∈ wsX4_block := List.mem_of_getElem? (i := 5) rfl
theorem hi_X4_feed_M : ∀ w ∈ u_ws RX4 TX4 28, w ∈ wsX4_feed := fun w h => by
  unfold wsX4_feed
  simp only [List.mem_cons, List.mem_append]
  first | (simp only [h, or_true, true_or]; done) | (have h2 : w ∈ wsX40 := h; simp only [h2, or_true, true_or]; done)
theorem lk_X4_feed_16 : Cond.fieldLink RX4 16 "HatWorksModel" "tape" "[B" ∈ wsX4_feed := List.mem_of_getElem? (i := 3) rfl
theorem lk_X4_feed_61 : Cond.fieldLink RX4 61 "HatWorksModel" "thrown" "I" ∈ wsX4_feed := List.mem_of_getElem? (i := 1) rfl
theorem lk_X4_feed_82 : Cond.fieldLink RX4 82 "HatWorksModel" "taped" "I" ∈ wsX4_feed := List.mem_of_getElem? (i := 2) rfl
theorem hi_X4_misfit_M : ∀ w ∈ u_ws RX4 TX4 28, w ∈ wsX4_misfit := fun w h => by
  unfold wsX4_misfit
  simp only [List.mem_cons, List.mem_append]
  first | (simp only [h, or_true, true_or]; done) | (have h2 : w ∈ wsX40 := h; simp only [h2, or_true, true_or]; done)
theorem lk_X4_misfit_68 : Cond.fieldLink RX4 68 "HatWorksModel" "handMany" "I" ∈ wsX4_misfit := List.mem_of_getElem? (i := 1) rfl
theorem hi_X4_push_M : ∀ w ∈ u_ws RX4 TX4 28, w ∈ wsX4_push := fun w h => by
  unfold wsX4_push
  simp only [List.mem_cons, List.mem_append]
  first | (simp only [h, or_true, true_or]; done) | (have h2 : w ∈ wsX40 := h; simp only [h2, or_true, true_or]; done)
theorem lk_X4_push_61 : Cond.fieldLink RX4 61 "HatWorksModel" "thrown" "I" ∈ wsX4_push := List.mem_of_getElem? (i := 1) rfl
theorem lk_X4_push_68 : Cond.fieldLink RX4 68 "HatWorksModel" "handMany" "I" ∈ wsX4_push := List.mem_of_getElem? (i := 2) rfl
theorem lk_X4_push_9 : Cond.fieldLink RX4 9 "HatWorksModel" "hand" "[I" ∈ wsX4_push := List.mem_of_getElem? (i := 3) rfl
variable {K : hw_K} {l : Launch} {D : va_G} {ad : Nat → Nat} {t : Nat → ClassId} {X : hw_XT} {rm : Room} {g : hw_G} {a : hw_A} {c : Int64}
set_option maxHeartbeats 4000000 in
set_option maxRecDepth 100000 in
theorem k_M_push (hok : hw_XOK X) {n : Nat} {x : Int32} (h1 : g 1 = nI n) (hn : n ≤ 12) : hw_Ci l D (WM ad t) (hw_T t) X yX4_push wsX4_push (hw_rm 2) [.ref (ad 0), .int x] g a c (fun r g' a' c' => c' = c ∧ (if x < 50 ∨ 200 < x then g' = upd g 0 1 ∧ a' = a else if n = 12 then r = -1 ∧ g' = upd g 0 0 ∧ a' = a else r = nI (n + 1) ∧ g' = upd (upd g 0 0) 1 (nI (n + 1)) ∧ a' = va_up a 0 (upd (a 0) n x))) := by
  refine hw_Ci.mk (lv0 := [(0, _), (1, _)]) (by decide) rfl (Nat.le_of_ble_eq_true rfl) rfl (WM_ads ad t) hok (fun K F ret => ?_)
  have F : hw_F K l D (WM ad t) (hw_T t) X cX4_push RX4 wsX4_push (hw_rm 2) 2 := F
  refine hj_aload_n F 0 dX4_push_0 rfl rfl ?_
  refine hj_iconst F (v := 0) dX4_push_1 (by decide) ?_
  refine hp_M_thrown F hi_X4_push_M lk_X4_push_61 dX4_push_2 ?_
  refine hj_aload_n F 0 dX4_push_5 rfl rfl ?_
  refine hj_iload_n F 1 dX4_push_6 rfl rfl ?_
  refine hj_bipush F (v := 50) dX4_push_7 (by decide) ?_
  refine hj_icmp_lt F 19 dX4_push_9 (by decide) (fun q9 => ?_) (fun q9 => ?_)
  · refine hj_iconst F (v := 1) dX4_push_19 (by decide) ?_
    refine hj_goto F 24 dX4_push_20 (by decide) ?_
    refine hj_iconst F (v := 1) dX4_push_24 (by decide) ?_
    refine hj_cVi F (n := 2) (k_M_bad hok (by decide)) gX4_push_X4_bad rfl ⟨rfl, rfl⟩ (by decide +kernel) ⟨by decide, by decide⟩ 0 4 rfl rfl (As := [_, _]) rfl rfl (Nat.le_of_ble_eq_true rfl) ⟨Nat.zero_le _, Nat.zero_le _⟩ dX4_push_25 (hw_eq4 ?_)
    rw [if_neg (by decide)]
    refine hj_if_eq F 33 dX4_push_28 (by decide) (fun q28 => ?_) (fun q28 => ?_)
    · exact absurd q28 (by decide)
    · refine hj_iconst F (v := 0) dX4_push_31 (by decide) ?_
      exact ret dX4_push_32 rfl ⟨rfl, by rw [if_pos (Or.inl q9), upd_uu]; exact ⟨rfl, rfl⟩⟩
  · refine hj_iload_n F 1 dX4_push_12 rfl rfl ?_
    refine hj_sipush F (v := 200) dX4_push_13 (by decide) ?_
    refine hj_icmp_le F 23 dX4_push_16 (by decide) (fun q16 => ?_) (fun q16 => ?_)
    · refine hj_iconst F (v := 0) dX4_push_23 (by decide) ?_
      refine hj_iconst F (v := 1) dX4_push_24 (by decide) ?_
      refine hj_cVi F (n := 2) (k_M_bad hok (by decide)) gX4_push_X4_bad rfl ⟨rfl, rfl⟩ (by decide +kernel) ⟨by decide, by decide⟩ 0 4 rfl rfl (As := [_, _]) rfl rfl (Nat.le_of_ble_eq_true rfl) ⟨Nat.zero_le _, Nat.zero_le _⟩ dX4_push_25 (hw_eq4 ?_)
      rw [if_pos rfl]
      refine hj_if_eq F 33 dX4_push_28 (by decide) (fun q28_2 => ?_) (fun q28_2 => ?_)
      · refine hj_aload_n F 0 dX4_push_33 rfl rfl ?_
        refine hg_M_handMany F hi_X4_push_M lk_X4_push_68 dX4_push_34 ?_
        rw [pk_un (by decide), h1]
        refine hj_bipush F (v := 12) dX4_push_37 (by decide) ?_
        refine hj_icmp_ne F 44 dX4_push_39 (by decide) (fun q39 => ?_) (fun q39 => ?_)
        · have q39 : ¬ nI n = nI 12 := q39
          rw [nI_eq (by omega) (by omega)] at q39
          refine hj_aload_n F 0 dX4_push_44 rfl rfl ?_
          refine hg_M_hand F hi_X4_push_M lk_X4_push_9 dX4_push_45 ?_
          refine hj_aload_n F 0 dX4_push_48 rfl rfl ?_
          refine hg_M_handMany F hi_X4_push_M lk_X4_push_68 dX4_push_49 ?_
          refine hj_iload_n F 1 dX4_push_52 rfl rfl ?_
          refine hs_M_hand F (by rw [pk_un (by decide), h1]; exact vp_in_nI (show n < 12 by omega) (by decide)) dX4_push_53 ?_
          refine hj_aload_n F 0 dX4_push_54 rfl rfl ?_
          refine hj_dup F dX4_push_55 rfl ?_
          refine hg_M_handMany F hi_X4_push_M lk_X4_push_68 dX4_push_56 ?_
          refine hj_iconst F (v := 1) dX4_push_59 (by decide) ?_
          rw [pk_un (by decide), h1]
          refine hj_iadd F dX4_push_60 ?_
          rw [nI_1]
          refine hp_M_handMany F hi_X4_push_M lk_X4_push_68 dX4_push_61 ?_
          refine hj_aload_n F 0 dX4_push_64 rfl rfl ?_
          refine hg_M_handMany F hi_X4_push_M lk_X4_push_68 dX4_push_65 ?_
          rw [pk_us]
          exact ret dX4_push_68 rfl ⟨rfl, by rw [if_neg (fun z => z.elim q9 (fun z => absurd q16 (Int32.not_le.mpr z))), if_neg q39, nI_clamp (by omega)]; exact ⟨rfl, rfl, rfl⟩⟩
        · have q39 : nI n = nI 12 := q39
          rw [nI_eq (by omega) (by omega)] at q39
          refine hj_iconst F (v := -1) dX4_push_42 (by decide) ?_
          exact ret dX4_push_43 rfl ⟨rfl, by rw [if_neg (fun z => z.elim q9 (fun z => absurd q16 (Int32.not_le.mpr z))), if_pos q39]; exact ⟨rfl, rfl, rfl⟩⟩
      · exact absurd rfl q28_2
    · refine hj_iconst F (v := 1) dX4_push_19 (by decide) ?_
      refine hj_goto F 24 dX4_push_20 (by decide) ?_
      refine hj_iconst F (v := 1) dX4_push_24 (by decide) ?_
      refine hj_cVi F (n := 2) (k_M_bad hok (by decide)) gX4_push_X4_bad rfl ⟨rfl, rfl⟩ (by decide +kernel) ⟨by decide, by decide⟩ 0 4 rfl rfl (As := [_, _]) rfl rfl (Nat.le_of_ble_eq_true rfl) ⟨Nat.zero_le _, Nat.zero_le _⟩ dX4_push_25 (hw_eq4 ?_)
      rw [if_neg (by decide)]
      refine hj_if_eq F 33 dX4_push_28 (by decide) (fun q28_3 => ?_) (fun q28_3 => ?_)
      · exact absurd q28_3 (by decide)
      · refine hj_iconst F (v := 0) dX4_push_31 (by decide) ?_
        exact ret dX4_push_32 rfl ⟨rfl, by rw [if_pos (Or.inr (Int32.not_le.mp q16)), upd_uu]; exact ⟨rfl, rfl⟩⟩
def cp_o (f h : Nat → Int32) (k : Nat) : Nat → Nat → Int32
  | 0 => f
  | i + 1 => upd (cp_o f h k i) (k + i) (h i)
set_option maxHeartbeats 4000000 in
set_option maxRecDepth 100000 in
theorem lp_M_block (F : hw_F K l D (WM ad t) (hw_T t) X cX4_block RX4 wsX4_block rm 2) {B : Nat} (h2 : g 2 = nI B) (hB : B < 10) (hx : hw_J K (WM ad t) 0 0 g (va_up a 1 (cp_o (a 1) (a 0) (12 * B) 12)) c [(1, .int (nI 12)), (0, .ref (ad 0))] 74 []) : ∀ m i : Nat, 12 - i < m → i ≤ 12 → hw_J K (WM ad t) 0 0 g (va_up a 1 (cp_o (a 1) (a 0) (12 * B) i)) c [(1, .int (nI i)), (0, .ref (ad 0))] 42 [] := by
  intro m
  induction m with
  | zero => intro i hm; exact absurd hm (Nat.not_lt_zero _)
  | succ m ih =>
    intro i hm hi
    refine hj_iload_n F 0 dX4_block_42 rfl rfl ?_
    refine hj_bipush F (v := 12) dX4_block_43 (by decide) ?_
    refine hj_icmp_ge F 74 dX4_block_45 (by decide) (fun q45 => ?_) (fun q45 => ?_)
    · have q45 : nI 12 ≤ nI i := q45
      rw [nI_leI (by omega) (by omega)] at q45
      obtain rfl : i = 12 := by omega
      exact hx
    · have q45 : ¬ nI 12 ≤ nI i := q45
      rw [nI_leI (by omega) (by omega)] at q45
      refine hj_aload_n F 1 dX4_block_48 rfl rfl ?_
      refine hg_M_rings F hi_X4_block_M lk_X4_block_13 dX4_block_49 ?_
      refine hj_bipush F (v := 12) dX4_block_52 (by decide) ?_
      refine hj_aload_n F 1 dX4_block_54 rfl rfl ?_
      refine hg_M_blocks F hi_X4_block_M lk_X4_block_71 dX4_block_55 ?_
      rw [h2]
      refine hj_imul F dX4_block_58 ?_
      refine hj_iload_n F 0 dX4_block_59 rfl rfl ?_
      refine hj_iadd F dX4_block_60 ?_
      rw [show (12 : Int32) * nI B + nI i = nI (12 * B + i) from md_ix (k := 12)]
      refine hj_aload_n F 1 dX4_block_61 rfl rfl ?_
      refine hg_M_hand F hi_X4_block_M lk_X4_block_9 dX4_block_62 ?_
      refine hj_iload_n F 0 dX4_block_65 rfl rfl ?_
      refine hl_M_hand F (vp_in_nI (show i < 12 by omega) (by decide)) dX4_block_66 ?_
      refine hs_M_rings F (vp_in_nI (show 12 * B + i < 120 by omega) (by decide)) dX4_block_67 ?_
      refine hj_iinc F 0 (v := _ + 1) (lv' := [(1, _), (0, _)]) dX4_block_68 rfl rfl (by decide) rfl ?_
      refine hj_goto F 42 dX4_block_71 (by decide) ?_
      refine hj_lv [0, 1] rfl ?_
      rw [nI_1, nI_clamp (by omega), nI_clamp (by omega), vau_s, bx_uu, va_up_ne _ _ (show (0 : Nat) ≠ 1 by decide)]
      exact ih (i + 1) (by omega) (by omega)
set_option maxHeartbeats 4000000 in
set_option maxRecDepth 100000 in
theorem k_M_block (hok : hw_XOK X) {n B : Nat} (h1 : g 1 = nI n) (hn : n ≤ 12) (h2 : g 2 = nI B) (hB : B ≤ 10) : hw_Ci l D (WM ad t) (hw_T t) X yX4_block wsX4_block (hw_rm 2) [.ref (ad 0)] g a c (fun r g' a' c' => c' = c ∧ (if B = 10 then g' = upd g 0 1 ∧ a' = a else if n < 12 then r = -1 ∧ g' = upd g 0 0 ∧ a' = a else r = nI B ∧ g' = upd (upd (upd g 0 0) 1 0) 2 (nI (B + 1)) ∧ a' = (va_up a 1 (cp_o (a 1) (a 0) (12 * B) 12)))) := by
  refine hw_Ci.mk (lv0 := [(0, _)]) (by decide) rfl (Nat.le_of_ble_eq_true rfl) rfl (WM_ads ad t) hok (fun K F ret => ?_)
  have F : hw_F K l D (WM ad t) (hw_T t) X cX4_block RX4 wsX4_block (hw_rm 2) 2 := F
  refine hj_aload_n F 0 dX4_block_0 rfl rfl ?_
  refine hj_iconst F (v := 0) dX4_block_1 (by decide) ?_
  refine hp_M_thrown F hi_X4_block_M lk_X4_block_61 dX4_block_2 ?_
  refine hj_aload_n F 0 dX4_block_5 rfl rfl ?_
  refine hj_aload_n F 0 dX4_block_6 rfl rfl ?_
  refine hg_M_blocks F hi_X4_block_M lk_X4_block_71 dX4_block_7 ?_
  rw [pk_un (by decide), h2]
  refine hj_bipush F (v := 10) dX4_block_10 (by decide) ?_
  refine hj_icmp_ne F 19 dX4_block_12 (by decide) (fun q12 => ?_) (fun q12 => ?_)
  · have q12 : ¬ nI B = nI 10 := q12
    rw [nI_eq (by omega) (by omega)] at q12
    refine hj_iconst F (v := 0) dX4_block_19 (by decide) ?_
    refine hj_iconst F (v := 1) dX4_block_20 (by decide) ?_
    refine hj_cVi F (n := 2) (k_M_bad hok (by decide)) gX4_block_X4_bad rfl ⟨rfl, rfl⟩ (by decide +kernel) ⟨by decide, by decide⟩ 0 4 rfl rfl (As := [_, _]) rfl rfl (Nat.le_of_ble_eq_true rfl) ⟨Nat.zero_le _, Nat.zero_le _⟩ dX4_block_21 (hw_eq4 ?_)
    rw [if_pos rfl]
    refine hj_if_eq F 29 dX4_block_24 (by decide) (fun q24 => ?_) (fun q24 => ?_)
    · refine hj_aload_n F 0 dX4_block_29 rfl rfl ?_
      refine hg_M_handMany F hi_X4_block_M lk_X4_block_68 dX4_block_30 ?_
      rw [pk_un (by decide), h1]
      refine hj_bipush F (v := 12) dX4_block_33 (by decide) ?_
      refine hj_icmp_ge F 40 dX4_block_35 (by decide) (fun q35 => ?_) (fun q35 => ?_)
      · have q35 : nI 12 ≤ nI n := q35
        rw [nI_leI (by omega) (by omega)] at q35
        refine hj_iconst F (v := 0) dX4_block_40 (by decide) ?_
        refine hj_istore_n F (lv' := [(1, _), (0, _)]) dX4_block_41 rfl (by decide) rfl ?_
        have h74 : hw_J K (WM ad t) 0 0 (upd g 0 0) (va_up a 1 (cp_o (a 1) (a 0) (12 * B) 12)) c [(1, .int (nI 12)), (0, .ref (ad 0))] 74 [] := by
          refine hj_aload_n F 1 dX4_block_74 rfl rfl ?_
          refine hj_iconst F (v := 0) dX4_block_75 (by decide) ?_
          refine hp_M_handMany F hi_X4_block_M lk_X4_block_68 dX4_block_76 ?_
          refine hj_aload_n F 1 dX4_block_79 rfl rfl ?_
          refine hj_dup F dX4_block_80 rfl ?_
          refine hg_M_blocks F hi_X4_block_M lk_X4_block_71 dX4_block_81 ?_
          refine hj_iconst F (v := 1) dX4_block_84 (by decide) ?_
          rw [show upd (upd g 0 0) 1 0 2 = nI B from h2]
          refine hj_iadd F dX4_block_85 ?_
          rw [nI_1]
          refine hp_M_blocks F hi_X4_block_M lk_X4_block_71 dX4_block_86 ?_
          refine hj_aload_n F 1 dX4_block_89 rfl rfl ?_
          refine hg_M_blocks F hi_X4_block_M lk_X4_block_71 dX4_block_90 ?_
          refine hj_iconst F (v := 1) dX4_block_93 (by decide) ?_
          rw [pk_us]
          refine hj_isub F dX4_block_94 ?_
          rw [show nI (B + 1) - 1 = nI B from nI_pred B]
          exact ret dX4_block_95 rfl ⟨rfl, by rw [if_neg (by omega), if_neg (by omega)]; exact ⟨rfl, rfl, rfl⟩⟩
        have h := lp_M_block F (a := a) (g := upd g 0 0) (by rw [pk_un (by decide)]; exact h2) (by omega) h74 13 0 (by decide) (by decide)
        rw [show cp_o (a 1) (a 0) (12 * B) 0 = a 1 from rfl, vau_self a 1 rfl] at h
        exact h
      · have q35 : ¬ nI 12 ≤ nI n := q35
        rw [nI_leI (by omega) (by omega)] at q35
        refine hj_iconst F (v := -1) dX4_block_38 (by decide) ?_
        exact ret dX4_block_39 rfl ⟨rfl, by rw [if_neg q12, if_pos (by omega)]; exact ⟨rfl, rfl, rfl⟩⟩
    · exact absurd rfl q24
  · have q12 : nI B = nI 10 := q12
    rw [nI_eq (by omega) (by omega)] at q12
    refine hj_iconst F (v := 1) dX4_block_15 (by decide) ?_
    refine hj_goto F 20 dX4_block_16 (by decide) ?_
    refine hj_iconst F (v := 1) dX4_block_20 (by decide) ?_
    refine hj_cVi F (n := 2) (k_M_bad hok (by decide)) gX4_block_X4_bad rfl ⟨rfl, rfl⟩ (by decide +kernel) ⟨by decide, by decide⟩ 0 4 rfl rfl (As := [_, _]) rfl rfl (Nat.le_of_ble_eq_true rfl) ⟨Nat.zero_le _, Nat.zero_le _⟩ dX4_block_21 (hw_eq4 ?_)
    rw [if_neg (by decide)]
    refine hj_if_eq F 29 dX4_block_24 (by decide) (fun q24_2 => ?_) (fun q24_2 => ?_)
    · exact absurd q24_2 (by decide)
    · refine hj_iconst F (v := 0) dX4_block_27 (by decide) ?_
      exact ret dX4_block_28 rfl ⟨rfl, by rw [if_pos q12, upd_uu]; exact ⟨rfl, rfl⟩⟩
set_option maxHeartbeats 4000000 in
set_option maxRecDepth 100000 in
theorem k_M_misfit (hok : hw_XOK X) {n B : Nat} (h1 : g 1 = nI n) (hn : n ≤ 12) (h2 : g 2 = nI B) (hB : B ≤ 10) {x w : Int32} : hw_Ci l D (WM ad t) (hw_T t) X yX4_misfit wsX4_misfit (hw_rm 2) [.ref (ad 0), .int x, .int w] g a c (fun r g' a' c' => c' = c ∧ a' = a ∧ (if x < 0 ∨ nI B ≤ x then g' = upd g 0 1 else if w < 0 ∨ 12 ≤ w then g' = upd g 0 2 else g' = upd g 0 0 ∧ ∃ b j, b < B ∧ x = nI b ∧ j < 12 ∧ w = nI j ∧ r = (if n < 12 then -1 else ms (a 0) (fun i => a 1 (12 * b + i)) j 12))) := by
  refine hw_Ci.mk (lv0 := [(0, _), (1, _), (2, _)]) (by decide) rfl (Nat.le_of_ble_eq_true rfl) rfl (WM_ads ad t) hok (fun K F ret => ?_)
  have F : hw_F K l D (WM ad t) (hw_T t) X cX4_misfit RX4 wsX4_misfit (hw_rm 2) 3 := F
  by_cases hx : x < 0 ∨ nI B ≤ x
  · refine hj_aload_n F 0 dX4_misfit_0 rfl rfl ?_
    refine hj_iload_n F 1 dX4_misfit_1 rfl rfl ?_
    refine hj_cVi F (n := 1) (k_M_isBlock hok h2) gX4_misfit_X4_isBlock rfl ⟨rfl, rfl⟩ (by decide +kernel) ⟨by decide, by decide⟩ 0 4 rfl rfl (As := [_]) rfl rfl (Nat.le_of_ble_eq_true rfl) ⟨Nat.zero_le _, Nat.zero_le _⟩ dX4_misfit_2 ?_
    intro r9 g9 a9 c9 hq
    obtain ⟨hq, e2, e3⟩ := hq
    obtain rfl := e2.symm
    obtain rfl := e3.symm
    rw [if_pos hx] at hq
    obtain ⟨rfl, rfl⟩ := hq
    refine hj_if_eq F 31 dX4_misfit_5 (by decide) (fun q5 => ?_) (fun q5 => ?_)
    · refine hj_iconst F (v := 0) dX4_misfit_31 (by decide) ?_
      exact ret dX4_misfit_32 rfl ⟨rfl, rfl, by rw [if_pos hx]⟩
    · exact absurd rfl q5
  obtain ⟨b, hb, rfl⟩ : ∃ b, b < B ∧ x = nI b := by
    rcases pk_ix x (n := B) (by omega) with z | z | z
    · exact absurd (Or.inl z) hx
    · exact absurd (Or.inr z) hx
    · exact z
  refine hj_aload_n F 0 dX4_misfit_0 rfl rfl ?_
  refine hj_iload_n F 1 dX4_misfit_1 rfl rfl ?_
  refine hj_cVi F (n := 1) (k_M_isBlock hok h2) gX4_misfit_X4_isBlock rfl ⟨rfl, rfl⟩ (by decide +kernel) ⟨by decide, by decide⟩ 0 4 rfl rfl (As := [_]) rfl rfl (Nat.le_of_ble_eq_true rfl) ⟨Nat.zero_le _, Nat.zero_le _⟩ dX4_misfit_2 ?_
  intro r9 g9 a9 c9 hq
  obtain ⟨hq, e2, e3⟩ := hq
  obtain rfl := e2.symm
  obtain rfl := e3.symm
  rw [if_neg hx] at hq
  obtain ⟨rfl, rfl⟩ := hq
  refine hj_if_eq F 31 dX4_misfit_5 (by decide) (fun q5 => ?_) (fun q5 => ?_)
  · exact absurd q5 (by decide)
  · refine hj_aload_n F 0 dX4_misfit_8 rfl rfl ?_
    refine hj_iload_n F 2 dX4_misfit_9 rfl rfl ?_
    refine hj_if_lt F 19 dX4_misfit_10 (by decide) (fun q10 => ?_) (fun q10 => ?_)
    · refine hj_iconst F (v := 1) dX4_misfit_19 (by decide) ?_
      refine hj_goto F 24 dX4_misfit_20 (by decide) ?_
      refine hj_iconst F (v := 2) dX4_misfit_24 (by decide) ?_
      refine hj_cVi F (n := 2) (k_M_bad hok (by decide)) gX4_misfit_X4_bad rfl ⟨rfl, rfl⟩ (by decide +kernel) ⟨by decide, by decide⟩ 0 4 rfl rfl (As := [_, _]) rfl rfl (Nat.le_of_ble_eq_true rfl) ⟨Nat.zero_le _, Nat.zero_le _⟩ dX4_misfit_25 (hw_eq4 ?_)
      rw [if_neg (by decide)]
      refine hj_if_eq F 33 dX4_misfit_28 (by decide) (fun q28 => ?_) (fun q28 => ?_)
      · exact absurd q28 (by decide)
      · refine hj_iconst F (v := 0) dX4_misfit_31 (by decide) ?_
        exact ret dX4_misfit_32 rfl ⟨rfl, rfl, by rw [if_neg hx, if_pos (Or.inl q10), upd_uu]⟩
    · refine hj_iload_n F 2 dX4_misfit_13 rfl rfl ?_
      refine hj_bipush F (v := 12) dX4_misfit_14 (by decide) ?_
      refine hj_icmp_lt F 23 dX4_misfit_16 (by decide) (fun q16 => ?_) (fun q16 => ?_)
      · refine hj_iconst F (v := 0) dX4_misfit_23 (by decide) ?_
        refine hj_iconst F (v := 2) dX4_misfit_24 (by decide) ?_
        refine hj_cVi F (n := 2) (k_M_bad hok (by decide)) gX4_misfit_X4_bad rfl ⟨rfl, rfl⟩ (by decide +kernel) ⟨by decide, by decide⟩ 0 4 rfl rfl (As := [_, _]) rfl rfl (Nat.le_of_ble_eq_true rfl) ⟨Nat.zero_le _, Nat.zero_le _⟩ dX4_misfit_25 (hw_eq4 ?_)
        rw [if_pos rfl]
        refine hj_if_eq F 33 dX4_misfit_28 (by decide) (fun q28_2 => ?_) (fun q28_2 => ?_)
        · obtain ⟨j, hj, rfl⟩ : ∃ j, j < 12 ∧ w = nI j := by
            rcases pk_ix w (n := 12) (by decide) with z | z | z
            · exact absurd z q10
            · exact absurd q16 (Int32.not_lt.mpr z)
            · exact z
          refine hj_aload_n F 0 dX4_misfit_33 rfl rfl ?_
          refine hg_M_handMany F hi_X4_misfit_M lk_X4_misfit_68 dX4_misfit_34 ?_
          rw [pk_un (by decide), h1]
          refine hj_bipush F (v := 12) dX4_misfit_37 (by decide) ?_
          refine hj_icmp_ge F 46 dX4_misfit_39 (by decide) (fun q39 => ?_) (fun q39 => ?_)
          · have q39 : nI 12 ≤ nI n := q39
            rw [nI_leI (by omega) (by omega)] at q39
            refine hj_aload_n F 0 dX4_misfit_46 rfl rfl ?_
            refine hj_iload_n F 1 dX4_misfit_47 rfl rfl ?_
            refine hj_iload_n F 2 dX4_misfit_48 rfl rfl ?_
            refine hj_cVi F (n := 2) (k_M_misfitOf hok (b := b) (t9 := j) (by omega) hj) gX4_misfit_X4_misfitOf rfl ⟨rfl, rfl⟩ (by decide +kernel) ⟨by decide, by decide⟩ 0 4 rfl rfl (As := [_, _]) rfl rfl (Nat.le_of_ble_eq_true rfl) ⟨Nat.zero_le _, Nat.zero_le _⟩ dX4_misfit_49 (hw_eq4 ?_)
            exact ret dX4_misfit_52 rfl ⟨rfl, rfl, by rw [if_neg hx, if_neg (fun z => z.elim q10 (fun z => absurd q16 (Int32.not_lt.mpr z)))]; exact ⟨rfl, b, j, hb, rfl, hj, rfl, by rw [if_neg (by omega)]⟩⟩
          · have q39 : ¬ nI 12 ≤ nI n := q39
            rw [nI_leI (by omega) (by omega)] at q39
            refine hj_iconst F (v := -1) dX4_misfit_42 (by decide) ?_
            refine hj_goto F 52 dX4_misfit_43 (by decide) ?_
            exact ret dX4_misfit_52 rfl ⟨rfl, rfl, by rw [if_neg hx, if_neg (fun z => z.elim q10 (fun z => absurd q16 (Int32.not_lt.mpr z)))]; exact ⟨rfl, b, j, hb, rfl, hj, rfl, by rw [if_pos (by omega)]⟩⟩
        · exact absurd rfl q28_2
      · refine hj_iconst F (v := 1) dX4_misfit_19 (by decide) ?_
        refine hj_goto F 24 dX4_misfit_20 (by decide) ?_
        refine hj_iconst F (v := 2) dX4_misfit_24 (by decide) ?_
        refine hj_cVi F (n := 2) (k_M_bad hok (by decide)) gX4_misfit_X4_bad rfl ⟨rfl, rfl⟩ (by decide +kernel) ⟨by decide, by decide⟩ 0 4 rfl rfl (As := [_, _]) rfl rfl (Nat.le_of_ble_eq_true rfl) ⟨Nat.zero_le _, Nat.zero_le _⟩ dX4_misfit_25 (hw_eq4 ?_)
        rw [if_neg (by decide)]
        refine hj_if_eq F 33 dX4_misfit_28 (by decide) (fun q28_3 => ?_) (fun q28_3 => ?_)
        · exact absurd q28_3 (by decide)
        · refine hj_iconst F (v := 0) dX4_misfit_31 (by decide) ?_
          exact ret dX4_misfit_32 rfl ⟨rfl, rfl, by rw [if_neg hx, if_pos (Or.inr (Int32.not_lt.mp q16)), upd_uu]⟩
def md_sh (x s : Int32) : Int32 := vp_nar .byte (x >>> (s &&& 31)).toInt8.toInt32
theorem i8_of {y z : Int32} (h : y.toInt % 256 = z.toInt % 256) : y.toInt8 = z.toInt8 := by
  apply Int8.toInt_inj.mp
  rw [Int32.toInt_toInt8, Int32.toInt_toInt8]
  unfold Int.bmod
  have h : y.toInt % ((2 ^ 8 : Nat) : Int) = z.toInt % ((2 ^ 8 : Nat) : Int) := h
  rw [h]
theorem md_sh_eq {x : Int32} (s : Int32) (k : Nat) (hk : k = 24 ∨ k = 16 ∨ k = 8) (h1 : ((s &&& 31).toBitVec.smod 32).toNat = k) (h2 : ((s.toUInt32 &&& Int32.toUInt32 31).toBitVec % 32).toNat = k) : md_sh x s = tp_sh x s := by
  unfold md_sh tp_sh
  congr 2
  apply i8_of
  have e1 := pk_shr x (s &&& 31) k h1
  have e2 := pk_ushr x s k h2
  rw [e1]
  have hN : x.toBitVec.toNat < 4294967296 := x.toBitVec.isLt
  have hA : x.toInt = if 2 * x.toBitVec.toNat < 4294967296 then (x.toBitVec.toNat : Int) else (x.toBitVec.toNat : Int) - 4294967296 := BitVec.toInt_eq_toNat_cond x.toBitVec
  have hZ : ((x.toUInt32 >>> (s.toUInt32 &&& Int32.toUInt32 31)).toInt32).toInt = if 2 * ((x.toUInt32 >>> (s.toUInt32 &&& Int32.toUInt32 31)).toInt32).toBitVec.toNat < 4294967296 then (((x.toUInt32 >>> (s.toUInt32 &&& Int32.toUInt32 31)).toInt32).toBitVec.toNat : Int) else (((x.toUInt32 >>> (s.toUInt32 &&& Int32.toUInt32 31)).toInt32).toBitVec.toNat : Int) - 4294967296 := BitVec.toInt_eq_toNat_cond _
  rw [e2] at hZ
  rw [hZ, hA, Int.shiftRight_eq_div_pow]
  generalize x.toBitVec.toNat = N at hN ⊢
  rcases hk with rfl | rfl | rfl <;> (split <;> split <;> omega)
theorem md_sh0 (x : Int32) : md_sh x 0 = tp_sh x 0 := by
  unfold md_sh tp_sh
  have e2 : (x.toUInt32 >>> ((0 : Int32).toUInt32 &&& Int32.toUInt32 31)).toInt32 = x := by
    have h := pk_ushr x 0 0 (by decide)
    apply Int32.toBitVec_inj.mp
    apply BitVec.eq_of_toNat_eq
    rw [h]
    simp
  rw [e2, sb_shr0]
theorem md_sh24 (x : Int32) : md_sh x 24 = tp_sh x 24 := md_sh_eq 24 24 (by decide) (by decide) (by decide)
theorem md_sh16 (x : Int32) : md_sh x 16 = tp_sh x 16 := md_sh_eq 16 16 (by decide) (by decide) (by decide)
theorem md_sh8 (x : Int32) : md_sh x 8 = tp_sh x 8 := md_sh_eq 8 8 (by decide) (by decide) (by decide)
set_option maxHeartbeats 4000000 in
set_option maxRecDepth 100000 in
theorem st_M_feed (F : hw_F K l D (WM ad t) (hw_T t) X cX4_feed RX4 wsX4_feed rm 9) {n : Nat} {x1 x2 x3 x4 x5 v w s : Int32} (hs : ¬ s < 0) (hn : g 3 = nI n) (hn1 : n < 100) (h1 : hw_J K (WM ad t) 0 0 (upd g 3 (nI (n + 1))) (va_up a 2 (upd (a 2) n (md_sh v s))) c [(8, .int (s + (-8))), (7, .int v), (6, .int w), (0, .ref (ad 0)), (1, .int x1), (2, .int x2), (3, .int x3), (4, .int x4), (5, .int x5)] 76 []) : hw_J K (WM ad t) 0 0 g a c [(8, .int s), (7, .int v), (6, .int w), (0, .ref (ad 0)), (1, .int x1), (2, .int x2), (3, .int x3), (4, .int x4), (5, .int x5)] 76 [] := by
  refine hj_iload F 0 dX4_feed_76 rfl ?_
  refine hj_if_lt F 112 dX4_feed_78 (by decide) (fun q78 => ?_) (fun q78 => ?_)
  · exact absurd q78 hs
  · refine hj_aload_n F 3 dX4_feed_81 rfl rfl ?_
    refine hg_M_tape F hi_X4_feed_M lk_X4_feed_16 dX4_feed_82 ?_
    refine hj_aload_n F 3 dX4_feed_85 rfl rfl ?_
    refine hg_M_taped F hi_X4_feed_M lk_X4_feed_82 dX4_feed_86 ?_
    refine hj_iload F 1 dX4_feed_89 rfl ?_
    refine hj_iload F 0 dX4_feed_91 rfl ?_
    refine hj_ishr F dX4_feed_93 ?_
    refine hj_i2b F dX4_feed_94 ?_
    refine hs_M_tape F (by rw [hn]; exact vp_in_nI hn1 (by decide)) dX4_feed_95 ?_
    refine hj_aload_n F 3 dX4_feed_96 rfl rfl ?_
    refine hj_dup F dX4_feed_97 rfl ?_
    refine hg_M_taped F hi_X4_feed_M lk_X4_feed_82 dX4_feed_98 ?_
    refine hj_iconst F (v := 1) dX4_feed_101 (by decide) ?_
    refine hj_iadd F dX4_feed_102 ?_
    refine hp_M_taped F hi_X4_feed_M lk_X4_feed_82 dX4_feed_103 ?_
    refine hj_iinc F 0 (v := _ + (-8)) (lv' := [(8, _), (7, _), (6, _), (0, _), (1, _), (2, _), (3, _), (4, _), (5, _)]) dX4_feed_106 rfl rfl (by decide) rfl ?_
    refine hj_goto F 76 dX4_feed_109 (by decide) ?_
    rw [hn, nI_1, nI_clamp (by omega)]
    exact h1
set_option maxHeartbeats 4000000 in
set_option maxRecDepth 100000 in
theorem se_M_feed (F : hw_F K l D (WM ad t) (hw_T t) X cX4_feed RX4 wsX4_feed rm 9) {x1 x2 x3 x4 x5 v w s : Int32} (hs : s < 0) (h1 : hw_J K (WM ad t) 0 0 g a c [(6, .int (w + 1)), (0, .ref (ad 0)), (1, .int x1), (2, .int x2), (3, .int x3), (4, .int x4), (5, .int x5)] 22 []) : hw_J K (WM ad t) 0 0 g a c [(8, .int s), (7, .int v), (6, .int w), (0, .ref (ad 0)), (1, .int x1), (2, .int x2), (3, .int x3), (4, .int x4), (5, .int x5)] 76 [] := by
  refine hj_iload F 0 dX4_feed_76 rfl ?_
  refine hj_if_lt F 112 dX4_feed_78 (by decide) (fun q78 => ?_) (fun q78 => ?_)
  · refine hj_iinc F 2 (v := _ + 1) (lv' := [(6, _), (8, _), (7, _), (0, _), (1, _), (2, _), (3, _), (4, _), (5, _)]) dX4_feed_112 rfl rfl (by decide) rfl ?_
    refine hj_goto F 22 dX4_feed_115 (by decide) ?_
    refine hj_lv [0, 3, 4, 5, 6, 7, 8] rfl ?_
    exact h1
  · exact absurd hs q78
set_option maxHeartbeats 4000000 in
set_option maxRecDepth 100000 in
theorem sw_M_feed (F : hw_F K l D (WM ad t) (hw_T t) X cX4_feed RX4 wsX4_feed rm 9) {n : Nat} {x1 x2 x3 x4 x5 v w : Int32} (hn : g 3 = nI n) (hn1 : n + 4 ≤ 100) (h1 : hw_J K (WM ad t) 0 0 (upd g 3 (nI (n + 4))) (va_up a 2 (tp_put4 (a 2) n v)) c [(6, .int (w + 1)), (0, .ref (ad 0)), (1, .int x1), (2, .int x2), (3, .int x3), (4, .int x4), (5, .int x5)] 22 []) : hw_J K (WM ad t) 0 0 g a c [(8, .int 24), (7, .int v), (6, .int w), (0, .ref (ad 0)), (1, .int x1), (2, .int x2), (3, .int x3), (4, .int x4), (5, .int x5)] 76 [] := by
  refine st_M_feed F (by decide) hn (by omega) ?_
  refine st_M_feed F (by decide) pk_us (by omega) ?_
  refine st_M_feed F (by decide) pk_us (by omega) ?_
  refine st_M_feed F (by decide) pk_us (by omega) ?_
  refine se_M_feed F (by decide) ?_
  simp only [upd_uu, bx_uu, vau_s]
  rw [md_sh24, show md_sh v (24 + -8) = tp_sh v 16 from md_sh16 v, show md_sh v (24 + -8 + -8) = tp_sh v 8 from md_sh8 v, show md_sh v (24 + -8 + -8 + -8) = tp_sh v 0 from md_sh0 v]
  exact h1
-- feed
set_option maxHeartbeats 4000000 in
set_option maxRecDepth 100000 in
theorem w0_M_feed (F : hw_F K l D (WM ad t) (hw_T t) X cX4_feed RX4 wsX4_feed rm 9) {n : Nat} {x1 x2 x3 x4 x5 : Int32} (hn : g 3 = nI n) (hn1 : n + 4 ≤ 100) (h1 : hw_J K (WM ad t) 0 0 (upd g 3 (nI (n + 4))) (va_up a 2 (tp_put4 (a 2) n x1)) c [(6, .int (0 + 1)), (0, .ref (ad 0)), (1, .int x1), (2, .int x2), (3, .int x3), (4, .int x4), (5, .int x5)] 22 []) : hw_J K (WM ad t) 0 0 g a c [(6, .int 0), (0, .ref (ad 0)), (1, .int x1), (2, .int x2), (3, .int x3), (4, .int x4), (5, .int x5)] 22 [] := by
  refine hj_iload F 0 dX4_feed_22 rfl ?_
  refine hj_iconst F (v := 5) dX4_feed_24 (by decide) ?_
  refine hj_icmp_ge F 118 dX4_feed_25 (by decide) (fun q25 => ?_) (fun q25 => ?_)
  · exact absurd q25 (by decide)
  · refine hj_iload F 0 dX4_feed_28 rfl ?_
    refine hj_if_ne F 37 dX4_feed_30 (by decide) (fun q30 => ?_) (fun q30 => ?_)
    · exact absurd rfl q30
    · refine hj_iload_n F 2 dX4_feed_33 rfl rfl ?_
      refine hj_goto F 70 dX4_feed_34 (by decide) ?_
      refine hj_istore F (lv' := [(7, _), (6, _), (0, _), (1, _), (2, _), (3, _), (4, _), (5, _)]) dX4_feed_70 (by decide) rfl ?_
      refine hj_bipush F (v := 24) dX4_feed_72 (by decide) ?_
      refine hj_istore F (lv' := [(8, _), (7, _), (6, _), (0, _), (1, _), (2, _), (3, _), (4, _), (5, _)]) dX4_feed_74 (by decide) rfl ?_
      refine hj_lv [0, 1, 2, 3, 4, 5, 6, 7, 8] rfl ?_
      refine sw_M_feed F hn hn1 ?_
      exact h1
set_option maxHeartbeats 4000000 in
set_option maxRecDepth 100000 in
theorem w1_M_feed (F : hw_F K l D (WM ad t) (hw_T t) X cX4_feed RX4 wsX4_feed rm 9) {n : Nat} {x1 x2 x3 x4 x5 : Int32} (hn : g 3 = nI n) (hn1 : n + 4 ≤ 100) (h1 : hw_J K (WM ad t) 0 0 (upd g 3 (nI (n + 4))) (va_up a 2 (tp_put4 (a 2) n x2)) c [(6, .int (1 + 1)), (0, .ref (ad 0)), (1, .int x1), (2, .int x2), (3, .int x3), (4, .int x4), (5, .int x5)] 22 []) : hw_J K (WM ad t) 0 0 g a c [(6, .int 1), (0, .ref (ad 0)), (1, .int x1), (2, .int x2), (3, .int x3), (4, .int x4), (5, .int x5)] 22 [] := by
  refine hj_iload F 0 dX4_feed_22 rfl ?_
  refine hj_iconst F (v := 5) dX4_feed_24 (by decide) ?_
  refine hj_icmp_ge F 118 dX4_feed_25 (by decide) (fun q25 => ?_) (fun q25 => ?_)
  · exact absurd q25 (by decide)
  · refine hj_iload F 0 dX4_feed_28 rfl ?_
    refine hj_if_ne F 37 dX4_feed_30 (by decide) (fun q30 => ?_) (fun q30 => ?_)
    · refine hj_iload F 0 dX4_feed_37 rfl ?_
      refine hj_iconst F (v := 1) dX4_feed_39 (by decide) ?_
      refine hj_icmp_ne F 47 dX4_feed_40 (by decide) (fun q40 => ?_) (fun q40 => ?_)
      · exact absurd rfl q40
      · refine hj_iload_n F 3 dX4_feed_43 rfl rfl ?_
        refine hj_goto F 70 dX4_feed_44 (by decide) ?_
        refine hj_istore F (lv' := [(7, _), (6, _), (0, _), (1, _), (2, _), (3, _), (4, _), (5, _)]) dX4_feed_70 (by decide) rfl ?_
        refine hj_bipush F (v := 24) dX4_feed_72 (by decide) ?_
        refine hj_istore F (lv' := [(8, _), (7, _), (6, _), (0, _), (1, _), (2, _), (3, _), (4, _), (5, _)]) dX4_feed_74 (by decide) rfl ?_
        refine hj_lv [0, 1, 2, 3, 4, 5, 6, 7, 8] rfl ?_
        refine sw_M_feed F hn hn1 ?_
        exact h1
    · exact absurd q30 (by decide)
set_option maxHeartbeats 4000000 in
set_option maxRecDepth 100000 in
theorem w2_M_feed (F : hw_F K l D (WM ad t) (hw_T t) X cX4_feed RX4 wsX4_feed rm 9) {n : Nat} {x1 x2 x3 x4 x5 : Int32} (hn : g 3 = nI n) (hn1 : n + 4 ≤ 100) (h1 : hw_J K (WM ad t) 0 0 (upd g 3 (nI (n + 4))) (va_up a 2 (tp_put4 (a 2) n x3)) c [(6, .int (2 + 1)), (0, .ref (ad 0)), (1, .int x1), (2, .int x2), (3, .int x3), (4, .int x4), (5, .int x5)] 22 []) : hw_J K (WM ad t) 0 0 g a c [(6, .int 2), (0, .ref (ad 0)), (1, .int x1), (2, .int x2), (3, .int x3), (4, .int x4), (5, .int x5)] 22 [] := by
  refine hj_iload F 0 dX4_feed_22 rfl ?_
  refine hj_iconst F (v := 5) dX4_feed_24 (by decide) ?_
  refine hj_icmp_ge F 118 dX4_feed_25 (by decide) (fun q25 => ?_) (fun q25 => ?_)
  · exact absurd q25 (by decide)
  · refine hj_iload F 0 dX4_feed_28 rfl ?_
    refine hj_if_ne F 37 dX4_feed_30 (by decide) (fun q30 => ?_) (fun q30 => ?_)
    · refine hj_iload F 0 dX4_feed_37 rfl ?_
      refine hj_iconst F (v := 1) dX4_feed_39 (by decide) ?_
      refine hj_icmp_ne F 47 dX4_feed_40 (by decide) (fun q40 => ?_) (fun q40 => ?_)
      · refine hj_iload F 0 dX4_feed_47 rfl ?_
        refine hj_iconst F (v := 2) dX4_feed_49 (by decide) ?_
        refine hj_icmp_ne F 57 dX4_feed_50 (by decide) (fun q50 => ?_) (fun q50 => ?_)
        · exact absurd rfl q50
        · refine hj_iload_n F 4 dX4_feed_53 rfl rfl ?_
          refine hj_goto F 70 dX4_feed_54 (by decide) ?_
          refine hj_istore F (lv' := [(7, _), (6, _), (0, _), (1, _), (2, _), (3, _), (4, _), (5, _)]) dX4_feed_70 (by decide) rfl ?_
          refine hj_bipush F (v := 24) dX4_feed_72 (by decide) ?_
          refine hj_istore F (lv' := [(8, _), (7, _), (6, _), (0, _), (1, _), (2, _), (3, _), (4, _), (5, _)]) dX4_feed_74 (by decide) rfl ?_
          refine hj_lv [0, 1, 2, 3, 4, 5, 6, 7, 8] rfl ?_
          refine sw_M_feed F hn hn1 ?_
          exact h1
      · exact absurd q40 (by decide)
    · exact absurd q30 (by decide)
set_option maxHeartbeats 4000000 in
set_option maxRecDepth 100000 in
theorem w3_M_feed (F : hw_F K l D (WM ad t) (hw_T t) X cX4_feed RX4 wsX4_feed rm 9) {n : Nat} {x1 x2 x3 x4 x5 : Int32} (hn : g 3 = nI n) (hn1 : n + 4 ≤ 100) (h1 : hw_J K (WM ad t) 0 0 (upd g 3 (nI (n + 4))) (va_up a 2 (tp_put4 (a 2) n x4)) c [(6, .int (3 + 1)), (0, .ref (ad 0)), (1, .int x1), (2, .int x2), (3, .int x3), (4, .int x4), (5, .int x5)] 22 []) : hw_J K (WM ad t) 0 0 g a c [(6, .int 3), (0, .ref (ad 0)), (1, .int x1), (2, .int x2), (3, .int x3), (4, .int x4), (5, .int x5)] 22 [] := by
  refine hj_iload F 0 dX4_feed_22 rfl ?_
  refine hj_iconst F (v := 5) dX4_feed_24 (by decide) ?_
  refine hj_icmp_ge F 118 dX4_feed_25 (by decide) (fun q25 => ?_) (fun q25 => ?_)
  · exact absurd q25 (by decide)
  · refine hj_iload F 0 dX4_feed_28 rfl ?_
    refine hj_if_ne F 37 dX4_feed_30 (by decide) (fun q30 => ?_) (fun q30 => ?_)
    · refine hj_iload F 0 dX4_feed_37 rfl ?_
      refine hj_iconst F (v := 1) dX4_feed_39 (by decide) ?_
      refine hj_icmp_ne F 47 dX4_feed_40 (by decide) (fun q40 => ?_) (fun q40 => ?_)
      · refine hj_iload F 0 dX4_feed_47 rfl ?_
        refine hj_iconst F (v := 2) dX4_feed_49 (by decide) ?_
        refine hj_icmp_ne F 57 dX4_feed_50 (by decide) (fun q50 => ?_) (fun q50 => ?_)
        · refine hj_iload F 0 dX4_feed_57 rfl ?_
          refine hj_iconst F (v := 3) dX4_feed_59 (by decide) ?_
          refine hj_icmp_ne F 68 dX4_feed_60 (by decide) (fun q60 => ?_) (fun q60 => ?_)
          · exact absurd rfl q60
          · refine hj_iload F 5 dX4_feed_63 rfl ?_
            refine hj_goto F 70 dX4_feed_65 (by decide) ?_
            refine hj_istore F (lv' := [(7, _), (6, _), (0, _), (1, _), (2, _), (3, _), (4, _), (5, _)]) dX4_feed_70 (by decide) rfl ?_
            refine hj_bipush F (v := 24) dX4_feed_72 (by decide) ?_
            refine hj_istore F (lv' := [(8, _), (7, _), (6, _), (0, _), (1, _), (2, _), (3, _), (4, _), (5, _)]) dX4_feed_74 (by decide) rfl ?_
            refine hj_lv [0, 1, 2, 3, 4, 5, 6, 7, 8] rfl ?_
            refine sw_M_feed F hn hn1 ?_
            exact h1
        · exact absurd q50 (by decide)
      · exact absurd q40 (by decide)
    · exact absurd q30 (by decide)
set_option maxHeartbeats 4000000 in
set_option maxRecDepth 100000 in
theorem w4_M_feed (F : hw_F K l D (WM ad t) (hw_T t) X cX4_feed RX4 wsX4_feed rm 9) {n : Nat} {x1 x2 x3 x4 x5 : Int32} (hn : g 3 = nI n) (hn1 : n + 4 ≤ 100) (h1 : hw_J K (WM ad t) 0 0 (upd g 3 (nI (n + 4))) (va_up a 2 (tp_put4 (a 2) n x5)) c [(6, .int (4 + 1)), (0, .ref (ad 0)), (1, .int x1), (2, .int x2), (3, .int x3), (4, .int x4), (5, .int x5)] 22 []) : hw_J K (WM ad t) 0 0 g a c [(6, .int 4), (0, .ref (ad 0)), (1, .int x1), (2, .int x2), (3, .int x3), (4, .int x4), (5, .int x5)] 22 [] := by
  refine hj_iload F 0 dX4_feed_22 rfl ?_
  refine hj_iconst F (v := 5) dX4_feed_24 (by decide) ?_
  refine hj_icmp_ge F 118 dX4_feed_25 (by decide) (fun q25 => ?_) (fun q25 => ?_)
  · exact absurd q25 (by decide)
  · refine hj_iload F 0 dX4_feed_28 rfl ?_
    refine hj_if_ne F 37 dX4_feed_30 (by decide) (fun q30 => ?_) (fun q30 => ?_)
    · refine hj_iload F 0 dX4_feed_37 rfl ?_
      refine hj_iconst F (v := 1) dX4_feed_39 (by decide) ?_
      refine hj_icmp_ne F 47 dX4_feed_40 (by decide) (fun q40 => ?_) (fun q40 => ?_)
      · refine hj_iload F 0 dX4_feed_47 rfl ?_
        refine hj_iconst F (v := 2) dX4_feed_49 (by decide) ?_
        refine hj_icmp_ne F 57 dX4_feed_50 (by decide) (fun q50 => ?_) (fun q50 => ?_)
        · refine hj_iload F 0 dX4_feed_57 rfl ?_
          refine hj_iconst F (v := 3) dX4_feed_59 (by decide) ?_
          refine hj_icmp_ne F 68 dX4_feed_60 (by decide) (fun q60 => ?_) (fun q60 => ?_)
          · refine hj_iload F 6 dX4_feed_68 rfl ?_
            refine hj_istore F (lv' := [(7, _), (6, _), (0, _), (1, _), (2, _), (3, _), (4, _), (5, _)]) dX4_feed_70 (by decide) rfl ?_
            refine hj_bipush F (v := 24) dX4_feed_72 (by decide) ?_
            refine hj_istore F (lv' := [(8, _), (7, _), (6, _), (0, _), (1, _), (2, _), (3, _), (4, _), (5, _)]) dX4_feed_74 (by decide) rfl ?_
            refine hj_lv [0, 1, 2, 3, 4, 5, 6, 7, 8] rfl ?_
            refine sw_M_feed F hn hn1 ?_
            exact h1
          · exact absurd q60 (by decide)
        · exact absurd q50 (by decide)
      · exact absurd q40 (by decide)
    · exact absurd q30 (by decide)
set_option maxHeartbeats 4000000 in
set_option maxRecDepth 100000 in
theorem k_M_feed (hok : hw_XOK X) {n : Nat} {x1 x2 x3 x4 x5 : Int32} (h3 : g 3 = nI n) (hn : n ≤ 100) : hw_Ci l D (WM ad t) (hw_T t) X yX4_feed wsX4_feed (hw_rm 1) [.ref (ad 0), .int x1, .int x2, .int x3, .int x4, .int x5] g a c (fun r g' a' c' => c' = c ∧ (if n ≤ 80 then r = nI (n + 20) ∧ g' = upd (upd g 0 0) 3 (nI (n + 20)) ∧ a' = va_up a 2 (fd_b (a 2) n x1 x2 x3 x4 x5) else r = -1 ∧ g' = upd g 0 0 ∧ a' = a)) := by
  refine hw_Ci.mk (lv0 := [(0, _), (1, _), (2, _), (3, _), (4, _), (5, _)]) (by decide) rfl (Nat.le_of_ble_eq_true rfl) rfl (WM_ads ad t) hok (fun K F ret => ?_)
  have F : hw_F K l D (WM ad t) (hw_T t) X cX4_feed RX4 wsX4_feed (hw_rm 1) 9 := F
  refine hj_aload_n F 0 dX4_feed_0 rfl rfl ?_
  refine hj_iconst F (v := 0) dX4_feed_1 (by decide) ?_
  refine hp_M_thrown F hi_X4_feed_M lk_X4_feed_61 dX4_feed_2 ?_
  refine hj_aload_n F 0 dX4_feed_5 rfl rfl ?_
  refine hg_M_taped F hi_X4_feed_M lk_X4_feed_82 dX4_feed_6 ?_
  rw [pk_un (by decide), h3]
  refine hj_bipush F (v := 20) dX4_feed_9 (by decide) ?_
  refine hj_iadd F dX4_feed_11 ?_
  rw [show nI n + 20 = nI (n + 20) from nI_add n 20]
  refine hj_bipush F (v := 100) dX4_feed_12 (by decide) ?_
  refine hj_icmp_le F 19 dX4_feed_14 (by decide) (fun q14 => ?_) (fun q14 => ?_)
  · have q14 : nI (n + 20) ≤ nI 100 := q14
    rw [nI_leI (by omega) (by omega)] at q14
    have q14 : n ≤ 80 := by omega
    refine hj_iconst F (v := 0) dX4_feed_19 (by decide) ?_
    refine hj_istore F (lv' := [(6, _), (0, _), (1, _), (2, _), (3, _), (4, _), (5, _)]) dX4_feed_20 (by decide) rfl ?_
    refine w0_M_feed F (n := n) (by rw [pk_un (by decide)]; exact h3) (by omega) ?_
    refine w1_M_feed F (n := n + 4) pk_us (by omega) ?_
    refine w2_M_feed F (n := n + 8) pk_us (by omega) ?_
    refine w3_M_feed F (n := n + 12) pk_us (by omega) ?_
    refine w4_M_feed F (n := n + 16) pk_us (by omega) ?_
    simp only [upd_uu, bx_uu, vau_s]
    refine hj_iload F 0 dX4_feed_22 rfl ?_
    refine hj_iconst F (v := 5) dX4_feed_24 (by decide) ?_
    refine hj_icmp_ge F 118 dX4_feed_25 (by decide) (fun q25 => ?_) (fun q25 => ?_)
    · refine hj_aload_n F 1 dX4_feed_118 rfl rfl ?_
      refine hg_M_taped F hi_X4_feed_M lk_X4_feed_82 dX4_feed_119 ?_
      rw [pk_us]
      exact ret dX4_feed_122 rfl ⟨rfl, by rw [if_pos q14]; exact ⟨rfl, rfl, rfl⟩⟩
    · exact absurd (by decide) q25
  · have q14 : ¬ nI (n + 20) ≤ nI 100 := q14
    rw [nI_leI (by omega) (by omega)] at q14
    refine hj_iconst F (v := -1) dX4_feed_17 (by decide) ?_
    exact ret dX4_feed_18 rfl ⟨rfl, by rw [if_neg (by omega)]; exact ⟨rfl, rfl, rfl⟩⟩
end SMOD2
