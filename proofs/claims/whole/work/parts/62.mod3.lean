section SMOD3
theorem hi_X4_goes_M : ∀ w ∈ u_ws RX4 TX4 28, w ∈ wsX4_goes := fun w h => by
  unfold wsX4_goes
  simp only [List.mem_cons, List.mem_append]
  first | (simp only [h, or_true, true_or]; done) | (have h2 : w ∈ wsX40 := h; simp only [h2, or_true, true_or]; done)
theorem lk_X4_goes_150 : Cond.fieldLink RX4 150 "HatWorksModel" "now" "I" ∈ wsX4_goes := List.mem_of_getElem? (i := 2) rfl
theorem lk_X4_goes_153 : Cond.fieldLink RX4 153 "HatWorksModel" "steamer" "I" ∈ wsX4_goes := List.mem_of_getElem? (i := 3) rfl
theorem lk_X4_goes_31 : Cond.fieldLink RX4 31 "HatWorksModel" "lastSteam" "I" ∈ wsX4_goes := List.mem_of_getElem? (i := 5) rfl
theorem lk_X4_goes_34 : Cond.fieldLink RX4 34 "HatWorksModel" "blockFree" "[I" ∈ wsX4_goes := List.mem_of_getElem? (i := 4) rfl
theorem lk_X4_goes_37 : Cond.fieldLink RX4 37 "HatWorksModel" "lastOn" "[I" ∈ wsX4_goes := List.mem_of_getElem? (i := 6) rfl
theorem lk_X4_goes_40 : Cond.fieldLink RX4 40 "HatWorksModel" "order" "[I" ∈ wsX4_goes := List.mem_of_getElem? (i := 1) rfl
theorem hi_X4_told_M : ∀ w ∈ u_ws RX4 TX4 28, w ∈ wsX4_told := fun w h => by
  unfold wsX4_told
  simp only [List.mem_cons, List.mem_append]
  first | (simp only [h, or_true, true_or]; done) | (have h2 : w ∈ wsX40 := h; simp only [h2, or_true, true_or]; done)
theorem lk_X4_told_150 : Cond.fieldLink RX4 150 "HatWorksModel" "now" "I" ∈ wsX4_told := List.mem_of_getElem? (i := 2) rfl
theorem lk_X4_told_40 : Cond.fieldLink RX4 40 "HatWorksModel" "order" "[I" ∈ wsX4_told := List.mem_of_getElem? (i := 1) rfl
variable {K : hw_K} {l : Launch} {D : va_G} {ad : Nat → Nat} {t : Nat → ClassId} {X : hw_XT} {rm : Room} {g : hw_G} {a : hw_A} {c : Int64}
def md_told (g : hw_G) (a : hw_A) (o j : Nat) : Int32 := if j = 8 ∧ a 7 (12 * o + 8) = 1 ∧ a 7 (12 * o + 10) ≤ g 8 then 2 else a 7 (12 * o + j)
set_option maxHeartbeats 4000000 in
set_option maxRecDepth 100000 in
theorem k_M_told (hok : hw_XOK X) {N : Nat} (h9 : g 9 = nI N) (hN : N ≤ 60) {x w : Int32} : hw_Ci l D (WM ad t) (hw_T t) X yX4_told wsX4_told (hw_rm 2) [.ref (ad 0), .int x, .int w] g a c (fun r g' a' c' => c' = c ∧ a' = a ∧ (if x < 0 ∨ nI N ≤ x then g' = upd g 0 1 else if w < 0 ∨ 11 < w then g' = upd g 0 2 else g' = upd g 0 0 ∧ ∃ o j, o < N ∧ x = nI o ∧ j < 12 ∧ w = nI j ∧ r = md_told g a o j)) := by
  refine hw_Ci.mk (lv0 := [(0, _), (1, _), (2, _)]) (by decide) rfl (Nat.le_of_ble_eq_true rfl) rfl (WM_ads ad t) hok (fun K F ret => ?_)
  have F : hw_F K l D (WM ad t) (hw_T t) X cX4_told RX4 wsX4_told (hw_rm 2) 4 := F
  by_cases hx : x < 0 ∨ nI N ≤ x
  · refine hj_aload_n F 0 dX4_told_0 rfl rfl ?_
    refine hj_iload_n F 1 dX4_told_1 rfl rfl ?_
    refine hj_cVi F (n := 1) (k_M_isOrder hok h9) gX4_told_X4_isOrder rfl ⟨rfl, rfl⟩ (by decide +kernel) ⟨by decide, by decide⟩ 0 4 rfl rfl (As := [_]) rfl rfl (Nat.le_of_ble_eq_true rfl) ⟨Nat.zero_le _, Nat.zero_le _⟩ dX4_told_2 ?_
    intro r9 g9 a9 c9 hq
    obtain ⟨hq, e2, e3⟩ := hq
    obtain rfl := e2.symm
    obtain rfl := e3.symm
    rw [if_pos hx] at hq
    obtain ⟨rfl, rfl⟩ := hq
    refine hj_if_eq F 31 dX4_told_5 (by decide) (fun q5 => ?_) (fun q5 => ?_)
    · refine hj_iconst F (v := 0) dX4_told_31 (by decide) ?_
      exact ret dX4_told_32 rfl ⟨rfl, rfl, by rw [if_pos hx]⟩
    · exact absurd rfl q5
  obtain ⟨o, ho, rfl⟩ : ∃ b, b < N ∧ x = nI b := by
    rcases pk_ix x (n := N) (by omega) with z | z | z
    · exact absurd (Or.inl z) hx
    · exact absurd (Or.inr z) hx
    · exact z
  refine hj_aload_n F 0 dX4_told_0 rfl rfl ?_
  refine hj_iload_n F 1 dX4_told_1 rfl rfl ?_
  refine hj_cVi F (n := 1) (k_M_isOrder hok h9) gX4_told_X4_isOrder rfl ⟨rfl, rfl⟩ (by decide +kernel) ⟨by decide, by decide⟩ 0 4 rfl rfl (As := [_]) rfl rfl (Nat.le_of_ble_eq_true rfl) ⟨Nat.zero_le _, Nat.zero_le _⟩ dX4_told_2 ?_
  intro r9 g9 a9 c9 hq
  obtain ⟨hq, e2, e3⟩ := hq
  obtain rfl := e2.symm
  obtain rfl := e3.symm
  rw [if_neg hx] at hq
  obtain ⟨rfl, rfl⟩ := hq
  refine hj_if_eq F 31 dX4_told_5 (by decide) (fun q5 => ?_) (fun q5 => ?_)
  · exact absurd q5 (by decide)
  · refine hj_aload_n F 0 dX4_told_8 rfl rfl ?_
    refine hj_iload_n F 2 dX4_told_9 rfl rfl ?_
    refine hj_if_lt F 19 dX4_told_10 (by decide) (fun q10 => ?_) (fun q10 => ?_)
    · refine hj_iconst F (v := 1) dX4_told_19 (by decide) ?_
      refine hj_goto F 24 dX4_told_20 (by decide) ?_
      refine hj_iconst F (v := 2) dX4_told_24 (by decide) ?_
      refine hj_cVi F (n := 2) (k_M_bad hok (by decide)) gX4_told_X4_bad rfl ⟨rfl, rfl⟩ (by decide +kernel) ⟨by decide, by decide⟩ 0 4 rfl rfl (As := [_, _]) rfl rfl (Nat.le_of_ble_eq_true rfl) ⟨Nat.zero_le _, Nat.zero_le _⟩ dX4_told_25 (hw_eq4 ?_)
      rw [if_neg (by decide)]
      refine hj_if_eq F 33 dX4_told_28 (by decide) (fun q28 => ?_) (fun q28 => ?_)
      · exact absurd q28 (by decide)
      · refine hj_iconst F (v := 0) dX4_told_31 (by decide) ?_
        exact ret dX4_told_32 rfl ⟨rfl, rfl, by rw [if_neg hx, if_pos (Or.inl q10), upd_uu]⟩
    · refine hj_iload_n F 2 dX4_told_13 rfl rfl ?_
      refine hj_bipush F (v := 11) dX4_told_14 (by decide) ?_
      refine hj_icmp_le F 23 dX4_told_16 (by decide) (fun q16 => ?_) (fun q16 => ?_)
      · refine hj_iconst F (v := 0) dX4_told_23 (by decide) ?_
        refine hj_iconst F (v := 2) dX4_told_24 (by decide) ?_
        refine hj_cVi F (n := 2) (k_M_bad hok (by decide)) gX4_told_X4_bad rfl ⟨rfl, rfl⟩ (by decide +kernel) ⟨by decide, by decide⟩ 0 4 rfl rfl (As := [_, _]) rfl rfl (Nat.le_of_ble_eq_true rfl) ⟨Nat.zero_le _, Nat.zero_le _⟩ dX4_told_25 (hw_eq4 ?_)
        rw [if_pos rfl]
        refine hj_if_eq F 33 dX4_told_28 (by decide) (fun q28_2 => ?_) (fun q28_2 => ?_)
        · obtain ⟨j, hj, rfl⟩ : ∃ j, j < 12 ∧ w = nI j := by
            rcases pk_ix w (n := 12) (by decide) with z | z | z
            · exact absurd z q10
            · exact absurd q16 (Int32.not_le.mpr (Int32.lt_of_lt_of_le (by decide) z))
            · exact z
          refine hj_aload_n F 0 dX4_told_33 rfl rfl ?_
          refine hg_M_order F hi_X4_told_M lk_X4_told_40 dX4_told_34 ?_
          refine hj_bipush F (v := 12) dX4_told_37 (by decide) ?_
          refine hj_iload_n F 1 dX4_told_39 rfl rfl ?_
          refine hj_imul F dX4_told_40 ?_
          refine hj_iload_n F 2 dX4_told_41 rfl rfl ?_
          refine hj_iadd F dX4_told_42 ?_
          rw [show (12 : Int32) * nI o + nI j = nI (12 * o + j) from md_ix (k := 12)]
          refine hl_M_order F (vp_in_nI (show 12 * o + j < 720 by omega) (by decide)) dX4_told_43 ?_
          rw [nI_clamp (by omega)]
          refine hj_istore_n F (lv' := [(3, _), (0, _), (1, _), (2, _)]) dX4_told_44 rfl (by decide) rfl ?_
          refine hj_iload_n F 3 dX4_told_45 rfl rfl ?_
          refine hj_bipush F (v := 8) dX4_told_46 (by decide) ?_
          refine hj_icmp_ne F 79 dX4_told_48 (by decide) (fun q48 => ?_) (fun q48 => ?_)
          · have q48 : ¬ nI j = nI 8 := q48
            rw [nI_eq (by omega) (by omega)] at q48
            refine hj_iload_n F 0 dX4_told_79 rfl rfl ?_
            exact ret dX4_told_80 rfl ⟨rfl, rfl, by rw [if_neg hx, if_neg (fun z => z.elim q10 (fun z => absurd q16 (Int32.not_le.mpr z)))]; exact ⟨rfl, o, j, ho, rfl, hj, rfl, (if_neg (fun z => q48 z.1)).symm⟩⟩
          · have q48 : nI j = nI 8 := q48
            rw [nI_eq (by omega) (by omega)] at q48
            subst q48
            refine hj_iload_n F 0 dX4_told_51 rfl rfl ?_
            refine hj_iconst F (v := 1) dX4_told_52 (by decide) ?_
            refine hj_icmp_ne F 79 dX4_told_53 (by decide) (fun q53 => ?_) (fun q53 => ?_)
            · refine hj_iload_n F 0 dX4_told_79 rfl rfl ?_
              exact ret dX4_told_80 rfl ⟨rfl, rfl, by rw [if_neg hx, if_neg (fun z => z.elim q10 (fun z => absurd q16 (Int32.not_le.mpr z)))]; exact ⟨rfl, o, 8, ho, rfl, hj, rfl, (if_neg (fun z => q53 z.2.1)).symm⟩⟩
            · refine hj_aload_n F 1 dX4_told_56 rfl rfl ?_
              refine hg_M_order F hi_X4_told_M lk_X4_told_40 dX4_told_57 ?_
              refine hj_bipush F (v := 12) dX4_told_60 (by decide) ?_
              refine hj_iload_n F 2 dX4_told_62 rfl rfl ?_
              refine hj_imul F dX4_told_63 ?_
              refine hj_bipush F (v := 10) dX4_told_64 (by decide) ?_
              refine hj_iadd F dX4_told_66 ?_
              rw [show (12 : Int32) * nI o + 10 = nI (12 * o + 10) from md_ix (k := 12) (j := 10)]
              refine hl_M_order F (vp_in_nI (show 12 * o + 10 < 720 by omega) (by decide)) dX4_told_67 ?_
              rw [nI_clamp (by omega)]
              refine hj_aload_n F 1 dX4_told_68 rfl rfl ?_
              refine hg_M_now F hi_X4_told_M lk_X4_told_150 dX4_told_69 ?_
              rw [pk_un (by decide)]
              refine hj_icmp_gt F 79 dX4_told_72 (by decide) (fun q72 => ?_) (fun q72 => ?_)
              · refine hj_iload_n F 0 dX4_told_79 rfl rfl ?_
                exact ret dX4_told_80 rfl ⟨rfl, rfl, by rw [if_neg hx, if_neg (fun z => z.elim q10 (fun z => absurd q16 (Int32.not_le.mpr z)))]; exact ⟨rfl, o, 8, ho, rfl, hj, rfl, (if_neg (fun z => absurd q72 (Int32.not_lt.mpr z.2.2))).symm⟩⟩
              · refine hj_iconst F (v := 2) dX4_told_75 (by decide) ?_
                refine hj_goto F 80 dX4_told_76 (by decide) ?_
                exact ret dX4_told_80 rfl ⟨rfl, rfl, by rw [if_neg hx, if_neg (fun z => z.elim q10 (fun z => absurd q16 (Int32.not_le.mpr z)))]; exact ⟨rfl, o, 8, ho, rfl, hj, rfl, (if_pos ⟨rfl, q53, Int32.not_lt.mp q72⟩).symm⟩⟩
        · exact absurd rfl q28_2
      · refine hj_iconst F (v := 1) dX4_told_19 (by decide) ?_
        refine hj_goto F 24 dX4_told_20 (by decide) ?_
        refine hj_iconst F (v := 2) dX4_told_24 (by decide) ?_
        refine hj_cVi F (n := 2) (k_M_bad hok (by decide)) gX4_told_X4_bad rfl ⟨rfl, rfl⟩ (by decide +kernel) ⟨by decide, by decide⟩ 0 4 rfl rfl (As := [_, _]) rfl rfl (Nat.le_of_ble_eq_true rfl) ⟨Nat.zero_le _, Nat.zero_le _⟩ dX4_told_25 (hw_eq4 ?_)
        rw [if_neg (by decide)]
        refine hj_if_eq F 33 dX4_told_28 (by decide) (fun q28_3 => ?_) (fun q28_3 => ?_)
        · exact absurd q28_3 (by decide)
        · refine hj_iconst F (v := 0) dX4_told_31 (by decide) ?_
          exact ret dX4_told_32 rfl ⟨rfl, rfl, by rw [if_neg hx, if_pos (Or.inr (Int32.not_le.mp q16)), upd_uu]⟩
def ge_s (g : hw_G) (a : hw_A) (o b : Nat) : Int32 := mxi (mxi (g 10) (g 8)) (a 5 b - a 7 (12 * o + 4))
def ge_h (g : hw_G) (a : hw_A) (b : Nat) (s : Int32) : Int32 := if s = g 8 then -1 else if s ≤ g 10 ∧ 0 ≤ g 11 then g 11 else a 6 b - 1
def ge_d (g : hw_G) (a : hw_A) (o b : Nat) : Int32 := ge_s g a o b + a 7 (12 * o + 4) + a 7 (12 * o + 5)
def ge_7 (g : hw_G) (a : hw_A) (o b : Nat) : Nat → Int32 := upd (upd (upd (upd (a 7) (12 * o + 8) 1) (12 * o + 9) (ge_s g a o b)) (12 * o + 10) (ge_d g a o b)) (12 * o + 11) (ge_h g a b (ge_s g a o b))
def ge_g (g : hw_G) (a : hw_A) (o b : Nat) : hw_G := upd (upd g 10 (ge_s g a o b + a 7 (12 * o + 4))) 11 (nI o)
def ge_a (g : hw_G) (a : hw_A) (o b : Nat) : hw_A := va_up (va_up (va_up a 7 (ge_7 g a o b)) 5 (upd (a 5) b (ge_d g a o b))) 6 (upd (a 6) b (nI (o + 1)))
set_option maxHeartbeats 4000000 in
set_option maxRecDepth 100000 in
theorem g2_M_goes (F : hw_F K l D (WM ad t) (hw_T t) X cX4_goes RX4 wsX4_goes rm 5) {o b : Nat} {s d h : Int32} (ho : o < 60) (hb : b < 10) (hret : ∀ {pc : Nat} {lv : List (Nat × Value)}, decode cX4_goes pc = .ok (.ireturn, 1) → hw_J K (WM ad t) 0 0 (upd (upd g 10 (s + a 7 (12 * o + 4))) 11 (nI o)) (va_up (va_up (va_up a 7 (upd (upd (upd (upd (a 7) (12 * o + 8) 1) (12 * o + 9) s) (12 * o + 10) d) (12 * o + 11) h)) 5 (upd (a 5) b d)) 6 (upd (a 6) b (nI (o + 1)))) c lv pc [.int s]) : hw_J K (WM ad t) 0 0 g (va_up a 7 (upd (upd (upd (a 7) (12 * o + 8) 1) (12 * o + 9) s) (12 * o + 10) d)) c [(4, .int s), (3, .int (nI b)), (2, .int (nI (12 * o))), (0, .ref (ad 0)), (1, .int (nI o))] 175 [.int h, .int (nI (12 * o + 11)), .ref (ad 17)] := by
  refine hs_M_order F (vp_in_nI (show 12 * o + 11 < 720 by omega) (by decide)) dX4_goes_175 ?_
  rw [nI_clamp (show 12 * o + 11 < 2 ^ 31 by omega)]
  try simp (disch := omega) only [va_up_ne, vau_s, bx_uu, upd_uu, pk_us, pk_un, cl0, cl1, cl2, cl3, cl4, cl5, cl6, cl7, cl8, cl9, cl10, cl11, cl12]
  refine hj_aload_n F 3 dX4_goes_176 rfl rfl ?_
  refine hj_iload F 0 dX4_goes_177 rfl ?_
  refine hj_aload_n F 3 dX4_goes_179 rfl rfl ?_
  refine hg_M_order F hi_X4_goes_M lk_X4_goes_40 dX4_goes_180 ?_
  refine hj_iload_n F 2 dX4_goes_183 rfl rfl ?_
  refine hj_iconst F (v := 4) dX4_goes_184 (by decide) ?_
  refine hj_iadd F dX4_goes_185 ?_
  rw [show nI (12 * o) + 4 = nI (12 * o + 4) from nI_add _ 4]
  refine hl_M_order F (vp_in_nI (show 12 * o + 4 < 720 by omega) (by decide)) dX4_goes_186 ?_
  rw [nI_clamp (show 12 * o + 4 < 2 ^ 31 by omega)]
  try simp (disch := omega) only [va_up_ne, vau_s, bx_uu, upd_uu, pk_us, pk_un, cl0, cl1, cl2, cl3, cl4, cl5, cl6, cl7, cl8, cl9, cl10, cl11, cl12]
  refine hj_iadd F dX4_goes_187 ?_
  refine hp_M_steamer F hi_X4_goes_M lk_X4_goes_153 dX4_goes_188 ?_
  refine hj_aload_n F 3 dX4_goes_191 rfl rfl ?_
  refine hj_iload_n F 4 dX4_goes_192 rfl rfl ?_
  refine hp_M_lastSteam F hi_X4_goes_M lk_X4_goes_31 dX4_goes_193 ?_
  refine hj_aload_n F 3 dX4_goes_196 rfl rfl ?_
  refine hg_M_blockFree F hi_X4_goes_M lk_X4_goes_34 dX4_goes_197 ?_
  refine hj_iload_n F 1 dX4_goes_200 rfl rfl ?_
  refine hj_aload_n F 3 dX4_goes_201 rfl rfl ?_
  refine hg_M_order F hi_X4_goes_M lk_X4_goes_40 dX4_goes_202 ?_
  refine hj_iload_n F 2 dX4_goes_205 rfl rfl ?_
  refine hj_bipush F (v := 10) dX4_goes_206 (by decide) ?_
  refine hj_iadd F dX4_goes_208 ?_
  rw [show nI (12 * o) + 10 = nI (12 * o + 10) from nI_add _ 10]
  refine hl_M_order F (vp_in_nI (show 12 * o + 10 < 720 by omega) (by decide)) dX4_goes_209 ?_
  rw [nI_clamp (show 12 * o + 10 < 2 ^ 31 by omega)]
  try simp (disch := omega) only [va_up_ne, vau_s, bx_uu, upd_uu, pk_us, pk_un, cl0, cl1, cl2, cl3, cl4, cl5, cl6, cl7, cl8, cl9, cl10, cl11, cl12]
  refine hs_M_blockFree F (vp_in_nI hb (by decide)) dX4_goes_210 ?_
  rw [nI_clamp (show b < 2 ^ 31 by omega)]
  try simp (disch := omega) only [va_up_ne, vau_s, bx_uu, upd_uu, pk_us, pk_un, cl0, cl1, cl2, cl3, cl4, cl5, cl6, cl7, cl8, cl9, cl10, cl11, cl12]
  refine hj_aload_n F 3 dX4_goes_211 rfl rfl ?_
  refine hg_M_lastOn F hi_X4_goes_M lk_X4_goes_37 dX4_goes_212 ?_
  refine hj_iload_n F 1 dX4_goes_215 rfl rfl ?_
  refine hj_iload_n F 4 dX4_goes_216 rfl rfl ?_
  refine hj_iconst F (v := 1) dX4_goes_217 (by decide) ?_
  refine hj_iadd F dX4_goes_218 ?_
  rw [nI_1]
  refine hs_M_lastOn F (vp_in_nI hb (by decide)) dX4_goes_219 ?_
  rw [nI_clamp (show b < 2 ^ 31 by omega)]
  try simp (disch := omega) only [va_up_ne, vau_s, bx_uu, upd_uu, pk_us, pk_un, cl0, cl1, cl2, cl3, cl4, cl5, cl6, cl7, cl8, cl9, cl10, cl11, cl12]
  refine hj_iload F 0 dX4_goes_220 rfl ?_
  exact hret dX4_goes_222
set_option maxHeartbeats 4000000 in
set_option maxRecDepth 100000 in
theorem g1_M_goes (F : hw_F K l D (WM ad t) (hw_T t) X cX4_goes RX4 wsX4_goes rm 5) {o b : Nat} {s : Int32} (ho : o < 60) (hb : b < 10) (hret : ∀ {h : Int32} {pc : Nat} {lv : List (Nat × Value)}, decode cX4_goes pc = .ok (.ireturn, 1) → (if s = g 8 then -1 else if s ≤ g 10 ∧ 0 ≤ g 11 then g 11 else a 6 b - 1) = h → hw_J K (WM ad t) 0 0 (upd (upd g 10 (s + a 7 (12 * o + 4))) 11 (nI o)) (va_up (va_up (va_up a 7 (upd (upd (upd (upd (a 7) (12 * o + 8) 1) (12 * o + 9) s) (12 * o + 10) (s + a 7 (12 * o + 4) + a 7 (12 * o + 5))) (12 * o + 11) h)) 5 (upd (a 5) b (s + a 7 (12 * o + 4) + a 7 (12 * o + 5)))) 6 (upd (a 6) b (nI (o + 1)))) c lv pc [.int s]) : hw_J K (WM ad t) 0 0 g a c [(4, .int s), (3, .int (nI b)), (2, .int (nI (12 * o))), (0, .ref (ad 0)), (1, .int (nI o))] 73 [] := by
  refine hj_aload_n F 3 dX4_goes_73 rfl rfl ?_
  refine hg_M_order F hi_X4_goes_M lk_X4_goes_40 dX4_goes_74 ?_
  refine hj_iload_n F 2 dX4_goes_77 rfl rfl ?_
  refine hj_bipush F (v := 8) dX4_goes_78 (by decide) ?_
  refine hj_iadd F dX4_goes_80 ?_
  rw [show nI (12 * o) + 8 = nI (12 * o + 8) from nI_add _ 8]
  refine hj_iconst F (v := 1) dX4_goes_81 (by decide) ?_
  refine hs_M_order F (vp_in_nI (show 12 * o + 8 < 720 by omega) (by decide)) dX4_goes_82 ?_
  rw [nI_clamp (show 12 * o + 8 < 2 ^ 31 by omega)]
  try simp (disch := omega) only [va_up_ne, vau_s, bx_uu, upd_uu, pk_us, pk_un, cl0, cl1, cl2, cl3, cl4, cl5, cl6, cl7, cl8, cl9, cl10, cl11, cl12]
  refine hj_aload_n F 3 dX4_goes_83 rfl rfl ?_
  refine hg_M_order F hi_X4_goes_M lk_X4_goes_40 dX4_goes_84 ?_
  refine hj_iload_n F 2 dX4_goes_87 rfl rfl ?_
  refine hj_bipush F (v := 9) dX4_goes_88 (by decide) ?_
  refine hj_iadd F dX4_goes_90 ?_
  rw [show nI (12 * o) + 9 = nI (12 * o + 9) from nI_add _ 9]
  refine hj_iload F 0 dX4_goes_91 rfl ?_
  refine hs_M_order F (vp_in_nI (show 12 * o + 9 < 720 by omega) (by decide)) dX4_goes_93 ?_
  rw [nI_clamp (show 12 * o + 9 < 2 ^ 31 by omega)]
  try simp (disch := omega) only [va_up_ne, vau_s, bx_uu, upd_uu, pk_us, pk_un, cl0, cl1, cl2, cl3, cl4, cl5, cl6, cl7, cl8, cl9, cl10, cl11, cl12]
  refine hj_aload_n F 3 dX4_goes_94 rfl rfl ?_
  refine hg_M_order F hi_X4_goes_M lk_X4_goes_40 dX4_goes_95 ?_
  refine hj_iload_n F 2 dX4_goes_98 rfl rfl ?_
  refine hj_bipush F (v := 10) dX4_goes_99 (by decide) ?_
  refine hj_iadd F dX4_goes_101 ?_
  rw [show nI (12 * o) + 10 = nI (12 * o + 10) from nI_add _ 10]
  refine hj_iload F 0 dX4_goes_102 rfl ?_
  refine hj_aload_n F 3 dX4_goes_104 rfl rfl ?_
  refine hg_M_order F hi_X4_goes_M lk_X4_goes_40 dX4_goes_105 ?_
  refine hj_iload_n F 2 dX4_goes_108 rfl rfl ?_
  refine hj_iconst F (v := 4) dX4_goes_109 (by decide) ?_
  refine hj_iadd F dX4_goes_110 ?_
  rw [show nI (12 * o) + 4 = nI (12 * o + 4) from nI_add _ 4]
  refine hl_M_order F (vp_in_nI (show 12 * o + 4 < 720 by omega) (by decide)) dX4_goes_111 ?_
  rw [nI_clamp (show 12 * o + 4 < 2 ^ 31 by omega)]
  try simp (disch := omega) only [va_up_ne, vau_s, bx_uu, upd_uu, pk_us, pk_un, cl0, cl1, cl2, cl3, cl4, cl5, cl6, cl7, cl8, cl9, cl10, cl11, cl12]
  refine hj_iadd F dX4_goes_112 ?_
  refine hj_aload_n F 3 dX4_goes_113 rfl rfl ?_
  refine hg_M_order F hi_X4_goes_M lk_X4_goes_40 dX4_goes_114 ?_
  refine hj_iload_n F 2 dX4_goes_117 rfl rfl ?_
  refine hj_iconst F (v := 5) dX4_goes_118 (by decide) ?_
  refine hj_iadd F dX4_goes_119 ?_
  rw [show nI (12 * o) + 5 = nI (12 * o + 5) from nI_add _ 5]
  refine hl_M_order F (vp_in_nI (show 12 * o + 5 < 720 by omega) (by decide)) dX4_goes_120 ?_
  rw [nI_clamp (show 12 * o + 5 < 2 ^ 31 by omega)]
  try simp (disch := omega) only [va_up_ne, vau_s, bx_uu, upd_uu, pk_us, pk_un, cl0, cl1, cl2, cl3, cl4, cl5, cl6, cl7, cl8, cl9, cl10, cl11, cl12]
  refine hj_iadd F dX4_goes_121 ?_
  refine hs_M_order F (vp_in_nI (show 12 * o + 10 < 720 by omega) (by decide)) dX4_goes_122 ?_
  rw [nI_clamp (show 12 * o + 10 < 2 ^ 31 by omega)]
  try simp (disch := omega) only [va_up_ne, vau_s, bx_uu, upd_uu, pk_us, pk_un, cl0, cl1, cl2, cl3, cl4, cl5, cl6, cl7, cl8, cl9, cl10, cl11, cl12]
  refine hj_aload_n F 3 dX4_goes_123 rfl rfl ?_
  refine hg_M_order F hi_X4_goes_M lk_X4_goes_40 dX4_goes_124 ?_
  refine hj_iload_n F 2 dX4_goes_127 rfl rfl ?_
  refine hj_bipush F (v := 11) dX4_goes_128 (by decide) ?_
  refine hj_iadd F dX4_goes_130 ?_
  rw [show nI (12 * o) + 11 = nI (12 * o + 11) from nI_add _ 11]
  refine hj_iload F 0 dX4_goes_131 rfl ?_
  refine hj_aload_n F 3 dX4_goes_133 rfl rfl ?_
  refine hg_M_now F hi_X4_goes_M lk_X4_goes_150 dX4_goes_134 ?_
  refine hj_icmp_ne F 144 dX4_goes_137 (by decide) (fun q137 => ?_) (fun q137 => ?_)
  · refine hj_aload_n F 3 dX4_goes_144 rfl rfl ?_
    refine hg_M_steamer F hi_X4_goes_M lk_X4_goes_153 dX4_goes_145 ?_
    refine hj_iload F 0 dX4_goes_148 rfl ?_
    refine hj_icmp_lt F 167 dX4_goes_150 (by decide) (fun q150 => ?_) (fun q150 => ?_)
    · refine hj_aload_n F 3 dX4_goes_167 rfl rfl ?_
      refine hg_M_lastOn F hi_X4_goes_M lk_X4_goes_37 dX4_goes_168 ?_
      refine hj_iload_n F 1 dX4_goes_171 rfl rfl ?_
      refine hl_M_lastOn F (vp_in_nI hb (by decide)) dX4_goes_172 ?_
      rw [nI_clamp (show b < 2 ^ 31 by omega)]
      try simp (disch := omega) only [va_up_ne, vau_s, bx_uu, upd_uu, pk_us, pk_un, cl0, cl1, cl2, cl3, cl4, cl5, cl6, cl7, cl8, cl9, cl10, cl11, cl12]
      refine hj_iconst F (v := 1) dX4_goes_173 (by decide) ?_
      refine hj_isub F dX4_goes_174 ?_
      refine g2_M_goes F ho hb (fun d => hret d ?_)
      rw [if_neg q137, if_neg (fun z => absurd q150 (Int32.not_lt.mpr z.1))]
    · refine hj_aload_n F 3 dX4_goes_153 rfl rfl ?_
      refine hg_M_lastSteam F hi_X4_goes_M lk_X4_goes_31 dX4_goes_154 ?_
      refine hj_if_lt F 167 dX4_goes_157 (by decide) (fun q157 => ?_) (fun q157 => ?_)
      · refine hj_aload_n F 3 dX4_goes_167 rfl rfl ?_
        refine hg_M_lastOn F hi_X4_goes_M lk_X4_goes_37 dX4_goes_168 ?_
        refine hj_iload_n F 1 dX4_goes_171 rfl rfl ?_
        refine hl_M_lastOn F (vp_in_nI hb (by decide)) dX4_goes_172 ?_
        rw [nI_clamp (show b < 2 ^ 31 by omega)]
        try simp (disch := omega) only [va_up_ne, vau_s, bx_uu, upd_uu, pk_us, pk_un, cl0, cl1, cl2, cl3, cl4, cl5, cl6, cl7, cl8, cl9, cl10, cl11, cl12]
        refine hj_iconst F (v := 1) dX4_goes_173 (by decide) ?_
        refine hj_isub F dX4_goes_174 ?_
        refine g2_M_goes F ho hb (fun d => hret d ?_)
        rw [if_neg q137, if_neg (fun z => absurd q157 (Int32.not_lt.mpr z.2))]
      · refine hj_aload_n F 3 dX4_goes_160 rfl rfl ?_
        refine hg_M_lastSteam F hi_X4_goes_M lk_X4_goes_31 dX4_goes_161 ?_
        refine hj_goto F 175 dX4_goes_164 (by decide) ?_
        refine g2_M_goes F ho hb (fun d => hret d ?_)
        rw [if_neg q137, if_pos ⟨Int32.not_lt.mp q150, Int32.not_lt.mp q157⟩]
  · refine hj_iconst F (v := -1) dX4_goes_140 (by decide) ?_
    refine hj_goto F 175 dX4_goes_141 (by decide) ?_
    refine g2_M_goes F ho hb (fun d => hret d ?_)
    rw [if_pos q137]
set_option maxHeartbeats 4000000 in
set_option maxRecDepth 100000 in
theorem k_M_goes (hok : hw_XOK X) {o b : Nat} (ho : o < 60) (hb : b < 10) (hrb : a 7 (12 * o) = nI b) : hw_Ci l D (WM ad t) (hw_T t) X yX4_goes wsX4_goes (hw_rm 1) [.ref (ad 0), .int (nI o)] g a c (fun r g' a' c' => r = ge_s g a o b ∧ g' = ge_g g a o b ∧ a' = ge_a g a o b ∧ c' = c) := by
  refine hw_Ci.mk (lv0 := [(0, _), (1, _)]) (by decide) rfl (Nat.le_of_ble_eq_true rfl) rfl (WM_ads ad t) hok (fun K F ret => ?_)
  have F : hw_F K l D (WM ad t) (hw_T t) X cX4_goes RX4 wsX4_goes (hw_rm 1) 5 := F
  refine hj_bipush F (v := 12) dX4_goes_0 (by decide) ?_
  refine hj_iload_n F 1 dX4_goes_2 rfl rfl ?_
  refine hj_imul F dX4_goes_3 ?_
  rw [show (12 : Int32) * nI o = nI (12 * o) from pk_mul 12 o]
  refine hj_istore_n F (lv' := [(2, _), (0, _), (1, _)]) dX4_goes_4 rfl (by decide) rfl ?_
  refine hj_aload_n F 1 dX4_goes_5 rfl rfl ?_
  refine hg_M_order F hi_X4_goes_M lk_X4_goes_40 dX4_goes_6 ?_
  refine hj_iload_n F 0 dX4_goes_9 rfl rfl ?_
  refine hl_M_order F (vp_in_nI (show 12 * o < 720 by omega) (by decide)) dX4_goes_10 ?_
  rw [nI_clamp (show 12 * o < 2 ^ 31 by omega)]
  rw [hrb]
  refine hj_istore_n F (lv' := [(3, _), (2, _), (0, _), (1, _)]) dX4_goes_11 rfl (by decide) rfl ?_
  refine hj_aload_n F 2 dX4_goes_12 rfl rfl ?_
  refine hg_M_now F hi_X4_goes_M lk_X4_goes_150 dX4_goes_13 ?_
  refine hj_aload_n F 2 dX4_goes_16 rfl rfl ?_
  refine hg_M_steamer F hi_X4_goes_M lk_X4_goes_153 dX4_goes_17 ?_
  refine hj_icmp_le F 30 dX4_goes_20 (by decide) (fun q20 => ?_) (fun q20 => ?_)
  · refine hj_aload_n F 2 dX4_goes_30 rfl rfl ?_
    refine hg_M_steamer F hi_X4_goes_M lk_X4_goes_153 dX4_goes_31 ?_
    rw [show g 10 = mxi (g 10) (g 8) from (if_neg (Int32.not_lt.mpr q20)).symm]
    refine hj_istore F (lv' := [(4, _), (3, _), (2, _), (0, _), (1, _)]) dX4_goes_34 (by decide) rfl ?_
    refine hj_aload_n F 3 dX4_goes_36 rfl rfl ?_
    refine hg_M_blockFree F hi_X4_goes_M lk_X4_goes_34 dX4_goes_37 ?_
    refine hj_iload_n F 1 dX4_goes_40 rfl rfl ?_
    refine hl_M_blockFree F (vp_in_nI hb (by decide)) dX4_goes_41 ?_
    rw [nI_clamp (show b < 2 ^ 31 by omega)]
    refine hj_aload_n F 3 dX4_goes_42 rfl rfl ?_
    refine hg_M_order F hi_X4_goes_M lk_X4_goes_40 dX4_goes_43 ?_
    refine hj_iload_n F 2 dX4_goes_46 rfl rfl ?_
    refine hj_iconst F (v := 4) dX4_goes_47 (by decide) ?_
    refine hj_iadd F dX4_goes_48 ?_
    rw [show nI (12 * o) + 4 = nI (12 * o + 4) from nI_add _ 4]
    refine hl_M_order F (vp_in_nI (show 12 * o + 4 < 720 by omega) (by decide)) dX4_goes_49 ?_
    rw [nI_clamp (show 12 * o + 4 < 2 ^ 31 by omega)]
    refine hj_isub F dX4_goes_50 ?_
    refine hj_iload F 0 dX4_goes_51 rfl ?_
    refine hj_icmp_le F 73 dX4_goes_53 (by decide) (fun q53 => ?_) (fun q53 => ?_)
    · refine hj_lv [0, 1, 2, 3, 4] rfl ?_
      refine g1_M_goes F ho hb (fun d hh => ?_)
      subst hh
      have hs : mxi (g 10) (g 8) = ge_s g a o b := by
        unfold ge_s
        exact (if_neg (Int32.not_lt.mpr q53)).symm
      rw [hs]
      exact ret d rfl ⟨rfl, rfl, rfl, rfl⟩
    · refine hj_aload_n F 3 dX4_goes_56 rfl rfl ?_
      refine hg_M_blockFree F hi_X4_goes_M lk_X4_goes_34 dX4_goes_57 ?_
      refine hj_iload_n F 1 dX4_goes_60 rfl rfl ?_
      refine hl_M_blockFree F (vp_in_nI hb (by decide)) dX4_goes_61 ?_
      rw [nI_clamp (show b < 2 ^ 31 by omega)]
      refine hj_aload_n F 3 dX4_goes_62 rfl rfl ?_
      refine hg_M_order F hi_X4_goes_M lk_X4_goes_40 dX4_goes_63 ?_
      refine hj_iload_n F 2 dX4_goes_66 rfl rfl ?_
      refine hj_iconst F (v := 4) dX4_goes_67 (by decide) ?_
      refine hj_iadd F dX4_goes_68 ?_
      rw [show nI (12 * o) + 4 = nI (12 * o + 4) from nI_add _ 4]
      refine hl_M_order F (vp_in_nI (show 12 * o + 4 < 720 by omega) (by decide)) dX4_goes_69 ?_
      rw [nI_clamp (show 12 * o + 4 < 2 ^ 31 by omega)]
      refine hj_isub F dX4_goes_70 ?_
      refine hj_istore F (lv' := [(4, _), (3, _), (2, _), (0, _), (1, _)]) dX4_goes_71 (by decide) rfl ?_
      refine hj_lv [0, 1, 2, 3, 4] rfl ?_
      refine g1_M_goes F ho hb (fun d hh => ?_)
      subst hh
      have hs : a 5 b - a 7 (12 * o + 4) = ge_s g a o b := by
        unfold ge_s
        exact (if_pos (Int32.not_le.mp q53)).symm
      rw [hs]
      exact ret d rfl ⟨rfl, rfl, rfl, rfl⟩
  · refine hj_aload_n F 2 dX4_goes_23 rfl rfl ?_
    refine hg_M_now F hi_X4_goes_M lk_X4_goes_150 dX4_goes_24 ?_
    refine hj_goto F 34 dX4_goes_27 (by decide) ?_
    rw [show g 8 = mxi (g 10) (g 8) from (if_pos (Int32.not_le.mp q20)).symm]
    refine hj_istore F (lv' := [(4, _), (3, _), (2, _), (0, _), (1, _)]) dX4_goes_34 (by decide) rfl ?_
    refine hj_aload_n F 3 dX4_goes_36 rfl rfl ?_
    refine hg_M_blockFree F hi_X4_goes_M lk_X4_goes_34 dX4_goes_37 ?_
    refine hj_iload_n F 1 dX4_goes_40 rfl rfl ?_
    refine hl_M_blockFree F (vp_in_nI hb (by decide)) dX4_goes_41 ?_
    rw [nI_clamp (show b < 2 ^ 31 by omega)]
    refine hj_aload_n F 3 dX4_goes_42 rfl rfl ?_
    refine hg_M_order F hi_X4_goes_M lk_X4_goes_40 dX4_goes_43 ?_
    refine hj_iload_n F 2 dX4_goes_46 rfl rfl ?_
    refine hj_iconst F (v := 4) dX4_goes_47 (by decide) ?_
    refine hj_iadd F dX4_goes_48 ?_
    rw [show nI (12 * o) + 4 = nI (12 * o + 4) from nI_add _ 4]
    refine hl_M_order F (vp_in_nI (show 12 * o + 4 < 720 by omega) (by decide)) dX4_goes_49 ?_
    rw [nI_clamp (show 12 * o + 4 < 2 ^ 31 by omega)]
    refine hj_isub F dX4_goes_50 ?_
    refine hj_iload F 0 dX4_goes_51 rfl ?_
    refine hj_icmp_le F 73 dX4_goes_53 (by decide) (fun q53_2 => ?_) (fun q53_2 => ?_)
    · refine hj_lv [0, 1, 2, 3, 4] rfl ?_
      refine g1_M_goes F ho hb (fun d hh => ?_)
      subst hh
      have hs : mxi (g 10) (g 8) = ge_s g a o b := by
        unfold ge_s
        exact (if_neg (Int32.not_lt.mpr q53_2)).symm
      rw [hs]
      exact ret d rfl ⟨rfl, rfl, rfl, rfl⟩
    · refine hj_aload_n F 3 dX4_goes_56 rfl rfl ?_
      refine hg_M_blockFree F hi_X4_goes_M lk_X4_goes_34 dX4_goes_57 ?_
      refine hj_iload_n F 1 dX4_goes_60 rfl rfl ?_
      refine hl_M_blockFree F (vp_in_nI hb (by decide)) dX4_goes_61 ?_
      rw [nI_clamp (show b < 2 ^ 31 by omega)]
      refine hj_aload_n F 3 dX4_goes_62 rfl rfl ?_
      refine hg_M_order F hi_X4_goes_M lk_X4_goes_40 dX4_goes_63 ?_
      refine hj_iload_n F 2 dX4_goes_66 rfl rfl ?_
      refine hj_iconst F (v := 4) dX4_goes_67 (by decide) ?_
      refine hj_iadd F dX4_goes_68 ?_
      rw [show nI (12 * o) + 4 = nI (12 * o + 4) from nI_add _ 4]
      refine hl_M_order F (vp_in_nI (show 12 * o + 4 < 720 by omega) (by decide)) dX4_goes_69 ?_
      rw [nI_clamp (show 12 * o + 4 < 2 ^ 31 by omega)]
      refine hj_isub F dX4_goes_70 ?_
      refine hj_istore F (lv' := [(4, _), (3, _), (2, _), (0, _), (1, _)]) dX4_goes_71 (by decide) rfl ?_
      refine hj_lv [0, 1, 2, 3, 4] rfl ?_
      refine g1_M_goes F ho hb (fun d hh => ?_)
      subst hh
      have hs : a 5 b - a 7 (12 * o + 4) = ge_s g a o b := by
        unfold ge_s
        exact (if_pos (Int32.not_le.mp q53_2)).symm
      rw [hs]
      exact ret d rfl ⟨rfl, rfl, rfl, rfl⟩
end SMOD3
