section SBLOCKS
theorem hi_X0_add_B : ∀ w ∈ u_ws RX0 TX0 5, w ∈ wsX0_add := fun w h => by
  unfold wsX0_add
  simp only [List.mem_cons, List.mem_append]
  first | (simp only [h, or_true, true_or]; done) | (have h2 : w ∈ wsX00 := h; simp only [h2, or_true, true_or]; done)
theorem lk_X0_add_11 : Cond.fieldLink RX0 11 "HatWorks$Blocks" "rings" "[[I" ∈ wsX0_add := List.mem_of_getElem? (i := 2) rfl
theorem lk_X0_add_23 : Cond.fieldLink RX0 23 "HatWorks$Blocks" "latest" "[I" ∈ wsX0_add := List.mem_of_getElem? (i := 3) rfl
theorem lk_X0_add_26 : Cond.fieldLink RX0 26 "HatWorks$Blocks" "size" "I" ∈ wsX0_add := List.mem_of_getElem? (i := 1) rfl
theorem lc_X0_match_32 : Cond.constant RX0 32 2147483647 ∈ wsX0_match := by decide +kernel
theorem hi_X0_match_B : ∀ w ∈ u_ws RX0 TX0 5, w ∈ wsX0_match := fun w h => by
  unfold wsX0_match
  simp only [List.mem_cons, List.mem_append]
  first | (simp only [h, or_true, true_or]; done) | (have h2 : w ∈ wsX00 := h; simp only [h2, or_true, true_or]; done)
theorem lk_X0_match_26 : Cond.fieldLink RX0 26 "HatWorks$Blocks" "size" "I" ∈ wsX0_match := List.mem_of_getElem? (i := 2) rfl
theorem hi_X0_misfitOf_B : ∀ w ∈ u_ws RX0 TX0 5, w ∈ wsX0_misfitOf := fun w h => by
  unfold wsX0_misfitOf
  simp only [List.mem_cons, List.mem_append]
  first | (simp only [h, or_true, true_or]; done) | (have h2 : w ∈ wsX00 := h; simp only [h2, or_true, true_or]; done)
theorem lk_X0_misfitOf_11 : Cond.fieldLink RX0 11 "HatWorks$Blocks" "rings" "[[I" ∈ wsX0_misfitOf := List.mem_of_getElem? (i := 1) rfl
variable {K : hw_K} {l : Launch} {D : va_G} {ad : Nat → Nat} {t : Nat → ClassId} {X : hw_XT} {rm : Room} {g : hw_G} {a : hw_A} {c : Int64}
def ms_ix (i t : Nat) : Nat := if i + t < 12 then i + t else i + t - 12
def ms (h r : Nat → Int32) (t : Nat) : Nat → Int32
  | 0 => 0
  | i + 1 => ms h r t i + (h (ms_ix i t) - r i) * (h (ms_ix i t) - r i)
set_option maxHeartbeats 4000000 in
set_option maxRecDepth 100000 in
theorem lp_B_misfitOf (F : hw_F K l D (WH ad t) (hw_T t) X cX0_misfitOf RX0 wsX0_misfitOf rm 9) {b t9 : Nat} (hb : b < 10) (ht : t9 < 12) (hx : hw_J K (WH ad t) 0 0 g a c [(6, .int (nI 12)), (5, .int (ms (a 0) (a (200 + b)) t9 12)), (4, .ref (ad (200 + b))), (0, .ref (ad 2)), (1, .ref (ad 10)), (2, .int (nI b)), (3, .int (nI t9))] 70 []) : ∀ m i : Nat, 12 - i < m → i ≤ 12 → hw_J K (WH ad t) 0 0 g a c [(6, .int (nI i)), (5, .int (ms (a 0) (a (200 + b)) t9 i)), (4, .ref (ad (200 + b))), (0, .ref (ad 2)), (1, .ref (ad 10)), (2, .int (nI b)), (3, .int (nI t9))] 14 [] := by
  intro m
  induction m with
  | zero => intro i hm; exact absurd hm (Nat.not_lt_zero _)
  | succ m ih =>
    intro i hm hi
    refine hj_iload F 0 dX0_misfitOf_14 rfl ?_
    refine hj_bipush F (v := 12) dX0_misfitOf_16 (by decide) ?_
    refine hj_icmp_ge F 70 dX0_misfitOf_18 (by decide) (fun q18 => ?_) (fun q18 => ?_)
    · have q18 : nI 12 ≤ nI i := q18
      rw [nI_leI (by omega) (by omega)] at q18
      obtain rfl : i = 12 := by omega
      exact hx
    · have q18 : ¬ nI 12 ≤ nI i := q18
      rw [nI_leI (by omega) (by omega)] at q18
      refine hj_iload F 0 dX0_misfitOf_21 rfl ?_
      refine hj_iload_n F 6 dX0_misfitOf_23 rfl rfl ?_
      refine hj_iadd F dX0_misfitOf_24 ?_
      refine hj_istore F (lv' := [(7, _), (6, _), (5, _), (4, _), (0, _), (1, _), (2, _), (3, _)]) dX0_misfitOf_25 (by decide) rfl ?_
      rw [nI_add]
      refine hj_aload_n F 5 dX0_misfitOf_27 rfl rfl ?_
      refine hj_iload F 0 dX0_misfitOf_28 rfl ?_
      refine hj_bipush F (v := 12) dX0_misfitOf_30 (by decide) ?_
      refine hj_icmp_ge F 40 dX0_misfitOf_32 (by decide) (fun q32 => ?_) (fun q32 => ?_)
      · have q32 : nI 12 ≤ nI (i + t9) := q32
        rw [nI_leI (by omega) (by omega)] at q32
        have hix : ms_ix i t9 = i + t9 - 12 := if_neg (by omega)
        refine hj_iload F 0 dX0_misfitOf_40 rfl ?_
        refine hj_bipush F (v := 12) dX0_misfitOf_42 (by decide) ?_
        refine hj_isub F dX0_misfitOf_44 ?_
        rw [show nI (i + t9) - 12 = nI (i + t9 - 12) from pk_sub (b := 12) (by omega)]
        refine hl_X_hand F (vp_in_nI (show i + t9 - 12 < 12 by omega) (by decide)) dX0_misfitOf_45 ?_
        refine hj_aload F 3 dX0_misfitOf_46 rfl ?_
        refine hj_iload F 1 dX0_misfitOf_48 rfl ?_
        refine hl_B_ring F hb (vp_in_nI (show i < 12 by omega) (by decide)) dX0_misfitOf_50 ?_
        refine hj_isub F dX0_misfitOf_51 ?_
        refine hj_istore F (lv' := [(8, _), (7, _), (6, _), (5, _), (4, _), (0, _), (1, _), (2, _), (3, _)]) dX0_misfitOf_52 (by decide) rfl ?_
        refine hj_iload F 3 dX0_misfitOf_54 rfl ?_
        refine hj_iload F 0 dX0_misfitOf_56 rfl ?_
        refine hj_iload F 0 dX0_misfitOf_58 rfl ?_
        refine hj_imul F dX0_misfitOf_60 ?_
        refine hj_iadd F dX0_misfitOf_61 ?_
        refine hj_istore F (lv' := [(5, _), (8, _), (7, _), (6, _), (4, _), (0, _), (1, _), (2, _), (3, _)]) dX0_misfitOf_62 (by decide) rfl ?_
        refine hj_iinc F 3 (v := _ + 1) (lv' := [(6, _), (5, _), (8, _), (7, _), (4, _), (0, _), (1, _), (2, _), (3, _)]) dX0_misfitOf_64 rfl rfl (by decide) rfl ?_
        refine hj_goto F 14 dX0_misfitOf_67 (by decide) ?_
        refine hj_lv [0, 1, 4, 5, 6, 7, 8] rfl ?_
        rw [nI_1, nI_clamp (by omega), nI_clamp (by omega)]
        have e := ih (i + 1) (by omega) (by omega)
        rw [show ms (a 0) (a (200 + b)) t9 (i + 1) = ms (a 0) (a (200 + b)) t9 i + (a 0 (ms_ix i t9) - a (200 + b) i) * (a 0 (ms_ix i t9) - a (200 + b) i) from rfl, hix] at e
        exact e
      · have q32 : ¬ nI 12 ≤ nI (i + t9) := q32
        rw [nI_leI (by omega) (by omega)] at q32
        have hix : ms_ix i t9 = i + t9 := if_pos (by omega)
        refine hj_iload F 0 dX0_misfitOf_35 rfl ?_
        refine hj_goto F 45 dX0_misfitOf_37 (by decide) ?_
        refine hl_X_hand F (vp_in_nI (show i + t9 < 12 by omega) (by decide)) dX0_misfitOf_45 ?_
        refine hj_aload F 3 dX0_misfitOf_46 rfl ?_
        refine hj_iload F 1 dX0_misfitOf_48 rfl ?_
        refine hl_B_ring F hb (vp_in_nI (show i < 12 by omega) (by decide)) dX0_misfitOf_50 ?_
        refine hj_isub F dX0_misfitOf_51 ?_
        refine hj_istore F (lv' := [(8, _), (7, _), (6, _), (5, _), (4, _), (0, _), (1, _), (2, _), (3, _)]) dX0_misfitOf_52 (by decide) rfl ?_
        refine hj_iload F 3 dX0_misfitOf_54 rfl ?_
        refine hj_iload F 0 dX0_misfitOf_56 rfl ?_
        refine hj_iload F 0 dX0_misfitOf_58 rfl ?_
        refine hj_imul F dX0_misfitOf_60 ?_
        refine hj_iadd F dX0_misfitOf_61 ?_
        refine hj_istore F (lv' := [(5, _), (8, _), (7, _), (6, _), (4, _), (0, _), (1, _), (2, _), (3, _)]) dX0_misfitOf_62 (by decide) rfl ?_
        refine hj_iinc F 3 (v := _ + 1) (lv' := [(6, _), (5, _), (8, _), (7, _), (4, _), (0, _), (1, _), (2, _), (3, _)]) dX0_misfitOf_64 rfl rfl (by decide) rfl ?_
        refine hj_goto F 14 dX0_misfitOf_67 (by decide) ?_
        refine hj_lv [0, 1, 4, 5, 6, 7, 8] rfl ?_
        rw [nI_1, nI_clamp (by omega), nI_clamp (by omega)]
        have e := ih (i + 1) (by omega) (by omega)
        rw [show ms (a 0) (a (200 + b)) t9 (i + 1) = ms (a 0) (a (200 + b)) t9 i + (a 0 (ms_ix i t9) - a (200 + b) i) * (a 0 (ms_ix i t9) - a (200 + b) i) from rfl, hix] at e
        exact e
set_option maxHeartbeats 4000000 in
set_option maxRecDepth 100000 in
theorem k_B_misfitOf (hok : hw_XOK X) {b t9 : Nat} (hb : b < 10) (ht : t9 < 12) : hw_Ci l D (WH ad t) (hw_T t) X yX0_misfitOf wsX0_misfitOf (hw_rm 1) [.ref (ad 2), .ref (ad 10), .int (nI b), .int (nI t9)] g a c (fun r g' a' c' => r = ms (a 0) (a (200 + b)) t9 12 ∧ g' = g ∧ a' = a ∧ c' = c) := by
  refine hw_Ci.mk (lv0 := [(0, _), (1, _), (2, _), (3, _)]) (by decide) rfl (Nat.le_of_ble_eq_true rfl) rfl (WH_ads ad t) hok (fun K F ret => ?_)
  have F : hw_F K l D (WH ad t) (hw_T t) X cX0_misfitOf RX0 wsX0_misfitOf (hw_rm 1) 9 := F
  have hx : hw_J K (WH ad t) 0 0 g a c [(6, .int (nI 12)), (5, .int (ms (a 0) (a (200 + b)) t9 12)), (4, .ref (ad (200 + b))), (0, .ref (ad 2)), (1, .ref (ad 10)), (2, .int (nI b)), (3, .int (nI t9))] 70 [] := by
    refine hj_iload F 1 dX0_misfitOf_70 rfl ?_
    exact ret dX0_misfitOf_72 rfl ⟨rfl, rfl, rfl, rfl⟩
  refine hj_aload_n F 0 dX0_misfitOf_0 rfl rfl ?_
  refine hg_B_rings F hi_X0_misfitOf_B lk_X0_misfitOf_11 dX0_misfitOf_1 ?_
  refine hj_iload_n F 2 dX0_misfitOf_4 rfl rfl ?_
  refine hl_B_rings F (vp_in_nI hb (by decide)) dX0_misfitOf_5 ?_
  rw [nI_clamp (by omega)]
  refine hj_astore F (lv' := [(4, _), (0, _), (1, _), (2, _), (3, _)]) dX0_misfitOf_6 (by decide) rfl ?_
  refine hj_iconst F (v := 0) dX0_misfitOf_8 (by decide) ?_
  refine hj_istore F (lv' := [(5, _), (4, _), (0, _), (1, _), (2, _), (3, _)]) dX0_misfitOf_9 (by decide) rfl ?_
  refine hj_iconst F (v := 0) dX0_misfitOf_11 (by decide) ?_
  refine hj_istore F (lv' := [(6, _), (5, _), (4, _), (0, _), (1, _), (2, _), (3, _)]) dX0_misfitOf_12 (by decide) rfl ?_
  exact lp_B_misfitOf F hb ht hx 13 0 (by decide) (by decide)
def mt_s (h : Nat → Int32) (rg : Nat → Nat → Int32) (t b : Nat) (s : Int32 × (Nat → Int32)) : Int32 × (Nat → Int32) := if ms h (rg b) t 12 < s.1 then (ms h (rg b) t 12, upd (upd (upd s.2 0 (nI b)) 1 (nI t)) 2 (ms h (rg b) t 12)) else s
def mt_b (h : Nat → Int32) (rg : Nat → Nat → Int32) (t : Nat) : Nat → Int32 × (Nat → Int32) → Int32 × (Nat → Int32)
  | 0, s => s
  | b + 1, s => mt_s h rg t b (mt_b h rg t b s)
def mt_t (h : Nat → Int32) (rg : Nat → Nat → Int32) (N : Nat) : Nat → Int32 × (Nat → Int32) → Int32 × (Nat → Int32)
  | 0, s => s
  | t + 1, s => mt_b h rg t N (mt_t h rg N t s)
set_option maxHeartbeats 4000000 in
set_option maxRecDepth 100000 in
theorem li_B_match (F : hw_F K l D (WH ad t) (hw_T t) X cX0_match RX0 wsX0_match (hw_rm 2) 7) (hok : hw_XOK X) {N t9 o : Nat} (h12 : g 12 = nI N) (hN : N ≤ 10) (ht : t9 < 12) (ho : o < 60) {s : Int32 × (Nat → Int32)} (hx : hw_J K (WH ad t) 0 0 g (va_up a (100 + o) (mt_b (a 0) (fun b => a (200 + b)) t9 N s).2) c [(5, .int (nI N)), (4, .int (nI t9)), (3, .int (mt_b (a 0) (fun b => a (200 + b)) t9 N s).1), (0, .ref (ad 2)), (1, .ref (ad 10)), (2, .ref (ad (100 + o)))] 66 []) : ∀ m b : Nat, N - b < m → b ≤ N → hw_J K (WH ad t) 0 0 g (va_up a (100 + o) (mt_b (a 0) (fun b => a (200 + b)) t9 b s).2) c [(5, .int (nI b)), (4, .int (nI t9)), (3, .int (mt_b (a 0) (fun b => a (200 + b)) t9 b s).1), (0, .ref (ad 2)), (1, .ref (ad 10)), (2, .ref (ad (100 + o)))] 16 [] := by
  intro m
  induction m with
  | zero => intro b hm; exact absurd hm (Nat.not_lt_zero _)
  | succ m ih =>
    intro b hm hb
    have e0 : va_up a (100 + o) (mt_b (a 0) (fun b => a (200 + b)) t9 b s).2 0 = a 0 := va_up_ne _ _ (by omega)
    have e1 : va_up a (100 + o) (mt_b (a 0) (fun b => a (200 + b)) t9 b s).2 (200 + b) = a (200 + b) := va_up_ne _ _ (by omega)
    refine hj_iload F 0 dX0_match_16 rfl ?_
    refine hj_aload_n F 3 dX0_match_18 rfl rfl ?_
    refine hg_B_size F hi_X0_match_B lk_X0_match_26 dX0_match_19 ?_
    rw [h12]
    refine hj_icmp_ge F 66 dX0_match_22 (by decide) (fun q22 => ?_) (fun q22 => ?_)
    · rw [nI_leI (by omega) (by omega)] at q22
      obtain rfl : b = N := by omega
      exact hx
    · rw [nI_leI (by omega) (by omega)] at q22
      refine hj_aload_n F 3 dX0_match_25 rfl rfl ?_
      refine hj_aload_n F 4 dX0_match_26 rfl rfl ?_
      refine hj_iload F 0 dX0_match_27 rfl ?_
      refine hj_iload F 1 dX0_match_29 rfl ?_
      refine hj_cVi F (n := 3) (k_B_misfitOf hok (b := b) (t9 := t9) (by omega) ht) gX0_match_X0_misfitOf rfl ⟨rfl, rfl⟩ (by decide +kernel) ⟨by decide, by decide⟩ 2 0 rfl rfl (As := [_, _, _]) rfl rfl (Nat.le_of_ble_eq_true rfl) ⟨Nat.zero_le _, Nat.zero_le _⟩ dX0_match_31 (hw_eq4 ?_)
      refine hj_istore F (lv' := [(6, _), (5, _), (4, _), (3, _), (0, _), (1, _), (2, _)]) dX0_match_34 (by decide) rfl ?_
      rw [e0, e1]
      have hS : mt_b (a 0) (fun b => a (200 + b)) t9 (b + 1) s = mt_s (a 0) (fun b => a (200 + b)) t9 b (mt_b (a 0) (fun b => a (200 + b)) t9 b s) := rfl
      refine hj_iload F 0 dX0_match_36 rfl ?_
      refine hj_iload_n F 3 dX0_match_38 rfl rfl ?_
      refine hj_icmp_ge F 60 dX0_match_39 (by decide) (fun q39 => ?_) (fun q39 => ?_)
      · rw [mt_s, if_neg (Int32.not_lt.mpr q39)] at hS
        refine hj_iinc F 1 (v := _ + 1) (lv' := [(5, _), (6, _), (4, _), (3, _), (0, _), (1, _), (2, _)]) dX0_match_60 rfl rfl (by decide) rfl ?_
        refine hj_goto F 16 dX0_match_63 (by decide) ?_
        refine hj_lv [0, 2, 3, 4, 5, 6] rfl ?_
        rw [nI_1]
        have e := ih (b + 1) (by omega) (by omega)
        rw [hS] at e
        exact e
      · rw [mt_s, if_pos (Int32.not_le.mp q39)] at hS
        refine hj_iload F 0 dX0_match_42 rfl ?_
        refine hj_istore_n F (lv' := [(3, _), (6, _), (5, _), (4, _), (0, _), (1, _), (2, _)]) dX0_match_44 rfl (by decide) rfl ?_
        refine hj_aload_n F 6 dX0_match_45 rfl rfl ?_
        refine hj_iconst F (v := 0) dX0_match_46 (by decide) ?_
        refine hj_iload F 2 dX0_match_47 rfl ?_
        refine hs_X_order F ho (by first | assumption | exact hw_inc (by decide)) dX0_match_49 ?_
        refine hj_aload_n F 6 dX0_match_50 rfl rfl ?_
        refine hj_iconst F (v := 1) dX0_match_51 (by decide) ?_
        refine hj_iload F 3 dX0_match_52 rfl ?_
        refine hs_X_order F ho (by first | assumption | exact hw_inc (by decide)) dX0_match_54 ?_
        refine hj_aload_n F 6 dX0_match_55 rfl rfl ?_
        refine hj_iconst F (v := 2) dX0_match_56 (by decide) ?_
        refine hj_iload F 1 dX0_match_57 rfl ?_
        refine hs_X_order F ho (by first | assumption | exact hw_inc (by decide)) dX0_match_59 ?_
        refine hj_iinc F 2 (v := _ + 1) (lv' := [(5, _), (3, _), (6, _), (4, _), (0, _), (1, _), (2, _)]) dX0_match_60 rfl rfl (by decide) rfl ?_
        refine hj_goto F 16 dX0_match_63 (by decide) ?_
        refine hj_lv [0, 3, 1, 4, 5, 6] rfl ?_
        rw [nI_1]
        have e := ih (b + 1) (by omega) (by omega)
        rw [hS] at e
        simp only [vau_s, bx_uu]
        exact e
set_option maxHeartbeats 4000000 in
set_option maxRecDepth 100000 in
theorem lt_B_match (F : hw_F K l D (WH ad t) (hw_T t) X cX0_match RX0 wsX0_match (hw_rm 2) 7) (hok : hw_XOK X) {N o : Nat} (h12 : g 12 = nI N) (hN : N ≤ 10) (ho : o < 60) {s : Int32 × (Nat → Int32)} (hx : hw_J K (WH ad t) 0 0 g (va_up a (100 + o) (mt_t (a 0) (fun b => a (200 + b)) N 12 s).2) c [(4, .int (nI 12)), (3, .int (mt_t (a 0) (fun b => a (200 + b)) N 12 s).1), (0, .ref (ad 2)), (1, .ref (ad 10)), (2, .ref (ad (100 + o)))] 72 []) : ∀ m t9 : Nat, 12 - t9 < m → t9 ≤ 12 → hw_J K (WH ad t) 0 0 g (va_up a (100 + o) (mt_t (a 0) (fun b => a (200 + b)) N t9 s).2) c [(4, .int (nI t9)), (3, .int (mt_t (a 0) (fun b => a (200 + b)) N t9 s).1), (0, .ref (ad 2)), (1, .ref (ad 10)), (2, .ref (ad (100 + o)))] 6 [] := by
  intro m
  induction m with
  | zero => intro t9 hm; exact absurd hm (Nat.not_lt_zero _)
  | succ m ih =>
    intro t9 hm ht
    refine hj_iload F 0 dX0_match_6 rfl ?_
    refine hj_bipush F (v := 12) dX0_match_8 (by decide) ?_
    refine hj_icmp_ge F 72 dX0_match_10 (by decide) (fun q10 => ?_) (fun q10 => ?_)
    · have q10 : nI 12 ≤ nI t9 := q10
      rw [nI_leI (by omega) (by omega)] at q10
      obtain rfl : t9 = 12 := by omega
      exact hx
    · have q10 : ¬ nI 12 ≤ nI t9 := q10
      rw [nI_leI (by omega) (by omega)] at q10
      refine hj_iconst F (v := 0) dX0_match_13 (by decide) ?_
      refine hj_istore F (lv' := [(5, _), (4, _), (3, _), (0, _), (1, _), (2, _)]) dX0_match_14 (by decide) rfl ?_
      have h66 : hw_J K (WH ad t) 0 0 g (va_up a (100 + o) (mt_b (a 0) (fun b => a (200 + b)) t9 N (mt_t (a 0) (fun b => a (200 + b)) N t9 s)).2) c [(5, .int (nI N)), (4, .int (nI t9)), (3, .int (mt_b (a 0) (fun b => a (200 + b)) t9 N (mt_t (a 0) (fun b => a (200 + b)) N t9 s)).1), (0, .ref (ad 2)), (1, .ref (ad 10)), (2, .ref (ad (100 + o)))] 66 [] := by
        refine hj_iinc F 1 (v := _ + 1) (lv' := [(4, _), (5, _), (3, _), (0, _), (1, _), (2, _)]) dX0_match_66 rfl rfl (by decide) rfl ?_
        refine hj_goto F 6 dX0_match_69 (by decide) ?_
        refine hj_lv [0, 2, 3, 4, 5] rfl ?_
        rw [nI_1]
        exact ih (t9 + 1) (by omega) (by omega)
      exact li_B_match F hok h12 hN (by omega) ho h66 (N + 1) 0 (by omega) (Nat.zero_le _)
set_option maxHeartbeats 4000000 in
set_option maxRecDepth 100000 in
theorem k_B_match (hok : hw_XOK X) {N o : Nat} (h12 : g 12 = nI N) (hN : N ≤ 10) (ho : o < 60) : hw_Cv l D (WH ad t) (hw_T t) X yX0_match wsX0_match (hw_rm 2) [.ref (ad 2), .ref (ad 10), .ref (ad (100 + o))] g a c (fun g' a' c' => g' = g ∧ a' = va_up a (100 + o) (mt_t (a 0) (fun b => a (200 + b)) N 12 (2147483647, a (100 + o))).2 ∧ c' = c) := by
  refine hw_Cv.mk (lv0 := [(0, _), (1, _), (2, _)]) (by decide) rfl (Nat.le_of_ble_eq_true rfl) rfl (WH_ads ad t) hok (fun K F ret => ?_)
  have F : hw_F K l D (WH ad t) (hw_T t) X cX0_match RX0 wsX0_match (hw_rm 2) 7 := F
  refine hj_ldc F lc_X0_match_32 dX0_match_0 ?_
  refine hj_istore_n F (lv' := [(3, _), (0, _), (1, _), (2, _)]) dX0_match_2 rfl (by decide) rfl ?_
  refine hj_iconst F (v := 0) dX0_match_3 (by decide) ?_
  refine hj_istore F (lv' := [(4, _), (3, _), (0, _), (1, _), (2, _)]) dX0_match_4 (by decide) rfl ?_
  have h := lt_B_match F hok h12 hN ho (s := (2147483647, a (100 + o))) (ret dX0_match_72 ⟨rfl, rfl, rfl⟩) 13 0 (by decide) (by decide)
  rw [show (mt_t (a 0) (fun b => a (200 + b)) N 0 (2147483647, a (100 + o))) = (2147483647, a (100 + o)) from rfl, vau_self a (100 + o) rfl] at h
  exact h
def cp_n (f h : Nat → Int32) : Nat → Nat → Int32
  | 0 => f
  | i + 1 => upd (cp_n f h i) i (h i)
set_option maxHeartbeats 4000000 in
set_option maxRecDepth 100000 in
theorem lp_B_add (F : hw_F K l D (WH ad t) (hw_T t) X cX0_add RX0 wsX0_add rm 4) {n : Nat} (hn : n < 10) (hx : hw_J K (WH ad t) 0 0 g (va_up a (200 + n) (cp_n (a (200 + n)) (a 0) 12)) c [(3, .int (nI 12)), (2, .int (nI n)), (0, .ref (ad 2)), (1, .ref (ad 10))] 30 []) : ∀ m i : Nat, 12 - i < m → i ≤ 12 → hw_J K (WH ad t) 0 0 g (va_up a (200 + n) (cp_n (a (200 + n)) (a 0) i)) c [(3, .int (nI i)), (2, .int (nI n)), (0, .ref (ad 2)), (1, .ref (ad 10))] 7 [] := by
  intro m
  induction m with
  | zero => intro i hm; exact absurd hm (Nat.not_lt_zero _)
  | succ m ih =>
    intro i hm hi
    have e0 : va_up a (200 + n) (cp_n (a (200 + n)) (a 0) i) 0 = a 0 := va_up_ne _ _ (by omega)
    refine hj_iload_n F 0 dX0_add_7 rfl rfl ?_
    refine hj_bipush F (v := 12) dX0_add_8 (by decide) ?_
    refine hj_icmp_ge F 30 dX0_add_10 (by decide) (fun q10 => ?_) (fun q10 => ?_)
    · have q10 : nI 12 ≤ nI i := q10
      rw [nI_leI (by omega) (by omega)] at q10
      obtain rfl : i = 12 := by omega
      exact hx
    · have q10 : ¬ nI 12 ≤ nI i := q10
      rw [nI_leI (by omega) (by omega)] at q10
      refine hj_aload_n F 2 dX0_add_13 rfl rfl ?_
      refine hg_B_rings F hi_X0_add_B lk_X0_add_11 dX0_add_14 ?_
      refine hj_iload_n F 1 dX0_add_17 rfl rfl ?_
      refine hl_B_rings F (vp_in_nI hn (by decide)) dX0_add_18 ?_
      rw [nI_clamp (show n < 2 ^ 31 by omega)]
      refine hj_iload_n F 0 dX0_add_19 rfl rfl ?_
      refine hj_aload_n F 3 dX0_add_20 rfl rfl ?_
      refine hj_iload_n F 0 dX0_add_21 rfl rfl ?_
      refine hl_X_hand F (vp_in_nI (show i < 12 by omega) (by decide)) dX0_add_22 ?_
      refine hs_B_ring F hn (vp_in_nI (show i < 12 by omega) (by decide)) dX0_add_23 ?_
      refine hj_iinc F 0 (v := _ + 1) (lv' := [(3, _), (2, _), (0, _), (1, _)]) dX0_add_24 rfl rfl (by decide) rfl ?_
      refine hj_goto F 7 dX0_add_27 (by decide) ?_
      refine hj_lv [0, 1, 2, 3] rfl ?_
      rw [nI_1, nI_clamp (show i < 2 ^ 31 by omega), vau_s, bx_uu, e0]
      exact ih (i + 1) (by omega) (by omega)
set_option maxHeartbeats 4000000 in
set_option maxRecDepth 100000 in
theorem k_B_add (hok : hw_XOK X) {n : Nat} (h12 : g 12 = nI n) (hn : n < 10) : hw_Ci l D (WH ad t) (hw_T t) X yX0_add wsX0_add (hw_rm 1) [.ref (ad 2), .ref (ad 10)] g a c (fun r g' a' c' => r = nI n ∧ g' = upd g 12 (nI (n + 1)) ∧ a' = va_up (va_up a (200 + n) (cp_n (a (200 + n)) (a 0) 12)) 4 (upd (a 4) n (-1)) ∧ c' = c) := by
  refine hw_Ci.mk (lv0 := [(0, _), (1, _)]) (by decide) rfl (Nat.le_of_ble_eq_true rfl) rfl (WH_ads ad t) hok (fun K F ret => ?_)
  have F : hw_F K l D (WH ad t) (hw_T t) X cX0_add RX0 wsX0_add (hw_rm 1) 4 := F
  have e4 : va_up a (200 + n) (cp_n (a (200 + n)) (a 0) 12) 4 = a 4 := va_up_ne _ _ (by omega)
  have h30 : hw_J K (WH ad t) 0 0 g (va_up a (200 + n) (cp_n (a (200 + n)) (a 0) 12)) c [(3, .int (nI 12)), (2, .int (nI n)), (0, .ref (ad 2)), (1, .ref (ad 10))] 30 [] := by
    refine hj_aload_n F 2 dX0_add_30 rfl rfl ?_
    refine hg_B_latest F hi_X0_add_B lk_X0_add_23 dX0_add_31 ?_
    refine hj_iload_n F 1 dX0_add_34 rfl rfl ?_
    refine hj_iconst F (v := -1) dX0_add_35 (by decide) ?_
    refine hs_B_latest F (vp_in_nI hn (by decide)) dX0_add_36 ?_
    rw [nI_clamp (show n < 2 ^ 31 by omega), e4]
    refine hj_aload_n F 2 dX0_add_37 rfl rfl ?_
    refine hj_dup F dX0_add_38 rfl ?_
    refine hg_B_size F hi_X0_add_B lk_X0_add_26 dX0_add_39 ?_
    refine hj_iconst F (v := 1) dX0_add_42 (by decide) ?_
    rw [h12]
    refine hj_iadd F dX0_add_43 ?_
    rw [nI_1]
    refine hp_B_size F hi_X0_add_B lk_X0_add_26 dX0_add_44 ?_
    refine hj_iload_n F 1 dX0_add_47 rfl rfl ?_
    exact ret dX0_add_48 rfl ⟨rfl, rfl, rfl, rfl⟩
  refine hj_aload_n F 0 dX0_add_0 rfl rfl ?_
  refine hg_B_size F hi_X0_add_B lk_X0_add_26 dX0_add_1 ?_
  rw [h12]
  refine hj_istore_n F (lv' := [(2, _), (0, _), (1, _)]) dX0_add_4 rfl (by decide) rfl ?_
  refine hj_iconst F (v := 0) dX0_add_5 (by decide) ?_
  refine hj_istore_n F (lv' := [(3, _), (2, _), (0, _), (1, _)]) dX0_add_6 rfl (by decide) rfl ?_
  have h := lp_B_add F hn h30 13 0 (by decide) (by decide)
  rw [show cp_n (a (200 + n)) (a 0) 0 = a (200 + n) from rfl, vau_self a (200 + n) rfl] at h
  exact h
end SBLOCKS
