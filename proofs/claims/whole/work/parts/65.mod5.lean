section SMOD5
theorem hi_X4_isWord_M : ∀ w ∈ u_ws RX4 TX4 28, w ∈ wsX4_isWord := fun w h => by
  unfold wsX4_isWord
  simp only [List.mem_cons, List.mem_append]
  first | (simp only [h, or_true, true_or]; done) | (have h2 : w ∈ wsX40 := h; simp only [h2, or_true, true_or]; done)
theorem lk_X4_isWord_88 : Cond.fieldLink RX4 88 "HatWorksModel" "at" "I" ∈ wsX4_isWord := List.mem_of_getElem? (i := 1) rfl
theorem hi_X4_readPart_M : ∀ w ∈ u_ws RX4 TX4 28, w ∈ wsX4_readPart := fun w h => by
  unfold wsX4_readPart
  simp only [List.mem_cons, List.mem_append]
  first | (simp only [h, or_true, true_or]; done) | (have h2 : w ∈ wsX40 := h; simp only [h2, or_true, true_or]; done)
theorem lk_X4_readPart_24 : Cond.fieldLink RX4 24 "HatWorksModel" "part" "[I" ∈ wsX4_readPart := List.mem_of_getElem? (i := 3) rfl
theorem lk_X4_readPart_88 : Cond.fieldLink RX4 88 "HatWorksModel" "at" "I" ∈ wsX4_readPart := List.mem_of_getElem? (i := 2) rfl
variable {K : hw_K} {l : Launch} {D : va_G} {ad : Nat → Nat} {t : Nat → ClassId} {X : hw_XT} {rm : Room} {g : hw_G} {a : hw_A} {c : Int64}
variable {τ : Nat → Nat}
def sx4 (τ : Nat → Nat) (U : State) : Prop := vk_R RX4 98 "crown" (τ 0) U ∧ vk_R RX4 100 "brim" (τ 1) U ∧ vk_R RX4 102 "band" (τ 2) U ∧ vk_R RX4 104 "felt" (τ 3) U
set_option maxHeartbeats 4000000 in
set_option maxRecDepth 100000 in
theorem k_M_partName (hok : hw_XOK X) (hs4 : ∀ A U H, X A U H → sx4 τ U) {i : Nat} (hi : i < 4) : hw_Cr l D (WM ad t) (hw_T t) X yX4_partName wsX4_partName (hw_rm 1) [.int (nI i)] g a c (τ i) := by
  refine hw_Cr.mk (lv0 := [(0, _)]) (by decide) rfl (Nat.le_of_ble_eq_true rfl) rfl (WM_ads ad t) hok (fun K F ret => ?_)
  have F : hw_F K l D (WM ad t) (hw_T t) X cX4_partName RX4 wsX4_partName (hw_rm 1) 1 := F
  refine hj_iload_n F 0 dX4_partName_0 rfl rfl ?_
  match i, hi with
  | 0, _ =>
    refine hj_tableIn F 28 dX4_partName_1 (by decide) (by decide) (off := 27) (by decide) (by decide) ?_
    refine hj_ldcS F (fun A U H h => (hs4 A U H h).1) dX4_partName_28 ?_
    exact ret dX4_partName_30
  | 1, _ =>
    refine hj_tableIn F 31 dX4_partName_1 (by decide) (by decide) (off := 30) (by decide) (by decide) ?_
    refine hj_ldcS F (fun A U H h => (hs4 A U H h).2.1) dX4_partName_31 ?_
    exact ret dX4_partName_33
  | 2, _ =>
    refine hj_tableIn F 34 dX4_partName_1 (by decide) (by decide) (off := 33) (by decide) (by decide) ?_
    refine hj_ldcS F (fun A U H h => (hs4 A U H h).2.2.1) dX4_partName_34 ?_
    exact ret dX4_partName_36
  | 3, _ =>
    refine hj_tableOut F 37 dX4_partName_1 (by decide) (by decide) ?_
    refine hj_ldcS F (fun A U H h => (hs4 A U H h).2.2.2) dX4_partName_37 ?_
    exact ret dX4_partName_39
set_option maxHeartbeats 4000000 in
set_option maxRecDepth 100000 in
theorem lp_M_isWord (F : hw_F K l D (WM ad t) (hw_T t) X cX4_isWord RX4 wsX4_isWord (hw_rm 5) 3) (hok : hw_XOK X) (hs : ∀ A U H, X A U H → sx τ A U H) {i L n1 : Nat} (hi : i < 4) (h4 : g 4 = nI L) (hL : L ≤ 100) (h5 : g 5 = nI n1) (hnL : n1 ≤ L) (hby : by_ok (a 2)) (ret : ∀ {lv : List (Nat × Value)} {pc : Nat} {v : Int32}, decode cX4_isWord pc = .ok (.ireturn, 1) → narrow .boolean (.int v) = .int v → v = (if tp_isb (a 2) i n1 (skp (tp_le (a 2)) L n1) = true then 1 else 0) → hw_J K (WM ad t) 0 0 g a c lv pc [.int v]) : ∀ m j : Nat, tp_len i - j < m → j ≤ tp_len i → (∀ k, k < j → mb (a 2) L (n1 + k) = tp_ch i k) → hw_J K (WM ad t) 0 0 g a c [(2, .int (nI j)), (0, .ref (ad 0)), (1, .ref (τ i))] 2 [] := by
  intro m
  have h59 : tp_len i ≤ 5 := sx_l5 ⟨i, hi⟩
  induction m with
  | zero => intro j hm; exact absurd hm (Nat.not_lt_zero _)
  | succ m ih =>
    intro j hm hjl hj
    refine hj_iload_n F 0 dX4_isWord_2 rfl rfl ?_
    refine hj_aload_n F 2 dX4_isWord_3 rfl rfl ?_
    refine hj_cXi F (n := 0) (k_S_length hok (WM_ads ad t) hs hi) gX4_isWord_J0_length_8abf5 rfl ⟨rfl, rfl⟩ (by decide +kernel) ⟨by decide, by decide⟩ (fun A U H h => ((hs A U H h).1.1 i hi).1) (As := []) rfl rfl (Nat.le_of_ble_eq_true rfl) ⟨Nat.zero_le _, Nat.zero_le _⟩ dX4_isWord_4 (hw_eq4 ?_)
    refine hj_icmp_ge F 36 dX4_isWord_7 (by decide) (fun q7 => ?_) (fun q7 => ?_)
    · rw [nI_leI (by omega) (by omega)] at q7
      have hall : ∀ k, k < tp_len i → mb (a 2) L (n1 + k) = tp_ch i k := fun k hk => hj k (by omega)
      refine hj_aload_n F 1 dX4_isWord_36 rfl rfl ?_
      refine hj_aload_n F 1 dX4_isWord_37 rfl rfl ?_
      refine hg_M_at F hi_X4_isWord_M lk_X4_isWord_88 dX4_isWord_38 ?_
      rw [h5]
      refine hj_aload_n F 2 dX4_isWord_41 rfl rfl ?_
      refine hj_cXi F (n := 0) (k_S_length hok (WM_ads ad t) hs hi) gX4_isWord_J0_length_8abf5 rfl ⟨rfl, rfl⟩ (by decide +kernel) ⟨by decide, by decide⟩ (fun A U H h => ((hs A U H h).1.1 i hi).1) (As := []) rfl rfl (Nat.le_of_ble_eq_true rfl) ⟨Nat.zero_le _, Nat.zero_le _⟩ dX4_isWord_42 (hw_eq4 ?_)
      refine hj_iadd F dX4_isWord_45 ?_
      rw [nI_add]
      refine hj_cVi F (n := 1) (k_M_byteAt hok h4 hL (n := n1 + tp_len i) (by omega)) gX4_isWord_X4_byteAt rfl ⟨rfl, rfl⟩ (by decide +kernel) ⟨by decide, by decide⟩ 0 4 rfl rfl (As := [_]) rfl rfl (Nat.le_of_ble_eq_true rfl) ⟨Nat.zero_le _, Nat.zero_le _⟩ dX4_isWord_46 (hw_eq4 ?_)
      refine hj_cSi F (n := 1) (k_M_isSmall hok) gX4_isWord_X4_isSmall rfl ⟨rfl, rfl⟩ (by decide +kernel) ⟨by decide, by decide⟩ (As := [_]) rfl rfl (Nat.le_of_ble_eq_true rfl) ⟨Nat.zero_le _, Nat.zero_le _⟩ dX4_isWord_49 (hw_eq4 ?_)
      refine hj_if_ne F 59 dX4_isWord_52 (by decide) (fun q52 => ?_) (fun q52 => ?_)
      · have hs9 : 97 ≤ mb (a 2) L (n1 + tp_len i) ∧ mb (a 2) L (n1 + tp_len i) ≤ 122 := Classical.byContradiction (fun z => q52 (if_neg z))
        refine hj_iconst F (v := 0) dX4_isWord_59 (by decide) ?_
        exact ret dX4_isWord_60 rfl (by rw [if_neg (fun z => ((mw_iff hby hi hnL).mpr z).2 hs9)])
      · have hs9 : ¬ (97 ≤ mb (a 2) L (n1 + tp_len i) ∧ mb (a 2) L (n1 + tp_len i) ≤ 122) := fun z => by rw [if_pos z] at q52; exact absurd q52 (by decide)
        refine hj_iconst F (v := 1) dX4_isWord_55 (by decide) ?_
        refine hj_goto F 60 dX4_isWord_56 (by decide) ?_
        exact ret dX4_isWord_60 rfl (by rw [if_pos ((mw_iff hby hi hnL).mp ⟨hall, hs9⟩)])
    · rw [nI_leI (by omega) (by omega)] at q7
      have hlt : j < tp_len i := by omega
      refine hj_aload_n F 1 dX4_isWord_10 rfl rfl ?_
      refine hj_aload_n F 1 dX4_isWord_11 rfl rfl ?_
      refine hg_M_at F hi_X4_isWord_M lk_X4_isWord_88 dX4_isWord_12 ?_
      rw [h5]
      refine hj_iload_n F 0 dX4_isWord_15 rfl rfl ?_
      refine hj_iadd F dX4_isWord_16 ?_
      rw [nI_add]
      refine hj_cVi F (n := 1) (k_M_byteAt hok h4 hL (n := n1 + j) (by omega)) gX4_isWord_X4_byteAt rfl ⟨rfl, rfl⟩ (by decide +kernel) ⟨by decide, by decide⟩ 0 4 rfl rfl (As := [_]) rfl rfl (Nat.le_of_ble_eq_true rfl) ⟨Nat.zero_le _, Nat.zero_le _⟩ dX4_isWord_17 (hw_eq4 ?_)
      refine hj_aload_n F 2 dX4_isWord_20 rfl rfl ?_
      refine hj_iload_n F 0 dX4_isWord_21 rfl rfl ?_
      refine hj_cXi F (n := 1) (k_S_charAt hok (WM_ads ad t) hs hi hlt) gX4_isWord_J0_charAt_5068e rfl ⟨rfl, rfl⟩ (by decide +kernel) ⟨by decide, by decide⟩ (fun A U H h => ((hs A U H h).1.1 i hi).1) (As := [_]) rfl rfl (Nat.le_of_ble_eq_true rfl) ⟨Nat.zero_le _, Nat.zero_le _⟩ dX4_isWord_22 (hw_eq4 ?_)
      refine hj_icmp_eq F 30 dX4_isWord_25 (by decide) (fun q25 => ?_) (fun q25 => ?_)
      · refine hj_iinc F 0 (v := _ + 1) (lv' := [(2, _), (0, _), (1, _)]) dX4_isWord_30 rfl rfl (by decide) rfl ?_
        refine hj_goto F 2 dX4_isWord_33 (by decide) ?_
        refine hj_lv [0, 1, 2] rfl ?_
        rw [nI_1]
        exact ih (j + 1) (by omega) (by omega) (fun k hk => by
          rcases Nat.lt_or_ge k j with h | h
          · exact hj k h
          · rw [show k = j by omega]; exact q25)
      · refine hj_iconst F (v := 0) dX4_isWord_28 (by decide) ?_
        exact ret dX4_isWord_29 rfl (by rw [if_neg (fun z => q25 (((mw_iff hby hi hnL).mpr z).1 j hlt))])
set_option maxHeartbeats 4000000 in
set_option maxRecDepth 100000 in
theorem k_M_isWord (hok : hw_XOK X) (hs : ∀ A U H, X A U H → sx τ A U H) {i L n1 : Nat} (hi : i < 4) (h4 : g 4 = nI L) (hL : L ≤ 100) (h5 : g 5 = nI n1) (hnL : n1 ≤ L) (hby : by_ok (a 2)) : hw_Ci l D (WM ad t) (hw_T t) X yX4_isWord wsX4_isWord (hw_rm 5) [.ref (ad 0), .ref (τ i)] g a c (fun r g' a' c' => r = (if tp_isb (a 2) i n1 (skp (tp_le (a 2)) L n1) = true then 1 else 0) ∧ g' = g ∧ a' = a ∧ c' = c) := by
  refine hw_Ci.mk (lv0 := [(0, _), (1, _)]) (by decide) rfl (Nat.le_of_ble_eq_true rfl) rfl (WM_ads ad t) hok (fun K F ret => ?_)
  have F : hw_F K l D (WM ad t) (hw_T t) X cX4_isWord RX4 wsX4_isWord (hw_rm 5) 3 := F
  refine hj_iconst F (v := 0) dX4_isWord_0 (by decide) ?_
  refine hj_istore_n F (lv' := [(2, _), (0, _), (1, _)]) dX4_isWord_1 rfl (by decide) rfl ?_
  exact lp_M_isWord F hok hs hi h4 hL h5 hnL hby (fun d hn hv => ret d hn ⟨hv, rfl, rfl, rfl⟩) (tp_len i + 1) 0 (by omega) (Nat.zero_le _) (fun k hk => absurd hk (Nat.not_lt_zero _))
set_option maxHeartbeats 4000000 in
set_option maxRecDepth 100000 in
theorem lp_M_digits (F : hw_F K l D (WM ad t) (hw_T t) X cX4_readPart RX4 wsX4_readPart (hw_rm 6) 6) (hok : hw_XOK X) {L : Nat} {z1 z2 : Int32} (h4 : g 4 = nI L) (hL : L ≤ 100) (hby : by_ok (a 2)) : ∀ (m n : Nat) (v : Int32), L - n < m → n ≤ L → hw_J K (WM ad t) 0 0 (upd g 5 (nI (skp (tp_di (a 2)) L n))) a c [(3, .int (md_rv (a 2) L n v)), (2, .int z2), (1, .int z1), (0, .ref (ad 0))] 165 [] → hw_J K (WM ad t) 0 0 (upd g 5 (nI n)) a c [(3, .int v), (2, .int z2), (1, .int z1), (0, .ref (ad 0))] 110 [] := by
  intro m
  induction m with
  | zero => intro n v hm; exact absurd hm (Nat.not_lt_zero _)
  | succ m ih =>
    intro n v hm hn hx
    have e5 : upd g 5 (nI n) 5 = nI n := pk_us
    have e4 : upd g 5 (nI n) 4 = nI L := by rw [pk_un (by decide)]; exact h4
    refine hj_aload_n F 3 dX4_readPart_110 rfl rfl ?_
    refine hj_aload_n F 3 dX4_readPart_111 rfl rfl ?_
    refine hg_M_at F hi_X4_readPart_M lk_X4_readPart_88 dX4_readPart_112 ?_
    rw [e5]
    refine hj_cVi F (n := 1) (k_M_byteAt hok e4 hL (n := n) (by omega)) gX4_readPart_X4_byteAt rfl ⟨rfl, rfl⟩ (by decide +kernel) ⟨by decide, by decide⟩ 0 4 rfl rfl (As := [_]) rfl rfl (Nat.le_of_ble_eq_true rfl) ⟨Nat.zero_le _, Nat.zero_le _⟩ dX4_readPart_115 (hw_eq4 ?_)
    refine hj_cSi F (n := 1) (k_M_isDigit hok) gX4_readPart_X4_isDigit rfl ⟨rfl, rfl⟩ (by decide +kernel) ⟨by decide, by decide⟩ (As := [_]) rfl rfl (Nat.le_of_ble_eq_true rfl) ⟨Nat.zero_le _, Nat.zero_le _⟩ dX4_readPart_118 (hw_eq4 ?_)
    refine hj_if_eq F 165 dX4_readPart_121 (by decide) (fun q121 => ?_) (fun q121 => ?_)
    · have hf : ¬ (n < L ∧ tp_di (a 2) n = true) := fun z => by rw [if_pos ((mb_di hby).mpr z)] at q121; exact absurd q121 (by decide)
      rw [skp_f hf, md_rv_f hf] at hx
      exact hx
    · have hdg : n < L ∧ tp_di (a 2) n = true := (mb_di hby).mp (Classical.byContradiction (fun z => q121 (if_neg z)))
      have hlt := hdg.1
      refine hj_iload_n F 0 dX4_readPart_124 rfl rfl ?_
      refine hj_sipush F (v := 1000) dX4_readPart_125 (by decide) ?_
      refine hj_icmp_le F 135 dX4_readPart_128 (by decide) (fun q128 => ?_) (fun q128 => ?_)
      · refine hj_bipush F (v := 10) dX4_readPart_135 (by decide) ?_
        refine hj_iload_n F 0 dX4_readPart_137 rfl rfl ?_
        refine hj_imul F dX4_readPart_138 ?_
        refine hj_aload_n F 3 dX4_readPart_139 rfl rfl ?_
        refine hj_aload_n F 3 dX4_readPart_140 rfl rfl ?_
        refine hg_M_at F hi_X4_readPart_M lk_X4_readPart_88 dX4_readPart_141 ?_
        rw [e5]
        refine hj_cVi F (n := 1) (k_M_byteAt hok e4 hL (n := n) (by omega)) gX4_readPart_X4_byteAt rfl ⟨rfl, rfl⟩ (by decide +kernel) ⟨by decide, by decide⟩ 0 4 rfl rfl (As := [_]) rfl rfl (Nat.le_of_ble_eq_true rfl) ⟨Nat.zero_le _, Nat.zero_le _⟩ dX4_readPart_144 (hw_eq4 ?_)
        refine hj_iadd F dX4_readPart_147 ?_
        refine hj_bipush F (v := 48) dX4_readPart_148 (by decide) ?_
        refine hj_isub F dX4_readPart_150 ?_
        refine hj_istore_n F (lv' := [(3, _), (2, _), (1, _), (0, _)]) dX4_readPart_151 rfl (by decide) rfl ?_
        refine hj_aload_n F 3 dX4_readPart_152 rfl rfl ?_
        refine hj_dup F dX4_readPart_153 rfl ?_
        refine hg_M_at F hi_X4_readPart_M lk_X4_readPart_88 dX4_readPart_154 ?_
        refine hj_iconst F (v := 1) dX4_readPart_157 (by decide) ?_
        refine hj_iadd F dX4_readPart_158 ?_
        refine hp_M_at F hi_X4_readPart_M lk_X4_readPart_88 dX4_readPart_159 ?_
        refine hj_goto F 110 dX4_readPart_162 (by decide) ?_
        refine hj_lv [0, 1, 2, 3] rfl ?_
        have hd : tp_di (a 2) n = true := hdg.2
        rw [skp_t hlt hd, md_rv_t hlt hd] at hx
        rw [e5, nI_1, upd_uu]
        have e := ih (n + 1) (md_nx v (a 2 n)) (by omega) (by omega) hx
        rw [show mb (a 2) L n = a 2 n from (if_pos hlt).trans ((by_f (hby n)).2.2.2.2.1 (by have := hd; simp only [tp_di, Bool.and_eq_true, decide_eq_true_eq] at this; exact i32_0 this.1 (by decide)))]
        rw [show md_nx v (a 2 n) = 10 * v + a 2 n - 48 from if_neg (Int32.not_lt.mpr q128)] at e
        exact e
      · refine hj_iload_n F 0 dX4_readPart_131 rfl rfl ?_
        refine hj_goto F 151 dX4_readPart_132 (by decide) ?_
        refine hj_istore_n F (lv' := [(3, _), (2, _), (1, _), (0, _)]) dX4_readPart_151 rfl (by decide) rfl ?_
        refine hj_aload_n F 3 dX4_readPart_152 rfl rfl ?_
        refine hj_dup F dX4_readPart_153 rfl ?_
        refine hg_M_at F hi_X4_readPart_M lk_X4_readPart_88 dX4_readPart_154 ?_
        refine hj_iconst F (v := 1) dX4_readPart_157 (by decide) ?_
        refine hj_iadd F dX4_readPart_158 ?_
        refine hp_M_at F hi_X4_readPart_M lk_X4_readPart_88 dX4_readPart_159 ?_
        refine hj_goto F 110 dX4_readPart_162 (by decide) ?_
        refine hj_lv [0, 1, 2, 3] rfl ?_
        have hd : tp_di (a 2) n = true := hdg.2
        rw [skp_t hlt hd, md_rv_t hlt hd] at hx
        rw [e5, nI_1, upd_uu]
        have e := ih (n + 1) (md_nx v (a 2 n)) (by omega) (by omega) hx
        rw [show md_nx v (a 2 n) = v from if_pos (Int32.not_le.mp q128)] at e
        exact e
set_option maxHeartbeats 4000000 in
set_option maxRecDepth 100000 in
theorem e0_M_readPart (F : hw_F K l D (WM ad t) (hw_T t) X cX4_readPart RX4 wsX4_readPart (hw_rm 6) 6) (hok : hw_XOK X) {v z2 : Int32} (h6 : g 6 = 0)
    (hbad : (v < 5 ∨ 30 < v) → ∀ {lv : List (Nat × Value)} {pc : Nat}, decode cX4_readPart pc = .ok (.return_, 1) → hw_J K (WM ad t) 0 0 (upd (upd g 6 2) 7 z2) (va_up a 3 (upd (a 3) 0 v)) c lv pc [])
    (hgood : ¬ (v < 5 ∨ 30 < v) → ∀ {lv : List (Nat × Value)} {pc : Nat}, decode cX4_readPart pc = .ok (.return_, 1) → hw_J K (WM ad t) 0 0 g (va_up a 3 (upd (a 3) 0 v)) c lv pc []) : hw_J K (WM ad t) 0 0 g a c [(3, .int v), (2, .int z2), (1, .int 0), (0, .ref (ad 0))] 165 [] := by
  refine hj_iload_n F 2 dX4_readPart_165 rfl rfl ?_
  refine hj_if_ne F 173 dX4_readPart_166 (by decide) (fun q166 => ?_) (fun q166 => ?_)
  · exact absurd rfl q166
  · refine hj_iconst F (v := 5) dX4_readPart_169 (by decide) ?_
    refine hj_goto F 183 dX4_readPart_170 (by decide) ?_
    refine hj_istore F (lv' := [(4, _), (3, _), (2, _), (1, _), (0, _)]) dX4_readPart_183 (by decide) rfl ?_
    refine hj_iload_n F 3 dX4_readPart_185 rfl rfl ?_
    refine hj_if_ne F 194 dX4_readPart_186 (by decide) (fun q186 => ?_) (fun q186 => ?_)
    · exact absurd rfl q186
    · refine hj_bipush F (v := 30) dX4_readPart_189 (by decide) ?_
      refine hj_goto F 215 dX4_readPart_191 (by decide) ?_
      refine hj_istore F (lv' := [(5, _), (4, _), (3, _), (2, _), (1, _), (0, _)]) dX4_readPart_215 (by decide) rfl ?_
      refine hj_iload_n F 2 dX4_readPart_217 rfl rfl ?_
      refine hj_iload F 1 dX4_readPart_218 rfl ?_
      refine hj_icmp_lt F 229 dX4_readPart_220 (by decide) (fun q220 => ?_) (fun q220 => ?_)
      · refine hj_aload_n F 5 dX4_readPart_229 rfl rfl ?_
        refine hj_iconst F (v := 2) dX4_readPart_230 (by decide) ?_
        refine hj_iload_n F 3 dX4_readPart_231 rfl rfl ?_
        refine hj_cVv F (n := 2) (k_M_wrong hok) gX4_readPart_X4_wrong rfl ⟨rfl, rfl⟩ (by decide +kernel) ⟨by decide, by decide⟩ 0 4 rfl rfl (As := [_, _]) rfl rfl (Nat.le_of_ble_eq_true rfl) ⟨Nat.zero_le _, Nat.zero_le _⟩ dX4_readPart_232 ?_
        rintro _ _ _ ⟨rfl, rfl, rfl⟩
        rw [if_neg (by rw [h6]; decide)]
        refine hj_aload_n F 5 dX4_readPart_235 rfl rfl ?_
        refine hg_M_part F hi_X4_readPart_M lk_X4_readPart_24 dX4_readPart_236 ?_
        refine hj_iload_n F 4 dX4_readPart_239 rfl rfl ?_
        refine hj_iload_n F 2 dX4_readPart_240 rfl rfl ?_
        refine hs_M_part F (hw_inc (by decide)) dX4_readPart_241 ?_
        exact hbad (Or.inl q220) dX4_readPart_242
      · refine hj_iload_n F 2 dX4_readPart_223 rfl rfl ?_
        refine hj_iload F 0 dX4_readPart_224 rfl ?_
        refine hj_icmp_le F 235 dX4_readPart_226 (by decide) (fun q226 => ?_) (fun q226 => ?_)
        · refine hj_aload_n F 5 dX4_readPart_235 rfl rfl ?_
          refine hg_M_part F hi_X4_readPart_M lk_X4_readPart_24 dX4_readPart_236 ?_
          refine hj_iload_n F 4 dX4_readPart_239 rfl rfl ?_
          refine hj_iload_n F 2 dX4_readPart_240 rfl rfl ?_
          refine hs_M_part F (hw_inc (by decide)) dX4_readPart_241 ?_
          exact hgood (fun z => z.elim q220 (fun z => absurd q226 (Int32.not_le.mpr z))) dX4_readPart_242
        · refine hj_aload_n F 5 dX4_readPart_229 rfl rfl ?_
          refine hj_iconst F (v := 2) dX4_readPart_230 (by decide) ?_
          refine hj_iload_n F 3 dX4_readPart_231 rfl rfl ?_
          refine hj_cVv F (n := 2) (k_M_wrong hok) gX4_readPart_X4_wrong rfl ⟨rfl, rfl⟩ (by decide +kernel) ⟨by decide, by decide⟩ 0 4 rfl rfl (As := [_, _]) rfl rfl (Nat.le_of_ble_eq_true rfl) ⟨Nat.zero_le _, Nat.zero_le _⟩ dX4_readPart_232 ?_
          rintro _ _ _ ⟨rfl, rfl, rfl⟩
          rw [if_neg (by rw [h6]; decide)]
          refine hj_aload_n F 5 dX4_readPart_235 rfl rfl ?_
          refine hg_M_part F hi_X4_readPart_M lk_X4_readPart_24 dX4_readPart_236 ?_
          refine hj_iload_n F 4 dX4_readPart_239 rfl rfl ?_
          refine hj_iload_n F 2 dX4_readPart_240 rfl rfl ?_
          refine hs_M_part F (hw_inc (by decide)) dX4_readPart_241 ?_
          exact hbad (Or.inr (Int32.not_le.mp q226)) dX4_readPart_242
set_option maxHeartbeats 4000000 in
set_option maxRecDepth 100000 in
theorem e1_M_readPart (F : hw_F K l D (WM ad t) (hw_T t) X cX4_readPart RX4 wsX4_readPart (hw_rm 6) 6) (hok : hw_XOK X) {v z2 : Int32} (h6 : g 6 = 0)
    (hbad : (v < 0 ∨ 20 < v) → ∀ {lv : List (Nat × Value)} {pc : Nat}, decode cX4_readPart pc = .ok (.return_, 1) → hw_J K (WM ad t) 0 0 (upd (upd g 6 2) 7 z2) (va_up a 3 (upd (a 3) 1 v)) c lv pc [])
    (hgood : ¬ (v < 0 ∨ 20 < v) → ∀ {lv : List (Nat × Value)} {pc : Nat}, decode cX4_readPart pc = .ok (.return_, 1) → hw_J K (WM ad t) 0 0 g (va_up a 3 (upd (a 3) 1 v)) c lv pc []) : hw_J K (WM ad t) 0 0 g a c [(3, .int v), (2, .int z2), (1, .int 1), (0, .ref (ad 0))] 165 [] := by
  refine hj_iload_n F 2 dX4_readPart_165 rfl rfl ?_
  refine hj_if_ne F 173 dX4_readPart_166 (by decide) (fun q166 => ?_) (fun q166 => ?_)
  · refine hj_iload_n F 2 dX4_readPart_173 rfl rfl ?_
    refine hj_iconst F (v := 3) dX4_readPart_174 (by decide) ?_
    refine hj_icmp_ne F 182 dX4_readPart_175 (by decide) (fun q175 => ?_) (fun q175 => ?_)
    · refine hj_iconst F (v := 0) dX4_readPart_182 (by decide) ?_
      refine hj_istore F (lv' := [(4, _), (3, _), (2, _), (1, _), (0, _)]) dX4_readPart_183 (by decide) rfl ?_
      refine hj_iload_n F 3 dX4_readPart_185 rfl rfl ?_
      refine hj_if_ne F 194 dX4_readPart_186 (by decide) (fun q186 => ?_) (fun q186 => ?_)
      · refine hj_iload_n F 3 dX4_readPart_194 rfl rfl ?_
        refine hj_iconst F (v := 1) dX4_readPart_195 (by decide) ?_
        refine hj_icmp_ne F 204 dX4_readPart_196 (by decide) (fun q196 => ?_) (fun q196 => ?_)
        · exact absurd rfl q196
        · refine hj_bipush F (v := 20) dX4_readPart_199 (by decide) ?_
          refine hj_goto F 215 dX4_readPart_201 (by decide) ?_
          refine hj_istore F (lv' := [(5, _), (4, _), (3, _), (2, _), (1, _), (0, _)]) dX4_readPart_215 (by decide) rfl ?_
          refine hj_iload_n F 2 dX4_readPart_217 rfl rfl ?_
          refine hj_iload F 1 dX4_readPart_218 rfl ?_
          refine hj_icmp_lt F 229 dX4_readPart_220 (by decide) (fun q220 => ?_) (fun q220 => ?_)
          · refine hj_aload_n F 5 dX4_readPart_229 rfl rfl ?_
            refine hj_iconst F (v := 2) dX4_readPart_230 (by decide) ?_
            refine hj_iload_n F 3 dX4_readPart_231 rfl rfl ?_
            refine hj_cVv F (n := 2) (k_M_wrong hok) gX4_readPart_X4_wrong rfl ⟨rfl, rfl⟩ (by decide +kernel) ⟨by decide, by decide⟩ 0 4 rfl rfl (As := [_, _]) rfl rfl (Nat.le_of_ble_eq_true rfl) ⟨Nat.zero_le _, Nat.zero_le _⟩ dX4_readPart_232 ?_
            rintro _ _ _ ⟨rfl, rfl, rfl⟩
            rw [if_neg (by rw [h6]; decide)]
            refine hj_aload_n F 5 dX4_readPart_235 rfl rfl ?_
            refine hg_M_part F hi_X4_readPart_M lk_X4_readPart_24 dX4_readPart_236 ?_
            refine hj_iload_n F 4 dX4_readPart_239 rfl rfl ?_
            refine hj_iload_n F 2 dX4_readPart_240 rfl rfl ?_
            refine hs_M_part F (hw_inc (by decide)) dX4_readPart_241 ?_
            exact hbad (Or.inl q220) dX4_readPart_242
          · refine hj_iload_n F 2 dX4_readPart_223 rfl rfl ?_
            refine hj_iload F 0 dX4_readPart_224 rfl ?_
            refine hj_icmp_le F 235 dX4_readPart_226 (by decide) (fun q226 => ?_) (fun q226 => ?_)
            · refine hj_aload_n F 5 dX4_readPart_235 rfl rfl ?_
              refine hg_M_part F hi_X4_readPart_M lk_X4_readPart_24 dX4_readPart_236 ?_
              refine hj_iload_n F 4 dX4_readPart_239 rfl rfl ?_
              refine hj_iload_n F 2 dX4_readPart_240 rfl rfl ?_
              refine hs_M_part F (hw_inc (by decide)) dX4_readPart_241 ?_
              exact hgood (fun z => z.elim q220 (fun z => absurd q226 (Int32.not_le.mpr z))) dX4_readPart_242
            · refine hj_aload_n F 5 dX4_readPart_229 rfl rfl ?_
              refine hj_iconst F (v := 2) dX4_readPart_230 (by decide) ?_
              refine hj_iload_n F 3 dX4_readPart_231 rfl rfl ?_
              refine hj_cVv F (n := 2) (k_M_wrong hok) gX4_readPart_X4_wrong rfl ⟨rfl, rfl⟩ (by decide +kernel) ⟨by decide, by decide⟩ 0 4 rfl rfl (As := [_, _]) rfl rfl (Nat.le_of_ble_eq_true rfl) ⟨Nat.zero_le _, Nat.zero_le _⟩ dX4_readPart_232 ?_
              rintro _ _ _ ⟨rfl, rfl, rfl⟩
              rw [if_neg (by rw [h6]; decide)]
              refine hj_aload_n F 5 dX4_readPart_235 rfl rfl ?_
              refine hg_M_part F hi_X4_readPart_M lk_X4_readPart_24 dX4_readPart_236 ?_
              refine hj_iload_n F 4 dX4_readPart_239 rfl rfl ?_
              refine hj_iload_n F 2 dX4_readPart_240 rfl rfl ?_
              refine hs_M_part F (hw_inc (by decide)) dX4_readPart_241 ?_
              exact hbad (Or.inr (Int32.not_le.mp q226)) dX4_readPart_242
      · exact absurd q186 (by decide)
    · exact absurd q175 (by decide)
  · exact absurd q166 (by decide)
set_option maxHeartbeats 4000000 in
set_option maxRecDepth 100000 in
theorem e2_M_readPart (F : hw_F K l D (WM ad t) (hw_T t) X cX4_readPart RX4 wsX4_readPart (hw_rm 6) 6) (hok : hw_XOK X) {v z2 : Int32} (h6 : g 6 = 0)
    (hbad : (v < 0 ∨ 9 < v) → ∀ {lv : List (Nat × Value)} {pc : Nat}, decode cX4_readPart pc = .ok (.return_, 1) → hw_J K (WM ad t) 0 0 (upd (upd g 6 2) 7 z2) (va_up a 3 (upd (a 3) 2 v)) c lv pc [])
    (hgood : ¬ (v < 0 ∨ 9 < v) → ∀ {lv : List (Nat × Value)} {pc : Nat}, decode cX4_readPart pc = .ok (.return_, 1) → hw_J K (WM ad t) 0 0 g (va_up a 3 (upd (a 3) 2 v)) c lv pc []) : hw_J K (WM ad t) 0 0 g a c [(3, .int v), (2, .int z2), (1, .int 2), (0, .ref (ad 0))] 165 [] := by
  refine hj_iload_n F 2 dX4_readPart_165 rfl rfl ?_
  refine hj_if_ne F 173 dX4_readPart_166 (by decide) (fun q166 => ?_) (fun q166 => ?_)
  · refine hj_iload_n F 2 dX4_readPart_173 rfl rfl ?_
    refine hj_iconst F (v := 3) dX4_readPart_174 (by decide) ?_
    refine hj_icmp_ne F 182 dX4_readPart_175 (by decide) (fun q175 => ?_) (fun q175 => ?_)
    · refine hj_iconst F (v := 0) dX4_readPart_182 (by decide) ?_
      refine hj_istore F (lv' := [(4, _), (3, _), (2, _), (1, _), (0, _)]) dX4_readPart_183 (by decide) rfl ?_
      refine hj_iload_n F 3 dX4_readPart_185 rfl rfl ?_
      refine hj_if_ne F 194 dX4_readPart_186 (by decide) (fun q186 => ?_) (fun q186 => ?_)
      · refine hj_iload_n F 3 dX4_readPart_194 rfl rfl ?_
        refine hj_iconst F (v := 1) dX4_readPart_195 (by decide) ?_
        refine hj_icmp_ne F 204 dX4_readPart_196 (by decide) (fun q196 => ?_) (fun q196 => ?_)
        · refine hj_iload_n F 3 dX4_readPart_204 rfl rfl ?_
          refine hj_iconst F (v := 2) dX4_readPart_205 (by decide) ?_
          refine hj_icmp_ne F 214 dX4_readPart_206 (by decide) (fun q206 => ?_) (fun q206 => ?_)
          · exact absurd rfl q206
          · refine hj_bipush F (v := 9) dX4_readPart_209 (by decide) ?_
            refine hj_goto F 215 dX4_readPart_211 (by decide) ?_
            refine hj_istore F (lv' := [(5, _), (4, _), (3, _), (2, _), (1, _), (0, _)]) dX4_readPart_215 (by decide) rfl ?_
            refine hj_iload_n F 2 dX4_readPart_217 rfl rfl ?_
            refine hj_iload F 1 dX4_readPart_218 rfl ?_
            refine hj_icmp_lt F 229 dX4_readPart_220 (by decide) (fun q220 => ?_) (fun q220 => ?_)
            · refine hj_aload_n F 5 dX4_readPart_229 rfl rfl ?_
              refine hj_iconst F (v := 2) dX4_readPart_230 (by decide) ?_
              refine hj_iload_n F 3 dX4_readPart_231 rfl rfl ?_
              refine hj_cVv F (n := 2) (k_M_wrong hok) gX4_readPart_X4_wrong rfl ⟨rfl, rfl⟩ (by decide +kernel) ⟨by decide, by decide⟩ 0 4 rfl rfl (As := [_, _]) rfl rfl (Nat.le_of_ble_eq_true rfl) ⟨Nat.zero_le _, Nat.zero_le _⟩ dX4_readPart_232 ?_
              rintro _ _ _ ⟨rfl, rfl, rfl⟩
              rw [if_neg (by rw [h6]; decide)]
              refine hj_aload_n F 5 dX4_readPart_235 rfl rfl ?_
              refine hg_M_part F hi_X4_readPart_M lk_X4_readPart_24 dX4_readPart_236 ?_
              refine hj_iload_n F 4 dX4_readPart_239 rfl rfl ?_
              refine hj_iload_n F 2 dX4_readPart_240 rfl rfl ?_
              refine hs_M_part F (hw_inc (by decide)) dX4_readPart_241 ?_
              exact hbad (Or.inl q220) dX4_readPart_242
            · refine hj_iload_n F 2 dX4_readPart_223 rfl rfl ?_
              refine hj_iload F 0 dX4_readPart_224 rfl ?_
              refine hj_icmp_le F 235 dX4_readPart_226 (by decide) (fun q226 => ?_) (fun q226 => ?_)
              · refine hj_aload_n F 5 dX4_readPart_235 rfl rfl ?_
                refine hg_M_part F hi_X4_readPart_M lk_X4_readPart_24 dX4_readPart_236 ?_
                refine hj_iload_n F 4 dX4_readPart_239 rfl rfl ?_
                refine hj_iload_n F 2 dX4_readPart_240 rfl rfl ?_
                refine hs_M_part F (hw_inc (by decide)) dX4_readPart_241 ?_
                exact hgood (fun z => z.elim q220 (fun z => absurd q226 (Int32.not_le.mpr z))) dX4_readPart_242
              · refine hj_aload_n F 5 dX4_readPart_229 rfl rfl ?_
                refine hj_iconst F (v := 2) dX4_readPart_230 (by decide) ?_
                refine hj_iload_n F 3 dX4_readPart_231 rfl rfl ?_
                refine hj_cVv F (n := 2) (k_M_wrong hok) gX4_readPart_X4_wrong rfl ⟨rfl, rfl⟩ (by decide +kernel) ⟨by decide, by decide⟩ 0 4 rfl rfl (As := [_, _]) rfl rfl (Nat.le_of_ble_eq_true rfl) ⟨Nat.zero_le _, Nat.zero_le _⟩ dX4_readPart_232 ?_
                rintro _ _ _ ⟨rfl, rfl, rfl⟩
                rw [if_neg (by rw [h6]; decide)]
                refine hj_aload_n F 5 dX4_readPart_235 rfl rfl ?_
                refine hg_M_part F hi_X4_readPart_M lk_X4_readPart_24 dX4_readPart_236 ?_
                refine hj_iload_n F 4 dX4_readPart_239 rfl rfl ?_
                refine hj_iload_n F 2 dX4_readPart_240 rfl rfl ?_
                refine hs_M_part F (hw_inc (by decide)) dX4_readPart_241 ?_
                exact hbad (Or.inr (Int32.not_le.mp q226)) dX4_readPart_242
        · exact absurd q196 (by decide)
      · exact absurd q186 (by decide)
    · exact absurd q175 (by decide)
  · exact absurd q166 (by decide)
set_option maxHeartbeats 4000000 in
set_option maxRecDepth 100000 in
theorem e3_M_readPart (F : hw_F K l D (WM ad t) (hw_T t) X cX4_readPart RX4 wsX4_readPart (hw_rm 6) 6) (hok : hw_XOK X) {v z2 : Int32} (h6 : g 6 = 0)
    (hbad : (v < 1 ∨ 5 < v) → ∀ {lv : List (Nat × Value)} {pc : Nat}, decode cX4_readPart pc = .ok (.return_, 1) → hw_J K (WM ad t) 0 0 (upd (upd g 6 2) 7 z2) (va_up a 3 (upd (a 3) 3 v)) c lv pc [])
    (hgood : ¬ (v < 1 ∨ 5 < v) → ∀ {lv : List (Nat × Value)} {pc : Nat}, decode cX4_readPart pc = .ok (.return_, 1) → hw_J K (WM ad t) 0 0 g (va_up a 3 (upd (a 3) 3 v)) c lv pc []) : hw_J K (WM ad t) 0 0 g a c [(3, .int v), (2, .int z2), (1, .int 3), (0, .ref (ad 0))] 165 [] := by
  refine hj_iload_n F 2 dX4_readPart_165 rfl rfl ?_
  refine hj_if_ne F 173 dX4_readPart_166 (by decide) (fun q166 => ?_) (fun q166 => ?_)
  · refine hj_iload_n F 2 dX4_readPart_173 rfl rfl ?_
    refine hj_iconst F (v := 3) dX4_readPart_174 (by decide) ?_
    refine hj_icmp_ne F 182 dX4_readPart_175 (by decide) (fun q175 => ?_) (fun q175 => ?_)
    · exact absurd rfl q175
    · refine hj_iconst F (v := 1) dX4_readPart_178 (by decide) ?_
      refine hj_goto F 183 dX4_readPart_179 (by decide) ?_
      refine hj_istore F (lv' := [(4, _), (3, _), (2, _), (1, _), (0, _)]) dX4_readPart_183 (by decide) rfl ?_
      refine hj_iload_n F 3 dX4_readPart_185 rfl rfl ?_
      refine hj_if_ne F 194 dX4_readPart_186 (by decide) (fun q186 => ?_) (fun q186 => ?_)
      · refine hj_iload_n F 3 dX4_readPart_194 rfl rfl ?_
        refine hj_iconst F (v := 1) dX4_readPart_195 (by decide) ?_
        refine hj_icmp_ne F 204 dX4_readPart_196 (by decide) (fun q196 => ?_) (fun q196 => ?_)
        · refine hj_iload_n F 3 dX4_readPart_204 rfl rfl ?_
          refine hj_iconst F (v := 2) dX4_readPart_205 (by decide) ?_
          refine hj_icmp_ne F 214 dX4_readPart_206 (by decide) (fun q206 => ?_) (fun q206 => ?_)
          · refine hj_iconst F (v := 5) dX4_readPart_214 (by decide) ?_
            refine hj_istore F (lv' := [(5, _), (4, _), (3, _), (2, _), (1, _), (0, _)]) dX4_readPart_215 (by decide) rfl ?_
            refine hj_iload_n F 2 dX4_readPart_217 rfl rfl ?_
            refine hj_iload F 1 dX4_readPart_218 rfl ?_
            refine hj_icmp_lt F 229 dX4_readPart_220 (by decide) (fun q220 => ?_) (fun q220 => ?_)
            · refine hj_aload_n F 5 dX4_readPart_229 rfl rfl ?_
              refine hj_iconst F (v := 2) dX4_readPart_230 (by decide) ?_
              refine hj_iload_n F 3 dX4_readPart_231 rfl rfl ?_
              refine hj_cVv F (n := 2) (k_M_wrong hok) gX4_readPart_X4_wrong rfl ⟨rfl, rfl⟩ (by decide +kernel) ⟨by decide, by decide⟩ 0 4 rfl rfl (As := [_, _]) rfl rfl (Nat.le_of_ble_eq_true rfl) ⟨Nat.zero_le _, Nat.zero_le _⟩ dX4_readPart_232 ?_
              rintro _ _ _ ⟨rfl, rfl, rfl⟩
              rw [if_neg (by rw [h6]; decide)]
              refine hj_aload_n F 5 dX4_readPart_235 rfl rfl ?_
              refine hg_M_part F hi_X4_readPart_M lk_X4_readPart_24 dX4_readPart_236 ?_
              refine hj_iload_n F 4 dX4_readPart_239 rfl rfl ?_
              refine hj_iload_n F 2 dX4_readPart_240 rfl rfl ?_
              refine hs_M_part F (hw_inc (by decide)) dX4_readPart_241 ?_
              exact hbad (Or.inl q220) dX4_readPart_242
            · refine hj_iload_n F 2 dX4_readPart_223 rfl rfl ?_
              refine hj_iload F 0 dX4_readPart_224 rfl ?_
              refine hj_icmp_le F 235 dX4_readPart_226 (by decide) (fun q226 => ?_) (fun q226 => ?_)
              · refine hj_aload_n F 5 dX4_readPart_235 rfl rfl ?_
                refine hg_M_part F hi_X4_readPart_M lk_X4_readPart_24 dX4_readPart_236 ?_
                refine hj_iload_n F 4 dX4_readPart_239 rfl rfl ?_
                refine hj_iload_n F 2 dX4_readPart_240 rfl rfl ?_
                refine hs_M_part F (hw_inc (by decide)) dX4_readPart_241 ?_
                exact hgood (fun z => z.elim q220 (fun z => absurd q226 (Int32.not_le.mpr z))) dX4_readPart_242
              · refine hj_aload_n F 5 dX4_readPart_229 rfl rfl ?_
                refine hj_iconst F (v := 2) dX4_readPart_230 (by decide) ?_
                refine hj_iload_n F 3 dX4_readPart_231 rfl rfl ?_
                refine hj_cVv F (n := 2) (k_M_wrong hok) gX4_readPart_X4_wrong rfl ⟨rfl, rfl⟩ (by decide +kernel) ⟨by decide, by decide⟩ 0 4 rfl rfl (As := [_, _]) rfl rfl (Nat.le_of_ble_eq_true rfl) ⟨Nat.zero_le _, Nat.zero_le _⟩ dX4_readPart_232 ?_
                rintro _ _ _ ⟨rfl, rfl, rfl⟩
                rw [if_neg (by rw [h6]; decide)]
                refine hj_aload_n F 5 dX4_readPart_235 rfl rfl ?_
                refine hg_M_part F hi_X4_readPart_M lk_X4_readPart_24 dX4_readPart_236 ?_
                refine hj_iload_n F 4 dX4_readPart_239 rfl rfl ?_
                refine hj_iload_n F 2 dX4_readPart_240 rfl rfl ?_
                refine hs_M_part F (hw_inc (by decide)) dX4_readPart_241 ?_
                exact hbad (Or.inr (Int32.not_le.mp q226)) dX4_readPart_242
          · exact absurd q206 (by decide)
        · exact absurd q196 (by decide)
      · exact absurd q186 (by decide)
  · exact absurd q166 (by decide)
set_option maxHeartbeats 4000000 in
set_option maxRecDepth 100000 in
theorem ep_M_readPart (F : hw_F K l D (WM ad t) (hw_T t) X cX4_readPart RX4 wsX4_readPart (hw_rm 6) 6) (hok : hw_XOK X) {p : Nat} (hp : p < 4) {v z2 : Int32} (h6 : g 6 = 0)
    (hbad : (v < tp_least p ∨ tp_most p < v) → ∀ {lv : List (Nat × Value)} {pc : Nat}, decode cX4_readPart pc = .ok (.return_, 1) → hw_J K (WM ad t) 0 0 (upd (upd g 6 2) 7 z2) (va_up a 3 (upd (a 3) p v)) c lv pc [])
    (hgood : ¬ (v < tp_least p ∨ tp_most p < v) → ∀ {lv : List (Nat × Value)} {pc : Nat}, decode cX4_readPart pc = .ok (.return_, 1) → hw_J K (WM ad t) 0 0 g (va_up a 3 (upd (a 3) p v)) c lv pc []) : hw_J K (WM ad t) 0 0 g a c [(3, .int v), (2, .int z2), (1, .int (nI p)), (0, .ref (ad 0))] 165 [] := by
  match p, hp with
  | 0, _ => exact e0_M_readPart F hok h6 hbad hgood
  | 1, _ => exact e1_M_readPart F hok h6 hbad hgood
  | 2, _ => exact e2_M_readPart F hok h6 hbad hgood
  | 3, _ => exact e3_M_readPart F hok h6 hbad hgood
end SMOD5
