section STAPE2
theorem hi_X2_isWord_T : ∀ w ∈ u_ws RX2 TX2 7, w ∈ wsX2_isWord := fun w h => by
  unfold wsX2_isWord
  simp only [List.mem_cons, List.mem_append]
  first | (simp only [h, or_true, true_or]; done) | (have h2 : w ∈ wsX20 := h; simp only [h2, or_true, true_or]; done)
theorem lk_X2_isWord_23 : Cond.fieldLink RX2 23 "HatWorks$Tape" "at" "I" ∈ wsX2_isWord := List.mem_of_getElem? (i := 1) rfl
theorem lk_X2_isWord_9 : Cond.fieldLink RX2 9 "HatWorks$Tape" "bytes" "[B" ∈ wsX2_isWord := List.mem_of_getElem? (i := 2) rfl
variable {K : hw_K} {l : Launch} {D : va_G} {ad : Nat → Nat} {t : Nat → ClassId} {X : hw_XT} {rm : Room} {g : hw_G} {a : hw_A} {c : Int64}
variable {τ : Nat → Nat}
def sx2 (τ : Nat → Nat) (U : State) : Prop := vk_R RX2 95 "crown" (τ 0) U ∧ vk_R RX2 97 "brim" (τ 1) U ∧ vk_R RX2 99 "band" (τ 2) U ∧ vk_R RX2 101 "felt" (τ 3) U
def tp_least (j : Nat) : Int32 := [5, 0, 0, 1].getD j 0
def tp_most (j : Nat) : Int32 := [30, 20, 9, 5].getD j 0
def sxT (τ : Nat → Nat) (A : Nat → Prop) (U : State) (H : Heap) : Prop := va_Z "HatWorks$Tape" "LEAST" "[I" (.ref (τ 20)) A U H ∧ va_T .int (τ 20) 4 (fun j => .int (tp_least j)) A U H ∧ va_Z "HatWorks$Tape" "MOST" "[I" (.ref (τ 21)) A U H ∧ va_T .int (τ 21) 4 (fun j => .int (tp_most j)) A U H
def tp_isb (b : Nat → Int32) (i n1 n2 : Nat) : Bool := decide (n2 = n1 + tp_len i) && (List.range (tp_len i)).all (fun j => b (n1 + j) == tp_ch i j)
theorem tp_isb_iff {b : Nat → Int32} {i n1 n2 : Nat} : tp_isb b i n1 n2 = true ↔ n2 = n1 + tp_len i ∧ ∀ j, j < tp_len i → b (n1 + j) = tp_ch i j := by
  simp [tp_isb]
/-- which part is named from n1 to n2; 4: none -/
def tp_pn (b : Nat → Int32) (n1 n2 : Nat) : Nat := if tp_isb b 0 n1 n2 then 0 else if tp_isb b 1 n1 n2 then 1 else if tp_isb b 2 n1 n2 then 2 else if tp_isb b 3 n1 n2 then 3 else 4
def tp_pr (b : Nat → Int32) (n1 n2 : Nat) : Int32 := if tp_pn b n1 n2 = 4 then -1 else nI (tp_pn b n1 n2)
theorem tp_pn_le (b : Nat → Int32) (n1 n2 : Nat) : tp_pn b n1 n2 ≤ 4 := by
  unfold tp_pn
  repeat' split
  all_goals omega
theorem tp_pn_is {b : Nat → Int32} {n1 n2 : Nat} (h : tp_pn b n1 n2 < 4) : tp_isb b (tp_pn b n1 n2) n1 n2 = true := by
  unfold tp_pn at h ⊢
  by_cases h0 : tp_isb b 0 n1 n2 = true
  · simpa [h0] using h0
  · by_cases h1 : tp_isb b 1 n1 n2 = true
    · simpa [h0, h1] using h1
    · by_cases h2 : tp_isb b 2 n1 n2 = true
      · simpa [h0, h1, h2] using h2
      · by_cases h3 : tp_isb b 3 n1 n2 = true
        · simpa [h0, h1, h2, h3] using h3
        · simp [h0, h1, h2, h3] at h
set_option maxHeartbeats 4000000 in
set_option maxRecDepth 100000 in
theorem k_T_nameOf (hok : hw_XOK X) (hs2 : ∀ A U H, X A U H → sx2 τ U) {i : Nat} (hi : i < 4) : hw_Cr l D (WH ad t) (hw_T t) X yX2_nameOf wsX2_nameOf (hw_rm 1) [.int (nI i)] g a c (τ i) := by
  refine hw_Cr.mk (lv0 := [(0, _)]) (by decide) rfl (Nat.le_of_ble_eq_true rfl) rfl (WH_ads ad t) hok (fun K F ret => ?_)
  have F : hw_F K l D (WH ad t) (hw_T t) X cX2_nameOf RX2 wsX2_nameOf (hw_rm 1) 1 := F
  refine hj_iload_n F 0 dX2_nameOf_0 rfl rfl ?_
  match i, hi with
  | 0, _ =>
    refine hj_tableIn F 28 dX2_nameOf_1 (by decide) (by decide) (off := 27) (by decide) (by decide) ?_
    refine hj_ldcS F (fun A U H h => (hs2 A U H h).1) dX2_nameOf_28 ?_
    exact ret dX2_nameOf_30
  | 1, _ =>
    refine hj_tableIn F 31 dX2_nameOf_1 (by decide) (by decide) (off := 30) (by decide) (by decide) ?_
    refine hj_ldcS F (fun A U H h => (hs2 A U H h).2.1) dX2_nameOf_31 ?_
    exact ret dX2_nameOf_33
  | 2, _ =>
    refine hj_tableIn F 34 dX2_nameOf_1 (by decide) (by decide) (off := 33) (by decide) (by decide) ?_
    refine hj_ldcS F (fun A U H h => (hs2 A U H h).2.2.1) dX2_nameOf_34 ?_
    exact ret dX2_nameOf_36
  | 3, _ =>
    refine hj_tableOut F 37 dX2_nameOf_1 (by decide) (by decide) ?_
    refine hj_ldcS F (fun A U H h => (hs2 A U H h).2.2.2) dX2_nameOf_37 ?_
    exact ret dX2_nameOf_39
set_option maxHeartbeats 4000000 in
set_option maxRecDepth 100000 in
theorem lp_T_isWord (F : hw_F K l D (WH ad t) (hw_T t) X cX2_isWord RX2 wsX2_isWord (hw_rm 5) 4) (hok : hw_XOK X) (hs : ∀ A U H, X A U H → sx τ A U H) {i : Nat} (hi : i < 4) {n1 n2 : Nat} (hlen : n2 = n1 + tp_len i) (hn2 : n2 ≤ 100) (ret : ∀ {lv : List (Nat × Value)} {pc : Nat} {v : Int32}, decode cX2_isWord pc = .ok (.ireturn, 1) → narrow .boolean (.int v) = .int v → v = (if tp_isb (a 1) i n1 n2 = true then 1 else 0) → hw_J K (WH ad t) 0 0 g a c lv pc [.int v]) : ∀ m j : Nat, tp_len i - j < m → j ≤ tp_len i → (∀ k, k < j → a 1 (n1 + k) = tp_ch i k) → hw_J K (WH ad t) 0 0 g a c [(3, .int (nI j)), (0, .ref (ad 1)), (1, .ref (τ i)), (2, .int (nI n1))] 17 [] := by
  intro m
  induction m with
  | zero => intro j hm; exact absurd hm (Nat.not_lt_zero _)
  | succ m ih =>
    intro j hm hjl hj
    have h5 : tp_len i ≤ 5 := sx_l5 ⟨i, hi⟩
    refine hj_iload_n F 0 dX2_isWord_17 rfl rfl ?_
    refine hj_aload_n F 2 dX2_isWord_18 rfl rfl ?_
    refine hj_cXi F (n := 0) (k_S_length hok (WH_ads ad t) hs hi) gX2_isWord_J0_length_8abf5 rfl ⟨rfl, rfl⟩ (by decide +kernel) ⟨by decide, by decide⟩ (fun A U H h => ((hs A U H h).1.1 i hi).1) (As := []) rfl rfl (Nat.le_of_ble_eq_true rfl) ⟨Nat.zero_le _, Nat.zero_le _⟩ dX2_isWord_19 (hw_eq4 ?_)
    refine hj_icmp_ge F 49 dX2_isWord_22 (by decide) (fun q22 => ?_) (fun q22 => ?_)
    · rw [nI_leI (by omega) (by omega)] at q22
      refine hj_iconst F (v := 1) dX2_isWord_49 (by decide) ?_
      exact ret dX2_isWord_50 rfl (by rw [if_pos (tp_isb_iff.mpr ⟨hlen, fun k hk => hj k (by omega)⟩)])
    · rw [nI_leI (by omega) (by omega)] at q22
      have hlt : j < tp_len i := by omega
      refine hj_aload_n F 1 dX2_isWord_25 rfl rfl ?_
      refine hg_T_bytes F hi_X2_isWord_T lk_X2_isWord_9 dX2_isWord_26 ?_
      refine hj_iload_n F 3 dX2_isWord_29 rfl rfl ?_
      refine hj_iload_n F 0 dX2_isWord_30 rfl rfl ?_
      refine hj_iadd F dX2_isWord_31 ?_
      refine hl_T_bytes F (by rw [nI_add]; exact vp_in_nI (by omega) (by decide)) dX2_isWord_32 ?_
      refine hj_aload_n F 2 dX2_isWord_33 rfl rfl ?_
      refine hj_iload_n F 0 dX2_isWord_34 rfl rfl ?_
      refine hj_cXi F (n := 1) (k_S_charAt hok (WH_ads ad t) hs hi hlt) gX2_isWord_J0_charAt_5068e rfl ⟨rfl, rfl⟩ (by decide +kernel) ⟨by decide, by decide⟩ (fun A U H h => ((hs A U H h).1.1 i hi).1) (As := [_]) rfl rfl (Nat.le_of_ble_eq_true rfl) ⟨Nat.zero_le _, Nat.zero_le _⟩ dX2_isWord_35 (hw_eq4 ?_)
      refine hj_icmp_eq F 43 dX2_isWord_38 (by decide) (fun q38 => ?_) (fun q38 => ?_)
      · rw [nI_add, nI_clamp (by omega)] at q38
        refine hj_iinc F 0 (v := _ + 1) (lv' := [(3, _), (0, _), (1, _), (2, _)]) dX2_isWord_43 rfl rfl (by decide) rfl ?_
        refine hj_goto F 17 dX2_isWord_46 (by decide) ?_
        rw [nI_1]
        exact ih (j + 1) (by omega) (by omega) (fun k hk => by
          rcases Nat.lt_or_ge k j with h | h
          · exact hj k h
          · rw [show k = j by omega]; exact q38)
      · rw [nI_add, nI_clamp (by omega)] at q38
        refine hj_iconst F (v := 0) dX2_isWord_41 (by decide) ?_
        exact ret dX2_isWord_42 rfl (by rw [if_neg (fun z => q38 ((tp_isb_iff.mp z).2 j hlt))])
set_option maxHeartbeats 4000000 in
set_option maxRecDepth 100000 in
theorem k_T_isWord (hok : hw_XOK X) (hs : ∀ A U H, X A U H → sx τ A U H) {i n1 n2 : Nat} (hi : i < 4) (h8 : g 8 = nI n2) (h12 : n1 ≤ n2) (hn2 : n2 ≤ 100) : hw_Ci l D (WH ad t) (hw_T t) X yX2_isWord wsX2_isWord (hw_rm 5) [.ref (ad 1), .ref (τ i), .int (nI n1)] g a c (fun r g' a' c' => r = (if tp_isb (a 1) i n1 n2 = true then 1 else 0) ∧ g' = g ∧ a' = a ∧ c' = c) := by
  refine hw_Ci.mk (lv0 := [(0, _), (1, _), (2, _)]) (by decide) rfl (Nat.le_of_ble_eq_true rfl) rfl (WH_ads ad t) hok (fun K F ret => ?_)
  have F : hw_F K l D (WH ad t) (hw_T t) X cX2_isWord RX2 wsX2_isWord (hw_rm 5) 4 := F
  have h5 : tp_len i ≤ 5 := sx_l5 ⟨i, hi⟩
  refine hj_aload_n F 0 dX2_isWord_0 rfl rfl ?_
  refine hg_T_at F hi_X2_isWord_T lk_X2_isWord_23 dX2_isWord_1 ?_
  rw [h8]
  refine hj_iload_n F 2 dX2_isWord_4 rfl rfl ?_
  refine hj_isub F dX2_isWord_5 ?_
  rw [pk_sub h12]
  refine hj_aload_n F 1 dX2_isWord_6 rfl rfl ?_
  refine hj_cXi F (n := 0) (k_S_length hok (WH_ads ad t) hs hi) gX2_isWord_J0_length_8abf5 rfl ⟨rfl, rfl⟩ (by decide +kernel) ⟨by decide, by decide⟩ (fun A U H h => ((hs A U H h).1.1 i hi).1) (As := []) rfl rfl (Nat.le_of_ble_eq_true rfl) ⟨Nat.zero_le _, Nat.zero_le _⟩ dX2_isWord_7 (hw_eq4 ?_)
  refine hj_icmp_eq F 15 dX2_isWord_10 (by decide) (fun q10 => ?_) (fun q10 => ?_)
  · rw [nI_eq (by omega) (by omega)] at q10
    refine hj_iconst F (v := 0) dX2_isWord_15 (by decide) ?_
    refine hj_istore_n F (lv' := [(3, _), (0, _), (1, _), (2, _)]) dX2_isWord_16 rfl (by decide) rfl ?_
    exact lp_T_isWord F hok hs hi (n2 := n2) (by omega) hn2 (fun d hn hv => ret d hn ⟨hv, rfl, rfl, rfl⟩) (tp_len i + 1) 0 (by omega) (Nat.zero_le _) (fun k hk => absurd hk (Nat.not_lt_zero _))
  · rw [nI_eq (by omega) (by omega)] at q10
    refine hj_iconst F (v := 0) dX2_isWord_13 (by decide) ?_
    exact ret dX2_isWord_14 rfl ⟨by rw [if_neg (fun z => q10 (by have := (tp_isb_iff.mp z).1; omega))], rfl, rfl, rfl⟩
set_option maxHeartbeats 4000000 in
set_option maxRecDepth 100000 in
theorem k_T_partNamed (hok : hw_XOK X) (hs : ∀ A U H, X A U H → sx τ A U H) (hs2 : ∀ A U H, X A U H → sx2 τ U) {n1 n2 : Nat} (h8 : g 8 = nI n2) (h12 : n1 ≤ n2) (hn2 : n2 ≤ 100) : hw_Ci l D (WH ad t) (hw_T t) X yX2_partNamed wsX2_partNamed (hw_rm 6) [.ref (ad 1), .int (nI n1)] g a c (fun r g' a' c' => r = tp_pr (a 1) n1 n2 ∧ g' = g ∧ a' = a ∧ c' = c) := by
  refine hw_Ci.mk (lv0 := [(0, _), (1, _)]) (by decide) rfl (Nat.le_of_ble_eq_true rfl) rfl (WH_ads ad t) hok (fun K F ret => ?_)
  have F : hw_F K l D (WH ad t) (hw_T t) X cX2_partNamed RX2 wsX2_partNamed (hw_rm 6) 3 := F
  refine hj_iconst F (v := 0) dX2_partNamed_0 (by decide) ?_
  refine hj_istore_n F (lv' := [(2, _), (0, _), (1, _)]) dX2_partNamed_1 rfl (by decide) rfl ?_
  refine hj_iload_n F 0 dX2_partNamed_2 rfl rfl ?_
  refine hj_iconst F (v := 4) dX2_partNamed_3 (by decide) ?_
  refine hj_icmp_ge F 27 dX2_partNamed_4 (by decide) (fun q4 => ?_) (fun q4 => ?_)
  · exact absurd q4 (by decide)
  · refine hj_aload_n F 1 dX2_partNamed_7 rfl rfl ?_
    refine hj_iload_n F 0 dX2_partNamed_8 rfl rfl ?_
    refine hj_cSr F (n := 1) (k_T_nameOf hok hs2 (i := 0) (by decide)) gX2_partNamed_X2_nameOf rfl ⟨rfl, rfl⟩ (by decide +kernel) ⟨by decide, by decide⟩ (As := [_]) rfl rfl (Nat.le_of_ble_eq_true rfl) ⟨Nat.zero_le _, Nat.zero_le _⟩ dX2_partNamed_9 ?_
    refine hj_iload_n F 2 dX2_partNamed_12 rfl rfl ?_
    refine hj_cVi F (n := 2) (k_T_isWord hok hs (i := 0) (by decide) h8 h12 hn2) gX2_partNamed_X2_isWord rfl ⟨rfl, rfl⟩ (by decide +kernel) ⟨by decide, by decide⟩ 1 2 rfl rfl (As := [_, _]) rfl rfl (Nat.le_of_ble_eq_true rfl) ⟨Nat.zero_le _, Nat.zero_le _⟩ dX2_partNamed_13 (hw_eq4 ?_)
    refine hj_if_eq F 21 dX2_partNamed_16 (by decide) (fun q16 => ?_) (fun q16 => ?_)
    · have z1 : ¬ tp_isb (a 1) 0 n1 n2 = true := fun z => by rw [if_pos z] at q16; exact absurd q16 (by decide)
      refine hj_iinc F 0 (v := _ + 1) (lv' := [(2, _), (0, _), (1, _)]) dX2_partNamed_21 rfl rfl (by decide) rfl ?_
      refine hj_goto F 2 dX2_partNamed_24 (by decide) ?_
      refine hj_iload_n F 0 dX2_partNamed_2 rfl rfl ?_
      refine hj_iconst F (v := 4) dX2_partNamed_3 (by decide) ?_
      refine hj_icmp_ge F 27 dX2_partNamed_4 (by decide) (fun q4_2 => ?_) (fun q4_2 => ?_)
      · exact absurd q4_2 (by decide)
      · refine hj_aload_n F 1 dX2_partNamed_7 rfl rfl ?_
        refine hj_iload_n F 0 dX2_partNamed_8 rfl rfl ?_
        refine hj_cSr F (n := 1) (k_T_nameOf hok hs2 (i := 1) (by decide)) gX2_partNamed_X2_nameOf rfl ⟨rfl, rfl⟩ (by decide +kernel) ⟨by decide, by decide⟩ (As := [_]) rfl rfl (Nat.le_of_ble_eq_true rfl) ⟨Nat.zero_le _, Nat.zero_le _⟩ dX2_partNamed_9 ?_
        refine hj_iload_n F 2 dX2_partNamed_12 rfl rfl ?_
        refine hj_cVi F (n := 2) (k_T_isWord hok hs (i := 1) (by decide) h8 h12 hn2) gX2_partNamed_X2_isWord rfl ⟨rfl, rfl⟩ (by decide +kernel) ⟨by decide, by decide⟩ 1 2 rfl rfl (As := [_, _]) rfl rfl (Nat.le_of_ble_eq_true rfl) ⟨Nat.zero_le _, Nat.zero_le _⟩ dX2_partNamed_13 (hw_eq4 ?_)
        refine hj_if_eq F 21 dX2_partNamed_16 (by decide) (fun q16_2 => ?_) (fun q16_2 => ?_)
        · have z2 : ¬ tp_isb (a 1) 1 n1 n2 = true := fun z => by rw [if_pos z] at q16_2; exact absurd q16_2 (by decide)
          refine hj_iinc F 0 (v := _ + 1) (lv' := [(2, _), (0, _), (1, _)]) dX2_partNamed_21 rfl rfl (by decide) rfl ?_
          refine hj_goto F 2 dX2_partNamed_24 (by decide) ?_
          refine hj_iload_n F 0 dX2_partNamed_2 rfl rfl ?_
          refine hj_iconst F (v := 4) dX2_partNamed_3 (by decide) ?_
          refine hj_icmp_ge F 27 dX2_partNamed_4 (by decide) (fun q4_3 => ?_) (fun q4_3 => ?_)
          · exact absurd q4_3 (by decide)
          · refine hj_aload_n F 1 dX2_partNamed_7 rfl rfl ?_
            refine hj_iload_n F 0 dX2_partNamed_8 rfl rfl ?_
            refine hj_cSr F (n := 1) (k_T_nameOf hok hs2 (i := 2) (by decide)) gX2_partNamed_X2_nameOf rfl ⟨rfl, rfl⟩ (by decide +kernel) ⟨by decide, by decide⟩ (As := [_]) rfl rfl (Nat.le_of_ble_eq_true rfl) ⟨Nat.zero_le _, Nat.zero_le _⟩ dX2_partNamed_9 ?_
            refine hj_iload_n F 2 dX2_partNamed_12 rfl rfl ?_
            refine hj_cVi F (n := 2) (k_T_isWord hok hs (i := 2) (by decide) h8 h12 hn2) gX2_partNamed_X2_isWord rfl ⟨rfl, rfl⟩ (by decide +kernel) ⟨by decide, by decide⟩ 1 2 rfl rfl (As := [_, _]) rfl rfl (Nat.le_of_ble_eq_true rfl) ⟨Nat.zero_le _, Nat.zero_le _⟩ dX2_partNamed_13 (hw_eq4 ?_)
            refine hj_if_eq F 21 dX2_partNamed_16 (by decide) (fun q16_3 => ?_) (fun q16_3 => ?_)
            · have z3 : ¬ tp_isb (a 1) 2 n1 n2 = true := fun z => by rw [if_pos z] at q16_3; exact absurd q16_3 (by decide)
              refine hj_iinc F 0 (v := _ + 1) (lv' := [(2, _), (0, _), (1, _)]) dX2_partNamed_21 rfl rfl (by decide) rfl ?_
              refine hj_goto F 2 dX2_partNamed_24 (by decide) ?_
              refine hj_iload_n F 0 dX2_partNamed_2 rfl rfl ?_
              refine hj_iconst F (v := 4) dX2_partNamed_3 (by decide) ?_
              refine hj_icmp_ge F 27 dX2_partNamed_4 (by decide) (fun q4_4 => ?_) (fun q4_4 => ?_)
              · exact absurd q4_4 (by decide)
              · refine hj_aload_n F 1 dX2_partNamed_7 rfl rfl ?_
                refine hj_iload_n F 0 dX2_partNamed_8 rfl rfl ?_
                refine hj_cSr F (n := 1) (k_T_nameOf hok hs2 (i := 3) (by decide)) gX2_partNamed_X2_nameOf rfl ⟨rfl, rfl⟩ (by decide +kernel) ⟨by decide, by decide⟩ (As := [_]) rfl rfl (Nat.le_of_ble_eq_true rfl) ⟨Nat.zero_le _, Nat.zero_le _⟩ dX2_partNamed_9 ?_
                refine hj_iload_n F 2 dX2_partNamed_12 rfl rfl ?_
                refine hj_cVi F (n := 2) (k_T_isWord hok hs (i := 3) (by decide) h8 h12 hn2) gX2_partNamed_X2_isWord rfl ⟨rfl, rfl⟩ (by decide +kernel) ⟨by decide, by decide⟩ 1 2 rfl rfl (As := [_, _]) rfl rfl (Nat.le_of_ble_eq_true rfl) ⟨Nat.zero_le _, Nat.zero_le _⟩ dX2_partNamed_13 (hw_eq4 ?_)
                refine hj_if_eq F 21 dX2_partNamed_16 (by decide) (fun q16_4 => ?_) (fun q16_4 => ?_)
                · have z4 : ¬ tp_isb (a 1) 3 n1 n2 = true := fun z => by rw [if_pos z] at q16_4; exact absurd q16_4 (by decide)
                  refine hj_iinc F 0 (v := _ + 1) (lv' := [(2, _), (0, _), (1, _)]) dX2_partNamed_21 rfl rfl (by decide) rfl ?_
                  refine hj_goto F 2 dX2_partNamed_24 (by decide) ?_
                  refine hj_iload_n F 0 dX2_partNamed_2 rfl rfl ?_
                  refine hj_iconst F (v := 4) dX2_partNamed_3 (by decide) ?_
                  refine hj_icmp_ge F 27 dX2_partNamed_4 (by decide) (fun q4_5 => ?_) (fun q4_5 => ?_)
                  · refine hj_iconst F (v := -1) dX2_partNamed_27 (by decide) ?_
                    exact ret dX2_partNamed_28 rfl ⟨by simp [tp_pr, tp_pn, z1, z2, z3, z4], rfl, rfl, rfl⟩
                  · exact absurd (by decide) q4_5
                · have z4 : tp_isb (a 1) 3 n1 n2 = true := Classical.byContradiction (fun z => q16_4 (if_neg z))
                  refine hj_iload_n F 0 dX2_partNamed_19 rfl rfl ?_
                  exact ret dX2_partNamed_20 rfl ⟨by simp [tp_pr, tp_pn, z1, z2, z3, z4] <;> rfl, rfl, rfl, rfl⟩
            · have z3 : tp_isb (a 1) 2 n1 n2 = true := Classical.byContradiction (fun z => q16_3 (if_neg z))
              refine hj_iload_n F 0 dX2_partNamed_19 rfl rfl ?_
              exact ret dX2_partNamed_20 rfl ⟨by simp [tp_pr, tp_pn, z1, z2, z3] <;> rfl, rfl, rfl, rfl⟩
        · have z2 : tp_isb (a 1) 1 n1 n2 = true := Classical.byContradiction (fun z => q16_2 (if_neg z))
          refine hj_iload_n F 0 dX2_partNamed_19 rfl rfl ?_
          exact ret dX2_partNamed_20 rfl ⟨by simp [tp_pr, tp_pn, z1, z2] <;> rfl, rfl, rfl, rfl⟩
    · have z1 : tp_isb (a 1) 0 n1 n2 = true := Classical.byContradiction (fun z => q16 (if_neg z))
      refine hj_iload_n F 0 dX2_partNamed_19 rfl rfl ?_
      exact ret dX2_partNamed_20 rfl ⟨by simp [tp_pr, tp_pn, z1] <;> rfl, rfl, rfl, rfl⟩
end STAPE2
