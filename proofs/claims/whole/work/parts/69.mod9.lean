section SMOD9
theorem hi_X4_costOf_M : ∀ w ∈ u_ws RX4 TX4 28, w ∈ wsX4_costOf := fun w h => by
  unfold wsX4_costOf
  simp only [List.mem_cons, List.mem_append]
  first | (simp only [h, or_true, true_or]; done) | (have h2 : w ∈ wsX40 := h; simp only [h2, or_true, true_or]; done)
theorem lk_X4_costOf_150 : Cond.fieldLink RX4 150 "HatWorksModel" "now" "I" ∈ wsX4_costOf := List.mem_of_getElem? (i := 9) rfl
theorem lk_X4_costOf_153 : Cond.fieldLink RX4 153 "HatWorksModel" "steamer" "I" ∈ wsX4_costOf := List.mem_of_getElem? (i := 1) rfl
theorem lk_X4_costOf_162 : Cond.fieldLink RX4 162 "HatWorksModel" "many" "I" ∈ wsX4_costOf := List.mem_of_getElem? (i := 5) rfl
theorem lk_X4_costOf_34 : Cond.fieldLink RX4 34 "HatWorksModel" "blockFree" "[I" ∈ wsX4_costOf := List.mem_of_getElem? (i := 4) rfl
theorem lk_X4_costOf_40 : Cond.fieldLink RX4 40 "HatWorksModel" "order" "[I" ∈ wsX4_costOf := List.mem_of_getElem? (i := 8) rfl
theorem lk_X4_costOf_49 : Cond.fieldLink RX4 49 "HatWorksModel" "of" "[I" ∈ wsX4_costOf := List.mem_of_getElem? (i := 6) rfl
theorem lk_X4_costOf_52 : Cond.fieldLink RX4 52 "HatWorksModel" "row" "[I" ∈ wsX4_costOf := List.mem_of_getElem? (i := 7) rfl
theorem lk_X4_costOf_58 : Cond.fieldLink RX4 58 "HatWorksModel" "free" "[I" ∈ wsX4_costOf := List.mem_of_getElem? (i := 3) rfl
theorem lk_X4_costOf_71 : Cond.fieldLink RX4 71 "HatWorksModel" "blocks" "I" ∈ wsX4_costOf := List.mem_of_getElem? (i := 2) rfl
theorem hi_X4_isUsed_M : ∀ w ∈ u_ws RX4 TX4 28, w ∈ wsX4_isUsed := fun w h => by
  unfold wsX4_isUsed
  simp only [List.mem_cons, List.mem_append]
  first | (simp only [h, or_true, true_or]; done) | (have h2 : w ∈ wsX40 := h; simp only [h2, or_true, true_or]; done)
theorem lk_X4_isUsed_52 : Cond.fieldLink RX4 52 "HatWorksModel" "row" "[I" ∈ wsX4_isUsed := List.mem_of_getElem? (i := 1) rfl
variable {K : hw_K} {l : Launch} {D : va_G} {ad : Nat → Nat} {t : Nat → ClassId} {X : hw_XT} {rm : Room} {g : hw_G} {a : hw_A} {c : Int64}
/-! the reference's search, purely -/
def pf (R : Nat → Nat) (d : Nat) : List Nat := (List.range d).map R
theorem pf_s (R : Nat → Nat) (d : Nat) : pf R (d + 1) = pf R d ++ [R d] := by
  unfold pf
  rw [List.range_succ, List.map_append]
  rfl
theorem pf_mem {R : Nat → Nat} {d v : Nat} : v ∈ pf R d ↔ ∃ i, i < d ∧ R i = v := by
  unfold pf
  rw [List.mem_map]
  exact ⟨fun ⟨i, h, e⟩ => ⟨i, List.mem_range.mp h, e⟩, fun ⟨i, h, e⟩ => ⟨i, List.mem_range.mpr h, e⟩⟩
theorem pf_c {R R' : Nat → Nat} {d : Nat} (h : ∀ i, i < d → R' i = R i) : pf R' d = pf R d := by
  unfold pf
  exact List.map_congr_left (fun i hi => h i (List.mem_range.mp hi))
theorem pf_len (R : Nat → Nat) (d : Nat) : (pf R d).length = d := by
  unfold pf
  rw [List.length_map, List.length_range]
theorem pf_get {R : Nat → Nat} {d i : Nat} (h : i < d) : (pf R d).getD i 0 = R i := by
  unfold pf
  rw [List.getD_eq_getElem?_getD, List.getElem?_map, List.getElem?_range h]
  rfl
def lf (R : Nat → Nat) (i : Nat) : Prop := R i ∉ pf R i ∧ ∀ u, u < R i → u ∈ pf R i
theorem lf_c {R R' : Nat → Nat} {d : Nat} (h : ∀ i, i ≤ d → R' i = R i) (hl : lf R d) : lf R' d := by
  unfold lf
  rw [pf_c (fun i hi => h i (Nat.le_of_lt hi)), h d (Nat.le_refl _)]
  exact hl
/-- more values than places -/
theorem pg : ∀ (j N : Nat) (f : Nat → Nat), (∀ u, u < N → ∃ i, i < j ∧ f i = u) → N ≤ j
  | 0, N, f, h => by
    rcases Nat.eq_zero_or_pos N with e | e
    · omega
    · obtain ⟨i, hi, _⟩ := h 0 e
      omega
  | j + 1, 0, f, h => Nat.zero_le _
  | j + 1, M + 1, f, h => by
    have := pg j M (fun i => if f j < f i then f i - 1 else f i) (fun u hu => by
      by_cases c : u < f j
      · obtain ⟨i, hi, e⟩ := h u (by omega)
        have hij : i ≠ j := fun z => by subst z; omega
        exact ⟨i, by omega, by show (if f j < f i then _ else _) = _; rw [if_neg (by omega)]; exact e⟩
      · obtain ⟨i, hi, e⟩ := h (u + 1) (by omega)
        have hij : i ≠ j := fun z => by subst z; omega
        exact ⟨i, by omega, by show (if f j < f i then _ else _) = _; rw [if_pos (by omega)]; omega⟩)
    omega
theorem pg_free {R : Nat → Nat} {j N : Nat} (h : j < N) : ¬ ∀ u, u < N → u ∈ pf R j := fun z => by
  have := pg j N R (fun u hu => pf_mem.mp (z u hu))
  omega
def pS (nw : Nat) (ob st on wt : Nat → Nat) (S0 : Nat × (Nat → Nat) × Nat) (R : Nat → Nat) : Nat → Nat × (Nat → Nat) × Nat
  | 0 => S0
  | i + 1 => pl_step nw ob st on wt (R i) (pS nw ob st on wt S0 R i)
theorem pS_c {nw : Nat} {ob st on wt : Nat → Nat} {S0 : Nat × (Nat → Nat) × Nat} {R R' : Nat → Nat} : ∀ d, (∀ i, i < d → R' i = R i) → pS nw ob st on wt S0 R' d = pS nw ob st on wt S0 R d
  | 0, _ => rfl
  | d + 1, h => by
    show pl_step nw ob st on wt (R' d) _ = pl_step nw ob st on wt (R d) _
    rw [h d (Nat.lt_succ_self _), pS_c d (fun i hi => h i (Nat.lt_succ_of_lt hi))]
/-- what the search rests on -/
def MP (N nw sf B : Nat) (bf ob st on wt : Nat → Nat) (g : hw_G) (a : hw_A) : Prop := g 12 = nI N ∧ N ≤ 7 ∧ g 8 = nI nw ∧ nw ≤ 2000000 ∧ g 2 = nI B ∧ B ≤ 10 ∧ g 10 = nI sf ∧ sf ≤ 2000000 ∧ (∀ b, b < B → a 5 b = nI (bf b)) ∧ (∀ b, bf b ≤ 2000000) ∧ (∀ v, v < N → ob v < B ∧ st v ≤ 50 ∧ on v ≤ 140 ∧ wt v ≤ 9 ∧ ∃ o, o < 60 ∧ a 10 v = nI o ∧ a 7 (12 * o) = nI (ob v) ∧ a 7 (12 * o + 4) = nI (st v) ∧ a 7 (12 * o + 5) = nI (on v) ∧ a 7 (12 * o + 7) = nI (wt v))
theorem MP_c {N nw sf B : Nat} {bf ob st on wt : Nat → Nat} {g : hw_G} {a a' : hw_A} (h5 : a' 5 = a 5) (h7 : a' 7 = a 7) (h10 : a' 10 = a 10) (h : MP N nw sf B bf ob st on wt g a) : MP N nw sf B bf ob st on wt g a' := by
  unfold MP
  rw [h5, h7, h10]
  exact h
theorem pS_ok {N nw sf B : Nat} {bf ob st on wt : Nat → Nat} {g : hw_G} {a : hw_A} (h : MP N nw sf B bf ob st on wt g a) {R : Nat → Nat} (hR : ∀ i, i < N → R i < N) : ∀ i, i ≤ N → pl_ok i (pS nw ob st on wt (sf, bf, 0) R i)
  | 0, _ => ⟨h.2.2.2.2.2.2.2.1, h.2.2.2.2.2.2.2.2.2.1, Nat.le_refl _⟩
  | i + 1, hi => by
    have hv := h.2.2.2.2.2.2.2.2.2.2 (R i) (hR i (by omega))
    exact (pl_ok_s h.2.2.2.1 (by have := h.2.1; omega) (pS_ok h hR i (by omega)) hv.2.1 hv.2.2.1 hv.2.2.2.1).1
variable {N nw sf B : Nat} {bf ob st on wt : Nat → Nat}
set_option maxHeartbeats 4000000 in
set_option maxRecDepth 100000 in
theorem lp_M_isUsed (F : hw_F K l D (WM ad t) (hw_T t) X cX4_isUsed RX4 wsX4_isUsed rm 4) {n v N : Nat} {R : Nat → Nat} (hN : N ≤ 7) (hn : n ≤ N) (hv : v ≤ 7) (hR : ∀ i, i < N → a 11 i = nI (R i) ∧ R i < N) (ret : ∀ {lv : List (Nat × Value)} {pc : Nat} {z : Int32}, decode cX4_isUsed pc = .ok (.ireturn, 1) → z = (if v ∈ pf R n then 1 else 0) → hw_J K (WM ad t) 0 0 g a c lv pc [.int z]) : ∀ m i : Nat, n - i < m → i ≤ n → (∀ j, j < i → ¬ R j = v) → hw_J K (WM ad t) 0 0 g a c [(3, .int (nI i)), (0, .ref (ad 0)), (1, .int (nI n)), (2, .int (nI v))] 2 [] := by
  intro m
  induction m with
  | zero => intro i hm; exact absurd hm (Nat.not_lt_zero _)
  | succ m ih =>
    intro i hm hi hb
    refine hj_iload_n F 0 dX4_isUsed_2 rfl rfl ?_
    refine hj_iload_n F 2 dX4_isUsed_3 rfl rfl ?_
    refine hj_icmp_ge F 25 dX4_isUsed_4 (by decide) (fun q4 => ?_) (fun q4 => ?_)
    · rw [nI_leI (by omega) (by omega)] at q4
      refine hj_iconst F (v := 0) dX4_isUsed_25 (by decide) ?_
      exact ret dX4_isUsed_26 (by rw [if_neg (fun z => by obtain ⟨j, hj, e⟩ := pf_mem.mp z; exact hb j (by omega) e)])
    · rw [nI_leI (by omega) (by omega)] at q4
      refine hj_aload_n F 1 dX4_isUsed_7 rfl rfl ?_
      refine hg_M_row F hi_X4_isUsed_M lk_X4_isUsed_52 dX4_isUsed_8 ?_
      refine hj_iload_n F 0 dX4_isUsed_11 rfl rfl ?_
      refine hl_M_row F (vp_in_nI (show i < 7 by omega) (by decide)) dX4_isUsed_12 ?_
      refine hj_iload_n F 3 dX4_isUsed_13 rfl rfl ?_
      refine hj_icmp_ne F 19 dX4_isUsed_14 (by decide) (fun q14 => ?_) (fun q14 => ?_)
      · rw [nI_clamp (by omega), (hR i (by omega)).1, nI_eq (by have := (hR i (by omega)).2; omega) (by omega)] at q14
        refine hj_iinc F 0 (v := _ + 1) (lv' := [(3, _), (0, _), (1, _), (2, _)]) dX4_isUsed_19 rfl rfl (by decide) rfl ?_
        refine hj_goto F 2 dX4_isUsed_22 (by decide) ?_
        refine hj_lv [0, 1, 2, 3] rfl ?_
        rw [nI_1]
        refine ih (i + 1) (by omega) (by omega) (fun j hj e => ?_)
        rcases Nat.lt_or_ge j i with h | h
        · exact hb j h e
        · rw [show j = i by omega] at e; exact q14 e
      · rw [nI_clamp (by omega), (hR i (by omega)).1, nI_eq (by have := (hR i (by omega)).2; omega) (by omega)] at q14
        refine hj_iconst F (v := 1) dX4_isUsed_17 (by decide) ?_
        exact ret dX4_isUsed_18 (by rw [if_pos (pf_mem.mpr ⟨i, by omega, q14⟩)])
set_option maxHeartbeats 4000000 in
set_option maxRecDepth 100000 in
theorem k_M_isUsed (hok : hw_XOK X) {n v N : Nat} {R : Nat → Nat} (hN : N ≤ 7) (hn : n ≤ N) (hv : v ≤ 7) (hR : ∀ i, i < N → a 11 i = nI (R i) ∧ R i < N) : hw_Ci l D (WM ad t) (hw_T t) X yX4_isUsed wsX4_isUsed (hw_rm 1) [.ref (ad 0), .int (nI n), .int (nI v)] g a c (fun r g' a' c' => r = (if v ∈ pf R n then 1 else 0) ∧ g' = g ∧ a' = a ∧ c' = c) := by
  refine hw_Ci.mk (lv0 := [(0, _), (1, _), (2, _)]) (by decide) rfl (Nat.le_of_ble_eq_true rfl) rfl (WM_ads ad t) hok (fun K F ret => ?_)
  have F : hw_F K l D (WM ad t) (hw_T t) X cX4_isUsed RX4 wsX4_isUsed (hw_rm 1) 4 := F
  refine hj_iconst F (v := 0) dX4_isUsed_0 (by decide) ?_
  refine hj_istore_n F (lv' := [(3, _), (0, _), (1, _), (2, _)]) dX4_isUsed_1 rfl (by decide) rfl ?_
  exact lp_M_isUsed F hN hn hv hR (fun {lv pc z} d hz => ret d (by rw [hz]; split <;> rfl) ⟨hz, rfl, rfl, rfl⟩) (n + 1) 0 (by omega) (Nat.zero_le _) (fun j hj => absurd hj (Nat.not_lt_zero _))
set_option maxHeartbeats 4000000 in
set_option maxRecDepth 100000 in
theorem lc_M_costOf (F : hw_F K l D (WM ad t) (hw_T t) X cX4_costOf RX4 wsX4_costOf rm 8) (hB : g 2 = nI B) (hB1 : B ≤ 10) (hbf : ∀ b, b < B → a 5 b = nI (bf b)) (hx : ∀ z : Nat → Int32, (∀ b, b < B → z b = nI (bf b)) → hw_J K (WM ad t) 0 0 g (va_up a 13 z) c [(1, .int (nI sf)), (0, .ref (ad 0))] 33 []) : ∀ (m i : Nat) (z : Nat → Int32), B - i < m → i ≤ B → (∀ b, b < i → z b = nI (bf b)) → hw_J K (WM ad t) 0 0 g (va_up a 13 z) c [(2, .int (nI i)), (1, .int (nI sf)), (0, .ref (ad 0))] 7 [] := by
  intro m
  induction m with
  | zero => intro i z hm; exact absurd hm (Nat.not_lt_zero _)
  | succ m ih =>
    intro i z hm hi hz
    refine hj_iload_n F 0 dX4_costOf_7 rfl rfl ?_
    refine hj_aload_n F 2 dX4_costOf_8 rfl rfl ?_
    refine hg_M_blocks F hi_X4_costOf_M lk_X4_costOf_71 dX4_costOf_9 ?_
    rw [hB]
    refine hj_icmp_ge F 33 dX4_costOf_12 (by decide) (fun q12 => ?_) (fun q12 => ?_)
    · rw [nI_leI (by omega) (by omega)] at q12
      obtain rfl : i = B := by omega
      exact hj_lv [1, 2] rfl (hx z hz)
    · rw [nI_leI (by omega) (by omega)] at q12
      refine hj_aload_n F 2 dX4_costOf_15 rfl rfl ?_
      refine hg_M_free F hi_X4_costOf_M lk_X4_costOf_58 dX4_costOf_16 ?_
      refine hj_iload_n F 0 dX4_costOf_19 rfl rfl ?_
      refine hj_aload_n F 2 dX4_costOf_20 rfl rfl ?_
      refine hg_M_blockFree F hi_X4_costOf_M lk_X4_costOf_34 dX4_costOf_21 ?_
      refine hj_iload_n F 0 dX4_costOf_24 rfl rfl ?_
      refine hl_M_blockFree F (vp_in_nI (show i < 10 by omega) (by decide)) dX4_costOf_25 ?_
      rw [nI_clamp (show i < 2 ^ 31 by omega)]
      refine hs_M_free F (vp_in_nI (show i < 10 by omega) (by decide)) dX4_costOf_26 ?_
      rw [nI_clamp (by omega), bx_uu, vau_s, va_up_ne _ _ (show (5 : Nat) ≠ 13 by decide), hbf i (by omega)]
      refine hj_iinc F 0 (v := _ + 1) (lv' := [(2, _), (1, _), (0, _)]) dX4_costOf_27 rfl rfl (by decide) rfl ?_
      refine hj_goto F 7 dX4_costOf_30 (by decide) ?_
      refine hj_lv [0, 1, 2] rfl ?_
      rw [nI_1]
      refine ih (i + 1) _ (by omega) (by omega) (fun b hb => ?_)
      by_cases e : b = i
      · rw [e, pk_us]
      · rw [pk_un e]; exact hz b (by omega)
set_option maxHeartbeats 4000000 in
set_option maxRecDepth 100000 in
theorem lp_M_costOf (F : hw_F K l D (WM ad t) (hw_T t) X cX4_costOf RX4 wsX4_costOf rm 8) {R : Nat → Nat} (hMP : MP N nw sf B bf ob st on wt g a) (hR : ∀ i, i < N → a 11 i = nI (R i) ∧ R i < N) (hx : ∀ z : Nat → Int32, hw_J K (WM ad t) 0 0 g (va_up a 13 z) c [(4, .int (nI N)), (2, .long (lN (pS nw ob st on wt (sf, bf, 0) R N).2.2)), (1, .int (nI (pS nw ob st on wt (sf, bf, 0) R N).1)), (0, .ref (ad 0))] 192 []) : ∀ (m i : Nat) (z : Nat → Int32), N - i < m → i ≤ N → (∀ b, b < B → z b = nI ((pS nw ob st on wt (sf, bf, 0) R i).2.1 b)) → hw_J K (WM ad t) 0 0 g (va_up a 13 z) c [(4, .int (nI i)), (2, .long (lN (pS nw ob st on wt (sf, bf, 0) R i).2.2)), (1, .int (nI (pS nw ob st on wt (sf, bf, 0) R i).1)), (0, .ref (ad 0))] 38 [] := by
  obtain ⟨hN, hN7, hnw, hnw1, hB, hB1, _⟩ := id hMP
  intro m
  induction m with
  | zero => intro i z hm; exact absurd hm (Nat.not_lt_zero _)
  | succ m ih =>
    intro i z hm hi hz
    refine hj_iload F 0 dX4_costOf_38 rfl ?_
    refine hj_aload_n F 3 dX4_costOf_40 rfl rfl ?_
    refine hg_M_many F hi_X4_costOf_M lk_X4_costOf_162 dX4_costOf_41 ?_
    rw [hN]
    refine hj_icmp_ge F 192 dX4_costOf_44 (by decide) (fun q44 => ?_) (fun q44 => ?_)
    · rw [nI_leI (by omega) (by omega)] at q44
      obtain rfl : i = N := by omega
      exact hx z
    · rw [nI_leI (by omega) (by omega)] at q44
      obtain ⟨S, hS⟩ : ∃ S, pS nw ob st on wt (sf, bf, 0) R i = S := ⟨_, rfl⟩
      rw [hS] at hz ⊢
      have hok9 : pl_ok i S := hS ▸ pS_ok hMP (fun j hj => (hR j hj).2) i hi
      obtain ⟨v, hv⟩ : ∃ v, R i = v := ⟨_, rfl⟩
      have hvN : v < N := hv ▸ (hR i (by omega)).2
      obtain ⟨hob, hst, hon, hwt, o, ho, o10, o0, o4, o5, o7⟩ := hMP.2.2.2.2.2.2.2.2.2.2 v hvN
      obtain ⟨s1, hs1⟩ : ∃ s1, pl_st nw S.1 (S.2.1 (ob v)) (st v) = s1 := ⟨_, rfl⟩
      have hstep : pS nw ob st on wt (sf, bf, 0) R (i + 1) = (s1 + st v, va_up S.2.1 (ob v) (s1 + st v + on v), S.2.2 + wt v * (s1 + st v + on v)) := by
        show pl_step nw ob st on wt (R i) (pS nw ob st on wt (sf, bf, 0) R i) = _
        rw [hS, hv]
        unfold pl_step pl_done
        rw [hs1]
      obtain ⟨b1, b2, b3⟩ := hok9
      have b4 := b2 (ob v)
      have b5 : s1 ≤ 2000000 + 200 * i := hs1 ▸ pl_st_le (by omega) b1 b4
      have tail : hw_J K (WM ad t) 0 0 g (va_up a 13 z) c [(7, .int (nI s1)), (6, .int (nI (ob v))), (5, .int (nI (12 * o))), (4, .int (nI i)), (2, .long (lN S.2.2)), (1, .int (nI S.1)), (0, .ref (ad 0))] 132 [] := by
        refine hj_iload F 0 dX4_costOf_132 rfl ?_
        refine hj_aload_n F 6 dX4_costOf_134 rfl rfl ?_
        refine hg_M_order F hi_X4_costOf_M lk_X4_costOf_40 dX4_costOf_135 ?_
        refine hj_iload F 2 dX4_costOf_138 rfl ?_
        refine hj_iconst F (v := 4) dX4_costOf_140 (by decide) ?_
        refine hj_iadd F dX4_costOf_141 ?_
        rw [show nI (12 * o) + 4 = nI (12 * o + 4) from nI_add _ 4]
        refine hl_M_order F (vp_in_nI (show 12 * o + 4 < 720 by omega) (by decide)) dX4_costOf_142 ?_
        rw [nI_clamp (by omega), va_up_ne _ _ (show (7 : Nat) ≠ 13 by decide), o4]
        refine hj_iadd F dX4_costOf_143 ?_
        rw [nI_add]
        refine hj_istore_n F (lv' := [(1, _), (7, _), (6, _), (5, _), (4, _), (2, _), (0, _)]) dX4_costOf_144 rfl (by decide) rfl ?_
        refine hj_aload_n F 6 dX4_costOf_145 rfl rfl ?_
        refine hg_M_free F hi_X4_costOf_M lk_X4_costOf_58 dX4_costOf_146 ?_
        refine hj_iload F 2 dX4_costOf_149 rfl ?_
        refine hj_iload_n F 0 dX4_costOf_151 rfl rfl ?_
        refine hj_aload_n F 6 dX4_costOf_152 rfl rfl ?_
        refine hg_M_order F hi_X4_costOf_M lk_X4_costOf_40 dX4_costOf_153 ?_
        refine hj_iload F 3 dX4_costOf_156 rfl ?_
        refine hj_iconst F (v := 5) dX4_costOf_158 (by decide) ?_
        refine hj_iadd F dX4_costOf_159 ?_
        rw [show nI (12 * o) + 5 = nI (12 * o + 5) from nI_add _ 5]
        refine hl_M_order F (vp_in_nI (show 12 * o + 5 < 720 by omega) (by decide)) dX4_costOf_160 ?_
        rw [nI_clamp (by omega), va_up_ne _ _ (show (7 : Nat) ≠ 13 by decide), o5]
        refine hj_iadd F dX4_costOf_161 ?_
        rw [nI_add]
        refine hs_M_free F (vp_in_nI (show ob v < 10 by omega) (by decide)) dX4_costOf_162 ?_
        rw [nI_clamp (show ob v < 2 ^ 31 by omega), bx_uu, vau_s]
        refine hj_lload_n F 5 dX4_costOf_163 rfl rfl ?_
        refine hj_aload_n F 6 dX4_costOf_164 rfl rfl ?_
        refine hg_M_order F hi_X4_costOf_M lk_X4_costOf_40 dX4_costOf_165 ?_
        refine hj_iload F 3 dX4_costOf_168 rfl ?_
        refine hj_bipush F (v := 7) dX4_costOf_170 (by decide) ?_
        refine hj_iadd F dX4_costOf_172 ?_
        rw [show nI (12 * o) + 7 = nI (12 * o + 7) from nI_add _ 7]
        refine hl_M_order F (vp_in_nI (show 12 * o + 7 < 720 by omega) (by decide)) dX4_costOf_173 ?_
        rw [nI_clamp (by omega), va_up_ne _ _ (show (7 : Nat) ≠ 13 by decide), o7]
        refine hj_i2l F dX4_costOf_174 ?_
        refine hj_aload_n F 6 dX4_costOf_175 rfl rfl ?_
        refine hg_M_free F hi_X4_costOf_M lk_X4_costOf_58 dX4_costOf_176 ?_
        refine hj_iload F 2 dX4_costOf_179 rfl ?_
        refine hl_M_free F (vp_in_nI (show ob v < 10 by omega) (by decide)) dX4_costOf_181 ?_
        rw [nI_clamp (by omega), vau_s, pk_us]
        refine hj_i2l F dX4_costOf_182 ?_
        rw [nI_l (by omega), nI_l (by omega)]
        refine hj_lmul F dX4_costOf_183 ?_
        rw [lN_mul]
        refine hj_ladd F dX4_costOf_184 ?_
        rw [lN_add]
        refine hj_lstore_n F (lv' := [(2, _), (1, _), (7, _), (6, _), (5, _), (4, _), (0, _)]) dX4_costOf_185 rfl (by decide) rfl ?_
        refine hj_iinc F 5 (v := _ + 1) (lv' := [(4, _), (2, _), (1, _), (7, _), (6, _), (5, _), (0, _)]) dX4_costOf_186 rfl rfl (by decide) rfl ?_
        refine hj_goto F 38 dX4_costOf_189 (by decide) ?_
        refine hj_lv [0, 1, 2, 6] rfl ?_
        rw [nI_1]
        have e9 := ih (i + 1) (upd z (ob v) (nI (s1 + st v + on v))) (by omega) (by omega) (fun b hb => by
          rw [hstep]
          show _ = nI (va_up S.2.1 (ob v) (s1 + st v + on v) b)
          by_cases e : b = ob v
          · rw [e, pk_us, vau_s]
          · rw [pk_un e, va_up_ne _ _ e, hz b hb])
        rw [hstep] at e9
        exact e9
      have hst9 : ∀ w : Nat, w = max nw S.1 → (nI (S.2.1 (ob v)) - nI (st v) ≤ nI w → w = s1) ∧ (¬ nI (S.2.1 (ob v)) - nI (st v) ≤ nI w → nI (S.2.1 (ob v)) - nI (st v) = nI s1) := by
        intro w hw
        unfold pl_st at hs1
        by_cases hle : st v ≤ S.2.1 (ob v)
        · rw [pk_sub hle, nI_leI (by omega) (by omega)]
          exact ⟨fun z => by omega, fun z => by congr 1; omega⟩
        · have hneg := pk_sneg (a := S.2.1 (ob v)) (b := st v) (by omega) (by omega)
          refine ⟨fun _ => by omega, fun z => absurd (Int32.le_of_lt (Int32.lt_of_lt_of_le hneg ?_)) z⟩
          exact Int32.le_iff_toInt_le.mpr (by rw [nI_toInt (by omega)]; exact Int.natCast_nonneg _)
      refine hj_bipush F (v := 12) dX4_costOf_47 (by decide) ?_
      refine hj_aload_n F 3 dX4_costOf_49 rfl rfl ?_
      refine hg_M_of F hi_X4_costOf_M lk_X4_costOf_49 dX4_costOf_50 ?_
      refine hj_aload_n F 3 dX4_costOf_53 rfl rfl ?_
      refine hg_M_row F hi_X4_costOf_M lk_X4_costOf_52 dX4_costOf_54 ?_
      refine hj_iload F 0 dX4_costOf_57 rfl ?_
      refine hl_M_row F (vp_in_nI (show i < 7 by omega) (by decide)) dX4_costOf_59 ?_
      rw [nI_clamp (by omega), va_up_ne _ _ (show (11 : Nat) ≠ 13 by decide), (hR i (by omega)).1, hv]
      refine hl_M_of F (vp_in_nI (show v < 7 by omega) (by decide)) dX4_costOf_60 ?_
      rw [nI_clamp (by omega), va_up_ne _ _ (show (10 : Nat) ≠ 13 by decide), o10]
      refine hj_imul F dX4_costOf_61 ?_
      rw [show (12 : Int32) * nI o = nI (12 * o) from pk_mul 12 o]
      refine hj_istore F (lv' := [(5, _), (4, _), (2, _), (1, _), (0, _)]) dX4_costOf_62 (by decide) rfl ?_
      refine hj_aload_n F 4 dX4_costOf_64 rfl rfl ?_
      refine hg_M_order F hi_X4_costOf_M lk_X4_costOf_40 dX4_costOf_65 ?_
      refine hj_iload F 0 dX4_costOf_68 rfl ?_
      refine hl_M_order F (vp_in_nI (show 12 * o < 720 by omega) (by decide)) dX4_costOf_70 ?_
      rw [nI_clamp (by omega), va_up_ne _ _ (show (7 : Nat) ≠ 13 by decide), o0]
      refine hj_istore F (lv' := [(6, _), (5, _), (4, _), (2, _), (1, _), (0, _)]) dX4_costOf_71 (by decide) rfl ?_
      refine hj_aload_n F 5 dX4_costOf_73 rfl rfl ?_
      refine hg_M_now F hi_X4_costOf_M lk_X4_costOf_150 dX4_costOf_74 ?_
      rw [hnw]
      refine hj_iload_n F 4 dX4_costOf_77 rfl rfl ?_
      refine hj_icmp_le F 88 dX4_costOf_78 (by decide) (fun q78 => ?_) (fun q78 => ?_)
      · rw [nI_leI (by omega) (by omega)] at q78
        refine hj_iload_n F 4 dX4_costOf_88 rfl rfl ?_
        refine hj_istore F (lv' := [(7, _), (6, _), (5, _), (4, _), (2, _), (1, _), (0, _)]) dX4_costOf_89 (by decide) rfl ?_
        refine hj_aload_n F 6 dX4_costOf_91 rfl rfl ?_
        refine hg_M_free F hi_X4_costOf_M lk_X4_costOf_58 dX4_costOf_92 ?_
        refine hj_iload F 1 dX4_costOf_95 rfl ?_
        refine hl_M_free F (vp_in_nI (show ob v < 10 by omega) (by decide)) dX4_costOf_97 ?_
        rw [nI_clamp (by omega), vau_s, hz _ hob]
        refine hj_aload_n F 6 dX4_costOf_98 rfl rfl ?_
        refine hg_M_order F hi_X4_costOf_M lk_X4_costOf_40 dX4_costOf_99 ?_
        refine hj_iload F 2 dX4_costOf_102 rfl ?_
        refine hj_iconst F (v := 4) dX4_costOf_104 (by decide) ?_
        refine hj_iadd F dX4_costOf_105 ?_
        rw [show nI (12 * o) + 4 = nI (12 * o + 4) from nI_add _ 4]
        refine hl_M_order F (vp_in_nI (show 12 * o + 4 < 720 by omega) (by decide)) dX4_costOf_106 ?_
        rw [nI_clamp (by omega), va_up_ne _ _ (show (7 : Nat) ≠ 13 by decide), o4]
        refine hj_isub F dX4_costOf_107 ?_
        refine hj_iload F 0 dX4_costOf_108 rfl ?_
        refine hj_icmp_le F 132 dX4_costOf_110 (by decide) (fun q110 => ?_) (fun q110 => ?_)
        · refine hj_lv [0, 1, 2, 3, 4, 5, 6] rfl ?_
          have tl := tail
          rw [← (hst9 _ (by omega)).1 q110] at tl
          exact tl
        · refine hj_aload_n F 6 dX4_costOf_113 rfl rfl ?_
          refine hg_M_free F hi_X4_costOf_M lk_X4_costOf_58 dX4_costOf_114 ?_
          refine hj_iload F 1 dX4_costOf_117 rfl ?_
          refine hl_M_free F (vp_in_nI (show ob v < 10 by omega) (by decide)) dX4_costOf_119 ?_
          rw [nI_clamp (by omega), vau_s, hz _ hob]
          refine hj_aload_n F 6 dX4_costOf_120 rfl rfl ?_
          refine hg_M_order F hi_X4_costOf_M lk_X4_costOf_40 dX4_costOf_121 ?_
          refine hj_iload F 2 dX4_costOf_124 rfl ?_
          refine hj_iconst F (v := 4) dX4_costOf_126 (by decide) ?_
          refine hj_iadd F dX4_costOf_127 ?_
          rw [show nI (12 * o) + 4 = nI (12 * o + 4) from nI_add _ 4]
          refine hl_M_order F (vp_in_nI (show 12 * o + 4 < 720 by omega) (by decide)) dX4_costOf_128 ?_
          rw [nI_clamp (by omega), va_up_ne _ _ (show (7 : Nat) ≠ 13 by decide), o4]
          refine hj_isub F dX4_costOf_129 ?_
          refine hj_istore F (lv' := [(7, _), (6, _), (5, _), (4, _), (2, _), (1, _), (0, _)]) dX4_costOf_130 (by decide) rfl ?_
          refine hj_lv [0, 1, 2, 3, 4, 5, 6] rfl ?_
          rw [(hst9 _ (by omega)).2 q110]
          exact tail
      · rw [nI_leI (by omega) (by omega)] at q78
        refine hj_aload_n F 5 dX4_costOf_81 rfl rfl ?_
        refine hg_M_now F hi_X4_costOf_M lk_X4_costOf_150 dX4_costOf_82 ?_
        rw [hnw]
        refine hj_goto F 89 dX4_costOf_85 (by decide) ?_
        refine hj_istore F (lv' := [(7, _), (6, _), (5, _), (4, _), (2, _), (1, _), (0, _)]) dX4_costOf_89 (by decide) rfl ?_
        refine hj_aload_n F 6 dX4_costOf_91 rfl rfl ?_
        refine hg_M_free F hi_X4_costOf_M lk_X4_costOf_58 dX4_costOf_92 ?_
        refine hj_iload F 1 dX4_costOf_95 rfl ?_
        refine hl_M_free F (vp_in_nI (show ob v < 10 by omega) (by decide)) dX4_costOf_97 ?_
        rw [nI_clamp (by omega), vau_s, hz _ hob]
        refine hj_aload_n F 6 dX4_costOf_98 rfl rfl ?_
        refine hg_M_order F hi_X4_costOf_M lk_X4_costOf_40 dX4_costOf_99 ?_
        refine hj_iload F 2 dX4_costOf_102 rfl ?_
        refine hj_iconst F (v := 4) dX4_costOf_104 (by decide) ?_
        refine hj_iadd F dX4_costOf_105 ?_
        rw [show nI (12 * o) + 4 = nI (12 * o + 4) from nI_add _ 4]
        refine hl_M_order F (vp_in_nI (show 12 * o + 4 < 720 by omega) (by decide)) dX4_costOf_106 ?_
        rw [nI_clamp (by omega), va_up_ne _ _ (show (7 : Nat) ≠ 13 by decide), o4]
        refine hj_isub F dX4_costOf_107 ?_
        refine hj_iload F 0 dX4_costOf_108 rfl ?_
        refine hj_icmp_le F 132 dX4_costOf_110 (by decide) (fun q110_2 => ?_) (fun q110_2 => ?_)
        · refine hj_lv [0, 1, 2, 3, 4, 5, 6] rfl ?_
          have tl := tail
          rw [← (hst9 _ (by omega)).1 q110_2] at tl
          exact tl
        · refine hj_aload_n F 6 dX4_costOf_113 rfl rfl ?_
          refine hg_M_free F hi_X4_costOf_M lk_X4_costOf_58 dX4_costOf_114 ?_
          refine hj_iload F 1 dX4_costOf_117 rfl ?_
          refine hl_M_free F (vp_in_nI (show ob v < 10 by omega) (by decide)) dX4_costOf_119 ?_
          rw [nI_clamp (by omega), vau_s, hz _ hob]
          refine hj_aload_n F 6 dX4_costOf_120 rfl rfl ?_
          refine hg_M_order F hi_X4_costOf_M lk_X4_costOf_40 dX4_costOf_121 ?_
          refine hj_iload F 2 dX4_costOf_124 rfl ?_
          refine hj_iconst F (v := 4) dX4_costOf_126 (by decide) ?_
          refine hj_iadd F dX4_costOf_127 ?_
          rw [show nI (12 * o) + 4 = nI (12 * o + 4) from nI_add _ 4]
          refine hl_M_order F (vp_in_nI (show 12 * o + 4 < 720 by omega) (by decide)) dX4_costOf_128 ?_
          rw [nI_clamp (by omega), va_up_ne _ _ (show (7 : Nat) ≠ 13 by decide), o4]
          refine hj_isub F dX4_costOf_129 ?_
          refine hj_istore F (lv' := [(7, _), (6, _), (5, _), (4, _), (2, _), (1, _), (0, _)]) dX4_costOf_130 (by decide) rfl ?_
          refine hj_lv [0, 1, 2, 3, 4, 5, 6] rfl ?_
          rw [(hst9 _ (by omega)).2 q110_2]
          exact tail
set_option maxHeartbeats 4000000 in
set_option maxRecDepth 100000 in
theorem k_M_costOf (hok : hw_XOK X) {R : Nat → Nat} (hMP : MP N nw sf B bf ob st on wt g a) (hR : ∀ i, i < N → a 11 i = nI (R i) ∧ R i < N) : hw_Cl l D (WM ad t) (hw_T t) X yX4_costOf wsX4_costOf (hw_rm 1) [.ref (ad 0)] g a c (fun r g' a' c' => r = lN (pS nw ob st on wt (sf, bf, 0) R N).2.2 ∧ g' = g ∧ c' = c ∧ ∃ z, a' = va_up a 13 z) := by
  refine hw_Cl.mk (lv0 := [(0, _)]) (by decide) rfl (Nat.le_of_ble_eq_true rfl) rfl (WM_ads ad t) hok (fun K F ret => ?_)
  have F : hw_F K l D (WM ad t) (hw_T t) X cX4_costOf RX4 wsX4_costOf (hw_rm 1) 8 := F
  obtain ⟨hN, hN7, hnw, hnw1, hB, hB1, hsf, hsf1, hbf, _⟩ := id hMP
  refine hj_aload_n F 0 dX4_costOf_0 rfl rfl ?_
  refine hg_M_steamer F hi_X4_costOf_M lk_X4_costOf_153 dX4_costOf_1 ?_
  rw [hsf]
  refine hj_istore_n F (lv' := [(1, _), (0, _)]) dX4_costOf_4 rfl (by decide) rfl ?_
  refine hj_iconst F (v := 0) dX4_costOf_5 (by decide) ?_
  refine hj_istore_n F (lv' := [(2, _), (1, _), (0, _)]) dX4_costOf_6 rfl (by decide) rfl ?_
  refine hj_lv [0, 1, 2] rfl ?_
  rw [← vau_self a 13 rfl]
  refine lc_M_costOf F (bf := bf) (sf := sf) hB hB1 hbf (fun z hz => ?_) (B + 1) 0 (a 13) (by omega) (Nat.zero_le _) (fun b hb => absurd hb (Nat.not_lt_zero _))
  refine hj_lconst F (v := 0) dX4_costOf_33 (by decide) ?_
  refine hj_lstore_n F (lv' := [(2, _), (1, _), (0, _)]) dX4_costOf_34 rfl (by decide) rfl ?_
  refine hj_iconst F (v := 0) dX4_costOf_35 (by decide) ?_
  refine hj_istore F (lv' := [(4, _), (2, _), (1, _), (0, _)]) dX4_costOf_36 (by decide) rfl ?_
  refine hj_lv [0, 1, 2, 3] rfl ?_
  refine lp_M_costOf F hMP hR (fun z9 => ?_) (N + 1) 0 z (by omega) (Nat.zero_le _) hz
  refine hj_lload_n F 1 dX4_costOf_192 rfl rfl ?_
  exact ret dX4_costOf_193 ⟨rfl, rfl, rfl, z9, rfl⟩
end SMOD9
