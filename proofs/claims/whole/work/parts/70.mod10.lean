section SMOD10
theorem hi_X4_plans_M : ∀ w ∈ u_ws RX4 TX4 28, w ∈ wsX4_plans := fun w h => by
  unfold wsX4_plans
  simp only [List.mem_cons, List.mem_append]
  first | (simp only [h, or_true, true_or]; done) | (have h2 : w ∈ wsX40 := h; simp only [h2, or_true, true_or]; done)
theorem lk_X4_plans_162 : Cond.fieldLink RX4 162 "HatWorksModel" "many" "I" ∈ wsX4_plans := List.mem_of_getElem? (i := 1) rfl
theorem lk_X4_plans_167 : Cond.fieldLink RX4 167 "HatWorksModel" "bestCost" "J" ∈ wsX4_plans := List.mem_of_getElem? (i := 5) rfl
theorem lk_X4_plans_52 : Cond.fieldLink RX4 52 "HatWorksModel" "row" "[I" ∈ wsX4_plans := List.mem_of_getElem? (i := 6) rfl
theorem lk_X4_plans_55 : Cond.fieldLink RX4 55 "HatWorksModel" "best" "[I" ∈ wsX4_plans := List.mem_of_getElem? (i := 7) rfl
variable {K : hw_K} {l : Launch} {D : va_G} {ad : Nat → Nat} {t : Nat → ClassId} {X : hw_XT} {rm : Room} {g : hw_G} {a : hw_A} {c : Int64}
abbrev pA (a : hw_A) (x y z : Nat → Int32) : hw_A := va_up (va_up (va_up a 11 x) 12 y) 13 z
def pm_R (N : Nat) (c : Int64) (f : Nat → Int32) (acc : Option (Nat × List Nat)) : Prop := match acc with
  | none => c = -1
  | some q => c = lN q.1 ∧ q.1 < 2 ^ 62 ∧ q.2.length = N ∧ ∀ i, i < N → f i = nI (q.2.getD i 0) ∧ q.2.getD i 0 < N
theorem pl_skip {N nw : Nat} {ob st on wt : Nat → Nat} {k : Nat} {p : List Nat} {S : Nat × (Nat → Nat) × Nat} {acc : Option (Nat × List Nat)} {i : Nat} : ∀ j, i ≤ j → (∀ u, i ≤ u → u < j → u ∈ p) → pl_L N nw ob st on wt k p S acc j = pl_L N nw ob st on wt k p S acc i
  | 0, h, _ => by rw [show i = 0 by omega]
  | j + 1, h, hu => by
    by_cases e : i = j + 1
    · rw [e]
    · rw [pl_Ls, if_pos (hu j (by omega) (by omega))]
      exact pl_skip j (by omega) (fun u h1 h2 => hu u h1 (by omega))
theorem i32_m1 (x : Int32) : x + (-1) = x - 1 := by rw [Int32.sub_eq_add_neg]
theorem lgc_m1 : lg_cmp (-1) 0 < 0 := lgc_lt.mpr (by decide)
theorem lgc_n {m : Nat} (h : m < 2 ^ 63) : ¬ lg_cmp (lN m) 0 < 0 := fun z => by
  have := lgc_lt.mp z
  rw [show (0 : Int64) = lN 0 from rfl, pk_lLT h (by decide)] at this
  omega
variable {N nw sf B : Nat} {bf ob st on wt : Nat → Nat}
set_option maxHeartbeats 4000000 in
set_option maxRecDepth 100000 in
theorem l139_M_plans (F : hw_F K l D (WM ad t) (hw_T t) X cX4_plans RX4 wsX4_plans (hw_rm 2) 8) {x y z : Nat → Int32} {c2 : Int64} {z1 : Int32} (hN : g 12 = nI N) (hN7 : N ≤ 7) (hx : hw_J K (WM ad t) 0 0 g (pA a x (cp_n y x N) z) c [(1, .int z1), (0, .ref (ad 0))] 168 []) : ∀ m i : Nat, N - i < m → i ≤ N → hw_J K (WM ad t) 0 0 g (pA a x (cp_n y x i) z) c [(4, .int (nI i)), (2, .long c2), (1, .int z1), (0, .ref (ad 0))] 139 [] := by
  intro m
  induction m with
  | zero => intro i hm; exact absurd hm (Nat.not_lt_zero _)
  | succ m ih =>
    intro i hm hi
    refine hj_iload F 0 dX4_plans_139 rfl ?_
    refine hj_aload_n F 3 dX4_plans_141 rfl rfl ?_
    refine hg_M_many F hi_X4_plans_M lk_X4_plans_162 dX4_plans_142 ?_
    rw [hN]
    refine hj_icmp_ge F 168 dX4_plans_145 (by decide) (fun q145 => ?_) (fun q145 => ?_)
    · rw [nI_leI (by omega) (by omega)] at q145
      obtain rfl : i = N := by omega
      exact hj_lv [2, 3] rfl hx
    · rw [nI_leI (by omega) (by omega)] at q145
      refine hj_aload_n F 3 dX4_plans_148 rfl rfl ?_
      refine hg_M_best F hi_X4_plans_M lk_X4_plans_55 dX4_plans_149 ?_
      refine hj_iload F 0 dX4_plans_152 rfl ?_
      refine hj_aload_n F 3 dX4_plans_154 rfl rfl ?_
      refine hg_M_row F hi_X4_plans_M lk_X4_plans_52 dX4_plans_155 ?_
      refine hj_iload F 0 dX4_plans_158 rfl ?_
      refine hl_M_row F (vp_in_nI (show i < 7 by omega) (by decide)) dX4_plans_160 ?_
      rw [nI_clamp (show i < 2 ^ 31 by omega)]
      refine hs_M_best F (vp_in_nI (show i < 7 by omega) (by decide)) dX4_plans_161 ?_
      simp (disch := omega) only [nI_clamp, va_up_ne, vau_s]
      refine hj_iinc F 0 (v := _ + 1) (lv' := [(4, _), (2, _), (1, _), (0, _)]) dX4_plans_162 rfl rfl (by decide) rfl ?_
      refine hj_goto F 139 dX4_plans_165 (by decide) ?_
      refine hj_lv [0, 1, 2, 3] rfl ?_
      rw [nI_1]
      have e9 := ih (i + 1) (by omega) (by omega)
      rw [show cp_n y x (i + 1) = upd (cp_n y x i) i (x i) from rfl] at e9
      rw [show va_up (pA a x (cp_n y x i) z) 12 (upd (cp_n y x i) i (x i)) = pA a x (upd (cp_n y x i) i (x i)) z by unfold pA; rw [vau_comm _ _ _ (show (13 : Nat) ≠ 12 by decide), bx_uu]]
      exact e9
set_option maxHeartbeats 4000000 in
set_option maxRecDepth 100000 in
theorem lv_M_plans (F : hw_F K l D (WM ad t) (hw_T t) X cX4_plans RX4 wsX4_plans (hw_rm 2) 8) (hok : hw_XOK X) (hMP : MP N nw sf B bf ob st on wt g a) {R : Nat → Nat} {x y z : Nat → Int32} {acc : Option (Nat × List Nat)} (hR : (∀ i, i < N → x i = nI (R i) ∧ R i < N)) (hc : pm_R N c y acc) (hx : ∀ (y' z' : Nat → Int32) (c' : Int64), pm_R N c' y' (pl_acc acc (pS nw ob st on wt (sf, bf, 0) R N).2.2 (pf R N)) → hw_J K (WM ad t) 0 0 g (pA a x y' z') c' [(5, .int (nI N)), (4, .int (nI N - 1)), (0, .ref (ad 0))] 182 []) : hw_J K (WM ad t) 0 0 g (pA a x y z) c [(1, .int 1), (0, .ref (ad 0))] 104 [] := by
  obtain ⟨hN, hN7, _⟩ := id hMP
  have hb9 : (pS nw ob st on wt (sf, bf, 0) R N).2.2 ≤ 40000000 * N := (pS_ok hMP (fun j hj => (hR j hj).2) N (Nat.le_refl _)).2.2
  have upd9 : pm_R N (lN (pS nw ob st on wt (sf, bf, 0) R N).2.2) (cp_n y x N) (some ((pS nw ob st on wt (sf, bf, 0) R N).2.2, pf R N)) := ⟨rfl, by show (pS nw ob st on wt (sf, bf, 0) R N).2.2 < _; omega, pf_len R N, fun i hi => by
    rw [cp_at, if_pos hi, pf_get hi]
    exact hR i hi⟩
  have t168 : ∀ (y9 z9 : Nat → Int32) (c9 : Int64), pm_R N c9 y9 (pl_acc acc (pS nw ob st on wt (sf, bf, 0) R N).2.2 (pf R N)) → hw_J K (WM ad t) 0 0 g (pA a x y9 z9) c9 [(1, .int 1), (0, .ref (ad 0))] 168 [] := by
    intro y9 z9 c9 hp
    refine hj_aload_n F 1 dX4_plans_168 rfl rfl ?_
    refine hg_M_many F hi_X4_plans_M lk_X4_plans_162 dX4_plans_169 ?_
    rw [hN]
    refine hj_iconst F (v := 1) dX4_plans_172 (by decide) ?_
    refine hj_isub F dX4_plans_173 ?_
    refine hj_istore F (lv' := [(4, _), (1, _), (0, _)]) dX4_plans_174 (by decide) rfl ?_
    refine hj_aload_n F 2 dX4_plans_176 rfl rfl ?_
    refine hg_M_many F hi_X4_plans_M lk_X4_plans_162 dX4_plans_177 ?_
    rw [hN]
    refine hj_istore F (lv' := [(5, _), (4, _), (1, _), (0, _)]) dX4_plans_180 (by decide) rfl ?_
    refine hj_lv [0, 1, 3] rfl ?_
    exact hx y9 z9 c9 hp
  refine hj_iload_n F 0 dX4_plans_104 rfl rfl ?_
  refine hj_if_eq F 328 dX4_plans_105 (by decide) (fun q105 => ?_) (fun q105 => ?_)
  · exact absurd q105 (by decide)
  · refine hj_aload_n F 1 dX4_plans_108 rfl rfl ?_
    refine hj_cVl F (n := 0) (k_M_costOf hok (R := R) (a := pA a x y z) (MP_c rfl rfl rfl hMP) hR) gX4_plans_X4_costOf rfl ⟨rfl, rfl⟩ (by decide +kernel) ⟨by decide, by decide⟩ 0 4 rfl rfl (As := []) rfl rfl (Nat.le_of_ble_eq_true rfl) ⟨Nat.zero_le _, Nat.zero_le _⟩ dX4_plans_109 ?_
    intro r9 g9 a9 c9 hq9
    obtain ⟨rfl, e2, e3, z9, rfl⟩ := hq9
    obtain rfl := e2.symm
    obtain rfl := e3.symm
    rw [bx_uu]
    refine hj_lstore_n F (lv' := [(2, _), (1, _), (0, _)]) dX4_plans_112 rfl (by decide) rfl ?_
    refine hj_aload_n F 2 dX4_plans_113 rfl rfl ?_
    refine hg_M_bestCost F hi_X4_plans_M lk_X4_plans_167 dX4_plans_114 ?_
    refine hj_lconst F (v := 0) dX4_plans_117 (by decide) ?_
    refine hj_lcmp F dX4_plans_118 ?_
    refine hj_if_lt F 131 dX4_plans_119 (by decide) (fun q119 => ?_) (fun q119 => ?_)
    · refine hj_aload_n F 2 dX4_plans_131 rfl rfl ?_
      refine hj_lload_n F 0 dX4_plans_132 rfl rfl ?_
      refine hp_M_bestCost F hi_X4_plans_M lk_X4_plans_167 dX4_plans_133 ?_
      refine hj_iconst F (v := 0) dX4_plans_136 (by decide) ?_
      refine hj_istore F (lv' := [(4, _), (2, _), (1, _), (0, _)]) dX4_plans_137 (by decide) rfl ?_
      refine hj_lv [0, 1, 2, 3] rfl ?_
      refine l139_M_plans F hN hN7 (t168 _ _ _ ?_) (N + 1) 0 (by omega) (Nat.zero_le _)
      match acc, hc with
      | none, hc => exact upd9
      | some q, hc => exact absurd q119 (by rw [hc.1]; exact lgc_n (by have := hc.2.1; omega))
    · refine hj_lload_n F 0 dX4_plans_122 rfl rfl ?_
      refine hj_aload_n F 2 dX4_plans_123 rfl rfl ?_
      refine hg_M_bestCost F hi_X4_plans_M lk_X4_plans_167 dX4_plans_124 ?_
      refine hj_lcmp F dX4_plans_127 ?_
      refine hj_if_ge F 168 dX4_plans_128 (by decide) (fun q128 => ?_) (fun q128 => ?_)
      · refine hj_lv [1, 2] rfl ?_
        refine t168 _ _ _ ?_
        match acc, hc with
        | none, hc => exact absurd (by rw [show c = -1 from hc]; exact lgc_m1) q119
        | some q, hc =>
          rw [hc.1] at q128
          have q128 : ¬ lN (pS nw ob st on wt (sf, bf, 0) R N).2.2 < lN q.1 := fun z => absurd (lgc_lt.mpr z) (Int32.not_lt.mpr q128)
          rw [pk_lLT (by omega) (by have := hc.2.1; omega)] at q128
          show pm_R N c y (if (pS nw ob st on wt (sf, bf, 0) R N).2.2 < q.1 then _ else some q)
          rw [if_neg q128]
          exact hc
      · refine hj_aload_n F 2 dX4_plans_131 rfl rfl ?_
        refine hj_lload_n F 0 dX4_plans_132 rfl rfl ?_
        refine hp_M_bestCost F hi_X4_plans_M lk_X4_plans_167 dX4_plans_133 ?_
        refine hj_iconst F (v := 0) dX4_plans_136 (by decide) ?_
        refine hj_istore F (lv' := [(4, _), (2, _), (1, _), (0, _)]) dX4_plans_137 (by decide) rfl ?_
        refine hj_lv [0, 1, 2, 3] rfl ?_
        refine l139_M_plans F hN hN7 (t168 _ _ _ ?_) (N + 1) 0 (by omega) (Nat.zero_le _)
        match acc, hc with
        | none, hc => exact upd9
        | some q, hc =>
          rw [hc.1] at q128
          have q128 : lN (pS nw ob st on wt (sf, bf, 0) R N).2.2 < lN q.1 := lgc_lt.mp (Int32.not_le.mp q128)
          rw [pk_lLT (by omega) (by have := hc.2.1; omega)] at q128
          show pm_R N _ _ (if (pS nw ob st on wt (sf, bf, 0) R N).2.2 < q.1 then _ else some q)
          rw [if_pos q128]
          exact upd9
set_option maxHeartbeats 4000000 in
set_option maxRecDepth 100000 in
theorem l207_M_plans (F : hw_F K l D (WM ad t) (hw_T t) X cX4_plans RX4 wsX4_plans (hw_rm 2) 8) (hok : hw_XOK X) (hN : g 12 = nI N) (hN7 : N ≤ 7) {R : Nat → Nat} {x y z : Nat → Int32} {d j : Nat} (hd : d < N) (hR : (∀ i, i < N → x i = nI (R i) ∧ R i < N)) : ∀ m v : Nat, N - v < m → v ≤ N → j < v → (∀ u, j < u → u < v → u ∈ pf R d) → (∀ v' : Nat, v' ≤ N → j < v' → (∀ u, j < u → u < v' → u ∈ pf R d) → (v' < N → v' ∉ pf R d) → hw_J K (WM ad t) 0 0 g (pA a x y z) c [(5, .int (nI v')), (4, .int (nI d)), (0, .ref (ad 0))] 233 []) → hw_J K (WM ad t) 0 0 g (pA a x y z) c [(5, .int (nI v)), (4, .int (nI d)), (0, .ref (ad 0))] 207 [] := by
  intro m
  induction m with
  | zero => intro v hm; exact absurd hm (Nat.not_lt_zero _)
  | succ m ih =>
    intro v hm hv hjv hu hx
    refine hj_iload F 0 dX4_plans_207 rfl ?_
    refine hj_aload_n F 2 dX4_plans_209 rfl rfl ?_
    refine hg_M_many F hi_X4_plans_M lk_X4_plans_162 dX4_plans_210 ?_
    rw [hN]
    refine hj_icmp_ge F 233 dX4_plans_213 (by decide) (fun q213 => ?_) (fun q213 => ?_)
    · rw [nI_leI (by omega) (by omega)] at q213
      exact hx v hv hjv hu (fun z => absurd z (by omega))
    · rw [nI_leI (by omega) (by omega)] at q213
      refine hj_aload_n F 2 dX4_plans_216 rfl rfl ?_
      refine hj_iload F 1 dX4_plans_217 rfl ?_
      refine hj_iload F 0 dX4_plans_219 rfl ?_
      refine hj_cVi F (n := 2) (k_M_isUsed hok (N := N) (R := R) (n := d) (v := v) (a := pA a x y z) hN7 (by omega) (by omega) hR) gX4_plans_X4_isUsed rfl ⟨rfl, rfl⟩ (by decide +kernel) ⟨by decide, by decide⟩ 0 4 rfl rfl (As := [_, _]) rfl rfl (Nat.le_of_ble_eq_true rfl) ⟨Nat.zero_le _, Nat.zero_le _⟩ dX4_plans_221 (hw_eq4 ?_)
      refine hj_if_eq F 233 dX4_plans_224 (by decide) (fun q224 => ?_) (fun q224 => ?_)
      · have q224 : v ∉ pf R d := fun z => by rw [if_pos z] at q224; exact absurd q224 (by decide)
        exact hx v hv hjv hu (fun _ => q224)
      · have q224 : v ∈ pf R d := Classical.byContradiction (fun z => q224 (if_neg z))
        refine hj_iinc F 0 (v := _ + 1) (lv' := [(5, _), (4, _), (0, _)]) dX4_plans_227 rfl rfl (by decide) rfl ?_
        refine hj_goto F 207 dX4_plans_230 (by decide) ?_
        refine hj_lv [0, 1, 2] rfl ?_
        rw [nI_1]
        refine ih (v + 1) (by omega) (by omega) (by omega) (fun u h1 h2 => ?_) hx
        by_cases e : u = v
        · rw [e]; exact q224
        · exact hu u h1 (by omega)
set_option maxHeartbeats 4000000 in
set_option maxRecDepth 100000 in
theorem l293_M_plans (F : hw_F K l D (WM ad t) (hw_T t) X cX4_plans RX4 wsX4_plans (hw_rm 2) 8) (hok : hw_XOK X) (hN7 : N ≤ 7) {R : Nat → Nat} {x y z : Nat → Int32} {jj : Nat} (hj : jj < N) (hR : (∀ i, i < N → x i = nI (R i) ∧ R i < N)) (hx : ∀ v : Nat, v < N → v ∉ pf R jj → (∀ u, u < v → u ∈ pf R jj) → hw_J K (WM ad t) 0 0 g (pA a x y z) c [(7, .int (nI v)), (6, .int (nI jj)), (1, .int 1), (0, .ref (ad 0))] 310 []) : ∀ m v : Nat, N - v < m → v ≤ N → (∀ u, u < v → u ∈ pf R jj) → hw_J K (WM ad t) 0 0 g (pA a x y z) c [(7, .int (nI v)), (6, .int (nI jj)), (1, .int 1), (0, .ref (ad 0))] 293 [] := by
  intro m
  induction m with
  | zero => intro v hm; exact absurd hm (Nat.not_lt_zero _)
  | succ m ih =>
    intro v hm hv hu
    have hvN : v < N := by
      rcases Nat.lt_or_ge v N with h | h
      · exact h
      · exact absurd (fun u hu9 => hu u (by omega)) (pg_free (R := R) hj)
    refine hj_aload_n F 3 dX4_plans_293 rfl rfl ?_
    refine hj_iload F 1 dX4_plans_294 rfl ?_
    refine hj_iload F 0 dX4_plans_296 rfl ?_
    refine hj_cVi F (n := 2) (k_M_isUsed hok (N := N) (R := R) (n := jj) (v := v) (a := pA a x y z) hN7 (by omega) (by omega) hR) gX4_plans_X4_isUsed rfl ⟨rfl, rfl⟩ (by decide +kernel) ⟨by decide, by decide⟩ 0 4 rfl rfl (As := [_, _]) rfl rfl (Nat.le_of_ble_eq_true rfl) ⟨Nat.zero_le _, Nat.zero_le _⟩ dX4_plans_298 (hw_eq4 ?_)
    refine hj_if_eq F 310 dX4_plans_301 (by decide) (fun q301 => ?_) (fun q301 => ?_)
    · have q301 : v ∉ pf R jj := fun z => by rw [if_pos z] at q301; exact absurd q301 (by decide)
      exact hx v hvN q301 hu
    · have q301 : v ∈ pf R jj := Classical.byContradiction (fun z => q301 (if_neg z))
      refine hj_iinc F 0 (v := _ + 1) (lv' := [(7, _), (6, _), (1, _), (0, _)]) dX4_plans_304 rfl rfl (by decide) rfl ?_
      refine hj_goto F 293 dX4_plans_307 (by decide) ?_
      refine hj_lv [0, 1, 2, 3] rfl ?_
      rw [nI_1]
      refine ih (v + 1) (by omega) (by omega) (fun u h1 => ?_)
      by_cases e : u = v
      · rw [e]; exact q301
      · exact hu u (by omega)
set_option maxHeartbeats 4000000 in
set_option maxRecDepth 100000 in
theorem l281_M_plans (F : hw_F K l D (WM ad t) (hw_T t) X cX4_plans RX4 wsX4_plans (hw_rm 2) 8) (hok : hw_XOK X) (hN : g 12 = nI N) (hN7 : N ≤ 7) {y z : Nat → Int32} {d : Nat} : ∀ (m jj : Nat) (R : Nat → Nat) (x : Nat → Int32), N - jj < m → d ≤ jj → jj ≤ N → (∀ i, i < N → x i = nI (R i) ∧ R i < N) → (∀ i, d ≤ i → i < jj → lf R i) → (∀ (R' : Nat → Nat) (x' : Nat → Int32), (∀ i, i < d → R' i = R i) → (∀ i, i < N → x' i = nI (R' i) ∧ R' i < N) → (∀ i, d ≤ i → i < N → lf R' i) → hw_J K (WM ad t) 0 0 g (pA a x' y z) c [(1, .int 1), (0, .ref (ad 0))] 104 []) → hw_J K (WM ad t) 0 0 g (pA a x y z) c [(6, .int (nI jj)), (1, .int 1), (0, .ref (ad 0))] 281 [] := by
  intro m
  induction m with
  | zero => intro jj R x hm; exact absurd hm (Nat.not_lt_zero _)
  | succ m ih =>
    intro jj R x hm hd hjj hR hl hx
    refine hj_iload F 0 dX4_plans_281 rfl ?_
    refine hj_aload_n F 2 dX4_plans_283 rfl rfl ?_
    refine hg_M_many F hi_X4_plans_M lk_X4_plans_162 dX4_plans_284 ?_
    rw [hN]
    refine hj_icmp_ge F 325 dX4_plans_287 (by decide) (fun q287 => ?_) (fun q287 => ?_)
    · rw [nI_leI (by omega) (by omega)] at q287
      refine hj_goto F 104 dX4_plans_325 (by decide) ?_
      refine hj_lv [1, 2] rfl ?_
      exact hx R x (fun i _ => rfl) hR (fun i h1 h2 => hl i h1 (by omega))
    · rw [nI_leI (by omega) (by omega)] at q287
      refine hj_iconst F (v := 0) dX4_plans_290 (by decide) ?_
      refine hj_istore F (lv' := [(7, _), (6, _), (1, _), (0, _)]) dX4_plans_291 (by decide) rfl ?_
      refine hj_lv [0, 1, 2, 3] rfl ?_
      refine l293_M_plans F hok hN7 (show jj < N by omega) hR (fun v hvN hv1 hv2 => ?_) (N + 1) 0 (by omega) (Nat.zero_le _) (fun u hu => absurd hu (Nat.not_lt_zero _))
      refine hj_aload_n F 3 dX4_plans_310 rfl rfl ?_
      refine hg_M_row F hi_X4_plans_M lk_X4_plans_52 dX4_plans_311 ?_
      refine hj_iload F 1 dX4_plans_314 rfl ?_
      refine hj_iload F 0 dX4_plans_316 rfl ?_
      refine hs_M_row F (vp_in_nI (show jj < 7 by omega) (by decide)) dX4_plans_318 ?_
      simp (disch := omega) only [nI_clamp, va_up_ne, vau_s]
      refine hj_iinc F 1 (v := _ + 1) (lv' := [(6, _), (7, _), (1, _), (0, _)]) dX4_plans_319 rfl rfl (by decide) rfl ?_
      refine hj_goto F 281 dX4_plans_322 (by decide) ?_
      refine hj_lv [0, 2, 3] rfl ?_
      rw [nI_1]
      rw [show va_up (pA a x y z) 11 (upd x jj (nI v)) = pA a (upd x jj (nI v)) y z by unfold pA; rw [vau_comm _ _ _ (show (13 : Nat) ≠ 11 by decide), vau_comm _ _ _ (show (12 : Nat) ≠ 11 by decide), bx_uu]]
      have eR : ∀ i, i ≠ jj → va_up R jj v i = R i := fun i hi => va_up_ne _ _ hi
      refine ih (jj + 1) (va_up R jj v) (upd x jj (nI v)) (by omega) (by omega) (by omega) (fun i hi => ?_) (fun i h1 h2 => ?_) (fun R9 x9 h1 h2 h3 => hx R9 x9 (fun i hi => (h1 i hi).trans (eR i (by omega))) h2 h3)
      · by_cases e : i = jj
        · rw [e, pk_us, vau_s]; exact ⟨rfl, hvN⟩
        · rw [pk_un e, eR i e]; exact hR i hi
      · by_cases e : i = jj
        · subst e
          unfold lf
          rw [vau_s, pf_c (R := R) (fun i hi => eR i (by omega))]
          exact ⟨hv1, hv2⟩
        · exact lf_c (R := R) (fun u hu => eR u (by omega)) (hl i h1 (by omega))
def pV (K : hw_K) (ad : Nat → Nat) (t : Nat → ClassId) (N nw sf : Nat) (bf ob st on wt : Nat → Nat) (g : hw_G) (a : hw_A) (k : Nat) : Prop := ∀ (R : Nat → Nat) (x y z : Nat → Int32) (c : Int64) (acc : Option (Nat × List Nat)) (d : Nat), d + k = N → (∀ i, i < N → x i = nI (R i) ∧ R i < N) → (∀ i, d ≤ i → i < N → lf R i) → pm_R N c y acc → (∀ (R' : Nat → Nat) (x' y' z' : Nat → Int32) (c' : Int64), (∀ i, i < d → R' i = R i) → (∀ i, i < N → x' i = nI (R' i) ∧ R' i < N) → pm_R N c' y' (pl_F N nw ob st on wt k (pf R d) (pS nw ob st on wt (sf, bf, 0) R d) acc) → hw_J K (WM ad t) 0 0 g (pA a x' y' z') c' [(5, .int (nI N)), (4, .int (nI d - 1)), (0, .ref (ad 0))] 182 []) → hw_J K (WM ad t) 0 0 g (pA a x y z) c [(1, .int 1), (0, .ref (ad 0))] 104 []
theorem pV_0 (F : hw_F K l D (WM ad t) (hw_T t) X cX4_plans RX4 wsX4_plans (hw_rm 2) 8) (hok : hw_XOK X) (hMP : MP N nw sf B bf ob st on wt g a) : pV K ad t N nw sf bf ob st on wt g a 0 := by
  intro R x y z c acc d hd hR hl hc hx
  obtain rfl : d = N := by omega
  exact lv_M_plans F hok hMP hR hc (fun y' z' c' hp => hx R x y' z' c' (fun i _ => rfl) hR hp)
set_option maxHeartbeats 4000000 in
set_option maxRecDepth 100000 in
theorem pV_s (F : hw_F K l D (WM ad t) (hw_T t) X cX4_plans RX4 wsX4_plans (hw_rm 2) 8) (hok : hw_XOK X) (hMP : MP N nw sf B bf ob st on wt g a) {k : Nat} (hV : pV K ad t N nw sf bf ob st on wt g a k) : pV K ad t N nw sf bf ob st on wt g a (k + 1) := by
  intro R x y z c acc d hd hR hl hc hx
  obtain ⟨hN, hN7, _⟩ := id hMP
  have hdN : d < N := by omega
  have hl0 := hl d (Nat.le_refl _) hdN
  have w : ∀ (m j : Nat), N - j < m → j < N → ∀ (R' : Nat → Nat) (x' y' z' : Nat → Int32) (c' : Int64), (∀ i, i < d → R' i = R i) → R' d = j → (∀ i, i < N → x' i = nI (R' i) ∧ R' i < N) → pm_R N c' y' (pl_L N nw ob st on wt k (pf R d) (pS nw ob st on wt (sf, bf, 0) R d) acc (j + 1)) → hw_J K (WM ad t) 0 0 g (pA a x' y' z') c' [(5, .int (nI N)), (4, .int (nI d)), (0, .ref (ad 0))] 182 [] := by
    intro m
    induction m with
    | zero => intro j hm; exact absurd hm (Nat.not_lt_zero _)
    | succ m ih =>
      intro j hm hjN R' x' y' z' c' hag hj hR' hpm
      refine hj_iload F 1 dX4_plans_182 rfl ?_
      refine hj_if_lt F 248 dX4_plans_184 (by decide) (fun q184 => ?_) (fun q184 => ?_)
      · exact absurd q184 (Int32.not_lt.mpr (nI_pos' (by omega)))
      · refine hj_iload F 0 dX4_plans_187 rfl ?_
        refine hj_aload_n F 2 dX4_plans_189 rfl rfl ?_
        refine hg_M_many F hi_X4_plans_M lk_X4_plans_162 dX4_plans_190 ?_
        rw [hN]
        refine hj_icmp_ne F 248 dX4_plans_193 (by decide) (fun q193 => ?_) (fun q193 => ?_)
        · exact absurd rfl q193
        · refine hj_aload_n F 2 dX4_plans_196 rfl rfl ?_
          refine hg_M_row F hi_X4_plans_M lk_X4_plans_52 dX4_plans_197 ?_
          refine hj_iload F 1 dX4_plans_200 rfl ?_
          refine hl_M_row F (vp_in_nI (show d < 7 by omega) (by decide)) dX4_plans_202 ?_
          rw [nI_clamp (by omega), show (pA a x' y' z') 11 d = nI j from ((hR' d (by omega)).1).trans (by rw [hj])]
          refine hj_iconst F (v := 1) dX4_plans_203 (by decide) ?_
          refine hj_iadd F dX4_plans_204 ?_
          refine hj_istore F (lv' := [(5, _), (4, _), (0, _)]) dX4_plans_205 (by decide) rfl ?_
          refine hj_lv [0, 1, 2] rfl ?_
          rw [nI_1]
          have hpp : pf R' d = pf R d := pf_c hag
          refine l207_M_plans F hok hN hN7 (j := j) hdN hR' (N + 1) (j + 1) (by omega) (by omega) (by omega) (fun u h1 h2 => absurd h2 (by omega)) (fun v hv hjv hu hv4 => ?_)
          refine hj_iload F 0 dX4_plans_233 rfl ?_
          refine hj_aload_n F 2 dX4_plans_235 rfl rfl ?_
          refine hg_M_many F hi_X4_plans_M lk_X4_plans_162 dX4_plans_236 ?_
          rw [hN]
          refine hj_icmp_ne F 182 dX4_plans_239 (by decide) (fun q239 => ?_) (fun q239 => ?_)
          · rw [nI_eq (by omega) (by omega)] at q239
            refine hj_iload F 1 dX4_plans_182 rfl ?_
            refine hj_if_lt F 248 dX4_plans_184 (by decide) (fun q184 => ?_) (fun q184 => ?_)
            · exact absurd q184 (Int32.not_lt.mpr (nI_pos' (by omega)))
            · refine hj_iload F 0 dX4_plans_187 rfl ?_
              refine hj_aload_n F 2 dX4_plans_189 rfl rfl ?_
              refine hg_M_many F hi_X4_plans_M lk_X4_plans_162 dX4_plans_190 ?_
              rw [hN]
              refine hj_icmp_ne F 248 dX4_plans_193 (by decide) (fun q193 => ?_) (fun q193 => ?_)
              · refine hj_iload F 1 dX4_plans_248 rfl ?_
                refine hj_if_lt F 257 dX4_plans_250 (by decide) (fun q250 => ?_) (fun q250 => ?_)
                · exact absurd q250 (Int32.not_lt.mpr (nI_pos' (by omega)))
                · refine hj_iconst F (v := 1) dX4_plans_253 (by decide) ?_
                  refine hj_goto F 258 dX4_plans_254 (by decide) ?_
                  refine hj_istore_n F (lv' := [(1, _), (5, _), (4, _), (0, _)]) dX4_plans_258 rfl (by decide) rfl ?_
                  refine hj_iload_n F 0 dX4_plans_259 rfl rfl ?_
                  refine hj_if_ne F 266 dX4_plans_260 (by decide) (fun q260 => ?_) (fun q260 => ?_)
                  · refine hj_aload_n F 3 dX4_plans_266 rfl rfl ?_
                    refine hg_M_row F hi_X4_plans_M lk_X4_plans_52 dX4_plans_267 ?_
                    refine hj_iload F 2 dX4_plans_270 rfl ?_
                    refine hj_iload F 1 dX4_plans_272 rfl ?_
                    refine hs_M_row F (vp_in_nI (show d < 7 by omega) (by decide)) dX4_plans_274 ?_
                    simp (disch := omega) only [nI_clamp, va_up_ne, vau_s]
                    refine hj_iload F 2 dX4_plans_275 rfl ?_
                    refine hj_iconst F (v := 1) dX4_plans_277 (by decide) ?_
                    refine hj_iadd F dX4_plans_278 ?_
                    refine hj_istore F (lv' := [(6, _), (1, _), (5, _), (4, _), (0, _)]) dX4_plans_279 (by decide) rfl ?_
                    refine hj_lv [0, 1, 4] rfl ?_
                    rw [nI_1]
                    rw [show va_up (pA a x' y' z') 11 (upd x' d (nI v)) = pA a (upd x' d (nI v)) y' z' by unfold pA; rw [vau_comm _ _ _ (show (13 : Nat) ≠ 11 by decide), vau_comm _ _ _ (show (12 : Nat) ≠ 11 by decide), bx_uu]]
                    have eR : ∀ i, i ≠ d → va_up R' d v i = R' i := fun i hi => va_up_ne _ _ hi
                    have hvN : v < N := by omega
                    refine l281_M_plans F hok hN hN7 (d := d + 1) (N + 1) (d + 1) (va_up R' d v) (upd x' d (nI v)) (by omega) (Nat.le_refl _) (by omega) (fun i hi => ?_) (fun i h1 h2 => absurd h2 (by omega)) (fun R9 x9 g1 g2 g3 => ?_)
                    · by_cases e : i = d
                      · rw [e, pk_us, vau_s]; exact ⟨rfl, hvN⟩
                      · rw [pk_un e, eR i e]; exact hR' i hi
                    have e1 : ∀ i, i < d → R9 i = R i := fun i hi => (g1 i (by omega)).trans ((eR i (by omega)).trans (hag i hi))
                    have e2 : R9 d = v := (g1 d (by omega)).trans (vau_s _ _ _)
                    refine hV R9 x9 y' z' c' (pl_L N nw ob st on wt k (pf R d) (pS nw ob st on wt (sf, bf, 0) R d) acc v) (d + 1) (by omega) g2 g3 (by rw [pl_skip v (show j + 1 ≤ v by omega) (fun u h1 h2 => hpp ▸ hu u (by omega) h2)]; exact hpm) (fun R8 x8 y8 z8 c8 k1 k2 k3 => ?_)
                    rw [show nI (d + 1) - 1 = nI d by rw [show (1 : Int32) = nI 1 from rfl, pk_sub (by omega)]; rfl]
                    refine ih v (by omega) hvN R8 x8 y8 z8 c8 (fun i hi => (k1 i (by omega)).trans (e1 i hi)) ((k1 d (by omega)).trans e2) k2 ?_
                    rw [pl_Ls, if_neg (hpp ▸ hv4 hvN)]
                    rw [pf_s, e2, pf_c e1] at k3
                    rw [show pS nw ob st on wt (sf, bf, 0) R9 (d + 1) = pl_step nw ob st on wt (R9 d) (pS nw ob st on wt (sf, bf, 0) R9 d) from rfl, e2, pS_c d e1] at k3
                    exact k3
                  · exact absurd q260 (by decide)
              · rw [nI_eq (by omega) (by omega)] at q193
                exact absurd q193 q239
          · rw [nI_eq (by omega) (by omega)] at q239
            refine hj_iinc F 1 (v := _ + (-1)) (lv' := [(4, _), (5, _), (0, _)]) dX4_plans_242 rfl rfl (by decide) rfl ?_
            refine hj_goto F 182 dX4_plans_245 (by decide) ?_
            rw [q239] at hu ⊢
            refine hj_lv [1, 0, 2] rfl ?_
            rw [i32_m1]
            refine hx R' x' y' z' c' hag hR' ?_
            rw [pl_LN, pl_skip N (show j + 1 ≤ N by omega) (fun u h1 h2 => hpp ▸ hu u (by omega) h2)]
            exact hpm
  refine hV R x y z c acc (d + 1) (by omega) hR (fun i h1 h2 => hl i (by omega) h2) hc (fun R' x' y' z' c' hag hR' hpm => ?_)
  rw [show nI (d + 1) - 1 = nI d by rw [show (1 : Int32) = nI 1 from rfl, pk_sub (by omega)]; rfl]
  refine w (N + 1) (R d) (by omega) (hR d hdN).2 R' x' y' z' c' (fun i hi => hag i (by omega)) (hag d (by omega)) hR' ?_
  rw [pl_Ls, if_neg hl0.1, pl_skip (R d) (Nat.zero_le _) (fun u _ h2 => hl0.2 u h2), pl_L0]
  rw [pf_s, show pS nw ob st on wt (sf, bf, 0) R (d + 1) = pl_step nw ob st on wt (R d) (pS nw ob st on wt (sf, bf, 0) R d) from rfl] at hpm
  exact hpm
theorem pV_all (F : hw_F K l D (WM ad t) (hw_T t) X cX4_plans RX4 wsX4_plans (hw_rm 2) 8) (hok : hw_XOK X) (hMP : MP N nw sf B bf ob st on wt g a) : ∀ k, pV K ad t N nw sf bf ob st on wt g a k
  | 0 => pV_0 F hok hMP
  | k + 1 => pV_s F hok hMP (pV_all F hok hMP k)
end SMOD10
