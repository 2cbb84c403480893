section SHELP
/-- what a helper answers: 0 and the answer in out, or which exception-/
def hw_hp (g : hw_G) (a : hw_A) (c : Int64) (Pn : Int32 → hw_G → hw_A → Int64 → Prop) (B1 B2 : Prop) : Int32 → hw_G → hw_A → Int64 → (Nat → Int64) → Prop := fun k g' a' c' v' => (k = 0 ∧ ∃ r : Int32, Pn r g' a' c' ∧ v' 0 = r.toInt64) ∨ (k = 1 ∧ B1 ∧ g' = g ∧ a' = a ∧ c' = c) ∨ (k = 2 ∧ B2 ∧ g' = g ∧ a' = a ∧ c' = c)
variable {l : Launch} {D : va_G} {ad : Nat → Nat} {t : Nat → ClassId} {X : hw_XT} {g : hw_G} {a : hw_A} {c : Int64} {qo : Nat} {vo : Nat → Int64} {τ : Nat → Nat}
set_option maxHeartbeats 4000000 in
set_option maxRecDepth 100000 in
theorem k_L_push (hok : hw_XOK X) (hlt : l.stackTraces = false) (hxt : ∀ A U H, X A U H → xt A U H) {n : Nat} {x : Int32} (h0 : g 0 = nI n) (hn : n ≤ 12) : hw_Hi l D ad t qo X yL_push wsL_push (hw_rx 7 1) 1 [.ref (ad 0), .int x, .ref qo] g a c vo (hw_hp g a c (fun r g' a' c' => ¬ (x < 50 ∨ 200 < x) ∧ c' = c ∧ (if n = 12 then r = -1 ∧ g' = g ∧ a' = a else r = nI (n + 1) ∧ g' = upd g 0 (nI (n + 1)) ∧ a' = va_up a 0 (upd (a 0) n x))) ((x < 50 ∨ 200 < x)) (False)) := by
  refine hw_Hi.mk (lv0 := [(0, _), (1, _), (2, _)]) (by decide) rfl (Nat.le_of_ble_eq_true rfl) rfl hok (fun K F htab ret => ?_)
  have F : ∀ v, hw_F K l D (HW ad t qo v) (hw_TL t) X cL_push RL wsL_push (hw_rx 7 1) 4 := F
  refine hj_aload_n (F _) 2 dL_push_0 rfl rfl ?_
  refine hj_iconst (F _) (v := 0) dL_push_1 (by decide) ?_
  refine hj_aload_n (F _) 0 dL_push_2 rfl rfl ?_
  refine hj_iload_n (F _) 1 dL_push_3 rfl rfl ?_
  refine hj_hx F htab (n := 1) (k_X_push hok hlt hxt h0 hn) gL_push_X3_push rfl ⟨rfl, rfl⟩ (by decide +kernel) ⟨by decide, by decide⟩ (As := [_]) rfl rfl (Nat.le_of_ble_eq_true rfl) ⟨by decide, by decide⟩ dL_push_4 (fun E hE => ?_) (fun r g' a' c' hp => ?_)
  · obtain ⟨rfl, hE⟩ := hE
    refine ⟨[], ⟨0, 9, 12, 13⟩, [], "java/lang/IllegalArgumentException", rfl, fun z hz => absurd hz List.not_mem_nil, by decide, by decide, List.mem_of_getElem? (i := 1) rfl, fun A U H h => (hxt A U H h).1.1 _ List.mem_cons_self, fun q => ?_⟩
    refine hj_astore_n (F _) (lv' := [(3, _), (0, _), (1, _), (2, _)]) dL_push_12 rfl (by decide) rfl ?_
    refine hj_iconst (F _) (v := 1) dL_push_13 (by decide) ?_
    exact ret (by decide) (by decide) dL_push_14 (Or.inr (Or.inl ⟨rfl, hE, rfl, rfl, rfl⟩))
  · refine hj_i2l (F _) dL_push_7 ?_
    refine hj_out F dL_push_8 ?_
    refine hj_goto (F _) 15 dL_push_9 (by decide) ?_
    refine hj_iconst (F _) (v := 0) dL_push_15 (by decide) ?_
    exact ret (by decide) (by decide) dL_push_16 (Or.inl ⟨rfl, r, hp, rfl⟩)
set_option maxHeartbeats 4000000 in
set_option maxRecDepth 100000 in
theorem k_L_block (hok : hw_XOK X) (hlt : l.stackTraces = false) (hxt : ∀ A U H, X A U H → xt A U H) {n B : Nat} (h0 : g 0 = nI n) (hn : n ≤ 12) (h12 : g 12 = nI B) (hB : B ≤ 10) : hw_Hi l D ad t qo X yL_block wsL_block (hw_rx 7 1) 1 [.ref (ad 0), .ref qo] g a c vo (hw_hp g a c (fun r g' a' c' => B < 10 ∧ c' = c ∧ (if n < 12 then r = -1 ∧ g' = g ∧ a' = a else r = nI B ∧ g' = upd (upd g 0 0) 12 (nI (B + 1)) ∧ a' = va_up (va_up a (200 + B) (cp_n (a (200 + B)) (a 0) 12)) 4 (upd (a 4) B (-1)))) (B = 10) (False)) := by
  refine hw_Hi.mk (lv0 := [(0, _), (1, _)]) (by decide) rfl (Nat.le_of_ble_eq_true rfl) rfl hok (fun K F htab ret => ?_)
  have F : ∀ v, hw_F K l D (HW ad t qo v) (hw_TL t) X cL_block RL wsL_block (hw_rx 7 1) 3 := F
  refine hj_aload_n (F _) 1 dL_block_0 rfl rfl ?_
  refine hj_iconst (F _) (v := 0) dL_block_1 (by decide) ?_
  refine hj_aload_n (F _) 0 dL_block_2 rfl rfl ?_
  refine hj_hx F htab (n := 0) (k_X_block hok hlt hxt h0 hn h12 hB) gL_block_X3_block rfl ⟨rfl, rfl⟩ (by decide +kernel) ⟨by decide, by decide⟩ (As := []) rfl rfl (Nat.le_of_ble_eq_true rfl) ⟨by decide, by decide⟩ dL_block_3 (fun E hE => ?_) (fun r g' a' c' hp => ?_)
  · obtain ⟨rfl, hE⟩ := hE
    refine ⟨[], ⟨0, 8, 11, 19⟩, [], "java/lang/IllegalStateException", rfl, fun z hz => absurd hz List.not_mem_nil, by decide, by decide, List.mem_of_getElem? (i := 1) rfl, fun A U H h => (hxt A U H h).1.2.1 _ List.mem_cons_self, fun q => ?_⟩
    refine hj_astore_n (F _) (lv' := [(2, _), (0, _), (1, _)]) dL_block_11 rfl (by decide) rfl ?_
    refine hj_iconst (F _) (v := 1) dL_block_12 (by decide) ?_
    exact ret (by decide) (by decide) dL_block_13 (Or.inr (Or.inl ⟨rfl, hE, rfl, rfl, rfl⟩))
  · refine hj_i2l (F _) dL_block_6 ?_
    refine hj_out F dL_block_7 ?_
    refine hj_goto (F _) 14 dL_block_8 (by decide) ?_
    refine hj_iconst (F _) (v := 0) dL_block_14 (by decide) ?_
    exact ret (by decide) (by decide) dL_block_15 (Or.inl ⟨rfl, r, hp, rfl⟩)
set_option maxHeartbeats 4000000 in
set_option maxRecDepth 100000 in
theorem k_L_order (hok : hw_XOK X) (hlt : l.stackTraces = false) (hxt : ∀ A U H, X A U H → xt A U H) (hs : ∀ A U H, X A U H → sx τ A U H) (hs2 : ∀ A U H, X A U H → sx2 τ U) (hsT : ∀ A U H, X A U H → sxT τ A U H) {n B N ts : Nat} (h0 : g 0 = nI n) (hn : n ≤ 12) (h12 : g 12 = nI B) (hB : B ≤ 10) (h1 : g 1 = nI N) (hN : N ≤ 60) (h11 : g 11 = nI ts) (hts : ts ≤ 100) {x y z : Int32} : hw_Hi l D ad t qo X yL_order wsL_order (hw_rx 10 1) 1 [.ref (ad 0), .int x, .int y, .int z, .ref qo] g a c vo (hw_hp g a c (fun r g' a' c' => ¬ oa_bad g x y z ∧ ∃ L, L ≤ ts ∧ x = nI L ∧ (if n < 12 then r = -1 ∧ g' = g ∧ a' = a ∧ c' = c else if B = 0 then r = -2 ∧ g' = g ∧ a' = a ∧ c' = c else if 60 ≤ N then r = -3 ∧ g' = g ∧ a' = a ∧ c' = c else ∃ x9, c' = c ∧ (if (tp_end (tp_hat (a 1) L 5 0 (tp_none (a 2))) L).1 = 0 then r = nI N ∧ g' = upd (upd (or_g g L x9 (tp_end (tp_hat (a 1) L 5 0 (tp_none (a 2))) L).1 (tp_end (tp_hat (a 1) L 5 0 (tp_none (a 2))) L).2) 1 (nI (N + 1))) 6 0 ∧ a' = va_up (va_up a 2 (tp_hat (a 1) L 5 0 (tp_none (a 2))).2.2) (100 + N) (ao_row (va_up a 2 (tp_hat (a 1) L 5 0 (tp_none (a 2))).2.2) N B y z) else r = (tp_end (tp_hat (a 1) L 5 0 (tp_none (a 2))) L).1 - 10 ∧ g' = or_g g L x9 (tp_end (tp_hat (a 1) L 5 0 (tp_none (a 2))) L).1 (tp_end (tp_hat (a 1) L 5 0 (tp_none (a 2))) L).2 ∧ a' = va_up a 2 (tp_hat (a 1) L 5 0 (tp_none (a 2))).2.2))) (oa_bad g x y z) (False)) := by
  refine hw_Hi.mk (lv0 := [(0, _), (1, _), (2, _), (3, _), (4, _)]) (by decide) rfl (Nat.le_of_ble_eq_true rfl) rfl hok (fun K F htab ret => ?_)
  have F : ∀ v, hw_F K l D (HW ad t qo v) (hw_TL t) X cL_order RL wsL_order (hw_rx 10 1) 6 := F
  refine hj_aload (F _) 4 dL_order_0 rfl ?_
  refine hj_iconst (F _) (v := 0) dL_order_2 (by decide) ?_
  refine hj_aload_n (F _) 0 dL_order_3 rfl rfl ?_
  refine hj_iload_n (F _) 1 dL_order_4 rfl rfl ?_
  refine hj_iload_n (F _) 2 dL_order_5 rfl rfl ?_
  refine hj_iload_n (F _) 3 dL_order_6 rfl rfl ?_
  refine hj_hx F htab (n := 3) (k_X_order hok hlt hxt hs hs2 hsT h0 hn h12 hB h1 hN h11 hts) gL_order_X3_order rfl ⟨rfl, rfl⟩ (by decide +kernel) ⟨by decide, by decide⟩ (As := [_, _, _]) rfl rfl (Nat.le_of_ble_eq_true rfl) ⟨by decide, by decide⟩ dL_order_7 (fun E hE => ?_) (fun r g' a' c' hp => ?_)
  · obtain ⟨rfl, hE⟩ := hE
    refine ⟨[], ⟨0, 12, 15, 13⟩, [], "java/lang/IllegalArgumentException", rfl, fun z hz => absurd hz List.not_mem_nil, by decide, by decide, List.mem_of_getElem? (i := 1) rfl, fun A U H h => (hxt A U H h).1.1 _ List.mem_cons_self, fun q => ?_⟩
    refine hj_astore (F _) (lv' := [(5, _), (0, _), (1, _), (2, _), (3, _), (4, _)]) dL_order_15 (by decide) rfl ?_
    refine hj_iconst (F _) (v := 1) dL_order_17 (by decide) ?_
    exact ret (by decide) (by decide) dL_order_18 (Or.inr (Or.inl ⟨rfl, hE, rfl, rfl, rfl⟩))
  · refine hj_i2l (F _) dL_order_10 ?_
    refine hj_out F dL_order_11 ?_
    refine hj_goto (F _) 19 dL_order_12 (by decide) ?_
    refine hj_iconst (F _) (v := 0) dL_order_19 (by decide) ?_
    exact ret (by decide) (by decide) dL_order_20 (Or.inl ⟨rfl, r, hp, rfl⟩)
set_option maxHeartbeats 4000000 in
set_option maxRecDepth 100000 in
theorem k_L_misfit (hok : hw_XOK X) (hlt : l.stackTraces = false) (hxt : ∀ A U H, X A U H → xt A U H) {n B : Nat} (h0 : g 0 = nI n) (hn : n ≤ 12) (h12 : g 12 = nI B) (hB : B ≤ 10) {x w : Int32} (hnc : ∀ A U H, X A U H → va_Nc "java/lang/IllegalArgumentException" "java/lang/IndexOutOfBoundsException" U) : hw_Hi l D ad t qo X yL_misfit wsL_misfit (hw_rx 8 2) 2 [.ref (ad 0), .int x, .int w, .ref qo] g a c vo (hw_hp g a c (fun r g' a' c' => g' = g ∧ a' = a ∧ c' = c ∧ ∃ b j, b < B ∧ x = nI b ∧ j < 12 ∧ w = nI j ∧ r = (if n < 12 then -1 else ms (a 0) (a (200 + b)) j 12)) ((x < 0 ∨ nI B ≤ x)) (¬ (x < 0 ∨ nI B ≤ x) ∧ (w < 0 ∨ 12 ≤ w))) := by
  refine hw_Hi.mk (lv0 := [(0, _), (1, _), (2, _), (3, _)]) (by decide) rfl (Nat.le_of_ble_eq_true rfl) rfl hok (fun K F htab ret => ?_)
  have F : ∀ v, hw_F K l D (HW ad t qo v) (hw_TL t) X cL_misfit RL wsL_misfit (hw_rx 8 2) 5 := F
  refine hj_aload_n (F _) 3 dL_misfit_0 rfl rfl ?_
  refine hj_iconst (F _) (v := 0) dL_misfit_1 (by decide) ?_
  refine hj_aload_n (F _) 0 dL_misfit_2 rfl rfl ?_
  refine hj_iload_n (F _) 1 dL_misfit_3 rfl rfl ?_
  refine hj_iload_n (F _) 2 dL_misfit_4 rfl rfl ?_
  refine hj_hx F htab (n := 2) (k_X_misfit hok hlt hxt h0 hn h12 hB) gL_misfit_X3_misfit rfl ⟨rfl, rfl⟩ (by decide +kernel) ⟨by decide, by decide⟩ (As := [_, _]) rfl rfl (Nat.le_of_ble_eq_true rfl) ⟨by decide, by decide⟩ dL_misfit_5 (fun E hE => ?_) (fun r g' a' c' hp => ?_)
  · rcases hE with ⟨rfl, hE⟩ | ⟨rfl, hE⟩
    · refine ⟨[], ⟨0, 10, 13, 29⟩, [⟨0, 10, 17, 13⟩], "java/lang/IndexOutOfBoundsException", rfl, fun z hz => absurd hz List.not_mem_nil, by decide, by decide, List.mem_of_getElem? (i := 1) rfl, fun A U H h => (hxt A U H h).1.2.2.1 _ List.mem_cons_self, fun q => ?_⟩
      refine hj_astore (F _) (lv' := [(4, _), (0, _), (1, _), (2, _), (3, _)]) dL_misfit_13 (by decide) rfl ?_
      refine hj_iconst (F _) (v := 1) dL_misfit_15 (by decide) ?_
      exact ret (by decide) (by decide) dL_misfit_16 (Or.inr (Or.inl ⟨rfl, hE, rfl, rfl, rfl⟩))
    · refine ⟨[⟨0, 10, 13, 29⟩], ⟨0, 10, 17, 13⟩, [], "java/lang/IllegalArgumentException", rfl, fun z hz => by
      rcases List.mem_cons.mp hz with rfl | hz
      · exact ⟨by decide, "java/lang/IndexOutOfBoundsException", List.mem_of_getElem? (i := 1) rfl, hnc⟩
      · exact absurd hz List.not_mem_nil, by decide, by decide, List.mem_of_getElem? (i := 2) rfl, fun A U H h => (hxt A U H h).1.1 _ List.mem_cons_self, fun q => ?_⟩
      refine hj_astore (F _) (lv' := [(4, _), (0, _), (1, _), (2, _), (3, _)]) dL_misfit_17 (by decide) rfl ?_
      refine hj_iconst (F _) (v := 2) dL_misfit_19 (by decide) ?_
      exact ret (by decide) (by decide) dL_misfit_20 (Or.inr (Or.inr ⟨rfl, hE, rfl, rfl, rfl⟩))
  · refine hj_i2l (F _) dL_misfit_8 ?_
    refine hj_out F dL_misfit_9 ?_
    refine hj_goto (F _) 21 dL_misfit_10 (by decide) ?_
    refine hj_iconst (F _) (v := 0) dL_misfit_21 (by decide) ?_
    exact ret (by decide) (by decide) dL_misfit_22 (Or.inl ⟨rfl, r, hp, rfl⟩)
set_option maxHeartbeats 4000000 in
set_option maxRecDepth 100000 in
theorem k_L_told (hok : hw_XOK X) (hlt : l.stackTraces = false) (hxt : ∀ A U H, X A U H → xt A U H) {N : Nat} (h1 : g 1 = nI N) (hN : N ≤ 60) {x w : Int32} (hnc : ∀ A U H, X A U H → va_Nc "java/lang/IllegalArgumentException" "java/lang/IndexOutOfBoundsException" U) : hw_Hi l D ad t qo X yL_told wsL_told (hw_rx 8 2) 2 [.ref (ad 0), .int x, .int w, .ref qo] g a c vo (hw_hp g a c (fun r g' a' c' => g' = g ∧ a' = a ∧ c' = c ∧ ∃ o j, o < N ∧ x = nI o ∧ j < 12 ∧ w = nI j ∧ r = (if j = 8 then (if a (100 + o) 9 = -1 then 0 else if a (100 + o) 10 ≤ g 2 then 2 else 1) else a (100 + o) j)) ((x < 0 ∨ nI N ≤ x)) (¬ (x < 0 ∨ nI N ≤ x) ∧ (w < 0 ∨ 11 < w))) := by
  refine hw_Hi.mk (lv0 := [(0, _), (1, _), (2, _), (3, _)]) (by decide) rfl (Nat.le_of_ble_eq_true rfl) rfl hok (fun K F htab ret => ?_)
  have F : ∀ v, hw_F K l D (HW ad t qo v) (hw_TL t) X cL_told RL wsL_told (hw_rx 8 2) 5 := F
  refine hj_aload_n (F _) 3 dL_told_0 rfl rfl ?_
  refine hj_iconst (F _) (v := 0) dL_told_1 (by decide) ?_
  refine hj_aload_n (F _) 0 dL_told_2 rfl rfl ?_
  refine hj_iload_n (F _) 1 dL_told_3 rfl rfl ?_
  refine hj_iload_n (F _) 2 dL_told_4 rfl rfl ?_
  refine hj_hx F htab (n := 2) (k_X_told hok hlt hxt h1 hN) gL_told_X3_told rfl ⟨rfl, rfl⟩ (by decide +kernel) ⟨by decide, by decide⟩ (As := [_, _]) rfl rfl (Nat.le_of_ble_eq_true rfl) ⟨by decide, by decide⟩ dL_told_5 (fun E hE => ?_) (fun r g' a' c' hp => ?_)
  · rcases hE with ⟨rfl, hE⟩ | ⟨rfl, hE⟩
    · refine ⟨[], ⟨0, 10, 13, 29⟩, [⟨0, 10, 17, 13⟩], "java/lang/IndexOutOfBoundsException", rfl, fun z hz => absurd hz List.not_mem_nil, by decide, by decide, List.mem_of_getElem? (i := 1) rfl, fun A U H h => (hxt A U H h).1.2.2.1 _ List.mem_cons_self, fun q => ?_⟩
      refine hj_astore (F _) (lv' := [(4, _), (0, _), (1, _), (2, _), (3, _)]) dL_told_13 (by decide) rfl ?_
      refine hj_iconst (F _) (v := 1) dL_told_15 (by decide) ?_
      exact ret (by decide) (by decide) dL_told_16 (Or.inr (Or.inl ⟨rfl, hE, rfl, rfl, rfl⟩))
    · refine ⟨[⟨0, 10, 13, 29⟩], ⟨0, 10, 17, 13⟩, [], "java/lang/IllegalArgumentException", rfl, fun z hz => by
      rcases List.mem_cons.mp hz with rfl | hz
      · exact ⟨by decide, "java/lang/IndexOutOfBoundsException", List.mem_of_getElem? (i := 1) rfl, hnc⟩
      · exact absurd hz List.not_mem_nil, by decide, by decide, List.mem_of_getElem? (i := 2) rfl, fun A U H h => (hxt A U H h).1.1 _ List.mem_cons_self, fun q => ?_⟩
      refine hj_astore (F _) (lv' := [(4, _), (0, _), (1, _), (2, _), (3, _)]) dL_told_17 (by decide) rfl ?_
      refine hj_iconst (F _) (v := 2) dL_told_19 (by decide) ?_
      exact ret (by decide) (by decide) dL_told_20 (Or.inr (Or.inr ⟨rfl, hE, rfl, rfl, rfl⟩))
  · refine hj_i2l (F _) dL_told_8 ?_
    refine hj_out F dL_told_9 ?_
    refine hj_goto (F _) 21 dL_told_10 (by decide) ?_
    refine hj_iconst (F _) (v := 0) dL_told_21 (by decide) ?_
    exact ret (by decide) (by decide) dL_told_22 (Or.inl ⟨rfl, r, hp, rfl⟩)
set_option maxHeartbeats 4000000 in
set_option maxRecDepth 100000 in
theorem k_L_go (hok : hw_XOK X) (hlt : l.stackTraces = false) (hxt : ∀ A U H, X A U H → xt A U H) {N : Nat} (h1 : g 1 = nI N) (hN : N ≤ 60) {x : Int32} (hrow : ∀ o, o < N → ub (a (100 + o) 0) 9) : hw_Hi l D ad t qo X yL_go wsL_go (hw_rx 8 1) 1 [.ref (ad 0), .int x, .ref qo] g a c vo (hw_hp g a c (fun r g' a' c' => c' = c ∧ ∃ o, o < N ∧ x = nI o ∧ (if a (100 + o) 9 = -1 then r = sn_s g a o (a (100 + o) 0).toNatClampNeg ∧ g' = sn_g g a o (a (100 + o) 0).toNatClampNeg ∧ a' = sn_a g a o (a (100 + o) 0).toNatClampNeg else r = -1 ∧ g' = g ∧ a' = a)) ((x < 0 ∨ nI N ≤ x)) (False)) := by
  refine hw_Hi.mk (lv0 := [(0, _), (1, _), (2, _)]) (by decide) rfl (Nat.le_of_ble_eq_true rfl) rfl hok (fun K F htab ret => ?_)
  have F : ∀ v, hw_F K l D (HW ad t qo v) (hw_TL t) X cL_go RL wsL_go (hw_rx 8 1) 4 := F
  refine hj_aload_n (F _) 2 dL_go_0 rfl rfl ?_
  refine hj_iconst (F _) (v := 0) dL_go_1 (by decide) ?_
  refine hj_aload_n (F _) 0 dL_go_2 rfl rfl ?_
  refine hj_iload_n (F _) 1 dL_go_3 rfl rfl ?_
  refine hj_hx F htab (n := 1) (k_X_go hok hlt hxt h1 hN hrow) gL_go_X3_go rfl ⟨rfl, rfl⟩ (by decide +kernel) ⟨by decide, by decide⟩ (As := [_]) rfl rfl (Nat.le_of_ble_eq_true rfl) ⟨by decide, by decide⟩ dL_go_4 (fun E hE => ?_) (fun r g' a' c' hp => ?_)
  · obtain ⟨rfl, hE⟩ := hE
    refine ⟨[], ⟨0, 9, 12, 29⟩, [], "java/lang/IndexOutOfBoundsException", rfl, fun z hz => absurd hz List.not_mem_nil, by decide, by decide, List.mem_of_getElem? (i := 1) rfl, fun A U H h => (hxt A U H h).1.2.2.1 _ List.mem_cons_self, fun q => ?_⟩
    refine hj_astore_n (F _) (lv' := [(3, _), (0, _), (1, _), (2, _)]) dL_go_12 rfl (by decide) rfl ?_
    refine hj_iconst (F _) (v := 1) dL_go_13 (by decide) ?_
    exact ret (by decide) (by decide) dL_go_14 (Or.inr (Or.inl ⟨rfl, hE, rfl, rfl, rfl⟩))
  · refine hj_i2l (F _) dL_go_7 ?_
    refine hj_out F dL_go_8 ?_
    refine hj_goto (F _) 15 dL_go_9 (by decide) ?_
    refine hj_iconst (F _) (v := 0) dL_go_15 (by decide) ?_
    exact ret (by decide) (by decide) dL_go_16 (Or.inl ⟨rfl, r, hp, rfl⟩)
set_option maxHeartbeats 4000000 in
set_option maxRecDepth 100000 in
theorem k_L_wait (hok : hw_XOK X) (hlt : l.stackTraces = false) (hxt : ∀ A U H, X A U H → xt A U H) {x : Int32} : hw_Hi l D ad t qo X yL_wait wsL_wait (hw_rx 7 1) 1 [.ref (ad 0), .int x, .ref qo] g a c vo (hw_hp g a c (fun r g' a' c' => ¬ (x < 0 ∨ 10000 < x ∨ 1000000 < g 2 + x) ∧ r = g 2 + x ∧ g' = upd (upd g 2 (g 2 + x)) 6 0 ∧ a' = a ∧ c' = c) ((x < 0 ∨ 10000 < x ∨ 1000000 < g 2 + x)) (False)) := by
  refine hw_Hi.mk (lv0 := [(0, _), (1, _), (2, _)]) (by decide) rfl (Nat.le_of_ble_eq_true rfl) rfl hok (fun K F htab ret => ?_)
  have F : ∀ v, hw_F K l D (HW ad t qo v) (hw_TL t) X cL_wait RL wsL_wait (hw_rx 7 1) 4 := F
  refine hj_aload_n (F _) 2 dL_wait_0 rfl rfl ?_
  refine hj_iconst (F _) (v := 0) dL_wait_1 (by decide) ?_
  refine hj_aload_n (F _) 0 dL_wait_2 rfl rfl ?_
  refine hj_iload_n (F _) 1 dL_wait_3 rfl rfl ?_
  refine hj_hx F htab (n := 1) (k_X_wait hok hlt hxt) gL_wait_X3_wait rfl ⟨rfl, rfl⟩ (by decide +kernel) ⟨by decide, by decide⟩ (As := [_]) rfl rfl (Nat.le_of_ble_eq_true rfl) ⟨by decide, by decide⟩ dL_wait_4 (fun E hE => ?_) (fun r g' a' c' hp => ?_)
  · obtain ⟨rfl, hE⟩ := hE
    refine ⟨[], ⟨0, 9, 12, 13⟩, [], "java/lang/IllegalArgumentException", rfl, fun z hz => absurd hz List.not_mem_nil, by decide, by decide, List.mem_of_getElem? (i := 1) rfl, fun A U H h => (hxt A U H h).1.1 _ List.mem_cons_self, fun q => ?_⟩
    refine hj_astore_n (F _) (lv' := [(3, _), (0, _), (1, _), (2, _)]) dL_wait_12 rfl (by decide) rfl ?_
    refine hj_iconst (F _) (v := 1) dL_wait_13 (by decide) ?_
    exact ret (by decide) (by decide) dL_wait_14 (Or.inr (Or.inl ⟨rfl, hE, rfl, rfl, rfl⟩))
  · refine hj_i2l (F _) dL_wait_7 ?_
    refine hj_out F dL_wait_8 ?_
    refine hj_goto (F _) 15 dL_wait_9 (by decide) ?_
    refine hj_iconst (F _) (v := 0) dL_wait_15 (by decide) ?_
    exact ret (by decide) (by decide) dL_wait_16 (Or.inl ⟨rfl, r, hp, rfl⟩)
set_option maxHeartbeats 4000000 in
set_option maxRecDepth 100000 in
theorem k_L_fit (hok : hw_XOK X) (hlt : l.stackTraces = false) (hxt : ∀ A U H, X A U H → xt A U H) {N : Nat} (h1 : g 1 = nI N) (hN : N ≤ 60) {x v : Int32} (hrow : ∀ o, o < N → ub (a (100 + o) 0) 9) (hnc : ∀ A U H, X A U H → va_Nc "java/lang/IllegalArgumentException" "java/lang/IndexOutOfBoundsException" U) : hw_Hi l D ad t qo X yL_fit wsL_fit (hw_rx 8 2) 2 [.ref (ad 0), .int x, .int v, .ref qo] g a c vo (hw_hp g a c (fun r g' a' c' => g' = g ∧ c' = c ∧ ¬ (v < -2 ∨ 2 < v) ∧ ∃ o, o < N ∧ x = nI o ∧ (if ¬ a (100 + o) 9 = -1 ∧ a (100 + o) 10 ≤ g 2 then (if a (100 + o) 12 = 0 then r = 1 ∧ a' = ft_a a o (a (100 + o) 0).toNatClampNeg v else r = 0 ∧ a' = a) else r = -1 ∧ a' = a)) ((x < 0 ∨ nI N ≤ x)) (¬ (x < 0 ∨ nI N ≤ x) ∧ (v < -2 ∨ 2 < v))) := by
  refine hw_Hi.mk (lv0 := [(0, _), (1, _), (2, _), (3, _)]) (by decide) rfl (Nat.le_of_ble_eq_true rfl) rfl hok (fun K F htab ret => ?_)
  have F : ∀ v, hw_F K l D (HW ad t qo v) (hw_TL t) X cL_fit RL wsL_fit (hw_rx 8 2) 5 := F
  refine hj_aload_n (F _) 3 dL_fit_0 rfl rfl ?_
  refine hj_iconst (F _) (v := 0) dL_fit_1 (by decide) ?_
  refine hj_aload_n (F _) 0 dL_fit_2 rfl rfl ?_
  refine hj_iload_n (F _) 1 dL_fit_3 rfl rfl ?_
  refine hj_iload_n (F _) 2 dL_fit_4 rfl rfl ?_
  refine hj_hx F htab (n := 2) (k_X_fit hok hlt hxt h1 hN hrow) gL_fit_X3_fit rfl ⟨rfl, rfl⟩ (by decide +kernel) ⟨by decide, by decide⟩ (As := [_, _]) rfl rfl (Nat.le_of_ble_eq_true rfl) ⟨by decide, by decide⟩ dL_fit_5 (fun E hE => ?_) (fun r g' a' c' hp => ?_)
  · rcases hE with ⟨rfl, hE⟩ | ⟨rfl, hE⟩
    · refine ⟨[], ⟨0, 10, 13, 29⟩, [⟨0, 10, 17, 13⟩], "java/lang/IndexOutOfBoundsException", rfl, fun z hz => absurd hz List.not_mem_nil, by decide, by decide, List.mem_of_getElem? (i := 1) rfl, fun A U H h => (hxt A U H h).1.2.2.1 _ List.mem_cons_self, fun q => ?_⟩
      refine hj_astore (F _) (lv' := [(4, _), (0, _), (1, _), (2, _), (3, _)]) dL_fit_13 (by decide) rfl ?_
      refine hj_iconst (F _) (v := 1) dL_fit_15 (by decide) ?_
      exact ret (by decide) (by decide) dL_fit_16 (Or.inr (Or.inl ⟨rfl, hE, rfl, rfl, rfl⟩))
    · refine ⟨[⟨0, 10, 13, 29⟩], ⟨0, 10, 17, 13⟩, [], "java/lang/IllegalArgumentException", rfl, fun z hz => by
      rcases List.mem_cons.mp hz with rfl | hz
      · exact ⟨by decide, "java/lang/IndexOutOfBoundsException", List.mem_of_getElem? (i := 1) rfl, hnc⟩
      · exact absurd hz List.not_mem_nil, by decide, by decide, List.mem_of_getElem? (i := 2) rfl, fun A U H h => (hxt A U H h).1.1 _ List.mem_cons_self, fun q => ?_⟩
      refine hj_astore (F _) (lv' := [(4, _), (0, _), (1, _), (2, _), (3, _)]) dL_fit_17 (by decide) rfl ?_
      refine hj_iconst (F _) (v := 2) dL_fit_19 (by decide) ?_
      exact ret (by decide) (by decide) dL_fit_20 (Or.inr (Or.inr ⟨rfl, hE, rfl, rfl, rfl⟩))
  · refine hj_i2l (F _) dL_fit_8 ?_
    refine hj_out F dL_fit_9 ?_
    refine hj_goto (F _) 21 dL_fit_10 (by decide) ?_
    refine hj_iconst (F _) (v := 0) dL_fit_21 (by decide) ?_
    exact ret (by decide) (by decide) dL_fit_22 (Or.inl ⟨rfl, r, hp, rfl⟩)
set_option maxHeartbeats 4000000 in
set_option maxRecDepth 100000 in
theorem k_L_wear (hok : hw_XOK X) (hlt : l.stackTraces = false) (hxt : ∀ A U H, X A U H → xt A U H) {B : Nat} (h12 : g 12 = nI B) (hB : B ≤ 10) {x w : Int32} (hnc : ∀ A U H, X A U H → va_Nc "java/lang/IllegalArgumentException" "java/lang/IndexOutOfBoundsException" U) : hw_Hi l D ad t qo X yL_wear wsL_wear (hw_rx 8 2) 2 [.ref (ad 0), .int x, .int w, .ref qo] g a c vo (hw_hp g a c (fun r g' a' c' => g' = g ∧ a' = a ∧ c' = c ∧ ∃ b j, b < B ∧ x = nI b ∧ j < 3 ∧ w = nI j ∧ r = a (300 + b) j) ((x < 0 ∨ nI B ≤ x)) (¬ (x < 0 ∨ nI B ≤ x) ∧ (w < 0 ∨ 2 < w))) := by
  refine hw_Hi.mk (lv0 := [(0, _), (1, _), (2, _), (3, _)]) (by decide) rfl (Nat.le_of_ble_eq_true rfl) rfl hok (fun K F htab ret => ?_)
  have F : ∀ v, hw_F K l D (HW ad t qo v) (hw_TL t) X cL_wear RL wsL_wear (hw_rx 8 2) 5 := F
  refine hj_aload_n (F _) 3 dL_wear_0 rfl rfl ?_
  refine hj_iconst (F _) (v := 0) dL_wear_1 (by decide) ?_
  refine hj_aload_n (F _) 0 dL_wear_2 rfl rfl ?_
  refine hj_iload_n (F _) 1 dL_wear_3 rfl rfl ?_
  refine hj_iload_n (F _) 2 dL_wear_4 rfl rfl ?_
  refine hj_hx F htab (n := 2) (k_X_wear hok hlt hxt h12 hB) gL_wear_X3_wear rfl ⟨rfl, rfl⟩ (by decide +kernel) ⟨by decide, by decide⟩ (As := [_, _]) rfl rfl (Nat.le_of_ble_eq_true rfl) ⟨by decide, by decide⟩ dL_wear_5 (fun E hE => ?_) (fun r g' a' c' hp => ?_)
  · rcases hE with ⟨rfl, hE⟩ | ⟨rfl, hE⟩
    · refine ⟨[], ⟨0, 10, 13, 29⟩, [⟨0, 10, 17, 13⟩], "java/lang/IndexOutOfBoundsException", rfl, fun z hz => absurd hz List.not_mem_nil, by decide, by decide, List.mem_of_getElem? (i := 1) rfl, fun A U H h => (hxt A U H h).1.2.2.1 _ List.mem_cons_self, fun q => ?_⟩
      refine hj_astore (F _) (lv' := [(4, _), (0, _), (1, _), (2, _), (3, _)]) dL_wear_13 (by decide) rfl ?_
      refine hj_iconst (F _) (v := 1) dL_wear_15 (by decide) ?_
      exact ret (by decide) (by decide) dL_wear_16 (Or.inr (Or.inl ⟨rfl, hE, rfl, rfl, rfl⟩))
    · refine ⟨[⟨0, 10, 13, 29⟩], ⟨0, 10, 17, 13⟩, [], "java/lang/IllegalArgumentException", rfl, fun z hz => by
      rcases List.mem_cons.mp hz with rfl | hz
      · exact ⟨by decide, "java/lang/IndexOutOfBoundsException", List.mem_of_getElem? (i := 1) rfl, hnc⟩
      · exact absurd hz List.not_mem_nil, by decide, by decide, List.mem_of_getElem? (i := 2) rfl, fun A U H h => (hxt A U H h).1.1 _ List.mem_cons_self, fun q => ?_⟩
      refine hj_astore (F _) (lv' := [(4, _), (0, _), (1, _), (2, _), (3, _)]) dL_wear_17 (by decide) rfl ?_
      refine hj_iconst (F _) (v := 2) dL_wear_19 (by decide) ?_
      exact ret (by decide) (by decide) dL_wear_20 (Or.inr (Or.inr ⟨rfl, hE, rfl, rfl, rfl⟩))
  · refine hj_i2l (F _) dL_wear_8 ?_
    refine hj_out F dL_wear_9 ?_
    refine hj_goto (F _) 21 dL_wear_10 (by decide) ?_
    refine hj_iconst (F _) (v := 0) dL_wear_21 (by decide) ?_
    exact ret (by decide) (by decide) dL_wear_22 (Or.inl ⟨rfl, r, hp, rfl⟩)
end SHELP
