section SSTEPN
theorem sc_in {i k L : Nat} {z : Int32} (hk : k < 6) (hi : i + 6 ≤ L) (hL : L ≤ 3072) (hz : z = nI k := by rfl) : vp_in (nI i + z) L := by
  rw [hz, nI_add]
  exact vp_in_nI (by omega) (by omega)
theorem ix_n {o N : Nat} (h : o < N) (hN : N < 2 ^ 31) : ¬ (nI o < 0 ∨ nI N ≤ nI o) := fun z => z.elim (nI_pos (by omega)) (fun z => by rw [nI_leI (by omega) (by omega)] at z; omega)
theorem ix_l {o N : Nat} (h : o < N + 1) (hN : N + 1 < 2 ^ 31) : ¬ (nI o < 0 ∨ nI N < nI o) := fun z => z.elim (nI_pos (by omega)) (fun z => by rw [nI_ltI (by omega) (by omega)] at z; omega)
theorem lc_rf (x : Int64) : lg_cmp x x = 0 := by
  unfold lg_cmp
  rw [if_neg (fun z => Int64.lt_irrefl z), if_pos rfl]
variable {K : hw_K} {l : Launch} {D : va_G} {ad ad2 : Nat → Nat} {t : Nat → ClassId} {qo : Nat} {τ : Nat → Nat} {kc ks : Nat} {g : hw_G} {a : hw_A} {c : Int64} {h : hw_G} {b : hw_A} {e : Int64} {v : Nat → Int64} {bs L : Nat} {xs : Nat → Int32} {i j : Nat}
set_option maxHeartbeats 4000000 in
set_option maxRecDepth 100000 in
theorem st_feed (F : ∀ h b e v, hw_F K l D (LW ad ad2 t qo h b e v) (hw_TL t) (Xl τ) code RL wsL_law room_1 7) (S : hw_SC K bs L xs) (hlt : l.stackTraces = false) (hi : i + 6 ≤ L) (hL : L ≤ 3072) (hj : j < 512) (R : Rel j g a c h b) (hkc : kc + 2 ≤ 601024) (hks : ks + 12 ≤ 7293034) (nx : ∀ {kc' ks' : Nat} {g' : hw_G} {a' : hw_A} {c' : Int64} {h' : hw_G} {b' : hw_A} {e' : Int64} {v' : Nat → Int64}, kc' ≤ kc + 2 → ks' ≤ ks + 12 → Rel (j + 1) g' a' c' h' b' → hw_J K (LW ad ad2 t qo h' b' e' v') kc' ks' g' a' c' [(4, .int (nI i)), (3, .ref qo), (2, .ref (ad2 0)), (1, .ref (ad 0)), (0, .ref bs)] 872 []) : hw_J K (LW ad ad2 t qo h b e v) kc ks g a c [(4, .int (nI i)), (3, .ref qo), (2, .ref (ad2 0)), (1, .ref (ad 0)), (0, .ref bs)] 220 [] := by
  obtain ⟨n, B, O, T, R1, R2, R3, R4, R5, R6⟩ := id R
  have hxt : ∀ A U H, Xl τ A U H → xt A U H := fun A U H h => h.2.2.2.2.1
  refine hj_aload_n (F _ _ _ _) 3 dL_law_220 rfl rfl ?_
  refine hj_aload_n (F _ _ _ _) 4 dL_law_221 rfl rfl ?_
  refine hj_iload (F _ _ _ _) 0 dL_law_222 rfl ?_
  refine hj_iconst (F _ _ _ _) (v := 1) dL_law_224 (by decide) ?_
  refine hj_iadd (F _ _ _ _) dL_law_225 ?_
  refine hj_sld (F _ _ _ _) S (sc_in (k := 1) (by decide) hi hL) dL_law_226 ?_
  refine hj_aload_n (F _ _ _ _) 4 dL_law_227 rfl rfl ?_
  refine hj_iload (F _ _ _ _) 0 dL_law_228 rfl ?_
  refine hj_iconst (F _ _ _ _) (v := 2) dL_law_230 (by decide) ?_
  refine hj_iadd (F _ _ _ _) dL_law_231 ?_
  refine hj_sld (F _ _ _ _) S (sc_in (k := 2) (by decide) hi hL) dL_law_232 ?_
  refine hj_aload_n (F _ _ _ _) 4 dL_law_233 rfl rfl ?_
  refine hj_iload (F _ _ _ _) 0 dL_law_234 rfl ?_
  refine hj_iconst (F _ _ _ _) (v := 3) dL_law_236 (by decide) ?_
  refine hj_iadd (F _ _ _ _) dL_law_237 ?_
  refine hj_sld (F _ _ _ _) S (sc_in (k := 3) (by decide) hi hL) dL_law_238 ?_
  refine hj_aload_n (F _ _ _ _) 4 dL_law_239 rfl rfl ?_
  refine hj_iload (F _ _ _ _) 0 dL_law_240 rfl ?_
  refine hj_iconst (F _ _ _ _) (v := 4) dL_law_242 (by decide) ?_
  refine hj_iadd (F _ _ _ _) dL_law_243 ?_
  refine hj_sld (F _ _ _ _) S (sc_in (k := 4) (by decide) hi hL) dL_law_244 ?_
  refine hj_aload_n (F _ _ _ _) 4 dL_law_245 rfl rfl ?_
  refine hj_iload (F _ _ _ _) 0 dL_law_246 rfl ?_
  refine hj_iconst (F _ _ _ _) (v := 5) dL_law_248 (by decide) ?_
  refine hj_iadd (F _ _ _ _) dL_law_249 ?_
  refine hj_sld (F _ _ _ _) S (sc_in (k := 5) (by decide) hi hL) dL_law_250 ?_
  refine hj_HVi F (n := 5) (k_X_feed (Xl_ok τ) R3.1 R3.2.2.1) gL_law_X3_feed rfl ⟨rfl, rfl⟩ (by decide +kernel) ⟨by decide, by decide⟩ (As := [_, _, _, _, _]) rfl rfl (Nat.le_of_ble_eq_true rfl) ⟨by show kc ≤ 601024; omega, by show ks ≤ 7293034; omega⟩ dL_law_251 (fun r g1 a1 c1 hp => ?_)
  refine hj_aload_n (F _ _ _ _) 2 dL_law_254 rfl rfl ?_
  refine hj_aload_n (F _ _ _ _) 4 dL_law_255 rfl rfl ?_
  refine hj_iload (F _ _ _ _) 0 dL_law_256 rfl ?_
  refine hj_iconst (F _ _ _ _) (v := 1) dL_law_258 (by decide) ?_
  refine hj_iadd (F _ _ _ _) dL_law_259 ?_
  refine hj_sld (F _ _ _ _) S (sc_in (k := 1) (by decide) hi hL) dL_law_260 ?_
  refine hj_aload_n (F _ _ _ _) 4 dL_law_261 rfl rfl ?_
  refine hj_iload (F _ _ _ _) 0 dL_law_262 rfl ?_
  refine hj_iconst (F _ _ _ _) (v := 2) dL_law_264 (by decide) ?_
  refine hj_iadd (F _ _ _ _) dL_law_265 ?_
  refine hj_sld (F _ _ _ _) S (sc_in (k := 2) (by decide) hi hL) dL_law_266 ?_
  refine hj_aload_n (F _ _ _ _) 4 dL_law_267 rfl rfl ?_
  refine hj_iload (F _ _ _ _) 0 dL_law_268 rfl ?_
  refine hj_iconst (F _ _ _ _) (v := 3) dL_law_270 (by decide) ?_
  refine hj_iadd (F _ _ _ _) dL_law_271 ?_
  refine hj_sld (F _ _ _ _) S (sc_in (k := 3) (by decide) hi hL) dL_law_272 ?_
  refine hj_aload_n (F _ _ _ _) 4 dL_law_273 rfl rfl ?_
  refine hj_iload (F _ _ _ _) 0 dL_law_274 rfl ?_
  refine hj_iconst (F _ _ _ _) (v := 4) dL_law_276 (by decide) ?_
  refine hj_iadd (F _ _ _ _) dL_law_277 ?_
  refine hj_sld (F _ _ _ _) S (sc_in (k := 4) (by decide) hi hL) dL_law_278 ?_
  refine hj_aload_n (F _ _ _ _) 4 dL_law_279 rfl rfl ?_
  refine hj_iload (F _ _ _ _) 0 dL_law_280 rfl ?_
  refine hj_iconst (F _ _ _ _) (v := 5) dL_law_282 (by decide) ?_
  refine hj_iadd (F _ _ _ _) dL_law_283 ?_
  refine hj_sld (F _ _ _ _) S (sc_in (k := 5) (by decide) hi hL) dL_law_284 ?_
  refine hj_MVi F (n := 5) (k_M_feed (Xl_ok τ) R3.2.1 R3.2.2.1) gL_law_X4_feed rfl ⟨rfl, rfl⟩ (by decide +kernel) ⟨by decide, by decide⟩ (As := [_, _, _, _, _]) rfl rfl (Nat.le_of_ble_eq_true rfl) ⟨by show kc ≤ 601024; omega, by show ks ≤ 7293034; omega⟩ dL_law_285 (fun r' h1 b1 e1 hq => ?_)
  obtain ⟨f1, f3⟩ := r_feed (i := j + 1) R1 R2 R3 R4 R5 R6 (by omega) hp hq
  refine hj_icmp_eq (F _ _ _ _) 872 dL_law_288 (by decide) (fun q => ?_) (fun q => absurd f1 q)
  exact nx (by omega) (by omega) f3
set_option maxHeartbeats 4000000 in
set_option maxRecDepth 100000 in
theorem st_fault (F : ∀ h b e v, hw_F K l D (LW ad ad2 t qo h b e v) (hw_TL t) (Xl τ) code RL wsL_law room_1 7) (S : hw_SC K bs L xs) (hlt : l.stackTraces = false) (hi : i + 6 ≤ L) (hL : L ≤ 3072) (hj : j < 512) (R : Rel j g a c h b) (hkc : kc + 2 ≤ 601024) (hks : ks + 12 ≤ 7293034) (nx : ∀ {kc' ks' : Nat} {g' : hw_G} {a' : hw_A} {c' : Int64} {h' : hw_G} {b' : hw_A} {e' : Int64} {v' : Nat → Int64}, kc' ≤ kc + 2 → ks' ≤ ks + 12 → Rel (j + 1) g' a' c' h' b' → hw_J K (LW ad ad2 t qo h' b' e' v') kc' ks' g' a' c' [(4, .int (nI i)), (3, .ref qo), (2, .ref (ad2 0)), (1, .ref (ad 0)), (0, .ref bs)] 872 []) : hw_J K (LW ad ad2 t qo h b e v) kc ks g a c [(4, .int (nI i)), (3, .ref qo), (2, .ref (ad2 0)), (1, .ref (ad 0)), (0, .ref bs)] 373 [] := by
  obtain ⟨n, B, O, T, R1, R2, R3, R4, R5, R6⟩ := id R
  have hxt : ∀ A U H, Xl τ A U H → xt A U H := fun A U H h => h.2.2.2.2.1
  refine hj_aload_n (F _ _ _ _) 3 dL_law_373 rfl rfl ?_
  refine hj_HVi F (n := 0) (k_X_fault (Xl_ok τ) ) gL_law_X3_fault rfl ⟨rfl, rfl⟩ (by decide +kernel) ⟨by decide, by decide⟩ (As := []) rfl rfl (Nat.le_of_ble_eq_true rfl) ⟨by show kc ≤ 601024; omega, by show ks ≤ 7293034; omega⟩ dL_law_374 (fun r g1 a1 c1 hp => ?_)
  refine hj_aload_n (F _ _ _ _) 2 dL_law_377 rfl rfl ?_
  refine hj_MVi F (n := 0) (k_M_fault (Xl_ok τ) ) gL_law_X4_fault rfl ⟨rfl, rfl⟩ (by decide +kernel) ⟨by decide, by decide⟩ (As := []) rfl rfl (Nat.le_of_ble_eq_true rfl) ⟨by show kc ≤ 601024; omega, by show ks ≤ 7293034; omega⟩ dL_law_378 (fun r' h1 b1 e1 hq => ?_)
  obtain ⟨rfl, rfl, rfl, rfl⟩ := hp
  obtain ⟨rfl, rfl, rfl, rfl⟩ := hq
  have f1 := R3.2.2.2.2.2
  have f3 := Rel_t (x := 0) R
  refine hj_icmp_eq (F _ _ _ _) 872 dL_law_381 (by decide) (fun q => ?_) (fun q => absurd f1 q)
  exact nx (by omega) (by omega) f3
set_option maxHeartbeats 4000000 in
set_option maxRecDepth 100000 in
theorem st_plan (F : ∀ h b e v, hw_F K l D (LW ad ad2 t qo h b e v) (hw_TL t) (Xl τ) code RL wsL_law room_1 7) (S : hw_SC K bs L xs) (hlt : l.stackTraces = false) (hi : i + 6 ≤ L) (hL : L ≤ 3072) (hj : j < 512) (R : Rel j g a c h b) (hkc : kc + 2 ≤ 601024) (hks : ks + 12 ≤ 7293034) (nx : ∀ {kc' ks' : Nat} {g' : hw_G} {a' : hw_A} {c' : Int64} {h' : hw_G} {b' : hw_A} {e' : Int64} {v' : Nat → Int64}, kc' ≤ kc + 2 → ks' ≤ ks + 12 → Rel (j + 1) g' a' c' h' b' → hw_J K (LW ad ad2 t qo h' b' e' v') kc' ks' g' a' c' [(4, .int (nI i)), (3, .ref qo), (2, .ref (ad2 0)), (1, .ref (ad 0)), (0, .ref bs)] 872 []) : hw_J K (LW ad ad2 t qo h b e v) kc ks g a c [(4, .int (nI i)), (3, .ref qo), (2, .ref (ad2 0)), (1, .ref (ad 0)), (0, .ref bs)] 634 [] := by
  obtain ⟨n, B, O, T, R1, R2, R3, R4, R5, R6⟩ := id R
  have hxt : ∀ A U H, Xl τ A U H → xt A U H := fun A U H h => h.2.2.2.2.1
  have hsn : ∀ A U H, Xl τ A U H → va_Nw (.methodLinkNest RX1 67 yX3_startOf RX3) U := fun A U H h => h.2.2.2.2.2.1
  refine hj_aload_n (F _ _ _ _) 3 dL_law_634 rfl rfl ?_
  refine hj_HVl F (n := 0) (k_X_plan (Xl_ok τ) hsn (r_DT R4 R5 (by omega)) R6) gL_law_X3_plan rfl ⟨rfl, rfl⟩ (by decide +kernel) ⟨by decide, by decide⟩ (As := []) rfl rfl (Nat.le_of_ble_eq_true rfl) ⟨by show kc ≤ 601024; omega, by show ks ≤ 7293034; omega⟩ dL_law_635 (fun r g1 a1 c1 hp => ?_)
  refine hj_aload_n (F _ _ _ _) 2 dL_law_638 rfl rfl ?_
  refine hj_MVl F (n := 0) (k_M_plan (Xl_ok τ) (r_DM R2 R4 R5 (by omega))) gL_law_X4_plan rfl ⟨rfl, rfl⟩ (by decide +kernel) ⟨by decide, by decide⟩ (As := []) rfl rfl (Nat.le_of_ble_eq_true rfl) ⟨by show kc ≤ 601024; omega, by show ks ≤ 7293034; omega⟩ dL_law_639 (fun r' h1 b1 e1 hq => ?_)
  have f1 := r_plan R4 R5 hp hq
  have z := r_best R1 R2 R3 R4 R5 hp.2 hq.2
  have f3 : Rel (j + 1) g1 a1 c1 h1 b1 := ⟨n, B, O, T, z.2.1, z.2.2.1, z.2.2.2.1, RN_m (by omega) z.2.2.2.2.1, z.2.2.2.2.2.1, z.2.2.2.2.2.2⟩
  refine hj_lcmp (F _ _ _ _) dL_law_642 ?_
  refine hj_if_eq (F _ _ _ _) 872 dL_law_643 (by decide) (fun _ => ?_) (fun q => absurd (by rw [f1]; exact lc_rf _) q)
  exact nx (by omega) (by omega) f3
set_option maxHeartbeats 4000000 in
set_option maxRecDepth 100000 in
theorem st_planned (F : ∀ h b e v, hw_F K l D (LW ad ad2 t qo h b e v) (hw_TL t) (Xl τ) code RL wsL_law room_1 7) (S : hw_SC K bs L xs) (hlt : l.stackTraces = false) (hi : i + 6 ≤ L) (hL : L ≤ 3072) (hj : j < 512) (R : Rel j g a c h b) (hkc : kc + 2 ≤ 601024) (hks : ks + 12 ≤ 7293034) (nx : ∀ {kc' ks' : Nat} {g' : hw_G} {a' : hw_A} {c' : Int64} {h' : hw_G} {b' : hw_A} {e' : Int64} {v' : Nat → Int64}, kc' ≤ kc + 2 → ks' ≤ ks + 12 → Rel (j + 1) g' a' c' h' b' → hw_J K (LW ad ad2 t qo h' b' e' v') kc' ks' g' a' c' [(4, .int (nI i)), (3, .ref qo), (2, .ref (ad2 0)), (1, .ref (ad 0)), (0, .ref bs)] 872 []) : hw_J K (LW ad ad2 t qo h b e v) kc ks g a c [(4, .int (nI i)), (3, .ref qo), (2, .ref (ad2 0)), (1, .ref (ad 0)), (0, .ref bs)] 648 [] := by
  obtain ⟨n, B, O, T, R1, R2, R3, R4, R5, R6⟩ := id R
  have hxt : ∀ A U H, Xl τ A U H → xt A U H := fun A U H h => h.2.2.2.2.1
  have hsn : ∀ A U H, Xl τ A U H → va_Nw (.methodLinkNest RX1 67 yX3_startOf RX3) U := fun A U H h => h.2.2.2.2.2.1
  obtain ⟨qq, hqq⟩ := mF_some h b O
  refine hj_aload_n (F _ _ _ _) 3 dL_law_648 rfl rfl ?_
  refine hj_aload_n (F _ _ _ _) 4 dL_law_649 rfl rfl ?_
  refine hj_iload (F _ _ _ _) 0 dL_law_650 rfl ?_
  refine hj_iconst (F _ _ _ _) (v := 1) dL_law_652 (by decide) ?_
  refine hj_iadd (F _ _ _ _) dL_law_653 ?_
  refine hj_sld (F _ _ _ _) S (sc_in (k := 1) (by decide) hi hL) dL_law_654 ?_
  refine hj_HVi F (n := 1) (k_X_planned (Xl_ok τ) hsn (r_DT R4 R5 (by omega)) R6) gL_law_X3_planned rfl ⟨rfl, rfl⟩ (by decide +kernel) ⟨by decide, by decide⟩ (As := [_]) rfl rfl (Nat.le_of_ble_eq_true rfl) ⟨by show kc ≤ 601024; omega, by show ks ≤ 7293034; omega⟩ dL_law_655 (fun r g1 a1 c1 hp => ?_)
  refine hj_aload_n (F _ _ _ _) 2 dL_law_658 rfl rfl ?_
  refine hj_aload_n (F _ _ _ _) 4 dL_law_659 rfl rfl ?_
  refine hj_iload (F _ _ _ _) 0 dL_law_660 rfl ?_
  refine hj_iconst (F _ _ _ _) (v := 1) dL_law_662 (by decide) ?_
  refine hj_iadd (F _ _ _ _) dL_law_663 ?_
  refine hj_sld (F _ _ _ _) S (sc_in (k := 1) (by decide) hi hL) dL_law_664 ?_
  refine hj_MVi F (n := 1) (k_M_planned (Xl_ok τ) (r_DM R2 R4 R5 (by omega)) hqq) gL_law_X4_planned rfl ⟨rfl, rfl⟩ (by decide +kernel) ⟨by decide, by decide⟩ (As := [_]) rfl rfl (Nat.le_of_ble_eq_true rfl) ⟨by show kc ≤ 601024; omega, by show ks ≤ 7293034; omega⟩ dL_law_665 (fun r' h1 b1 e1 hq => ?_)
  have f1 := r_planned R4 R5 hqq hp hq
  have z := r_best R1 R2 R3 R4 R5 hp.2 hq.2
  have f3 : Rel (j + 1) g1 a1 c1 h1 b1 := ⟨n, B, O, T, z.2.1, z.2.2.1, z.2.2.2.1, RN_m (by omega) z.2.2.2.2.1, z.2.2.2.2.2.1, z.2.2.2.2.2.2⟩
  refine hj_icmp_eq (F _ _ _ _) 872 dL_law_668 (by decide) (fun q => ?_) (fun q => absurd f1 q)
  exact nx (by omega) (by omega) f3
set_option maxHeartbeats 4000000 in
set_option maxRecDepth 100000 in
theorem st_run (F : ∀ h b e v, hw_F K l D (LW ad ad2 t qo h b e v) (hw_TL t) (Xl τ) code RL wsL_law room_1 7) (S : hw_SC K bs L xs) (hlt : l.stackTraces = false) (hi : i + 6 ≤ L) (hL : L ≤ 3072) (hj : j < 512) (R : Rel j g a c h b) (hkc : kc + 2 ≤ 601024) (hks : ks + 12 ≤ 7293034) (nx : ∀ {kc' ks' : Nat} {g' : hw_G} {a' : hw_A} {c' : Int64} {h' : hw_G} {b' : hw_A} {e' : Int64} {v' : Nat → Int64}, kc' ≤ kc + 2 → ks' ≤ ks + 12 → Rel (j + 1) g' a' c' h' b' → hw_J K (LW ad ad2 t qo h' b' e' v') kc' ks' g' a' c' [(4, .int (nI i)), (3, .ref qo), (2, .ref (ad2 0)), (1, .ref (ad 0)), (0, .ref bs)] 872 []) : hw_J K (LW ad ad2 t qo h b e v) kc ks g a c [(4, .int (nI i)), (3, .ref qo), (2, .ref (ad2 0)), (1, .ref (ad 0)), (0, .ref bs)] 673 [] := by
  obtain ⟨n, B, O, T, R1, R2, R3, R4, R5, R6⟩ := id R
  have hxt : ∀ A U H, Xl τ A U H → xt A U H := fun A U H h => h.2.2.2.2.1
  have hsn : ∀ A U H, Xl τ A U H → va_Nw (.methodLinkNest RX1 67 yX3_startOf RX3) U := fun A U H h => h.2.2.2.2.2.1
  obtain ⟨qq, hqq⟩ := mF_some h b O
  refine hj_aload_n (F _ _ _ _) 3 dL_law_673 rfl rfl ?_
  refine hj_HVi F (n := 0) (k_X_run (Xl_ok τ) hsn (r_DT R4 R5 (by omega)) R6) gL_law_X3_run rfl ⟨rfl, rfl⟩ (by decide +kernel) ⟨by decide, by decide⟩ (As := []) rfl rfl (Nat.le_of_ble_eq_true rfl) ⟨by show kc ≤ 601024; omega, by show ks ≤ 7293034; omega⟩ dL_law_674 (fun r g1 a1 c1 hp => ?_)
  refine hj_aload_n (F _ _ _ _) 2 dL_law_677 rfl rfl ?_
  refine hj_MVi F (n := 0) (k_M_run (Xl_ok τ) (r_DM R2 R4 R5 (by omega)) hqq) gL_law_X4_run rfl ⟨rfl, rfl⟩ (by decide +kernel) ⟨by decide, by decide⟩ (As := []) rfl rfl (Nat.le_of_ble_eq_true rfl) ⟨by show kc ≤ 601024; omega, by show ks ≤ 7293034; omega⟩ dL_law_678 (fun r' h1 b1 e1 hq => ?_)
  obtain ⟨x1, x2, x3, y1, y2, y3, y4, -⟩ := hq
  obtain ⟨-, f1, f3⟩ := r_run (i := j + 1) R1 R2 R3 R4 R5 (by omega) (by omega) (by omega) hqq hp ⟨x1, x2, x3, y1, y2, y3, y4⟩
  refine hj_icmp_eq (F _ _ _ _) 872 dL_law_681 (by decide) (fun q => ?_) (fun q => absurd f1 q)
  exact nx (by omega) (by omega) f3
set_option maxHeartbeats 4000000 in
set_option maxRecDepth 100000 in
theorem st_late (F : ∀ h b e v, hw_F K l D (LW ad ad2 t qo h b e v) (hw_TL t) (Xl τ) code RL wsL_law room_1 7) (S : hw_SC K bs L xs) (hlt : l.stackTraces = false) (hi : i + 6 ≤ L) (hL : L ≤ 3072) (hj : j < 512) (R : Rel j g a c h b) (hkc : kc + 2 ≤ 601024) (hks : ks + 12 ≤ 7293034) (nx : ∀ {kc' ks' : Nat} {g' : hw_G} {a' : hw_A} {c' : Int64} {h' : hw_G} {b' : hw_A} {e' : Int64} {v' : Nat → Int64}, kc' ≤ kc + 2 → ks' ≤ ks + 12 → Rel (j + 1) g' a' c' h' b' → hw_J K (LW ad ad2 t qo h' b' e' v') kc' ks' g' a' c' [(4, .int (nI i)), (3, .ref qo), (2, .ref (ad2 0)), (1, .ref (ad 0)), (0, .ref bs)] 872 []) : hw_J K (LW ad ad2 t qo h b e v) kc ks g a c [(4, .int (nI i)), (3, .ref qo), (2, .ref (ad2 0)), (1, .ref (ad 0)), (0, .ref bs)] 686 [] := by
  obtain ⟨n, B, O, T, R1, R2, R3, R4, R5, R6⟩ := id R
  have hxt : ∀ A U H, Xl τ A U H → xt A U H := fun A U H h => h.2.2.2.2.1
  refine hj_aload_n (F _ _ _ _) 3 dL_law_686 rfl rfl ?_
  refine hj_aload_n (F _ _ _ _) 4 dL_law_687 rfl rfl ?_
  refine hj_iload (F _ _ _ _) 0 dL_law_688 rfl ?_
  refine hj_iconst (F _ _ _ _) (v := 1) dL_law_690 (by decide) ?_
  refine hj_iadd (F _ _ _ _) dL_law_691 ?_
  refine hj_sld (F _ _ _ _) S (sc_in (k := 1) (by decide) hi hL) dL_law_692 ?_
  refine hj_HVi F (n := 1) (k_X_late (Xl_ok τ) R5.1 R5.2.2.1) gL_law_X3_late rfl ⟨rfl, rfl⟩ (by decide +kernel) ⟨by decide, by decide⟩ (As := [_]) rfl rfl (Nat.le_of_ble_eq_true rfl) ⟨by show kc ≤ 601024; omega, by show ks ≤ 7293034; omega⟩ dL_law_693 (fun r g1 a1 c1 hp => ?_)
  refine hj_aload_n (F _ _ _ _) 2 dL_law_696 rfl rfl ?_
  refine hj_aload_n (F _ _ _ _) 4 dL_law_697 rfl rfl ?_
  refine hj_iload (F _ _ _ _) 0 dL_law_698 rfl ?_
  refine hj_iconst (F _ _ _ _) (v := 1) dL_law_700 (by decide) ?_
  refine hj_iadd (F _ _ _ _) dL_law_701 ?_
  refine hj_sld (F _ _ _ _) S (sc_in (k := 1) (by decide) hi hL) dL_law_702 ?_
  refine hj_MVi F (n := 1) (k_M_late (Xl_ok τ) R5.2.1 R5.2.2.1) gL_law_X4_late rfl ⟨rfl, rfl⟩ (by decide +kernel) ⟨by decide, by decide⟩ (As := [_]) rfl rfl (Nat.le_of_ble_eq_true rfl) ⟨by show kc ≤ 601024; omega, by show ks ≤ 7293034; omega⟩ dL_law_703 (fun r' h1 b1 e1 hq => ?_)
  have f1 := r_late R4 R5 hp.1 hq.1
  obtain ⟨-, rfl, rfl, rfl⟩ := hp
  obtain ⟨-, rfl, rfl, rfl⟩ := hq
  have f3 := Rel_t (x := 0) R
  refine hj_icmp_eq (F _ _ _ _) 872 dL_law_706 (by decide) (fun q => ?_) (fun q => absurd f1 q)
  exact nx (by omega) (by omega) f3
set_option maxHeartbeats 4000000 in
set_option maxRecDepth 100000 in
theorem st_count (F : ∀ h b e v, hw_F K l D (LW ad ad2 t qo h b e v) (hw_TL t) (Xl τ) code RL wsL_law room_1 7) (S : hw_SC K bs L xs) (hlt : l.stackTraces = false) (hi : i + 6 ≤ L) (hL : L ≤ 3072) (hj : j < 512) (R : Rel j g a c h b) (hkc : kc + 2 ≤ 601024) (hks : ks + 12 ≤ 7293034) (nx : ∀ {kc' ks' : Nat} {g' : hw_G} {a' : hw_A} {c' : Int64} {h' : hw_G} {b' : hw_A} {e' : Int64} {v' : Nat → Int64}, kc' ≤ kc + 2 → ks' ≤ ks + 12 → Rel (j + 1) g' a' c' h' b' → hw_J K (LW ad ad2 t qo h' b' e' v') kc' ks' g' a' c' [(4, .int (nI i)), (3, .ref qo), (2, .ref (ad2 0)), (1, .ref (ad 0)), (0, .ref bs)] 872 []) : hw_J K (LW ad ad2 t qo h b e v) kc ks g a c [(4, .int (nI i)), (3, .ref qo), (2, .ref (ad2 0)), (1, .ref (ad 0)), (0, .ref bs)] 847 [] := by
  obtain ⟨n, B, O, T, R1, R2, R3, R4, R5, R6⟩ := id R
  have hxt : ∀ A U H, Xl τ A U H → xt A U H := fun A U H h => h.2.2.2.2.1
  refine hj_aload_n (F _ _ _ _) 3 dL_law_847 rfl rfl ?_
  refine hj_aload_n (F _ _ _ _) 4 dL_law_848 rfl rfl ?_
  refine hj_iload (F _ _ _ _) 0 dL_law_849 rfl ?_
  refine hj_iconst (F _ _ _ _) (v := 1) dL_law_851 (by decide) ?_
  refine hj_iadd (F _ _ _ _) dL_law_852 ?_
  refine hj_sld (F _ _ _ _) S (sc_in (k := 1) (by decide) hi hL) dL_law_853 ?_
  refine hj_HVi F (n := 1) (k_X_count (Xl_ok τ) R5.1 R5.2.2.1) gL_law_X3_count rfl ⟨rfl, rfl⟩ (by decide +kernel) ⟨by decide, by decide⟩ (As := [_]) rfl rfl (Nat.le_of_ble_eq_true rfl) ⟨by show kc ≤ 601024; omega, by show ks ≤ 7293034; omega⟩ dL_law_854 (fun r g1 a1 c1 hp => ?_)
  refine hj_aload_n (F _ _ _ _) 2 dL_law_857 rfl rfl ?_
  refine hj_aload_n (F _ _ _ _) 4 dL_law_858 rfl rfl ?_
  refine hj_iload (F _ _ _ _) 0 dL_law_859 rfl ?_
  refine hj_iconst (F _ _ _ _) (v := 1) dL_law_861 (by decide) ?_
  refine hj_iadd (F _ _ _ _) dL_law_862 ?_
  refine hj_sld (F _ _ _ _) S (sc_in (k := 1) (by decide) hi hL) dL_law_863 ?_
  refine hj_MVi F (n := 1) (k_M_count (Xl_ok τ) R5.2.1 R5.2.2.1) gL_law_X4_count rfl ⟨rfl, rfl⟩ (by decide +kernel) ⟨by decide, by decide⟩ (As := [_]) rfl rfl (Nat.le_of_ble_eq_true rfl) ⟨by show kc ≤ 601024; omega, by show ks ≤ 7293034; omega⟩ dL_law_864 (fun r' h1 b1 e1 hq => ?_)
  have f1 := r_count R1 R2 R3 R4 R5 hp.1 hq.1
  obtain ⟨-, rfl, rfl, rfl⟩ := hp
  obtain ⟨-, rfl, rfl, rfl⟩ := hq
  have f3 := Rel_t (x := 0) R
  refine hj_icmp_eq (F _ _ _ _) 872 dL_law_867 (by decide) (fun q => ?_) (fun q => absurd f1 q)
  exact nx (by omega) (by omega) f3
end SSTEPN
