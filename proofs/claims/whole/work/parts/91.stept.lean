section SSTEPT
variable {K : hw_K} {l : Launch} {D : va_G} {ad ad2 : Nat → Nat} {t : Nat → ClassId} {qo : Nat} {τ : Nat → Nat} {kc ks : Nat} {g : hw_G} {a : hw_A} {c : Int64} {h : hw_G} {b : hw_A} {e : Int64} {v : Nat → Int64} {bs L : Nat} {xs : Nat → Int32} {i j : Nat}
set_option maxHeartbeats 4000000 in
set_option maxRecDepth 100000 in
theorem st_push (F : ∀ h b e v, hw_F K l D (LW ad ad2 t qo h b e v) (hw_TL t) (Xl τ) code RL wsL_law room_1 7) (S : hw_SC K bs L xs) (hlt : l.stackTraces = false) (hi : i + 6 ≤ L) (hL : L ≤ 3072) (hj : j < 512) (R : Rel j g a c h b) (hkc : kc + 2 ≤ 601024) (hks : ks + 12 ≤ 7293034) (nx : ∀ {kc' ks' : Nat} {g' : hw_G} {a' : hw_A} {c' : Int64} {h' : hw_G} {b' : hw_A} {e' : Int64} {v' : Nat → Int64}, kc' ≤ kc + 2 → ks' ≤ ks + 12 → Rel (j + 1) g' a' c' h' b' → hw_J K (LW ad ad2 t qo h' b' e' v') kc' ks' g' a' c' [(4, .int (nI i)), (3, .ref qo), (2, .ref (ad2 0)), (1, .ref (ad 0)), (0, .ref bs)] 872 []) : hw_J K (LW ad ad2 t qo h b e v) kc ks g a c [(4, .int (nI i)), (3, .ref qo), (2, .ref (ad2 0)), (1, .ref (ad 0)), (0, .ref bs)] 120 [] := by
  obtain ⟨n, B, O, T, R1, R2, R3, R4, R5, R6⟩ := id R
  have hxt : ∀ A U H, Xl τ A U H → xt A U H := fun A U H h => h.2.2.2.2.1
  refine hj_aload_n (F _ _ _ _) 3 dL_law_120 rfl rfl ?_
  refine hj_aload_n (F _ _ _ _) 4 dL_law_121 rfl rfl ?_
  refine hj_iload (F _ _ _ _) 0 dL_law_122 rfl ?_
  refine hj_iconst (F _ _ _ _) (v := 1) dL_law_124 (by decide) ?_
  refine hj_iadd (F _ _ _ _) dL_law_125 ?_
  refine hj_sld (F _ _ _ _) S (sc_in (k := 1) (by decide) hi hL) dL_law_126 ?_
  refine hj_aload_n (F _ _ _ _) 1 dL_law_127 rfl rfl ?_
  refine hj_hS F (n := 3) (k_L_push (Xl_ok τ) hlt hxt R1.1 R1.2.2.1) gL_law_L_push rfl ⟨rfl, rfl⟩ (by decide +kernel) ⟨by decide, by decide⟩ (As := [_, _, _]) rfl rfl (Nat.le_of_ble_eq_true rfl) ⟨by show kc + 1 ≤ 601024; omega, by show ks + 6 * 1 ≤ 7293034; omega⟩ dL_law_128 (fun k g1 a1 c1 v1 hp => ?_)
  refine hj_istore (F _ _ _ _) (lv' := [(5, _), (4, _), (3, _), (2, _), (1, _), (0, _)]) dL_law_131 (by decide) rfl ?_
  refine hj_aload_n (F _ _ _ _) 3 dL_law_133 rfl rfl ?_
  refine hj_aload_n (F _ _ _ _) 5 dL_law_134 rfl rfl ?_
  refine hj_iload (F _ _ _ _) 1 dL_law_135 rfl ?_
  refine hj_iconst (F _ _ _ _) (v := 1) dL_law_137 (by decide) ?_
  refine hj_iadd (F _ _ _ _) dL_law_138 ?_
  refine hj_sld (F _ _ _ _) S (sc_in (k := 1) (by decide) hi hL) dL_law_139 ?_
  refine hj_MVi F (n := 1) (k_M_push (Xl_ok τ) R1.2.1 R1.2.2.1) gL_law_X4_push rfl ⟨rfl, rfl⟩ (by decide +kernel) ⟨by decide, by decide⟩ (As := [_]) rfl rfl (Nat.le_of_ble_eq_true rfl) ⟨by show kc + 1 ≤ 601024; omega, by show ks + 6 * 1 ≤ 7293034; omega⟩ dL_law_140 (fun r' h1 b1 e1 hq => ?_)
  refine hj_istore (F _ _ _ _) (lv' := [(6, _), (5, _), (4, _), (3, _), (2, _), (1, _), (0, _)]) dL_law_143 (by decide) rfl ?_
  refine hj_aload_n (F _ _ _ _) 4 dL_law_145 rfl rfl ?_
  refine hj_MVi F (n := 0) (k_M_thrown (Xl_ok τ)) gL_law_X4_thrown rfl ⟨rfl, rfl⟩ (by decide +kernel) ⟨by decide, by decide⟩ (As := []) rfl rfl (Nat.le_of_ble_eq_true rfl) ⟨by show kc + 1 ≤ 601024; omega, by show ks + 6 * 1 ≤ 7293034; omega⟩ dL_law_146 (hw_eq4 ?_)
  obtain ⟨f1, f2, f3⟩ : h1 0 = k ∧ (k = 0 → v1 0 = r'.toInt64) ∧ Rel (j + 1) g1 a1 c1 h1 b1 := by
    rcases hp with ⟨rfl, r0, p, hv⟩ | ⟨rfl, hB, rfl, rfl, rfl⟩ | ⟨_, hB, _⟩
    · obtain ⟨e1, e2, e3⟩ := r_push (i := j + 1) R1 R2 R3 R4 R5 R6 (by omega) p hq
      exact ⟨e1, fun _ => by rw [hv, e2], e3⟩
    · obtain ⟨-, hq⟩ := hq
      rw [if_pos hB] at hq
      obtain ⟨rfl, rfl⟩ := hq
      exact ⟨rfl, fun z => absurd z (by decide), Rel_t R⟩
    · exact hB.elim
  refine hj_iload (F _ _ _ _) 1 dL_law_149 rfl ?_
  refine hj_icmp_eq (F _ _ _ _) 156 dL_law_151 (by decide) (fun q => ?_) (fun q => absurd f1 q)
  refine hj_iload (F _ _ _ _) 1 dL_law_156 rfl ?_
  refine hj_if_ne (F _ _ _ _) 173 dL_law_158 (by decide) (fun q => ?_) (fun q => ?_)
  · refine hj_goto (F _ _ _ _) 872 dL_law_173 (by decide) ?_
    refine hj_lv [2, 3, 4, 5, 6] rfl ?_
    exact nx (by omega) (by omega) f3
  refine hj_aload_n (F _ _ _ _) 3 dL_law_161 rfl rfl ?_
  refine hj_iconst (F _ _ _ _) (v := 0) dL_law_162 (by decide) ?_
  refine hj_in0 F dL_law_163 ?_
  refine hj_iload (F _ _ _ _) 0 dL_law_164 rfl ?_
  refine hj_i2l (F _ _ _ _) dL_law_166 ?_
  refine hj_lcmp (F _ _ _ _) dL_law_167 ?_
  refine hj_if_eq (F _ _ _ _) 173 dL_law_168 (by decide) (fun _ => ?_) (fun z => absurd (by rw [f2 q]; exact lc_rf _) z)
  refine hj_goto (F _ _ _ _) 872 dL_law_173 (by decide) ?_
  refine hj_lv [2, 3, 4, 5, 6] rfl ?_
  exact nx (by omega) (by omega) f3
set_option maxHeartbeats 4000000 in
set_option maxRecDepth 100000 in
theorem st_block (F : ∀ h b e v, hw_F K l D (LW ad ad2 t qo h b e v) (hw_TL t) (Xl τ) code RL wsL_law room_1 7) (S : hw_SC K bs L xs) (hlt : l.stackTraces = false) (hi : i + 6 ≤ L) (hL : L ≤ 3072) (hj : j < 512) (R : Rel j g a c h b) (hkc : kc + 2 ≤ 601024) (hks : ks + 12 ≤ 7293034) (nx : ∀ {kc' ks' : Nat} {g' : hw_G} {a' : hw_A} {c' : Int64} {h' : hw_G} {b' : hw_A} {e' : Int64} {v' : Nat → Int64}, kc' ≤ kc + 2 → ks' ≤ ks + 12 → Rel (j + 1) g' a' c' h' b' → hw_J K (LW ad ad2 t qo h' b' e' v') kc' ks' g' a' c' [(4, .int (nI i)), (3, .ref qo), (2, .ref (ad2 0)), (1, .ref (ad 0)), (0, .ref bs)] 872 []) : hw_J K (LW ad ad2 t qo h b e v) kc ks g a c [(4, .int (nI i)), (3, .ref qo), (2, .ref (ad2 0)), (1, .ref (ad 0)), (0, .ref bs)] 176 [] := by
  obtain ⟨n, B, O, T, R1, R2, R3, R4, R5, R6⟩ := id R
  have hxt : ∀ A U H, Xl τ A U H → xt A U H := fun A U H h => h.2.2.2.2.1
  refine hj_aload_n (F _ _ _ _) 3 dL_law_176 rfl rfl ?_
  refine hj_aload_n (F _ _ _ _) 1 dL_law_177 rfl rfl ?_
  refine hj_hS F (n := 2) (k_L_block (Xl_ok τ) hlt hxt R1.1 R1.2.2.1 R2.1 R2.2.2.1) gL_law_L_block rfl ⟨rfl, rfl⟩ (by decide +kernel) ⟨by decide, by decide⟩ (As := [_, _]) rfl rfl (Nat.le_of_ble_eq_true rfl) ⟨by show kc + 1 ≤ 601024; omega, by show ks + 6 * 1 ≤ 7293034; omega⟩ dL_law_178 (fun k g1 a1 c1 v1 hp => ?_)
  refine hj_istore (F _ _ _ _) (lv' := [(5, _), (4, _), (3, _), (2, _), (1, _), (0, _)]) dL_law_181 (by decide) rfl ?_
  refine hj_aload_n (F _ _ _ _) 3 dL_law_183 rfl rfl ?_
  refine hj_MVi F (n := 0) (k_M_block (Xl_ok τ) R1.2.1 R1.2.2.1 R2.2.1 R2.2.2.1) gL_law_X4_block rfl ⟨rfl, rfl⟩ (by decide +kernel) ⟨by decide, by decide⟩ (As := []) rfl rfl (Nat.le_of_ble_eq_true rfl) ⟨by show kc + 1 ≤ 601024; omega, by show ks + 6 * 1 ≤ 7293034; omega⟩ dL_law_184 (fun r' h1 b1 e1 hq => ?_)
  refine hj_istore (F _ _ _ _) (lv' := [(6, _), (5, _), (4, _), (3, _), (2, _), (1, _), (0, _)]) dL_law_187 (by decide) rfl ?_
  refine hj_aload_n (F _ _ _ _) 4 dL_law_189 rfl rfl ?_
  refine hj_MVi F (n := 0) (k_M_thrown (Xl_ok τ)) gL_law_X4_thrown rfl ⟨rfl, rfl⟩ (by decide +kernel) ⟨by decide, by decide⟩ (As := []) rfl rfl (Nat.le_of_ble_eq_true rfl) ⟨by show kc + 1 ≤ 601024; omega, by show ks + 6 * 1 ≤ 7293034; omega⟩ dL_law_190 (hw_eq4 ?_)
  obtain ⟨f1, f2, f3⟩ : h1 0 = k ∧ (k = 0 → v1 0 = r'.toInt64) ∧ Rel (j + 1) g1 a1 c1 h1 b1 := by
    rcases hp with ⟨rfl, r0, p, hv⟩ | ⟨rfl, hB, rfl, rfl, rfl⟩ | ⟨_, hB, _⟩
    · obtain ⟨e1, e2, e3⟩ := r_block (i := j + 1) R1 R2 R3 R4 R5 R6 (by omega) p hq
      exact ⟨e1, fun _ => by rw [hv, e2], e3⟩
    · obtain ⟨-, hq⟩ := hq
      rw [if_pos hB] at hq
      obtain ⟨rfl, rfl⟩ := hq
      exact ⟨rfl, fun z => absurd z (by decide), Rel_t R⟩
    · exact hB.elim
  refine hj_iload (F _ _ _ _) 1 dL_law_193 rfl ?_
  refine hj_icmp_eq (F _ _ _ _) 200 dL_law_195 (by decide) (fun q => ?_) (fun q => absurd f1 q)
  refine hj_iload (F _ _ _ _) 1 dL_law_200 rfl ?_
  refine hj_if_ne (F _ _ _ _) 217 dL_law_202 (by decide) (fun q => ?_) (fun q => ?_)
  · refine hj_goto (F _ _ _ _) 872 dL_law_217 (by decide) ?_
    refine hj_lv [2, 3, 4, 5, 6] rfl ?_
    exact nx (by omega) (by omega) f3
  refine hj_aload_n (F _ _ _ _) 3 dL_law_205 rfl rfl ?_
  refine hj_iconst (F _ _ _ _) (v := 0) dL_law_206 (by decide) ?_
  refine hj_in0 F dL_law_207 ?_
  refine hj_iload (F _ _ _ _) 0 dL_law_208 rfl ?_
  refine hj_i2l (F _ _ _ _) dL_law_210 ?_
  refine hj_lcmp (F _ _ _ _) dL_law_211 ?_
  refine hj_if_eq (F _ _ _ _) 217 dL_law_212 (by decide) (fun _ => ?_) (fun z => absurd (by rw [f2 q]; exact lc_rf _) z)
  refine hj_goto (F _ _ _ _) 872 dL_law_217 (by decide) ?_
  refine hj_lv [2, 3, 4, 5, 6] rfl ?_
  exact nx (by omega) (by omega) f3
set_option maxHeartbeats 4000000 in
set_option maxRecDepth 100000 in
theorem st_order (F : ∀ h b e v, hw_F K l D (LW ad ad2 t qo h b e v) (hw_TL t) (Xl τ) code RL wsL_law room_1 7) (S : hw_SC K bs L xs) (hlt : l.stackTraces = false) (hi : i + 6 ≤ L) (hL : L ≤ 3072) (hj : j < 512) (R : Rel j g a c h b) (hkc : kc + 2 ≤ 601024) (hks : ks + 12 ≤ 7293034) (nx : ∀ {kc' ks' : Nat} {g' : hw_G} {a' : hw_A} {c' : Int64} {h' : hw_G} {b' : hw_A} {e' : Int64} {v' : Nat → Int64}, kc' ≤ kc + 2 → ks' ≤ ks + 12 → Rel (j + 1) g' a' c' h' b' → hw_J K (LW ad ad2 t qo h' b' e' v') kc' ks' g' a' c' [(4, .int (nI i)), (3, .ref qo), (2, .ref (ad2 0)), (1, .ref (ad 0)), (0, .ref bs)] 872 []) : hw_J K (LW ad ad2 t qo h b e v) kc ks g a c [(4, .int (nI i)), (3, .ref qo), (2, .ref (ad2 0)), (1, .ref (ad 0)), (0, .ref bs)] 293 [] := by
  obtain ⟨n, B, O, T, R1, R2, R3, R4, R5, R6⟩ := id R
  have hxt : ∀ A U H, Xl τ A U H → xt A U H := fun A U H h => h.2.2.2.2.1
  have hs : ∀ A U H, Xl τ A U H → sx τ A U H := fun A U H h => h.1
  have hs2 : ∀ A U H, Xl τ A U H → sx2 τ U := fun A U H h => h.2.1
  have hs4 : ∀ A U H, Xl τ A U H → sx4 τ U := fun A U H h => h.2.2.1
  have hsT : ∀ A U H, Xl τ A U H → sxT τ A U H := fun A U H h => h.2.2.2.1
  refine hj_aload_n (F _ _ _ _) 3 dL_law_293 rfl rfl ?_
  refine hj_aload_n (F _ _ _ _) 4 dL_law_294 rfl rfl ?_
  refine hj_iload (F _ _ _ _) 0 dL_law_295 rfl ?_
  refine hj_iconst (F _ _ _ _) (v := 1) dL_law_297 (by decide) ?_
  refine hj_iadd (F _ _ _ _) dL_law_298 ?_
  refine hj_sld (F _ _ _ _) S (sc_in (k := 1) (by decide) hi hL) dL_law_299 ?_
  refine hj_aload_n (F _ _ _ _) 4 dL_law_300 rfl rfl ?_
  refine hj_iload (F _ _ _ _) 0 dL_law_301 rfl ?_
  refine hj_iconst (F _ _ _ _) (v := 2) dL_law_303 (by decide) ?_
  refine hj_iadd (F _ _ _ _) dL_law_304 ?_
  refine hj_sld (F _ _ _ _) S (sc_in (k := 2) (by decide) hi hL) dL_law_305 ?_
  refine hj_aload_n (F _ _ _ _) 4 dL_law_306 rfl rfl ?_
  refine hj_iload (F _ _ _ _) 0 dL_law_307 rfl ?_
  refine hj_iconst (F _ _ _ _) (v := 3) dL_law_309 (by decide) ?_
  refine hj_iadd (F _ _ _ _) dL_law_310 ?_
  refine hj_sld (F _ _ _ _) S (sc_in (k := 3) (by decide) hi hL) dL_law_311 ?_
  refine hj_aload_n (F _ _ _ _) 1 dL_law_312 rfl rfl ?_
  refine hj_hS F (n := 5) (k_L_order (Xl_ok τ) hlt hxt hs hs2 hsT R1.1 R1.2.2.1 R2.1 R2.2.2.1 R5.1 R5.2.2.1 R3.1 R3.2.2.1) gL_law_L_order rfl ⟨rfl, rfl⟩ (by decide +kernel) ⟨by decide, by decide⟩ (As := [_, _, _, _, _]) rfl rfl (Nat.le_of_ble_eq_true rfl) ⟨by show kc + 1 ≤ 601024; omega, by show ks + 6 * 1 ≤ 7293034; omega⟩ dL_law_313 (fun k g1 a1 c1 v1 hp => ?_)
  refine hj_istore (F _ _ _ _) (lv' := [(5, _), (4, _), (3, _), (2, _), (1, _), (0, _)]) dL_law_316 (by decide) rfl ?_
  refine hj_aload_n (F _ _ _ _) 3 dL_law_318 rfl rfl ?_
  refine hj_aload_n (F _ _ _ _) 5 dL_law_319 rfl rfl ?_
  refine hj_iload (F _ _ _ _) 1 dL_law_320 rfl ?_
  refine hj_iconst (F _ _ _ _) (v := 1) dL_law_322 (by decide) ?_
  refine hj_iadd (F _ _ _ _) dL_law_323 ?_
  refine hj_sld (F _ _ _ _) S (sc_in (k := 1) (by decide) hi hL) dL_law_324 ?_
  refine hj_aload_n (F _ _ _ _) 5 dL_law_325 rfl rfl ?_
  refine hj_iload (F _ _ _ _) 1 dL_law_326 rfl ?_
  refine hj_iconst (F _ _ _ _) (v := 2) dL_law_328 (by decide) ?_
  refine hj_iadd (F _ _ _ _) dL_law_329 ?_
  refine hj_sld (F _ _ _ _) S (sc_in (k := 2) (by decide) hi hL) dL_law_330 ?_
  refine hj_aload_n (F _ _ _ _) 5 dL_law_331 rfl rfl ?_
  refine hj_iload (F _ _ _ _) 1 dL_law_332 rfl ?_
  refine hj_iconst (F _ _ _ _) (v := 3) dL_law_334 (by decide) ?_
  refine hj_iadd (F _ _ _ _) dL_law_335 ?_
  refine hj_sld (F _ _ _ _) S (sc_in (k := 3) (by decide) hi hL) dL_law_336 ?_
  refine hj_MVi F (n := 3) (k_M_order (Xl_ok τ) hs hs4 R1.2.1 R1.2.2.1 R2.2.1 R2.2.2.1 R5.2.1 R5.2.2.1 R3.2.1 R3.2.2.1 R3.2.2.2.2.1 (ps := tp_none (a 2)) tp_none_at) gL_law_X4_order rfl ⟨rfl, rfl⟩ (by decide +kernel) ⟨by decide, by decide⟩ (As := [_, _, _]) rfl rfl (Nat.le_of_ble_eq_true rfl) ⟨by show kc + 1 ≤ 601024; omega, by show ks + 6 * 1 ≤ 7293034; omega⟩ dL_law_337 (fun r' h1 b1 e1 hq => ?_)
  refine hj_istore (F _ _ _ _) (lv' := [(6, _), (5, _), (4, _), (3, _), (2, _), (1, _), (0, _)]) dL_law_340 (by decide) rfl ?_
  refine hj_aload_n (F _ _ _ _) 4 dL_law_342 rfl rfl ?_
  refine hj_MVi F (n := 0) (k_M_thrown (Xl_ok τ)) gL_law_X4_thrown rfl ⟨rfl, rfl⟩ (by decide +kernel) ⟨by decide, by decide⟩ (As := []) rfl rfl (Nat.le_of_ble_eq_true rfl) ⟨by show kc + 1 ≤ 601024; omega, by show ks + 6 * 1 ≤ 7293034; omega⟩ dL_law_343 (hw_eq4 ?_)
  obtain ⟨f1, f2, f3⟩ : h1 0 = k ∧ (k = 0 → v1 0 = r'.toInt64) ∧ Rel (j + 1) g1 a1 c1 h1 b1 := by
    rcases hp with ⟨rfl, r0, p, hv⟩ | ⟨rfl, hB, rfl, rfl, rfl⟩ | ⟨_, hB, _⟩
    · obtain ⟨e1, e2, e3⟩ := r_order (i := j + 1) R1 R2 R3 R4 R5 R6 (by omega) p hq
      exact ⟨e1, fun _ => by rw [hv, e2], e3⟩
    · obtain ⟨-, hq⟩ := hq
      rw [if_pos ((oa_om R3).mp hB)] at hq
      obtain ⟨rfl, rfl⟩ := hq
      exact ⟨rfl, fun z => absurd z (by decide), Rel_t R⟩
    · exact hB.elim
  refine hj_iload (F _ _ _ _) 1 dL_law_346 rfl ?_
  refine hj_icmp_eq (F _ _ _ _) 353 dL_law_348 (by decide) (fun q => ?_) (fun q => absurd f1 q)
  refine hj_iload (F _ _ _ _) 1 dL_law_353 rfl ?_
  refine hj_if_ne (F _ _ _ _) 370 dL_law_355 (by decide) (fun q => ?_) (fun q => ?_)
  · refine hj_goto (F _ _ _ _) 872 dL_law_370 (by decide) ?_
    refine hj_lv [2, 3, 4, 5, 6] rfl ?_
    exact nx (by omega) (by omega) f3
  refine hj_aload_n (F _ _ _ _) 3 dL_law_358 rfl rfl ?_
  refine hj_iconst (F _ _ _ _) (v := 0) dL_law_359 (by decide) ?_
  refine hj_in0 F dL_law_360 ?_
  refine hj_iload (F _ _ _ _) 0 dL_law_361 rfl ?_
  refine hj_i2l (F _ _ _ _) dL_law_363 ?_
  refine hj_lcmp (F _ _ _ _) dL_law_364 ?_
  refine hj_if_eq (F _ _ _ _) 370 dL_law_365 (by decide) (fun _ => ?_) (fun z => absurd (by rw [f2 q]; exact lc_rf _) z)
  refine hj_goto (F _ _ _ _) 872 dL_law_370 (by decide) ?_
  refine hj_lv [2, 3, 4, 5, 6] rfl ?_
  exact nx (by omega) (by omega) f3
set_option maxHeartbeats 4000000 in
set_option maxRecDepth 100000 in
theorem st_misfit (F : ∀ h b e v, hw_F K l D (LW ad ad2 t qo h b e v) (hw_TL t) (Xl τ) code RL wsL_law room_1 7) (S : hw_SC K bs L xs) (hlt : l.stackTraces = false) (hi : i + 6 ≤ L) (hL : L ≤ 3072) (hj : j < 512) (R : Rel j g a c h b) (hkc : kc + 2 ≤ 601024) (hks : ks + 12 ≤ 7293034) (nx : ∀ {kc' ks' : Nat} {g' : hw_G} {a' : hw_A} {c' : Int64} {h' : hw_G} {b' : hw_A} {e' : Int64} {v' : Nat → Int64}, kc' ≤ kc + 2 → ks' ≤ ks + 12 → Rel (j + 1) g' a' c' h' b' → hw_J K (LW ad ad2 t qo h' b' e' v') kc' ks' g' a' c' [(4, .int (nI i)), (3, .ref qo), (2, .ref (ad2 0)), (1, .ref (ad 0)), (0, .ref bs)] 872 []) : hw_J K (LW ad ad2 t qo h b e v) kc ks g a c [(4, .int (nI i)), (3, .ref qo), (2, .ref (ad2 0)), (1, .ref (ad 0)), (0, .ref bs)] 386 [] := by
  obtain ⟨n, B, O, T, R1, R2, R3, R4, R5, R6⟩ := id R
  have hxt : ∀ A U H, Xl τ A U H → xt A U H := fun A U H h => h.2.2.2.2.1
  have hnc : ∀ A U H, Xl τ A U H → va_Nc "java/lang/IllegalArgumentException" "java/lang/IndexOutOfBoundsException" U := fun A U H h => h.2.2.2.2.2.2.2.2.2.2
  refine hj_aload_n (F _ _ _ _) 3 dL_law_386 rfl rfl ?_
  refine hj_aload_n (F _ _ _ _) 4 dL_law_387 rfl rfl ?_
  refine hj_iload (F _ _ _ _) 0 dL_law_388 rfl ?_
  refine hj_iconst (F _ _ _ _) (v := 1) dL_law_390 (by decide) ?_
  refine hj_iadd (F _ _ _ _) dL_law_391 ?_
  refine hj_sld (F _ _ _ _) S (sc_in (k := 1) (by decide) hi hL) dL_law_392 ?_
  refine hj_aload_n (F _ _ _ _) 4 dL_law_393 rfl rfl ?_
  refine hj_iload (F _ _ _ _) 0 dL_law_394 rfl ?_
  refine hj_iconst (F _ _ _ _) (v := 2) dL_law_396 (by decide) ?_
  refine hj_iadd (F _ _ _ _) dL_law_397 ?_
  refine hj_sld (F _ _ _ _) S (sc_in (k := 2) (by decide) hi hL) dL_law_398 ?_
  refine hj_aload_n (F _ _ _ _) 1 dL_law_399 rfl rfl ?_
  refine hj_hS F (n := 4) (k_L_misfit (Xl_ok τ) hlt hxt R1.1 R1.2.2.1 R2.1 R2.2.2.1 hnc) gL_law_L_misfit rfl ⟨rfl, rfl⟩ (by decide +kernel) ⟨by decide, by decide⟩ (As := [_, _, _, _]) rfl rfl (Nat.le_of_ble_eq_true rfl) ⟨by show kc + 2 ≤ 601024; omega, by show ks + 6 * 2 ≤ 7293034; omega⟩ dL_law_400 (fun k g1 a1 c1 v1 hp => ?_)
  refine hj_istore (F _ _ _ _) (lv' := [(5, _), (4, _), (3, _), (2, _), (1, _), (0, _)]) dL_law_403 (by decide) rfl ?_
  refine hj_aload_n (F _ _ _ _) 3 dL_law_405 rfl rfl ?_
  refine hj_aload_n (F _ _ _ _) 5 dL_law_406 rfl rfl ?_
  refine hj_iload (F _ _ _ _) 1 dL_law_407 rfl ?_
  refine hj_iconst (F _ _ _ _) (v := 1) dL_law_409 (by decide) ?_
  refine hj_iadd (F _ _ _ _) dL_law_410 ?_
  refine hj_sld (F _ _ _ _) S (sc_in (k := 1) (by decide) hi hL) dL_law_411 ?_
  refine hj_aload_n (F _ _ _ _) 5 dL_law_412 rfl rfl ?_
  refine hj_iload (F _ _ _ _) 1 dL_law_413 rfl ?_
  refine hj_iconst (F _ _ _ _) (v := 2) dL_law_415 (by decide) ?_
  refine hj_iadd (F _ _ _ _) dL_law_416 ?_
  refine hj_sld (F _ _ _ _) S (sc_in (k := 2) (by decide) hi hL) dL_law_417 ?_
  refine hj_MVi F (n := 2) (k_M_misfit (Xl_ok τ) R1.2.1 R1.2.2.1 R2.2.1 R2.2.2.1) gL_law_X4_misfit rfl ⟨rfl, rfl⟩ (by decide +kernel) ⟨by decide, by decide⟩ (As := [_, _]) rfl rfl (Nat.le_of_ble_eq_true rfl) ⟨by show kc + 2 ≤ 601024; omega, by show ks + 6 * 2 ≤ 7293034; omega⟩ dL_law_418 (fun r' h1 b1 e1 hq => ?_)
  refine hj_istore (F _ _ _ _) (lv' := [(6, _), (5, _), (4, _), (3, _), (2, _), (1, _), (0, _)]) dL_law_421 (by decide) rfl ?_
  refine hj_aload_n (F _ _ _ _) 4 dL_law_423 rfl rfl ?_
  refine hj_MVi F (n := 0) (k_M_thrown (Xl_ok τ)) gL_law_X4_thrown rfl ⟨rfl, rfl⟩ (by decide +kernel) ⟨by decide, by decide⟩ (As := []) rfl rfl (Nat.le_of_ble_eq_true rfl) ⟨by show kc + 2 ≤ 601024; omega, by show ks + 6 * 2 ≤ 7293034; omega⟩ dL_law_424 (hw_eq4 ?_)
  obtain ⟨f1, f2, f3⟩ : h1 0 = k ∧ (k = 0 → v1 0 = r'.toInt64) ∧ Rel (j + 1) g1 a1 c1 h1 b1 := by
    rcases hp with ⟨rfl, r0, p, hv⟩ | ⟨rfl, hB, rfl, rfl, rfl⟩ | ⟨rfl, hB, rfl, rfl, rfl⟩
    · obtain ⟨rfl, rfl, rfl, p⟩ := p
      obtain ⟨kb, kj, z1, z2, z3, z4, z5⟩ := id p
      obtain ⟨-, hb, hq⟩ := hq
      rw [if_neg (by rw [z2]; exact ix_n z1 (by have := R2.2.2.1; omega)), if_neg (by rw [z4]; exact ix_n (N := 12) z3 (by decide))] at hq
      obtain ⟨hh, q⟩ := hq
      have e2 := r_misfit R1 R2 p q
      rw [hh, hb]
      exact ⟨rfl, fun _ => by rw [hv, e2], Rel_t R⟩
    · obtain ⟨-, hb, hq⟩ := hq
      rw [if_pos hB] at hq
      rw [hq, hb]
      exact ⟨rfl, fun z => absurd z (by decide), Rel_t R⟩
    · obtain ⟨-, hb, hq⟩ := hq
      rw [if_neg hB.1, if_pos hB.2] at hq
      rw [hq, hb]
      exact ⟨rfl, fun z => absurd z (by decide), Rel_t R⟩
  refine hj_iload (F _ _ _ _) 1 dL_law_427 rfl ?_
  refine hj_icmp_eq (F _ _ _ _) 434 dL_law_429 (by decide) (fun q => ?_) (fun q => absurd f1 q)
  refine hj_iload (F _ _ _ _) 1 dL_law_434 rfl ?_
  refine hj_if_ne (F _ _ _ _) 451 dL_law_436 (by decide) (fun q => ?_) (fun q => ?_)
  · refine hj_goto (F _ _ _ _) 872 dL_law_451 (by decide) ?_
    refine hj_lv [2, 3, 4, 5, 6] rfl ?_
    exact nx (by omega) (by omega) f3
  refine hj_aload_n (F _ _ _ _) 3 dL_law_439 rfl rfl ?_
  refine hj_iconst (F _ _ _ _) (v := 0) dL_law_440 (by decide) ?_
  refine hj_in0 F dL_law_441 ?_
  refine hj_iload (F _ _ _ _) 0 dL_law_442 rfl ?_
  refine hj_i2l (F _ _ _ _) dL_law_444 ?_
  refine hj_lcmp (F _ _ _ _) dL_law_445 ?_
  refine hj_if_eq (F _ _ _ _) 451 dL_law_446 (by decide) (fun _ => ?_) (fun z => absurd (by rw [f2 q]; exact lc_rf _) z)
  refine hj_goto (F _ _ _ _) 872 dL_law_451 (by decide) ?_
  refine hj_lv [2, 3, 4, 5, 6] rfl ?_
  exact nx (by omega) (by omega) f3
set_option maxHeartbeats 4000000 in
set_option maxRecDepth 100000 in
theorem st_told (F : ∀ h b e v, hw_F K l D (LW ad ad2 t qo h b e v) (hw_TL t) (Xl τ) code RL wsL_law room_1 7) (S : hw_SC K bs L xs) (hlt : l.stackTraces = false) (hi : i + 6 ≤ L) (hL : L ≤ 3072) (hj : j < 512) (R : Rel j g a c h b) (hkc : kc + 2 ≤ 601024) (hks : ks + 12 ≤ 7293034) (nx : ∀ {kc' ks' : Nat} {g' : hw_G} {a' : hw_A} {c' : Int64} {h' : hw_G} {b' : hw_A} {e' : Int64} {v' : Nat → Int64}, kc' ≤ kc + 2 → ks' ≤ ks + 12 → Rel (j + 1) g' a' c' h' b' → hw_J K (LW ad ad2 t qo h' b' e' v') kc' ks' g' a' c' [(4, .int (nI i)), (3, .ref qo), (2, .ref (ad2 0)), (1, .ref (ad 0)), (0, .ref bs)] 872 []) : hw_J K (LW ad ad2 t qo h b e v) kc ks g a c [(4, .int (nI i)), (3, .ref qo), (2, .ref (ad2 0)), (1, .ref (ad 0)), (0, .ref bs)] 454 [] := by
  obtain ⟨n, B, O, T, R1, R2, R3, R4, R5, R6⟩ := id R
  have hxt : ∀ A U H, Xl τ A U H → xt A U H := fun A U H h => h.2.2.2.2.1
  have hnc : ∀ A U H, Xl τ A U H → va_Nc "java/lang/IllegalArgumentException" "java/lang/IndexOutOfBoundsException" U := fun A U H h => h.2.2.2.2.2.2.2.2.2.2
  refine hj_aload_n (F _ _ _ _) 3 dL_law_454 rfl rfl ?_
  refine hj_aload_n (F _ _ _ _) 4 dL_law_455 rfl rfl ?_
  refine hj_iload (F _ _ _ _) 0 dL_law_456 rfl ?_
  refine hj_iconst (F _ _ _ _) (v := 1) dL_law_458 (by decide) ?_
  refine hj_iadd (F _ _ _ _) dL_law_459 ?_
  refine hj_sld (F _ _ _ _) S (sc_in (k := 1) (by decide) hi hL) dL_law_460 ?_
  refine hj_aload_n (F _ _ _ _) 4 dL_law_461 rfl rfl ?_
  refine hj_iload (F _ _ _ _) 0 dL_law_462 rfl ?_
  refine hj_iconst (F _ _ _ _) (v := 2) dL_law_464 (by decide) ?_
  refine hj_iadd (F _ _ _ _) dL_law_465 ?_
  refine hj_sld (F _ _ _ _) S (sc_in (k := 2) (by decide) hi hL) dL_law_466 ?_
  refine hj_aload_n (F _ _ _ _) 1 dL_law_467 rfl rfl ?_
  refine hj_hS F (n := 4) (k_L_told (Xl_ok τ) hlt hxt R5.1 R5.2.2.1 hnc) gL_law_L_told rfl ⟨rfl, rfl⟩ (by decide +kernel) ⟨by decide, by decide⟩ (As := [_, _, _, _]) rfl rfl (Nat.le_of_ble_eq_true rfl) ⟨by show kc + 2 ≤ 601024; omega, by show ks + 6 * 2 ≤ 7293034; omega⟩ dL_law_468 (fun k g1 a1 c1 v1 hp => ?_)
  refine hj_istore (F _ _ _ _) (lv' := [(5, _), (4, _), (3, _), (2, _), (1, _), (0, _)]) dL_law_471 (by decide) rfl ?_
  refine hj_aload_n (F _ _ _ _) 3 dL_law_473 rfl rfl ?_
  refine hj_aload_n (F _ _ _ _) 5 dL_law_474 rfl rfl ?_
  refine hj_iload (F _ _ _ _) 1 dL_law_475 rfl ?_
  refine hj_iconst (F _ _ _ _) (v := 1) dL_law_477 (by decide) ?_
  refine hj_iadd (F _ _ _ _) dL_law_478 ?_
  refine hj_sld (F _ _ _ _) S (sc_in (k := 1) (by decide) hi hL) dL_law_479 ?_
  refine hj_aload_n (F _ _ _ _) 5 dL_law_480 rfl rfl ?_
  refine hj_iload (F _ _ _ _) 1 dL_law_481 rfl ?_
  refine hj_iconst (F _ _ _ _) (v := 2) dL_law_483 (by decide) ?_
  refine hj_iadd (F _ _ _ _) dL_law_484 ?_
  refine hj_sld (F _ _ _ _) S (sc_in (k := 2) (by decide) hi hL) dL_law_485 ?_
  refine hj_MVi F (n := 2) (k_M_told (Xl_ok τ) R5.2.1 R5.2.2.1) gL_law_X4_told rfl ⟨rfl, rfl⟩ (by decide +kernel) ⟨by decide, by decide⟩ (As := [_, _]) rfl rfl (Nat.le_of_ble_eq_true rfl) ⟨by show kc + 2 ≤ 601024; omega, by show ks + 6 * 2 ≤ 7293034; omega⟩ dL_law_486 (fun r' h1 b1 e1 hq => ?_)
  refine hj_istore (F _ _ _ _) (lv' := [(6, _), (5, _), (4, _), (3, _), (2, _), (1, _), (0, _)]) dL_law_489 (by decide) rfl ?_
  refine hj_aload_n (F _ _ _ _) 4 dL_law_491 rfl rfl ?_
  refine hj_MVi F (n := 0) (k_M_thrown (Xl_ok τ)) gL_law_X4_thrown rfl ⟨rfl, rfl⟩ (by decide +kernel) ⟨by decide, by decide⟩ (As := []) rfl rfl (Nat.le_of_ble_eq_true rfl) ⟨by show kc + 2 ≤ 601024; omega, by show ks + 6 * 2 ≤ 7293034; omega⟩ dL_law_492 (hw_eq4 ?_)
  obtain ⟨f1, f2, f3⟩ : h1 0 = k ∧ (k = 0 → v1 0 = r'.toInt64) ∧ Rel (j + 1) g1 a1 c1 h1 b1 := by
    rcases hp with ⟨rfl, r0, p, hv⟩ | ⟨rfl, hB, rfl, rfl, rfl⟩ | ⟨rfl, hB, rfl, rfl, rfl⟩
    · obtain ⟨rfl, rfl, rfl, p⟩ := p
      obtain ⟨kb, kj, z1, z2, z3, z4, z5⟩ := id p
      obtain ⟨-, hb, hq⟩ := hq
      rw [if_neg (by rw [z2]; exact ix_n z1 (by have := R5.2.2.1; omega)), if_neg (by rw [z4]; exact ix_l (N := 11) z3 (by decide))] at hq
      obtain ⟨hh, q⟩ := hq
      have e2 := r_told R4 R5 p q
      rw [hh, hb]
      exact ⟨rfl, fun _ => by rw [hv, e2], Rel_t R⟩
    · obtain ⟨-, hb, hq⟩ := hq
      rw [if_pos hB] at hq
      rw [hq, hb]
      exact ⟨rfl, fun z => absurd z (by decide), Rel_t R⟩
    · obtain ⟨-, hb, hq⟩ := hq
      rw [if_neg hB.1, if_pos hB.2] at hq
      rw [hq, hb]
      exact ⟨rfl, fun z => absurd z (by decide), Rel_t R⟩
  refine hj_iload (F _ _ _ _) 1 dL_law_495 rfl ?_
  refine hj_icmp_eq (F _ _ _ _) 502 dL_law_497 (by decide) (fun q => ?_) (fun q => absurd f1 q)
  refine hj_iload (F _ _ _ _) 1 dL_law_502 rfl ?_
  refine hj_if_ne (F _ _ _ _) 519 dL_law_504 (by decide) (fun q => ?_) (fun q => ?_)
  · refine hj_goto (F _ _ _ _) 872 dL_law_519 (by decide) ?_
    refine hj_lv [2, 3, 4, 5, 6] rfl ?_
    exact nx (by omega) (by omega) f3
  refine hj_aload_n (F _ _ _ _) 3 dL_law_507 rfl rfl ?_
  refine hj_iconst (F _ _ _ _) (v := 0) dL_law_508 (by decide) ?_
  refine hj_in0 F dL_law_509 ?_
  refine hj_iload (F _ _ _ _) 0 dL_law_510 rfl ?_
  refine hj_i2l (F _ _ _ _) dL_law_512 ?_
  refine hj_lcmp (F _ _ _ _) dL_law_513 ?_
  refine hj_if_eq (F _ _ _ _) 519 dL_law_514 (by decide) (fun _ => ?_) (fun z => absurd (by rw [f2 q]; exact lc_rf _) z)
  refine hj_goto (F _ _ _ _) 872 dL_law_519 (by decide) ?_
  refine hj_lv [2, 3, 4, 5, 6] rfl ?_
  exact nx (by omega) (by omega) f3
set_option maxHeartbeats 4000000 in
set_option maxRecDepth 100000 in
theorem st_go (F : ∀ h b e v, hw_F K l D (LW ad ad2 t qo h b e v) (hw_TL t) (Xl τ) code RL wsL_law room_1 7) (S : hw_SC K bs L xs) (hlt : l.stackTraces = false) (hi : i + 6 ≤ L) (hL : L ≤ 3072) (hj : j < 512) (R : Rel j g a c h b) (hkc : kc + 2 ≤ 601024) (hks : ks + 12 ≤ 7293034) (nx : ∀ {kc' ks' : Nat} {g' : hw_G} {a' : hw_A} {c' : Int64} {h' : hw_G} {b' : hw_A} {e' : Int64} {v' : Nat → Int64}, kc' ≤ kc + 2 → ks' ≤ ks + 12 → Rel (j + 1) g' a' c' h' b' → hw_J K (LW ad ad2 t qo h' b' e' v') kc' ks' g' a' c' [(4, .int (nI i)), (3, .ref qo), (2, .ref (ad2 0)), (1, .ref (ad 0)), (0, .ref bs)] 872 []) : hw_J K (LW ad ad2 t qo h b e v) kc ks g a c [(4, .int (nI i)), (3, .ref qo), (2, .ref (ad2 0)), (1, .ref (ad 0)), (0, .ref bs)] 522 [] := by
  obtain ⟨n, B, O, T, R1, R2, R3, R4, R5, R6⟩ := id R
  have hxt : ∀ A U H, Xl τ A U H → xt A U H := fun A U H h => h.2.2.2.2.1
  refine hj_aload_n (F _ _ _ _) 3 dL_law_522 rfl rfl ?_
  refine hj_aload_n (F _ _ _ _) 4 dL_law_523 rfl rfl ?_
  refine hj_iload (F _ _ _ _) 0 dL_law_524 rfl ?_
  refine hj_iconst (F _ _ _ _) (v := 1) dL_law_526 (by decide) ?_
  refine hj_iadd (F _ _ _ _) dL_law_527 ?_
  refine hj_sld (F _ _ _ _) S (sc_in (k := 1) (by decide) hi hL) dL_law_528 ?_
  refine hj_aload_n (F _ _ _ _) 1 dL_law_529 rfl rfl ?_
  refine hj_hS F (n := 3) (k_L_go (Xl_ok τ) hlt hxt R5.1 R5.2.2.1 (fun o ho => (R5.2.2.2.1 o ho).2.2.1.1)) gL_law_L_go rfl ⟨rfl, rfl⟩ (by decide +kernel) ⟨by decide, by decide⟩ (As := [_, _, _]) rfl rfl (Nat.le_of_ble_eq_true rfl) ⟨by show kc + 1 ≤ 601024; omega, by show ks + 6 * 1 ≤ 7293034; omega⟩ dL_law_530 (fun k g1 a1 c1 v1 hp => ?_)
  refine hj_istore (F _ _ _ _) (lv' := [(5, _), (4, _), (3, _), (2, _), (1, _), (0, _)]) dL_law_533 (by decide) rfl ?_
  refine hj_aload_n (F _ _ _ _) 3 dL_law_535 rfl rfl ?_
  refine hj_aload_n (F _ _ _ _) 5 dL_law_536 rfl rfl ?_
  refine hj_iload (F _ _ _ _) 1 dL_law_537 rfl ?_
  refine hj_iconst (F _ _ _ _) (v := 1) dL_law_539 (by decide) ?_
  refine hj_iadd (F _ _ _ _) dL_law_540 ?_
  refine hj_sld (F _ _ _ _) S (sc_in (k := 1) (by decide) hi hL) dL_law_541 ?_
  refine hj_MVi F (n := 1) (k_M_go (Xl_ok τ) R5.2.1 R5.2.2.1 (fun o ho => by have z := R5.2.2.2.1 o ho; have y := z.1 0 (by decide); have w := z.2.2.1.1; rw [y] at w; exact w)) gL_law_X4_go rfl ⟨rfl, rfl⟩ (by decide +kernel) ⟨by decide, by decide⟩ (As := [_]) rfl rfl (Nat.le_of_ble_eq_true rfl) ⟨by show kc + 1 ≤ 601024; omega, by show ks + 6 * 1 ≤ 7293034; omega⟩ dL_law_542 (fun r' h1 b1 e1 hq => ?_)
  refine hj_istore (F _ _ _ _) (lv' := [(6, _), (5, _), (4, _), (3, _), (2, _), (1, _), (0, _)]) dL_law_545 (by decide) rfl ?_
  refine hj_aload_n (F _ _ _ _) 4 dL_law_547 rfl rfl ?_
  refine hj_MVi F (n := 0) (k_M_thrown (Xl_ok τ)) gL_law_X4_thrown rfl ⟨rfl, rfl⟩ (by decide +kernel) ⟨by decide, by decide⟩ (As := []) rfl rfl (Nat.le_of_ble_eq_true rfl) ⟨by show kc + 1 ≤ 601024; omega, by show ks + 6 * 1 ≤ 7293034; omega⟩ dL_law_548 (hw_eq4 ?_)
  obtain ⟨f1, f2, f3⟩ : h1 0 = k ∧ (k = 0 → v1 0 = r'.toInt64) ∧ Rel (j + 1) g1 a1 c1 h1 b1 := by
    rcases hp with ⟨rfl, r0, p, hv⟩ | ⟨rfl, hB, rfl, rfl, rfl⟩ | ⟨_, hB, _⟩
    · obtain ⟨e1, e2, e3⟩ := r_go (i := j + 1) R1 R2 R3 R4 R5 R6 (by omega) (by omega) (by omega) p hq
      exact ⟨e1, fun _ => by rw [hv, e2], e3⟩
    · obtain ⟨-, hq⟩ := hq
      rw [if_pos hB] at hq
      obtain ⟨rfl, rfl⟩ := hq
      exact ⟨rfl, fun z => absurd z (by decide), Rel_t R⟩
    · exact hB.elim
  refine hj_iload (F _ _ _ _) 1 dL_law_551 rfl ?_
  refine hj_icmp_eq (F _ _ _ _) 558 dL_law_553 (by decide) (fun q => ?_) (fun q => absurd f1 q)
  refine hj_iload (F _ _ _ _) 1 dL_law_558 rfl ?_
  refine hj_if_ne (F _ _ _ _) 575 dL_law_560 (by decide) (fun q => ?_) (fun q => ?_)
  · refine hj_goto (F _ _ _ _) 872 dL_law_575 (by decide) ?_
    refine hj_lv [2, 3, 4, 5, 6] rfl ?_
    exact nx (by omega) (by omega) f3
  refine hj_aload_n (F _ _ _ _) 3 dL_law_563 rfl rfl ?_
  refine hj_iconst (F _ _ _ _) (v := 0) dL_law_564 (by decide) ?_
  refine hj_in0 F dL_law_565 ?_
  refine hj_iload (F _ _ _ _) 0 dL_law_566 rfl ?_
  refine hj_i2l (F _ _ _ _) dL_law_568 ?_
  refine hj_lcmp (F _ _ _ _) dL_law_569 ?_
  refine hj_if_eq (F _ _ _ _) 575 dL_law_570 (by decide) (fun _ => ?_) (fun z => absurd (by rw [f2 q]; exact lc_rf _) z)
  refine hj_goto (F _ _ _ _) 872 dL_law_575 (by decide) ?_
  refine hj_lv [2, 3, 4, 5, 6] rfl ?_
  exact nx (by omega) (by omega) f3
set_option maxHeartbeats 4000000 in
set_option maxRecDepth 100000 in
theorem st_wait (F : ∀ h b e v, hw_F K l D (LW ad ad2 t qo h b e v) (hw_TL t) (Xl τ) code RL wsL_law room_1 7) (S : hw_SC K bs L xs) (hlt : l.stackTraces = false) (hi : i + 6 ≤ L) (hL : L ≤ 3072) (hj : j < 512) (R : Rel j g a c h b) (hkc : kc + 2 ≤ 601024) (hks : ks + 12 ≤ 7293034) (nx : ∀ {kc' ks' : Nat} {g' : hw_G} {a' : hw_A} {c' : Int64} {h' : hw_G} {b' : hw_A} {e' : Int64} {v' : Nat → Int64}, kc' ≤ kc + 2 → ks' ≤ ks + 12 → Rel (j + 1) g' a' c' h' b' → hw_J K (LW ad ad2 t qo h' b' e' v') kc' ks' g' a' c' [(4, .int (nI i)), (3, .ref qo), (2, .ref (ad2 0)), (1, .ref (ad 0)), (0, .ref bs)] 872 []) : hw_J K (LW ad ad2 t qo h b e v) kc ks g a c [(4, .int (nI i)), (3, .ref qo), (2, .ref (ad2 0)), (1, .ref (ad 0)), (0, .ref bs)] 578 [] := by
  obtain ⟨n, B, O, T, R1, R2, R3, R4, R5, R6⟩ := id R
  have hxt : ∀ A U H, Xl τ A U H → xt A U H := fun A U H h => h.2.2.2.2.1
  refine hj_aload_n (F _ _ _ _) 3 dL_law_578 rfl rfl ?_
  refine hj_aload_n (F _ _ _ _) 4 dL_law_579 rfl rfl ?_
  refine hj_iload (F _ _ _ _) 0 dL_law_580 rfl ?_
  refine hj_iconst (F _ _ _ _) (v := 1) dL_law_582 (by decide) ?_
  refine hj_iadd (F _ _ _ _) dL_law_583 ?_
  refine hj_sld (F _ _ _ _) S (sc_in (k := 1) (by decide) hi hL) dL_law_584 ?_
  refine hj_aload_n (F _ _ _ _) 1 dL_law_585 rfl rfl ?_
  refine hj_hS F (n := 3) (k_L_wait (Xl_ok τ) hlt hxt ) gL_law_L_wait rfl ⟨rfl, rfl⟩ (by decide +kernel) ⟨by decide, by decide⟩ (As := [_, _, _]) rfl rfl (Nat.le_of_ble_eq_true rfl) ⟨by show kc + 1 ≤ 601024; omega, by show ks + 6 * 1 ≤ 7293034; omega⟩ dL_law_586 (fun k g1 a1 c1 v1 hp => ?_)
  refine hj_istore (F _ _ _ _) (lv' := [(5, _), (4, _), (3, _), (2, _), (1, _), (0, _)]) dL_law_589 (by decide) rfl ?_
  refine hj_aload_n (F _ _ _ _) 3 dL_law_591 rfl rfl ?_
  refine hj_aload_n (F _ _ _ _) 5 dL_law_592 rfl rfl ?_
  refine hj_iload (F _ _ _ _) 1 dL_law_593 rfl ?_
  refine hj_iconst (F _ _ _ _) (v := 1) dL_law_595 (by decide) ?_
  refine hj_iadd (F _ _ _ _) dL_law_596 ?_
  refine hj_sld (F _ _ _ _) S (sc_in (k := 1) (by decide) hi hL) dL_law_597 ?_
  refine hj_MVi F (n := 1) (k_M_wait (Xl_ok τ) ) gL_law_X4_wait rfl ⟨rfl, rfl⟩ (by decide +kernel) ⟨by decide, by decide⟩ (As := [_]) rfl rfl (Nat.le_of_ble_eq_true rfl) ⟨by show kc + 1 ≤ 601024; omega, by show ks + 6 * 1 ≤ 7293034; omega⟩ dL_law_598 (fun r' h1 b1 e1 hq => ?_)
  refine hj_istore (F _ _ _ _) (lv' := [(6, _), (5, _), (4, _), (3, _), (2, _), (1, _), (0, _)]) dL_law_601 (by decide) rfl ?_
  refine hj_aload_n (F _ _ _ _) 4 dL_law_603 rfl rfl ?_
  refine hj_MVi F (n := 0) (k_M_thrown (Xl_ok τ)) gL_law_X4_thrown rfl ⟨rfl, rfl⟩ (by decide +kernel) ⟨by decide, by decide⟩ (As := []) rfl rfl (Nat.le_of_ble_eq_true rfl) ⟨by show kc + 1 ≤ 601024; omega, by show ks + 6 * 1 ≤ 7293034; omega⟩ dL_law_604 (hw_eq4 ?_)
  obtain ⟨f1, f2, f3⟩ : h1 0 = k ∧ (k = 0 → v1 0 = r'.toInt64) ∧ Rel (j + 1) g1 a1 c1 h1 b1 := by
    rcases hp with ⟨rfl, r0, p, hv⟩ | ⟨rfl, hB, rfl, rfl, rfl⟩ | ⟨_, hB, _⟩
    · obtain ⟨e1, e2, e3⟩ := r_wait (i := j + 1) R1 R2 R3 R4 R5 (by omega) p hq
      exact ⟨e1, fun _ => by rw [hv, e2], e3⟩
    · obtain ⟨-, hb, hq⟩ := hq
      rw [R4.1] at hB
      rw [if_pos hB] at hq
      rw [hq, hb]
      exact ⟨rfl, fun z => absurd z (by decide), Rel_t R⟩
    · exact hB.elim
  refine hj_iload (F _ _ _ _) 1 dL_law_607 rfl ?_
  refine hj_icmp_eq (F _ _ _ _) 614 dL_law_609 (by decide) (fun q => ?_) (fun q => absurd f1 q)
  refine hj_iload (F _ _ _ _) 1 dL_law_614 rfl ?_
  refine hj_if_ne (F _ _ _ _) 631 dL_law_616 (by decide) (fun q => ?_) (fun q => ?_)
  · refine hj_goto (F _ _ _ _) 872 dL_law_631 (by decide) ?_
    refine hj_lv [2, 3, 4, 5, 6] rfl ?_
    exact nx (by omega) (by omega) f3
  refine hj_aload_n (F _ _ _ _) 3 dL_law_619 rfl rfl ?_
  refine hj_iconst (F _ _ _ _) (v := 0) dL_law_620 (by decide) ?_
  refine hj_in0 F dL_law_621 ?_
  refine hj_iload (F _ _ _ _) 0 dL_law_622 rfl ?_
  refine hj_i2l (F _ _ _ _) dL_law_624 ?_
  refine hj_lcmp (F _ _ _ _) dL_law_625 ?_
  refine hj_if_eq (F _ _ _ _) 631 dL_law_626 (by decide) (fun _ => ?_) (fun z => absurd (by rw [f2 q]; exact lc_rf _) z)
  refine hj_goto (F _ _ _ _) 872 dL_law_631 (by decide) ?_
  refine hj_lv [2, 3, 4, 5, 6] rfl ?_
  exact nx (by omega) (by omega) f3
set_option maxHeartbeats 4000000 in
set_option maxRecDepth 100000 in
theorem st_fit (F : ∀ h b e v, hw_F K l D (LW ad ad2 t qo h b e v) (hw_TL t) (Xl τ) code RL wsL_law room_1 7) (S : hw_SC K bs L xs) (hlt : l.stackTraces = false) (hi : i + 6 ≤ L) (hL : L ≤ 3072) (hj : j < 512) (R : Rel j g a c h b) (hkc : kc + 2 ≤ 601024) (hks : ks + 12 ≤ 7293034) (nx : ∀ {kc' ks' : Nat} {g' : hw_G} {a' : hw_A} {c' : Int64} {h' : hw_G} {b' : hw_A} {e' : Int64} {v' : Nat → Int64}, kc' ≤ kc + 2 → ks' ≤ ks + 12 → Rel (j + 1) g' a' c' h' b' → hw_J K (LW ad ad2 t qo h' b' e' v') kc' ks' g' a' c' [(4, .int (nI i)), (3, .ref qo), (2, .ref (ad2 0)), (1, .ref (ad 0)), (0, .ref bs)] 872 []) : hw_J K (LW ad ad2 t qo h b e v) kc ks g a c [(4, .int (nI i)), (3, .ref qo), (2, .ref (ad2 0)), (1, .ref (ad 0)), (0, .ref bs)] 711 [] := by
  obtain ⟨n, B, O, T, R1, R2, R3, R4, R5, R6⟩ := id R
  have hxt : ∀ A U H, Xl τ A U H → xt A U H := fun A U H h => h.2.2.2.2.1
  have hnc : ∀ A U H, Xl τ A U H → va_Nc "java/lang/IllegalArgumentException" "java/lang/IndexOutOfBoundsException" U := fun A U H h => h.2.2.2.2.2.2.2.2.2.2
  refine hj_aload_n (F _ _ _ _) 3 dL_law_711 rfl rfl ?_
  refine hj_aload_n (F _ _ _ _) 4 dL_law_712 rfl rfl ?_
  refine hj_iload (F _ _ _ _) 0 dL_law_713 rfl ?_
  refine hj_iconst (F _ _ _ _) (v := 1) dL_law_715 (by decide) ?_
  refine hj_iadd (F _ _ _ _) dL_law_716 ?_
  refine hj_sld (F _ _ _ _) S (sc_in (k := 1) (by decide) hi hL) dL_law_717 ?_
  refine hj_aload_n (F _ _ _ _) 4 dL_law_718 rfl rfl ?_
  refine hj_iload (F _ _ _ _) 0 dL_law_719 rfl ?_
  refine hj_iconst (F _ _ _ _) (v := 2) dL_law_721 (by decide) ?_
  refine hj_iadd (F _ _ _ _) dL_law_722 ?_
  refine hj_sld (F _ _ _ _) S (sc_in (k := 2) (by decide) hi hL) dL_law_723 ?_
  refine hj_aload_n (F _ _ _ _) 1 dL_law_724 rfl rfl ?_
  refine hj_hS F (n := 4) (k_L_fit (Xl_ok τ) hlt hxt R5.1 R5.2.2.1 (fun o ho => (R5.2.2.2.1 o ho).2.2.1.1) hnc) gL_law_L_fit rfl ⟨rfl, rfl⟩ (by decide +kernel) ⟨by decide, by decide⟩ (As := [_, _, _, _]) rfl rfl (Nat.le_of_ble_eq_true rfl) ⟨by show kc + 2 ≤ 601024; omega, by show ks + 6 * 2 ≤ 7293034; omega⟩ dL_law_725 (fun k g1 a1 c1 v1 hp => ?_)
  refine hj_istore (F _ _ _ _) (lv' := [(5, _), (4, _), (3, _), (2, _), (1, _), (0, _)]) dL_law_728 (by decide) rfl ?_
  refine hj_aload_n (F _ _ _ _) 3 dL_law_730 rfl rfl ?_
  refine hj_aload_n (F _ _ _ _) 5 dL_law_731 rfl rfl ?_
  refine hj_iload (F _ _ _ _) 1 dL_law_732 rfl ?_
  refine hj_iconst (F _ _ _ _) (v := 1) dL_law_734 (by decide) ?_
  refine hj_iadd (F _ _ _ _) dL_law_735 ?_
  refine hj_sld (F _ _ _ _) S (sc_in (k := 1) (by decide) hi hL) dL_law_736 ?_
  refine hj_aload_n (F _ _ _ _) 5 dL_law_737 rfl rfl ?_
  refine hj_iload (F _ _ _ _) 1 dL_law_738 rfl ?_
  refine hj_iconst (F _ _ _ _) (v := 2) dL_law_740 (by decide) ?_
  refine hj_iadd (F _ _ _ _) dL_law_741 ?_
  refine hj_sld (F _ _ _ _) S (sc_in (k := 2) (by decide) hi hL) dL_law_742 ?_
  refine hj_MVi F (n := 2) (k_M_fit (Xl_ok τ) R5.2.1 R5.2.2.1) gL_law_X4_fit rfl ⟨rfl, rfl⟩ (by decide +kernel) ⟨by decide, by decide⟩ (As := [_, _]) rfl rfl (Nat.le_of_ble_eq_true rfl) ⟨by show kc + 2 ≤ 601024; omega, by show ks + 6 * 2 ≤ 7293034; omega⟩ dL_law_743 (fun r' h1 b1 e1 hq => ?_)
  refine hj_istore (F _ _ _ _) (lv' := [(6, _), (5, _), (4, _), (3, _), (2, _), (1, _), (0, _)]) dL_law_746 (by decide) rfl ?_
  refine hj_aload_n (F _ _ _ _) 4 dL_law_748 rfl rfl ?_
  refine hj_MVi F (n := 0) (k_M_thrown (Xl_ok τ)) gL_law_X4_thrown rfl ⟨rfl, rfl⟩ (by decide +kernel) ⟨by decide, by decide⟩ (As := []) rfl rfl (Nat.le_of_ble_eq_true rfl) ⟨by show kc + 2 ≤ 601024; omega, by show ks + 6 * 2 ≤ 7293034; omega⟩ dL_law_749 (hw_eq4 ?_)
  obtain ⟨f1, f2, f3⟩ : h1 0 = k ∧ (k = 0 → v1 0 = r'.toInt64) ∧ Rel (j + 1) g1 a1 c1 h1 b1 := by
    rcases hp with ⟨rfl, r0, p, hv⟩ | ⟨rfl, hB, rfl, rfl, rfl⟩ | ⟨rfl, hB, rfl, rfl, rfl⟩
    · obtain ⟨e1, e2, e3⟩ := r_fit (i := j + 1) R1 R2 R3 R4 R5 R6 (by omega) p hq
      exact ⟨e1, fun _ => by rw [hv, e2], e3⟩
    · obtain ⟨-, hq⟩ := hq
      rw [if_pos hB] at hq
      obtain ⟨rfl, rfl⟩ := hq
      exact ⟨rfl, fun z => absurd z (by decide), Rel_t R⟩
    · obtain ⟨-, hq⟩ := hq
      rw [if_neg hB.1, if_pos hB.2] at hq
      obtain ⟨rfl, rfl⟩ := hq
      exact ⟨rfl, fun z => absurd z (by decide), Rel_t R⟩
  refine hj_iload (F _ _ _ _) 1 dL_law_752 rfl ?_
  refine hj_icmp_eq (F _ _ _ _) 759 dL_law_754 (by decide) (fun q => ?_) (fun q => absurd f1 q)
  refine hj_iload (F _ _ _ _) 1 dL_law_759 rfl ?_
  refine hj_if_ne (F _ _ _ _) 776 dL_law_761 (by decide) (fun q => ?_) (fun q => ?_)
  · refine hj_goto (F _ _ _ _) 872 dL_law_776 (by decide) ?_
    refine hj_lv [2, 3, 4, 5, 6] rfl ?_
    exact nx (by omega) (by omega) f3
  refine hj_aload_n (F _ _ _ _) 3 dL_law_764 rfl rfl ?_
  refine hj_iconst (F _ _ _ _) (v := 0) dL_law_765 (by decide) ?_
  refine hj_in0 F dL_law_766 ?_
  refine hj_iload (F _ _ _ _) 0 dL_law_767 rfl ?_
  refine hj_i2l (F _ _ _ _) dL_law_769 ?_
  refine hj_lcmp (F _ _ _ _) dL_law_770 ?_
  refine hj_if_eq (F _ _ _ _) 776 dL_law_771 (by decide) (fun _ => ?_) (fun z => absurd (by rw [f2 q]; exact lc_rf _) z)
  refine hj_goto (F _ _ _ _) 872 dL_law_776 (by decide) ?_
  refine hj_lv [2, 3, 4, 5, 6] rfl ?_
  exact nx (by omega) (by omega) f3
set_option maxHeartbeats 4000000 in
set_option maxRecDepth 100000 in
theorem st_wear (F : ∀ h b e v, hw_F K l D (LW ad ad2 t qo h b e v) (hw_TL t) (Xl τ) code RL wsL_law room_1 7) (S : hw_SC K bs L xs) (hlt : l.stackTraces = false) (hi : i + 6 ≤ L) (hL : L ≤ 3072) (hj : j < 512) (R : Rel j g a c h b) (hkc : kc + 2 ≤ 601024) (hks : ks + 12 ≤ 7293034) (nx : ∀ {kc' ks' : Nat} {g' : hw_G} {a' : hw_A} {c' : Int64} {h' : hw_G} {b' : hw_A} {e' : Int64} {v' : Nat → Int64}, kc' ≤ kc + 2 → ks' ≤ ks + 12 → Rel (j + 1) g' a' c' h' b' → hw_J K (LW ad ad2 t qo h' b' e' v') kc' ks' g' a' c' [(4, .int (nI i)), (3, .ref qo), (2, .ref (ad2 0)), (1, .ref (ad 0)), (0, .ref bs)] 872 []) : hw_J K (LW ad ad2 t qo h b e v) kc ks g a c [(4, .int (nI i)), (3, .ref qo), (2, .ref (ad2 0)), (1, .ref (ad 0)), (0, .ref bs)] 779 [] := by
  obtain ⟨n, B, O, T, R1, R2, R3, R4, R5, R6⟩ := id R
  have hxt : ∀ A U H, Xl τ A U H → xt A U H := fun A U H h => h.2.2.2.2.1
  have hnc : ∀ A U H, Xl τ A U H → va_Nc "java/lang/IllegalArgumentException" "java/lang/IndexOutOfBoundsException" U := fun A U H h => h.2.2.2.2.2.2.2.2.2.2
  refine hj_aload_n (F _ _ _ _) 3 dL_law_779 rfl rfl ?_
  refine hj_aload_n (F _ _ _ _) 4 dL_law_780 rfl rfl ?_
  refine hj_iload (F _ _ _ _) 0 dL_law_781 rfl ?_
  refine hj_iconst (F _ _ _ _) (v := 1) dL_law_783 (by decide) ?_
  refine hj_iadd (F _ _ _ _) dL_law_784 ?_
  refine hj_sld (F _ _ _ _) S (sc_in (k := 1) (by decide) hi hL) dL_law_785 ?_
  refine hj_aload_n (F _ _ _ _) 4 dL_law_786 rfl rfl ?_
  refine hj_iload (F _ _ _ _) 0 dL_law_787 rfl ?_
  refine hj_iconst (F _ _ _ _) (v := 2) dL_law_789 (by decide) ?_
  refine hj_iadd (F _ _ _ _) dL_law_790 ?_
  refine hj_sld (F _ _ _ _) S (sc_in (k := 2) (by decide) hi hL) dL_law_791 ?_
  refine hj_aload_n (F _ _ _ _) 1 dL_law_792 rfl rfl ?_
  refine hj_hS F (n := 4) (k_L_wear (Xl_ok τ) hlt hxt R2.1 R2.2.2.1 hnc) gL_law_L_wear rfl ⟨rfl, rfl⟩ (by decide +kernel) ⟨by decide, by decide⟩ (As := [_, _, _, _]) rfl rfl (Nat.le_of_ble_eq_true rfl) ⟨by show kc + 2 ≤ 601024; omega, by show ks + 6 * 2 ≤ 7293034; omega⟩ dL_law_793 (fun k g1 a1 c1 v1 hp => ?_)
  refine hj_istore (F _ _ _ _) (lv' := [(5, _), (4, _), (3, _), (2, _), (1, _), (0, _)]) dL_law_796 (by decide) rfl ?_
  refine hj_aload_n (F _ _ _ _) 3 dL_law_798 rfl rfl ?_
  refine hj_aload_n (F _ _ _ _) 5 dL_law_799 rfl rfl ?_
  refine hj_iload (F _ _ _ _) 1 dL_law_800 rfl ?_
  refine hj_iconst (F _ _ _ _) (v := 1) dL_law_802 (by decide) ?_
  refine hj_iadd (F _ _ _ _) dL_law_803 ?_
  refine hj_sld (F _ _ _ _) S (sc_in (k := 1) (by decide) hi hL) dL_law_804 ?_
  refine hj_aload_n (F _ _ _ _) 5 dL_law_805 rfl rfl ?_
  refine hj_iload (F _ _ _ _) 1 dL_law_806 rfl ?_
  refine hj_iconst (F _ _ _ _) (v := 2) dL_law_808 (by decide) ?_
  refine hj_iadd (F _ _ _ _) dL_law_809 ?_
  refine hj_sld (F _ _ _ _) S (sc_in (k := 2) (by decide) hi hL) dL_law_810 ?_
  refine hj_MVi F (n := 2) (k_M_wear (Xl_ok τ) R2.2.1 R2.2.2.1 R5.2.1 R5.2.2.1) gL_law_X4_wear rfl ⟨rfl, rfl⟩ (by decide +kernel) ⟨by decide, by decide⟩ (As := [_, _]) rfl rfl (Nat.le_of_ble_eq_true rfl) ⟨by show kc + 2 ≤ 601024; omega, by show ks + 6 * 2 ≤ 7293034; omega⟩ dL_law_811 (fun r' h1 b1 e1 hq => ?_)
  refine hj_istore (F _ _ _ _) (lv' := [(6, _), (5, _), (4, _), (3, _), (2, _), (1, _), (0, _)]) dL_law_814 (by decide) rfl ?_
  refine hj_aload_n (F _ _ _ _) 4 dL_law_816 rfl rfl ?_
  refine hj_MVi F (n := 0) (k_M_thrown (Xl_ok τ)) gL_law_X4_thrown rfl ⟨rfl, rfl⟩ (by decide +kernel) ⟨by decide, by decide⟩ (As := []) rfl rfl (Nat.le_of_ble_eq_true rfl) ⟨by show kc + 2 ≤ 601024; omega, by show ks + 6 * 2 ≤ 7293034; omega⟩ dL_law_817 (hw_eq4 ?_)
  obtain ⟨f1, f2, f3⟩ : h1 0 = k ∧ (k = 0 → v1 0 = r'.toInt64) ∧ Rel (j + 1) g1 a1 c1 h1 b1 := by
    rcases hp with ⟨rfl, r0, p, hv⟩ | ⟨rfl, hB, rfl, rfl, rfl⟩ | ⟨rfl, hB, rfl, rfl, rfl⟩
    · obtain ⟨rfl, rfl, rfl, p⟩ := p
      obtain ⟨kb, kj, z1, z2, z3, z4, z5⟩ := id p
      obtain ⟨-, hb, hq⟩ := hq
      rw [if_neg (by rw [z2]; exact ix_n z1 (by have := R2.2.2.1; omega)), if_neg (by rw [z4]; exact ix_l (N := 2) z3 (by decide))] at hq
      obtain ⟨hh, q⟩ := hq
      have e2 := r_wear R2 R5 p q
      rw [hh, hb]
      exact ⟨rfl, fun _ => by rw [hv, e2], Rel_t R⟩
    · obtain ⟨-, hb, hq⟩ := hq
      rw [if_pos hB] at hq
      rw [hq, hb]
      exact ⟨rfl, fun z => absurd z (by decide), Rel_t R⟩
    · obtain ⟨-, hb, hq⟩ := hq
      rw [if_neg hB.1, if_pos hB.2] at hq
      rw [hq, hb]
      exact ⟨rfl, fun z => absurd z (by decide), Rel_t R⟩
  refine hj_iload (F _ _ _ _) 1 dL_law_820 rfl ?_
  refine hj_icmp_eq (F _ _ _ _) 827 dL_law_822 (by decide) (fun q => ?_) (fun q => absurd f1 q)
  refine hj_iload (F _ _ _ _) 1 dL_law_827 rfl ?_
  refine hj_if_ne (F _ _ _ _) 844 dL_law_829 (by decide) (fun q => ?_) (fun q => ?_)
  · refine hj_goto (F _ _ _ _) 872 dL_law_844 (by decide) ?_
    refine hj_lv [2, 3, 4, 5, 6] rfl ?_
    exact nx (by omega) (by omega) f3
  refine hj_aload_n (F _ _ _ _) 3 dL_law_832 rfl rfl ?_
  refine hj_iconst (F _ _ _ _) (v := 0) dL_law_833 (by decide) ?_
  refine hj_in0 F dL_law_834 ?_
  refine hj_iload (F _ _ _ _) 0 dL_law_835 rfl ?_
  refine hj_i2l (F _ _ _ _) dL_law_837 ?_
  refine hj_lcmp (F _ _ _ _) dL_law_838 ?_
  refine hj_if_eq (F _ _ _ _) 844 dL_law_839 (by decide) (fun _ => ?_) (fun z => absurd (by rw [f2 q]; exact lc_rf _) z)
  refine hj_goto (F _ _ _ _) 872 dL_law_844 (by decide) ?_
  refine hj_lv [2, 3, 4, 5, 6] rfl ?_
  exact nx (by omega) (by omega) f3
end SSTEPT
