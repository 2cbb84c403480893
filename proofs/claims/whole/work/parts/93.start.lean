section SSTART
variable {K : hw_K} {l : Launch} {D : va_G} {t : Nat → ClassId} {τ : Nat → Nat} {bs L : Nat} {xs : Nat → Int32}
theorem hF_LW {ad ad2 : Nat → Nat} {qo : Nat} {tys : List (ClassId × FieldType)} {X : hw_XT} {cc : ByteArray} {own : String} {Ts : List Cond} {rm : Room} {nL : Nat} {Wl : va_W} {h0 : hw_G} {b0 : hw_A} {e0 : Int64} {v0 : Nat → Int64} {g0 : hw_G} {a0 : hw_A} {c0 : Int64} (F : hw_F K l D (hw_c Wl) tys X cc own Ts rm nL) (pm : Wl.Perm (LW ad ad2 t qo h0 b0 e0 v0 g0 a0 c0)) : ∀ h b e v, hw_F K l D (LW ad ad2 t qo h b e v) tys X cc own Ts rm nL := by
  intro h b e v
  obtain ⟨p, l, e1, R, s, m, args, below, meth, cd, Q, D, A, nL⟩ := K
  obtain ⟨rfl, rfl, rfl, rfl, hx, hb, hml, hown, hts, hK, hD, hA, hlk, hok, hX⟩ := F
  exact ⟨rfl, rfl, rfl, rfl, hx, hb, hml, hown, hts, hK, fun g a c => hw_D (hw_Dp (hD g0 a0 c0) pm) (LW_ads ad ad2 t qo h0 h b0 b e0 e v0 v g0 g a0 a c0 c), hA, hlk, hok, hX⟩
theorem Rel_0 : Rel 0 hX_g0 hw_a0 0 hM_g0 hw_a0 := by
  have u0 : ∀ m, ub 0 m := fun m => ⟨rfl, Nat.zero_le _⟩
  refine ⟨0, 0, 0, 0, ⟨rfl, rfl, Nat.zero_le _, rfl, fun i hi => absurd hi (Nat.not_lt_zero _)⟩, ⟨rfl, rfl, Nat.zero_le _, fun j hj => absurd hj (Nat.not_lt_zero _)⟩, ⟨rfl, rfl, Nat.zero_le _, rfl, fun i => rfl, rfl⟩, ⟨rfl, u0 _, rfl, u0 _, rfl, Or.inl ⟨rfl, rfl⟩, fun j _ => ⟨rfl, u0 _⟩, fun j hj => absurd hj (Nat.not_lt_zero _), fun _ _ => rfl⟩, ⟨rfl, rfl, Nat.zero_le _, fun o ho => absurd ho (Nat.not_lt_zero _), fun _ _ => rfl, fun _ _ _ _ => rfl⟩, RP_0 rfl⟩
set_option maxHeartbeats 4000000 in
set_option maxRecDepth 100000 in
theorem lw_from (F : hw_F K l D (hw_c ([] ++ [])) (hw_TL t) (Xl τ) code RL wsL_law room_1 7) (S : hw_SC K bs L xs) (hlt : l.stackTraces = false) (hL : L ≤ 3072) (fin : ∀ {kc ks : Nat} {g : hw_G} {a : hw_A} {c : Int64} {Wd : hw_W} {lv : List (Nat × Value)}, kc ≤ 601024 → ks ≤ 7293034 → hw_J K Wd kc ks g a c lv 879 [.int 1]) : hw_J K (hw_c ([] ++ [])) 0 0 hw_g0 hw_a0 0 [(0, .ref bs)] 0 [] := by
  have hao : ∀ (A : Nat → Prop) (U : State) (H : Heap), Xl τ A U H → va_AOA .int U := fun A U H h => h.2.2.2.2.2.2.2.2.2.1
  have hnT : ∀ (A : Nat → Prop) (U : State) (H : Heap), Xl τ A U H → va_Nw (.methodLinkNest RX3 15 yX2_init RX3) U := fun A U H h => h.2.2.2.2.2.2.1
  have hnB : ∀ (A : Nat → Prop) (U : State) (H : Heap), Xl τ A U H → va_Nw (.methodLinkNest RX3 22 yX0_init RX3) U := fun A U H h => h.2.2.2.2.2.2.2.1
  have hnP : ∀ (A : Nat → Prop) (U : State) (H : Heap), Xl τ A U H → va_Nw (.methodLinkNest RX3 34 yX1_init RX3) U := fun A U H h => h.2.2.2.2.2.2.2.2.1
  refine hn_new F (C := RX3) (T := TX3) (N := 12) (ci := 3) (index := 8) inlX3 tyX3_ok (List.mem_of_getElem? (i := 0) rfl) (List.mem_of_getElem? (i := 1) rfl) (List.mem_of_getElem? (i := 2) rfl) rfl (fs := [.null, .null, .null, .null, .null, .int 0, .int 0, .int 0, .int 0, .int 0, .int 0, .int 0]) (fun j hj => by rcases (show j = 0 ∨ j = 1 ∨ j = 2 ∨ j = 3 ∨ j = 4 ∨ j = 5 ∨ j = 6 ∨ j = 7 ∨ j = 8 ∨ j = 9 ∨ j = 10 ∨ j = 11 by omega) with rfl | rfl | rfl | rfl | rfl | rfl | rfl | rfl | rfl | rfl | rfl | rfl <;> rfl) (by decide) (by decide) dL_law_0 (A2 := fun q => [(q, .inr (3, [.null, .null, .null, .null, .null, .int 0, .int 0, .int 0, .int 0, .int 0, .int 0, .int 0]))]) (fun _ => rfl) (fun q F => ?_)
  refine hj_dup F dL_law_3 rfl ?_
  have F : hw_F K l D (hw_c (([] ++ [(q, .inr (3, [.null, .null, .null, .null, .null, .int 0, .int 0, .int 0, .int 0, .int 0, .int 0, .int 0]))]) ++ [])) (hw_TL t) (Xl τ) code RL wsL_law room_1 7 := F
  change hw_J K (hw_c (([] ++ [(q, .inr (3, [.null, .null, .null, .null, .null, .int 0, .int 0, .int 0, .int 0, .int 0, .int 0, .int 0]))]) ++ [])) _ _ _ _ _ _ _ _
  refine hn_ct F [0, 1, 2, 3] rfl (k_X_init (Xl_ok τ) hao hnT hnB hnP) gL_law_X3_init (List.mem_of_getElem? (i := 7) rfl) (List.mem_of_getElem? (i := 2) rfl) (List.mem_of_getElem? (i := 8) rfl) rfl rfl ⟨rfl, rfl⟩ (by decide +kernel) ⟨by decide, by decide⟩ (Nat.le_of_ble_eq_true rfl) ⟨by decide, by decide⟩ dL_law_4 (A2 := fun _ => []) (B2 := fun u => WH u t hX_g0 hw_a0 0) (fun u => List.Perm.of_eq (List.append_nil _)) (fun u hu F1 => ?_)
  obtain rfl := hu
  have F : hw_F K l D (hw_c ([] ++ WH u t hX_g0 hw_a0 0)) (hw_TL t) (Xl τ) code RL wsL_law room_1 7 := F1
  change hw_J K (hw_c ([] ++ WH u t hX_g0 hw_a0 0)) _ _ _ _ _ _ _ _
  refine hj_astore_n F (lv' := [(1, _), (0, _)]) dL_law_7 rfl (by decide) rfl ?_
  refine hn_new F (C := RX4) (T := TX4) (N := 28) (ci := 4) (index := 47) inlX4 tyX4_ok (List.mem_of_getElem? (i := 3) rfl) (List.mem_of_getElem? (i := 4) rfl) (List.mem_of_getElem? (i := 5) rfl) rfl (fs := [.int 0, .null, .int 0, .null, .int 0, .null, .int 0, .int 0, .int 0, .int 0, .int 0, .null, .null, .int 0, .int 0, .int 0, .int 0, .null, .null, .null, .null, .null, .null, .null, .null, .null, .int 0, .long 0]) (fun j hj => by rcases (show j = 0 ∨ j = 1 ∨ j = 2 ∨ j = 3 ∨ j = 4 ∨ j = 5 ∨ j = 6 ∨ j = 7 ∨ j = 8 ∨ j = 9 ∨ j = 10 ∨ j = 11 ∨ j = 12 ∨ j = 13 ∨ j = 14 ∨ j = 15 ∨ j = 16 ∨ j = 17 ∨ j = 18 ∨ j = 19 ∨ j = 20 ∨ j = 21 ∨ j = 22 ∨ j = 23 ∨ j = 24 ∨ j = 25 ∨ j = 26 ∨ j = 27 by omega) with rfl | rfl | rfl | rfl | rfl | rfl | rfl | rfl | rfl | rfl | rfl | rfl | rfl | rfl | rfl | rfl | rfl | rfl | rfl | rfl | rfl | rfl | rfl | rfl | rfl | rfl | rfl | rfl <;> rfl) (by decide) (by decide) dL_law_8 (A2 := fun q => [(q, .inr (4, [.int 0, .null, .int 0, .null, .int 0, .null, .int 0, .int 0, .int 0, .int 0, .int 0, .null, .null, .int 0, .int 0, .int 0, .int 0, .null, .null, .null, .null, .null, .null, .null, .null, .null, .int 0, .long 0]))]) (fun _ => rfl) (fun q F => ?_)
  refine hj_dup F dL_law_11 rfl ?_
  have F : hw_F K l D (hw_c (([] ++ [(q, .inr (4, [.int 0, .null, .int 0, .null, .int 0, .null, .int 0, .int 0, .int 0, .int 0, .int 0, .null, .null, .int 0, .int 0, .int 0, .int 0, .null, .null, .null, .null, .null, .null, .null, .null, .null, .int 0, .long 0]))]) ++ WH u t hX_g0 hw_a0 0)) (hw_TL t) (Xl τ) code RL wsL_law room_1 7 := F
  change hw_J K (hw_c (([] ++ [(q, .inr (4, [.int 0, .null, .int 0, .null, .int 0, .null, .int 0, .int 0, .int 0, .int 0, .int 0, .null, .null, .int 0, .int 0, .int 0, .int 0, .null, .null, .null, .null, .null, .null, .null, .null, .null, .int 0, .long 0]))]) ++ WH u t hX_g0 hw_a0 0)) _ _ _ _ _ _ _ _
  refine hn_ct F [0, 1, 2, 3] rfl (k_M_init (Xl_ok τ)) gL_law_X4_init (List.mem_of_getElem? (i := 72) rfl) (List.mem_of_getElem? (i := 5) rfl) (List.mem_of_getElem? (i := 73) rfl) rfl rfl ⟨rfl, rfl⟩ (by decide +kernel) ⟨by decide, by decide⟩ (Nat.le_of_ble_eq_true rfl) ⟨by decide, by decide⟩ dL_law_12 (A2 := fun u2 => WM u2 t hM_g0 hw_a0 0) (B2 := fun _ => WH u t hX_g0 hw_a0 0) (fun u2 => List.Perm.refl _) (fun u2 hu F2 => ?_)
  obtain rfl := hu
  have F : hw_F K l D (hw_c (WM u2 t hM_g0 hw_a0 0 ++ WH u t hX_g0 hw_a0 0)) (hw_TL t) (Xl τ) code RL wsL_law room_1 7 := F2
  change hw_J K (hw_c (WM u2 t hM_g0 hw_a0 0 ++ WH u t hX_g0 hw_a0 0)) _ _ _ _ _ _ _ _
  refine hj_astore_n F (lv' := [(2, _), (1, _), (0, _)]) dL_law_15 rfl (by decide) rfl ?_
  refine hj_iconst F (v := 1) dL_law_16 (by decide) ?_
  refine hn_newa F (atype := .long) (ty := .long) (List.mem_of_getElem? (i := 6) rfl) rfl 4 rfl (fun _ _ h => h) (N := 1) (a0 := (1, .inr (.inl (fun _ => 0)))) (fun _ => rfl) (by decide) (by decide) (by decide) (by decide) (by decide) dL_law_17 (A2 := fun q => WM u2 t hM_g0 hw_a0 0 ++ [hw_oc t q (fun _ => 0)]) (fun _ => rfl) (fun q F => ?_)
  have F : hw_F K l D (hw_c ((WM u2 t hM_g0 hw_a0 0 ++ [hw_oc t q (fun _ => 0)]) ++ WH u t hX_g0 hw_a0 0)) (hw_TL t) (Xl τ) code RL wsL_law room_1 7 := F
  change hw_J K (hw_c ((WM u2 t hM_g0 hw_a0 0 ++ [hw_oc t q (fun _ => 0)]) ++ WH u t hX_g0 hw_a0 0)) _ _ _ _ _ _ _ _
  refine hj_astore_n F (lv' := [(3, _), (2, _), (1, _), (0, _)]) dL_law_19 rfl (by decide) rfl ?_
  refine hj_iconst F (v := 0) dL_law_20 (by decide) ?_
  refine hj_istore F (lv' := [(4, _), (3, _), (2, _), (1, _), (0, _)]) dL_law_21 (by decide) rfl ?_
  have pm : ((WM u2 t hM_g0 hw_a0 0 ++ [hw_oc t q (fun _ => 0)]) ++ WH u t hX_g0 hw_a0 0).Perm (LW u u2 t q hM_g0 hw_a0 0 (fun _ => 0) hX_g0 hw_a0 0) := (List.perm_append_comm (l₁ := WM u2 t hM_g0 hw_a0 0) (l₂ := [hw_oc t q (fun _ => 0)])).append_right (WH u t hX_g0 hw_a0 0)
  refine hj_pm (Wd2 := LW u u2 t q hM_g0 hw_a0 0 (fun _ => 0)) (g2 := hX_g0) (a2 := hw_a0) (c2 := 0) pm ?_
  exact lw_loop (hF_LW F pm) S hlt hL fin 512 0 (by omega) Rel_0 (by decide) (by decide)
end SSTART
