section SLOOP
theorem an_15 (x : Int32) : ∃ m, m < 16 ∧ x &&& 15 = nI m := ⟨x.toBitVec.toNat % 2 ^ 4, Nat.mod_lt _ (by decide), Int32.toBitVec_inj.mp (BitVec.eq_of_toNat_eq (by
  show (x.toBitVec &&& 15#32).toNat = (BitVec.ofNat 32 (x.toBitVec.toNat % 2 ^ 4)).toNat
  rw [BitVec.toNat_and, show (15#32).toNat = 2 ^ 4 - 1 from by decide, Nat.and_two_pow_sub_one_eq_mod, BitVec.toNat_ofNat]
  omega))⟩
theorem lp_c {i L : Nat} (hi : i < 2 ^ 30) (hL : L ≤ 3072) (q : ¬ nI L - 6 < nI i) : i + 6 ≤ L := by
  rcases Nat.lt_or_ge L 6 with z | z
  · have : nI L - 6 < 0 := by
      rcases (show L = 0 ∨ L = 1 ∨ L = 2 ∨ L = 3 ∨ L = 4 ∨ L = 5 by omega) with rfl | rfl | rfl | rfl | rfl | rfl <;> decide
    exact absurd (Int32.lt_of_lt_of_le this (nI_pos' (by omega))) q
  · have e : nI L - 6 = nI (L - 6) := by
      rw [Int32.sub_eq_iff_eq_add]
      have h := nI_add (L - 6) 6
      rw [show L - 6 + 6 = L by omega] at h
      exact h.symm
    rw [e, nI_ltI (by omega) (by omega)] at q
    omega
variable {K : hw_K} {l : Launch} {D : va_G} {ad ad2 : Nat → Nat} {t : Nat → ClassId} {qo : Nat} {τ : Nat → Nat} {kc ks : Nat} {g : hw_G} {a : hw_A} {c : Int64} {h : hw_G} {b : hw_A} {e : Int64} {v : Nat → Int64} {bs L : Nat} {xs : Nat → Int32} {j : Nat}
set_option maxHeartbeats 4000000 in
set_option maxRecDepth 100000 in
theorem lw_body (F : ∀ h b e v, hw_F K l D (LW ad ad2 t qo h b e v) (hw_TL t) (Xl τ) code RL wsL_law room_1 7) (S : hw_SC K bs L xs) (hlt : l.stackTraces = false) (hL : L ≤ 3072) (fin : ∀ {kc ks : Nat} {g : hw_G} {a : hw_A} {c : Int64} {Wd : hw_W} {lv : List (Nat × Value)}, kc ≤ 601024 → ks ≤ 7293034 → hw_J K Wd kc ks g a c lv 879 [.int 1]) (hj9 : j ≤ 512) (R : Rel j g a c h b) (hkc : kc + 2 * (512 - j) ≤ 601024) (hks : ks + 12 * (512 - j) ≤ 7293034)
    (nx : ∀ {kc' ks' : Nat} {g' : hw_G} {a' : hw_A} {c' : Int64} {h' : hw_G} {b' : hw_A} {e' : Int64} {v' : Nat → Int64}, j < 512 → kc' ≤ kc + 2 → ks' ≤ ks + 12 → Rel (j + 1) g' a' c' h' b' → hw_J K (LW ad ad2 t qo h' b' e' v') kc' ks' g' a' c' [(4, .int (nI (6 * (j + 1)))), (3, .ref qo), (2, .ref (ad2 0)), (1, .ref (ad 0)), (0, .ref bs)] 23 []) : hw_J K (LW ad ad2 t qo h b e v) kc ks g a c [(4, .int (nI (6 * j))), (3, .ref qo), (2, .ref (ad2 0)), (1, .ref (ad 0)), (0, .ref bs)] 23 [] := by
  refine hj_iload (F _ _ _ _) 0 dL_law_23 rfl ?_
  refine hj_aload_n (F _ _ _ _) 4 dL_law_25 rfl rfl ?_
  refine hj_slen (F _ _ _ _) S dL_law_26 ?_
  refine hj_bipush (F _ _ _ _) (v := 6) dL_law_27 (by decide) ?_
  refine hj_isub (F _ _ _ _) dL_law_29 ?_
  refine hj_icmp_gt (F _ _ _ _) 878 dL_law_30 (by decide) (fun q => ?_) (fun q => ?_)
  · refine hj_iconst (F _ _ _ _) (v := 1) dL_law_878 (by decide) ?_
    exact fin (by omega) (by omega)
  have hi : 6 * j + 6 ≤ L := lp_c (by omega) hL q
  have hj : j < 512 := by omega
  refine hj_aload_n (F _ _ _ _) 4 dL_law_33 rfl rfl ?_
  refine hj_iload (F _ _ _ _) 0 dL_law_34 rfl ?_
  refine hj_sld (F _ _ _ _) S (vp_in_nI (by omega) (by omega)) dL_law_36 ?_
  refine hj_bipush (F _ _ _ _) (v := 15) dL_law_37 (by decide) ?_
  refine hj_iand (F _ _ _ _) dL_law_39 ?_
  obtain ⟨m, hm, em⟩ := an_15 (xs (nI (6 * j)).toNatClampNeg)
  rw [em]
  have NX : ∀ {kc' ks' : Nat} {g' : hw_G} {a' : hw_A} {c' : Int64} {h' : hw_G} {b' : hw_A} {e' : Int64} {v' : Nat → Int64}, kc' ≤ kc + 2 → ks' ≤ ks + 12 → Rel (j + 1) g' a' c' h' b' → hw_J K (LW ad ad2 t qo h' b' e' v') kc' ks' g' a' c' [(4, .int (nI (6 * j))), (3, .ref qo), (2, .ref (ad2 0)), (1, .ref (ad 0)), (0, .ref bs)] 872 [] := fun {kc' ks' g' a' c' h' b' e' v'} z1 z2 z3 => by
    refine hj_iinc (F _ _ _ _) 0 (v := nI (6 * (j + 1))) (lv' := [(4, .int (nI (6 * (j + 1)))), (3, .ref qo), (2, .ref (ad2 0)), (1, .ref (ad 0)), (0, .ref bs)]) dL_law_872 rfl (nI_add (6 * j) 6) (by decide) rfl ?_
    refine hj_goto (F _ _ _ _) 23 dL_law_875 (by decide) ?_
    exact nx hj z1 z2 z3
  rcases (show m = 0 ∨ m = 1 ∨ m = 2 ∨ m = 3 ∨ m = 4 ∨ m = 5 ∨ m = 6 ∨ m = 7 ∨ m = 8 ∨ m = 9 ∨ m = 10 ∨ m = 11 ∨ m = 12 ∨ m = 13 ∨ m = 14 ∨ m = 15 by omega) with rfl | rfl | rfl | rfl | rfl | rfl | rfl | rfl | rfl | rfl | rfl | rfl | rfl | rfl | rfl | rfl
  · refine hj_tableIn (F _ _ _ _) 120 dL_law_40 (by decide) (by decide) (off := 80) (by decide) (by decide) ?_
    exact st_push F S hlt hi hL hj R (by omega) (by omega) NX
  · refine hj_tableIn (F _ _ _ _) 176 dL_law_40 (by decide) (by decide) (off := 136) (by decide) (by decide) ?_
    exact st_block F S hlt hi hL hj R (by omega) (by omega) NX
  · refine hj_tableIn (F _ _ _ _) 220 dL_law_40 (by decide) (by decide) (off := 180) (by decide) (by decide) ?_
    exact st_feed F S hlt hi hL hj R (by omega) (by omega) NX
  · refine hj_tableIn (F _ _ _ _) 293 dL_law_40 (by decide) (by decide) (off := 253) (by decide) (by decide) ?_
    exact st_order F S hlt hi hL hj R (by omega) (by omega) NX
  · refine hj_tableIn (F _ _ _ _) 373 dL_law_40 (by decide) (by decide) (off := 333) (by decide) (by decide) ?_
    exact st_fault F S hlt hi hL hj R (by omega) (by omega) NX
  · refine hj_tableIn (F _ _ _ _) 386 dL_law_40 (by decide) (by decide) (off := 346) (by decide) (by decide) ?_
    exact st_misfit F S hlt hi hL hj R (by omega) (by omega) NX
  · refine hj_tableIn (F _ _ _ _) 454 dL_law_40 (by decide) (by decide) (off := 414) (by decide) (by decide) ?_
    exact st_told F S hlt hi hL hj R (by omega) (by omega) NX
  · refine hj_tableIn (F _ _ _ _) 522 dL_law_40 (by decide) (by decide) (off := 482) (by decide) (by decide) ?_
    exact st_go F S hlt hi hL hj R (by omega) (by omega) NX
  · refine hj_tableIn (F _ _ _ _) 578 dL_law_40 (by decide) (by decide) (off := 538) (by decide) (by decide) ?_
    exact st_wait F S hlt hi hL hj R (by omega) (by omega) NX
  · refine hj_tableIn (F _ _ _ _) 634 dL_law_40 (by decide) (by decide) (off := 594) (by decide) (by decide) ?_
    exact st_plan F S hlt hi hL hj R (by omega) (by omega) NX
  · refine hj_tableIn (F _ _ _ _) 648 dL_law_40 (by decide) (by decide) (off := 608) (by decide) (by decide) ?_
    exact st_planned F S hlt hi hL hj R (by omega) (by omega) NX
  · refine hj_tableIn (F _ _ _ _) 673 dL_law_40 (by decide) (by decide) (off := 633) (by decide) (by decide) ?_
    exact st_run F S hlt hi hL hj R (by omega) (by omega) NX
  · refine hj_tableIn (F _ _ _ _) 686 dL_law_40 (by decide) (by decide) (off := 646) (by decide) (by decide) ?_
    exact st_late F S hlt hi hL hj R (by omega) (by omega) NX
  · refine hj_tableIn (F _ _ _ _) 711 dL_law_40 (by decide) (by decide) (off := 671) (by decide) (by decide) ?_
    exact st_fit F S hlt hi hL hj R (by omega) (by omega) NX
  · refine hj_tableIn (F _ _ _ _) 779 dL_law_40 (by decide) (by decide) (off := 739) (by decide) (by decide) ?_
    exact st_wear F S hlt hi hL hj R (by omega) (by omega) NX
  · refine hj_tableIn (F _ _ _ _) 847 dL_law_40 (by decide) (by decide) (off := 807) (by decide) (by decide) ?_
    exact st_count F S hlt hi hL hj R (by omega) (by omega) NX
theorem lw_loop (F : ∀ h b e v, hw_F K l D (LW ad ad2 t qo h b e v) (hw_TL t) (Xl τ) code RL wsL_law room_1 7) (S : hw_SC K bs L xs) (hlt : l.stackTraces = false) (hL : L ≤ 3072) (fin : ∀ {kc ks : Nat} {g : hw_G} {a : hw_A} {c : Int64} {Wd : hw_W} {lv : List (Nat × Value)}, kc ≤ 601024 → ks ≤ 7293034 → hw_J K Wd kc ks g a c lv 879 [.int 1]) : ∀ (n j : Nat) {kc ks : Nat} {g : hw_G} {a : hw_A} {c : Int64} {h : hw_G} {b : hw_A} {e : Int64} {v : Nat → Int64}, j + n = 512 → Rel j g a c h b → kc + 2 * (512 - j) ≤ 601024 → ks + 12 * (512 - j) ≤ 7293034 → hw_J K (LW ad ad2 t qo h b e v) kc ks g a c [(4, .int (nI (6 * j))), (3, .ref qo), (2, .ref (ad2 0)), (1, .ref (ad 0)), (0, .ref bs)] 23 []
  | 0, j, kc, ks, g, a, c, h, b, e, v, hn, R, h1, h2 => lw_body F S hlt hL fin (by omega) R h1 h2 (fun hj => absurd hj (by omega))
  | n + 1, j, kc, ks, g, a, c, h, b, e, v, hn, R, h1, h2 => lw_body F S hlt hL fin (by omega) R h1 h2 (fun hj z1 z2 z3 => lw_loop F S hlt hL fin n (j + 1) (by omega) z3 (by omega) (by omega))
end SLOOP
