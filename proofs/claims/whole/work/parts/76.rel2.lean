section SREL2
variable {g g' h h' : hw_G} {a a' b b' : hw_A} {c c' : Int64} {n B O T M : Nat}
theorem lt_neg {p : Nat → Bool} {k : Int32} (hk : k < 0) : ∀ (m o j : Nat), j + m < 1000 → lt_f p k m o (nI j) = -1
  | 0, _, _, _ => rfl
  | m + 1, o, j, hj => by
    show (if p o = true then (if nI j = k then nI o else lt_f p k m (o + 1) (nI j + 1)) else lt_f p k m (o + 1) (nI j)) = -1
    rw [nI_1, lt_neg hk m (o + 1) (j + 1) (by omega), lt_neg hk m (o + 1) j (by omega), if_neg (show ¬ nI j = k from fun z => by rw [← z] at hk; exact absurd hk (nI_pos (by omega))), ite_self]
theorem lt_mc {p p' : Nat → Bool} : ∀ (m o : Nat) (lf : Int32), (∀ x, o ≤ x → x < o + m → p x = p' x) → lt_m p m o lf = lt_m p' m o lf
  | 0, _, _, _ => rfl
  | m + 1, o, lf, hp => by
    show (if p o = true then (if lf = 0 then nI o else lt_m p m (o + 1) (lf + (-1))) else lt_m p m (o + 1) lf) = (if p' o = true then (if lf = 0 then nI o else lt_m p' m (o + 1) (lf + (-1))) else lt_m p' m (o + 1) lf)
    rw [hp o (Nat.le_refl _) (by omega), lt_mc m (o + 1) (lf + (-1)) (fun x h1 h2 => hp x (by omega) (by omega)), lt_mc m (o + 1) lf (fun x h1 h2 => hp x (by omega) (by omega))]
theorem r_late {k r r' : Int32} (R4 : RN M B g a h b) (R5 : RO O B g a h b) (p : r = lt_f (hx_late g a) k O 0 0) (q : r' = (if k < 0 then -1 else lt_m (md_late h b) O 0 k)) : r = r' := by
  have hO := R5.2.2.1
  rw [p, q]
  by_cases z : k < 0
  · rw [if_pos z]
    exact lt_neg z O 0 0 (by omega)
  · rw [if_neg z, lt_eq, show k - 0 = k from Int32.sub_zero k]
    refine lt_mc O 0 k (fun o _ ho => ?_)
    obtain ⟨v1, v2, v3, v4, v5, v6, v7, v8⟩ := R5.2.2.2.1 o (by omega)
    unfold hx_late md_late hx_when md_when
    rw [v1 6 (by decide)]
    rcases v8 with v8 | v8
    · rw [if_pos v8.2.1, if_pos v8.1, R4.1]
    · rw [if_neg v8.2, if_neg (by rw [v8.1]; decide), v2 10 (by decide) (by decide)]
theorem r_cw (R : ∀ o, o < O → ro B a b o) : hx_cw a O = md_cw b O := by
  induction O with
  | zero => rfl
  | succ o ih =>
    obtain ⟨v1, v2, v3, v4, v5, v6, v7, v8⟩ := R o (Nat.lt_succ_self _)
    show (if a (100 + o) 9 = -1 then hx_cw a o + 1 else hx_cw a o) = md_cw b o + (if b 7 (12 * o + 8) = 0 then 1 else 0)
    rw [ih (fun x hx => R x (Nat.lt_succ_of_lt hx))]
    rcases v8 with v8 | v8
    · rw [if_pos v8.2.1, if_pos v8.1]
    · rw [if_neg v8.2, if_neg (by rw [v8.1]; decide), Int32.add_zero]
theorem r_count {x r r' : Int32} (R1 : RA n g a h b) (R2 : RB B g a h b) (R3 : RT T g a h b) (R4 : RN M B g a h b) (R5 : RO O B g a h b) (p : r = ct_f g (hx_cw a O) x) (q : r' = ct_m h (md_cw b O) x) : r = r' := by
  rw [p, q]
  unfold ct_f ct_m
  rw [R2.1, R2.2.1, R5.1, R5.2.1, r_cw R5.2.2.2.1, R4.1, R1.1, R1.2.1, R3.1, R3.2.1, R4.2.2.1]
theorem r_wear {x w r r' : Int32} (R2 : RB B g a h b) (R5 : RO O B g a h b) (p : ∃ k j, k < B ∧ x = nI k ∧ j < 3 ∧ w = nI j ∧ r = a (300 + k) j) (q : ∃ k j, k < B ∧ x = nI k ∧ j < 3 ∧ w = nI j ∧ r' = wr b k j O) : r = r' := by
  obtain ⟨k, j, p1, rfl, p3, rfl, rfl⟩ := p
  obtain ⟨k2, j2, q1, q2, q3, q4, rfl⟩ := q
  have hB := R2.2.2.1
  obtain rfl : k = k2 := (nI_eq (by omega) (by omega)).mp q2
  obtain rfl : j = j2 := (nI_eq (by omega) (by omega)).mp q4
  exact R5.2.2.2.2.2 k (by omega) j p3
theorem ub_n {k m : Nat} (h : k ≤ m) (hm : m < 2 ^ 31) : ub (nI k) m := by
  unfold ub
  rw [nI_clamp (by omega)]
  exact ⟨rfl, h⟩
theorem ub_e {x : Int32} {m : Nat} (h : ub x m) : ∃ k, k ≤ m ∧ x = nI k := ⟨_, h.2, h.1⟩
theorem r_wait {i : Nat} {x r r' : Int32} {e e' : Int64} (R : RA n g a h b) (R2 : RB B g a h b) (R3 : RT T g a h b) (R4 : RN M B g a h b) (R5 : RO O B g a h b) (hM : M ≤ 1000000 + 1330 * i) (p : ¬ (x < 0 ∨ 10000 < x ∨ 1000000 < g 2 + x) ∧ r = g 2 + x ∧ g' = upd (upd g 2 (g 2 + x)) 6 0 ∧ a' = a ∧ c' = c) (q : e' = e ∧ b' = b ∧ (if x < 0 ∨ 10000 < x ∨ 1000000 < h 8 + x then h' = upd h 0 1 else r' = h 8 + x ∧ h' = upd (upd h 0 0) 8 (h 8 + x))) : h' 0 = 0 ∧ r = r' ∧ Rel i g' a' c' h' b' := by
  obtain ⟨p1, rfl, rfl, rfl, rfl⟩ := p
  obtain ⟨-, rfl, q⟩ := q
  rw [← R4.1, if_neg p1] at q
  obtain ⟨rfl, rfl⟩ := q
  obtain ⟨t1, t2, t3, t4, t5, t6, t7, t8, t9⟩ := R4
  refine ⟨rfl, rfl, n, B, O, T, RA_c R rfl rfl rfl rfl, RB_c R2 rfl rfl (fun _ _ => rfl) rfl, RT_c R3 rfl rfl rfl rfl rfl rfl, RN_m hM ⟨rfl, ?_, t3, t4, t5, t6, t7, t8, t9⟩, RO_c R5 rfl rfl (fun _ _ => rfl) (fun _ _ => rfl) rfl rfl rfl, RP_0 rfl⟩
  show ub (g 2 + x) 1000000
  obtain ⟨k, hk, ek⟩ := ub_e t2
  obtain ⟨j, hj, rfl⟩ : ∃ j, j ≤ 10000 ∧ x = nI j := by
    rcases pk_ix x (n := 10001) (by decide) with z | z | ⟨j, hj, rfl⟩
    · exact absurd (Or.inl z) p1
    · exact absurd (Or.inr (Or.inl (Int32.lt_of_lt_of_le (by decide) z))) p1
    · exact ⟨j, by omega, rfl⟩
  rw [ek, nI_add] at p1 ⊢
  refine ub_n ?_ (by decide)
  rcases Nat.lt_or_ge 1000000 (k + j) with z | z
  · exact absurd (Or.inr (Or.inr (nI_lt (a := 1000000) z (by omega)))) p1
  · exact z
theorem wr_t0 {k o : Nat} (hk : k < 3) (h9 : b 9 o = 0) : wr_t b k o = if k = 0 then 1 else 0 := by
  unfold wr_t
  by_cases e : k = 0
  · rw [if_pos e, if_pos e]
  · rw [if_neg e, if_neg e, if_pos h9]
/-- the wear when o goes -/
theorem wr_go {o blk : Nat} (hw : b 7 (12 * o + 8) = 0) (h9 : b 9 o = 0) (hb : b 7 (12 * o) = nI blk) (hb9 : blk < 10) (h7 : ∀ x, x ≠ o → b' 7 (12 * x + 8) = b 7 (12 * x + 8)) (h70 : ∀ x, b' 7 (12 * x) = b 7 (12 * x)) (h71 : b' 7 (12 * o + 8) = 1) (e8 : b' 8 = b 8) (e9 : b' 9 = b 9) {j k : Nat} (hj : j < 10) (hk : k < 3) : ∀ O, wr b' j k O = if o < O ∧ j = blk ∧ k = 0 then wr b j k O + 1 else wr b j k O
  | 0 => by rw [if_neg (by omega)]; rfl
  | x + 1 => by
    have ih := wr_go hw h9 hb hb9 h7 h70 h71 e8 e9 hj hk x
    have et : ∀ y, wr_t b' k y = wr_t b k y := fun y => by unfold wr_t; rw [e8, e9]
    show (if b' 7 (12 * x + 8) = 0 ∨ ¬ b' 7 (12 * x) = nI j then wr b' j k x else wr b' j k x + wr_t b' k x) = _
    rw [h70, et]
    by_cases e : x = o
    · subst e
      rw [h71, ih, if_neg (show ¬ (x < x ∧ j = blk ∧ k = 0) by omega), show wr b j k (x + 1) = wr b j k x from if_pos (Or.inl hw), hb, wr_t0 hk h9]
      by_cases z : j = blk
      · subst z
        rw [if_neg (show ¬ ((1 : Int32) = 0 ∨ ¬ nI j = nI j) from fun y => y.elim (by decide) (fun y => y rfl))]
        by_cases z2 : k = 0
        · rw [if_pos z2, if_pos ⟨by omega, rfl, z2⟩]
        · rw [if_neg z2, if_neg (by omega), Int32.add_zero]
      · rw [if_pos (Or.inr (fun y => z ((nI_eq (by omega) (by omega)).mp y).symm)), if_neg (by omega)]
    · rw [h7 x e, ih]
      show _ = if o < x + 1 ∧ j = blk ∧ k = 0 then (if b 7 (12 * x + 8) = 0 ∨ ¬ b 7 (12 * x) = nI j then wr b j k x else wr b j k x + wr_t b k x) + 1 else (if b 7 (12 * x + 8) = 0 ∨ ¬ b 7 (12 * x) = nI j then wr b j k x else wr b j k x + wr_t b k x)
      by_cases z : o < x ∧ j = blk ∧ k = 0
      · rw [if_pos z, if_pos (show o < x + 1 ∧ j = blk ∧ k = 0 from ⟨by omega, z.2⟩)]
        by_cases y : b 7 (12 * x + 8) = 0 ∨ ¬ b 7 (12 * x) = nI j
        · rw [if_pos y, if_pos y]
        · rw [if_neg y, if_neg y, Int32.add_assoc, Int32.add_assoc, Int32.add_comm 1]
      · rw [if_neg z, if_neg (show ¬ (o < x + 1 ∧ j = blk ∧ k = 0) by omega)]
theorem pl_st_c (nw sf f s : Nat) : pl_st nw sf f s = pl_st sf nw f s := by unfold pl_st; rw [Nat.max_comm nw sf]
/-- one order goes, on both sides -/
theorem r_send {o : Nat} (R4 : RN M B g a h b) (R5 : RO O B g a h b) (hB : B ≤ 10) (hM : 1000000 ≤ M) (hM2 : M ≤ 1800000) (ho : o < O) (hw : b 7 (12 * o + 8) = 0) : (a (100 + o) 0).toNatClampNeg = (b 7 (12 * o)).toNatClampNeg ∧ sn_s g a o (a (100 + o) 0).toNatClampNeg = ge_s h b o (b 7 (12 * o)).toNatClampNeg ∧ RN (M + 190) B (sn_g g a o (a (100 + o) 0).toNatClampNeg) (sn_a g a o (a (100 + o) 0).toNatClampNeg) (ge_g h b o (b 7 (12 * o)).toNatClampNeg) (ge_a h b o (b 7 (12 * o)).toNatClampNeg) ∧ RO O B (sn_g g a o (a (100 + o) 0).toNatClampNeg) (sn_a g a o (a (100 + o) 0).toNatClampNeg) (ge_g h b o (b 7 (12 * o)).toNatClampNeg) (ge_a h b o (b 7 (12 * o)).toNatClampNeg) := by
  obtain ⟨t1, t2, t3, t4, t5, t6, t7, t8, t9⟩ := R4
  obtain ⟨u1, u2, u3, u4, u5, u6⟩ := R5
  obtain ⟨v1, v2, v3, v4, v5, v6, v7, v8⟩ := u4 o ho
  have v80 : b 7 (12 * o + 8) = 0 ∧ a (100 + o) 9 = -1 ∧ b 9 o = 0 := by
    rcases v8 with v8 | v8
    · exact v8
    · rw [hw] at v8; exact absurd v8.1 (by decide)
  have e0 : a (100 + o) 0 = b 7 (12 * o) := v1 0 (by decide)
  obtain ⟨blk, hblk⟩ : ∃ k, (b 7 (12 * o)).toNatClampNeg = k := ⟨_, rfl⟩
  have eblk : b 7 (12 * o) = nI blk := by rw [← hblk, ← e0]; exact v3.1.1
  have hb10 : blk < B := by have := v3.2; rw [e0, hblk] at this; exact this
  rw [e0, hblk]
  refine ⟨rfl, ?_⟩
  obtain ⟨nw, hnw, enw⟩ := ub_e t2
  obtain ⟨sf, hsf, esf⟩ := ub_e t4
  obtain ⟨f, hf, ef⟩ := ub_e (t7 blk (by omega)).2
  obtain ⟨st, hst, est⟩ := ub_e v4
  obtain ⟨on, hon, eon⟩ := ub_e v5
  have e4 : b 7 (12 * o + 4) = nI st := by rw [← v1 4 (by decide)]; exact est
  have e5 : b 7 (12 * o + 5) = nI on := by rw [← v1 5 (by decide)]; exact eon
  obtain ⟨s, hs⟩ : ∃ s, pl_st nw sf f st = s := ⟨_, rfl⟩
  have hsM : s ≤ M := hs ▸ pl_st_le (by omega) (by omega) (by omega)
  have hsn : nw ≤ s := by rw [← hs]; unfold pl_st; omega
  have es : sn_s g a o blk = nI s := by
    unfold sn_s
    rw [enw, esf, ef, est, mxi_st (by omega) (by omega) (by omega) (by omega), hs]
  have es2 : ge_s h b o blk = nI s := by
    unfold ge_s
    rw [← t3, ← t1, ← (t7 blk (by omega)).1, enw, esf, ef, e4, mxi_st (by omega) (by omega) (by omega) (by omega), pl_st_c, hs]
  have ed : ge_d h b o blk = nI (s + st + on) := by
    unfold ge_d
    rw [es2, e4, e5, nI_add, nI_add]
  have esr : sn_s g a o blk + a (100 + o) 4 + a (100 + o) 5 = nI (s + st + on) := by rw [es, est, eon, nI_add, nI_add]
  have eh : sn_h g a blk (nI s) = ge_h h b blk (nI s) := by
    unfold sn_h ge_h
    rw [← t1, ← t3, ← t5, enw, t8 blk hb10]
    by_cases z : s = nw
    · subst z
      rw [if_neg Int32.lt_irrefl, if_pos rfl]
    · rw [if_pos (nI_lt (by omega) (by omega)), if_neg (fun y => z ((nI_eq (by omega) (by omega)).mp y))]
      by_cases y : nI s ≤ g 3
      · have hg4 : 0 ≤ g 4 := by
          rcases t6 with t6 | t6
          · rw [t6.2] at y
            exact absurd y (Int32.not_le.mpr (nI_lt (a := 0) (by omega) (by omega)))
          · exact t6
        rw [if_pos y, if_pos ⟨y, hg4⟩]
      · rw [if_neg y, if_neg (fun w => y w.1)]
  refine ⟨by rw [es, es2], ⟨?_, ?_, ?_, ?_, ?_, ?_, fun j hj => ?_, fun j hj => ?_, fun j hj => ?_⟩, ⟨?_, ?_, u3, fun x hx => ?_, fun x hx => ?_, fun j hj k hk => ?_⟩⟩
  · rw [sn_g_ne (by decide) (by decide) (by decide), ge_g_ne (by decide) (by decide)]; exact t1
  · rw [sn_g_ne (by decide) (by decide) (by decide)]; exact t2
  · show upd (upd (upd g 3 _) 4 _) 6 0 3 = upd (upd h 10 _) 11 _ 10
    rw [pk_un (by decide), pk_un (by decide), pk_us, pk_un (by decide), pk_us, es, est, es2, e4]
  · show ub (upd (upd (upd g 3 _) 4 _) 6 0 3) _
    rw [pk_un (by decide), pk_un (by decide), pk_us, es, est, nI_add]
    exact ub_n (by omega) (by omega)
  · show upd (upd (upd g 3 _) 4 _) 6 0 4 = upd (upd h 10 _) 11 _ 11
    rw [pk_un (by decide), pk_us, pk_us]
  · refine Or.inr ?_
    show 0 ≤ upd (upd (upd g 3 _) 4 _) 6 0 4
    rw [pk_un (by decide), pk_us]
    exact nI_pos' (by omega)
  · have ea : sn_a g a o blk 3 = upd (a 3) blk (nI (s + st + on)) := by
      unfold sn_a
      rw [va_up_ne _ _ (by omega), va_up_ne _ _ (by decide), vau_s, esr]
    have eb : ge_a h b o blk 5 = upd (b 5) blk (nI (s + st + on)) := by
      unfold ge_a
      rw [va_up_ne _ _ (by decide), vau_s, ed]
    rw [ea, eb]
    by_cases e : j = blk
    · rw [e, pk_us, pk_us]; exact ⟨rfl, ub_n (by omega) (by omega)⟩
    · rw [pk_un e, pk_un e]; exact ⟨(t7 j hj).1, ub_mono (t7 j hj).2 (by omega)⟩
  · have ea : sn_a g a o blk 4 = upd (a 4) blk (nI o) := by
      unfold sn_a
      rw [va_up_ne _ _ (by omega), vau_s]
    have eb : ge_a h b o blk 6 = upd (b 6) blk (nI (o + 1)) := by
      unfold ge_a
      rw [vau_s]
    rw [ea, eb]
    by_cases e : j = blk
    · rw [e, pk_us, pk_us, show (1 : Int32) = nI 1 from rfl, pk_sub (by omega)]; rfl
    · rw [pk_un e, pk_un e]; exact t8 j hj
  · have eb : ge_a h b o blk 6 = upd (b 6) blk (nI (o + 1)) := by
      unfold ge_a
      rw [vau_s]
    rw [eb, pk_un (by omega)]
    exact t9 j hj
  · rw [sn_g_ne (by decide) (by decide) (by decide)]; exact u1
  · rw [ge_g_ne (by decide) (by decide)]; exact u2
  · obtain ⟨w1, w2, w3, w4, w5, w6, w7, w8⟩ := u4 x hx
    have e9 : ge_a h b o blk 9 = b 9 := ge_a_ne (by decide) (by decide) (by decide)
    by_cases e : x = o
    · subst e
      have er : sn_a g a x blk (100 + x) = sn_row g a x blk := by
        unfold sn_a
        rw [va_up_ne _ _ (by omega), va_up_ne _ _ (by omega), va_up_ne _ _ (by omega), vau_s]
      unfold ro
      rw [er, ge_a7, e9]
      have k9 : sn_row g a x blk 9 = nI s := by unfold sn_row; rw [pk_un (by decide), pk_un (by decide), pk_us, es]
      have k10 : sn_row g a x blk 10 = nI (s + st + on) := by unfold sn_row; rw [pk_us, esr]
      have k11 : sn_row g a x blk 11 = ge_h h b blk (nI s) := by unfold sn_row; rw [pk_un (by decide), pk_us, es, eh]
      have m8 : ge_7 h b x blk (12 * x + 8) = 1 := by unfold ge_7; rw [pk_un (by omega), pk_un (by omega), pk_un (by omega), pk_us]
      have m9 : ge_7 h b x blk (12 * x + 9) = nI s := by unfold ge_7; rw [pk_un (by omega), pk_un (by omega), pk_us, es2]
      have m10 : ge_7 h b x blk (12 * x + 10) = nI (s + st + on) := by unfold ge_7; rw [pk_un (by omega), pk_us, ed]
      have m11 : ge_7 h b x blk (12 * x + 11) = ge_h h b blk (nI s) := by unfold ge_7; rw [pk_us, es2]
      refine ⟨fun k hk => ?_, fun k hk hk2 => ?_, ⟨?_, ?_⟩, ?_, ?_, ?_, ?_, Or.inr ⟨m8, ?_⟩⟩
      · rw [sn_row_ne (by omega) (by omega) (by omega), ge_7_ne hk]; exact w1 k hk
      · rcases (show k = 9 ∨ k = 10 ∨ k = 11 by omega) with rfl | rfl | rfl
        · rw [k9, m9]
        · rw [k10, m10]
        · rw [k11, m11]
      · rw [sn_row_ne (by decide) (by decide) (by decide)]; exact w3.1
      · rw [sn_row_ne (by decide) (by decide) (by decide)]; exact w3.2
      · rw [sn_row_ne (by decide) (by decide) (by decide)]; exact w4
      · rw [sn_row_ne (by decide) (by decide) (by decide)]; exact w5
      · rw [sn_row_ne (by decide) (by decide) (by decide)]; exact w6
      · rw [sn_row_ne (by decide) (by decide) (by decide)]; exact w7
      · rw [k9]
        intro z
        have z1 : (nI s).toInt = (-1 : Int32).toInt := by rw [z]
        rw [nI_toInt (by omega)] at z1
        have z2 : (-1 : Int32).toInt = -1 := by decide
        omega
    · have er : sn_a g a o blk (100 + x) = a (100 + x) := by
        unfold sn_a
        rw [va_up_ne _ _ (by omega), va_up_ne _ _ (by omega), va_up_ne _ _ (by omega), va_up_ne _ _ (by omega)]
      have em : ∀ k, k < 12 → ge_7 h b o blk (12 * x + k) = b 7 (12 * x + k) := fun k hk => by
        unfold ge_7
        rw [pk_un (by omega), pk_un (by omega), pk_un (by omega), pk_un (by omega)]
      unfold ro
      rw [er, ge_a7, e9, em 8 (by decide)]
      exact ⟨fun k hk => by rw [em k (by omega)]; exact w1 k hk, fun k hk hk2 => by rw [em k hk2]; exact w2 k hk hk2, w3, w4, w5, w6, w7, w8⟩
  · rw [ge_a_ne (by decide) (by decide) (by decide)]; exact u5 x hx
  · rw [wr_go (b := b) (o := o) (blk := blk) hw v80.2.2 eblk (by omega) (fun x hx => ?_) (fun x => ?_) ?_ (ge_a_ne (by decide) (by decide) (by decide)) (ge_a_ne (by decide) (by decide) (by decide)) hj hk O]
    · by_cases e : j = blk
      · subst e
        have ea : sn_a g a o j (300 + j) = upd (a (300 + j)) 0 (a (300 + j) 0 + 1) := by unfold sn_a; rw [vau_s]
        rw [ea]
        by_cases e2 : k = 0
        · subst e2
          rw [pk_us, if_pos ⟨ho, rfl, rfl⟩, u6 j hj 0 hk]
        · rw [pk_un e2, if_neg (by omega)]; exact u6 j hj k hk
      · have ea : sn_a g a o blk (300 + j) = a (300 + j) := by
          unfold sn_a
          rw [va_up_ne _ _ (by omega), va_up_ne _ _ (by omega), va_up_ne _ _ (by omega), va_up_ne _ _ (by omega)]
        rw [ea, if_neg (by omega)]
        exact u6 j hj k hk
    · rw [ge_a7]; unfold ge_7; rw [pk_un (by omega), pk_un (by omega), pk_un (by omega), pk_us]
    · rw [ge_a7]; unfold ge_7; rw [pk_un (by omega), pk_un (by omega), pk_un (by omega), pk_un (by omega)]
    · rw [ge_a7]; exact ge_7_ne (j := 0) (by decide)
end SREL2
