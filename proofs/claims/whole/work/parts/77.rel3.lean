section SREL3
variable {g g' h h' : hw_G} {a a' b b' : hw_A} {c c' : Int64} {n B O T M : Nat}
theorem sn_a_ring {o blk j : Nat} (hj : j < 10) (ho : o < 60) (hb : blk < 10) : sn_a g a o blk (200 + j) = a (200 + j) := by
  unfold sn_a
  rw [va_up_ne _ _ (by omega), va_up_ne _ _ (by omega), va_up_ne _ _ (by omega), va_up_ne _ _ (by omega)]
/-- one order goes: all of the relation but what the planner holds -/
theorem r_sendA {o : Nat} (R1 : RA n g a h b) (R2 : RB B g a h b) (R3 : RT T g a h b) (R4 : RN M B g a h b) (R5 : RO O B g a h b) (hM : 1000000 ≤ M) (hM2 : M ≤ 1800000) (ho : o < O) (hw : b 7 (12 * o + 8) = 0) : sn_s g a o (a (100 + o) 0).toNatClampNeg = ge_s h b o (b 7 (12 * o)).toNatClampNeg ∧ RA n (sn_g g a o (a (100 + o) 0).toNatClampNeg) (sn_a g a o (a (100 + o) 0).toNatClampNeg) (ge_g h b o (b 7 (12 * o)).toNatClampNeg) (ge_a h b o (b 7 (12 * o)).toNatClampNeg) ∧ RB B (sn_g g a o (a (100 + o) 0).toNatClampNeg) (sn_a g a o (a (100 + o) 0).toNatClampNeg) (ge_g h b o (b 7 (12 * o)).toNatClampNeg) (ge_a h b o (b 7 (12 * o)).toNatClampNeg) ∧ RT T (sn_g g a o (a (100 + o) 0).toNatClampNeg) (sn_a g a o (a (100 + o) 0).toNatClampNeg) (ge_g h b o (b 7 (12 * o)).toNatClampNeg) (ge_a h b o (b 7 (12 * o)).toNatClampNeg) ∧ RN (M + 190) B (sn_g g a o (a (100 + o) 0).toNatClampNeg) (sn_a g a o (a (100 + o) 0).toNatClampNeg) (ge_g h b o (b 7 (12 * o)).toNatClampNeg) (ge_a h b o (b 7 (12 * o)).toNatClampNeg) ∧ RO O B (sn_g g a o (a (100 + o) 0).toNatClampNeg) (sn_a g a o (a (100 + o) 0).toNatClampNeg) (ge_g h b o (b 7 (12 * o)).toNatClampNeg) (ge_a h b o (b 7 (12 * o)).toNatClampNeg) := by
  obtain ⟨-, s1, s2, s3⟩ := r_send R4 R5 R2.2.2.1 hM hM2 ho hw
  have hb9 := (R5.2.2.2.1 o ho).2.2.1.1.2
  have hO := R5.2.2.1
  refine ⟨s1, RA_c R1 (sn_g_ne (by decide) (by decide) (by decide)) (ge_g_ne (by decide) (by decide)) (sn_a_lo (by decide) (by decide) (by decide)) (ge_a_ne (by decide) (by decide) (by decide)), RB_c R2 (sn_g_ne (by decide) (by decide) (by decide)) (ge_g_ne (by decide) (by decide)) (fun j hj => sn_a_ring hj (by omega) (by omega)) (ge_a_ne (by decide) (by decide) (by decide)), RT_c R3 (sn_g_ne (by decide) (by decide) (by decide)) (ge_g_ne (by decide) (by decide)) (sn_a_lo (by decide) (by decide) (by decide)) (ge_a_ne (by decide) (by decide) (by decide)) (sn_g_ne (by decide) (by decide) (by decide)) (ge_g_ne (by decide) (by decide)), s2, s3⟩
theorem r_go {i : Nat} {x r r' : Int32} {e e' : Int64} (R1 : RA n g a h b) (R2 : RB B g a h b) (R3 : RT T g a h b) (R4 : RN M B g a h b) (R5 : RO O B g a h b) (R6 : RP O g a c) (hM1 : 1000000 ≤ M) (hM2 : M ≤ 1800000) (hM : M + 190 ≤ 1000000 + 1330 * i) (p : c' = c ∧ ∃ o, o < O ∧ x = nI o ∧ (if a (100 + o) 9 = -1 then r = sn_s g a o (a (100 + o) 0).toNatClampNeg ∧ g' = sn_g g a o (a (100 + o) 0).toNatClampNeg ∧ a' = sn_a g a o (a (100 + o) 0).toNatClampNeg else r = -1 ∧ g' = g ∧ a' = a)) (q : e' = e ∧ (if x < 0 ∨ nI O ≤ x then h' = upd h 0 1 ∧ b' = b else ∃ o, o < O ∧ x = nI o ∧ (if b 7 (12 * o + 8) = 0 then r' = ge_s h b o (b 7 (12 * o)).toNatClampNeg ∧ h' = ge_g (upd h 0 0) b o (b 7 (12 * o)).toNatClampNeg ∧ b' = ge_a h b o (b 7 (12 * o)).toNatClampNeg else r' = -1 ∧ h' = upd h 0 0 ∧ b' = b))) : h' 0 = 0 ∧ r = r' ∧ Rel i g' a' c' h' b' := by
  obtain ⟨rfl, o, ho, rfl, p⟩ := p
  obtain ⟨-, q⟩ := q
  have hO := R5.2.2.1
  rw [if_neg (fun z => z.elim (fun z => absurd z (nI_pos (by omega))) (fun z => by rw [nI_leI (by omega) (by omega)] at z; omega))] at q
  obtain ⟨o2, ho2, e2, q⟩ := q
  obtain rfl : o = o2 := (nI_eq (by omega) (by omega)).mp e2
  obtain ⟨v1, v2, v3, v4, v5, v6, v7, v8⟩ := R5.2.2.2.1 o ho
  rcases v8 with v8 | v8
  · rw [if_pos v8.2.1] at p
    rw [if_pos v8.1] at q
    obtain ⟨rfl, rfl, rfl⟩ := p
    obtain ⟨rfl, rfl, rfl⟩ := q
    obtain ⟨s1, s2, s3, s4, s5, s6⟩ := r_sendA (h := upd h 0 0) (RA_c R1 rfl rfl rfl rfl) (RB_c R2 rfl rfl (fun _ _ => rfl) rfl) (RT_c R3 rfl rfl rfl rfl rfl rfl) (RN_c R4 rfl rfl rfl rfl rfl rfl rfl rfl rfl rfl) (RO_c R5 rfl rfl (fun _ _ => rfl) (fun _ _ => rfl) rfl rfl rfl) hM1 hM2 ho v8.1
    exact ⟨ge_g_ne (by decide) (by decide), s1, n, B, O, T, s2, s3, s4, RN_m hM s5, s6, RP_0 (by unfold sn_g; rw [pk_us])⟩
  · rw [if_neg v8.2] at p
    rw [if_neg (by rw [v8.1]; decide)] at q
    obtain ⟨rfl, rfl, rfl⟩ := p
    obtain ⟨rfl, rfl, rfl⟩ := q
    exact ⟨rfl, rfl, n, B, O, T, RA_c R1 rfl rfl rfl rfl, RB_c R2 rfl rfl (fun _ _ => rfl) rfl, RT_c R3 rfl rfl rfl rfl rfl rfl, RN_m (by omega) (RN_c R4 rfl rfl rfl rfl rfl rfl rfl rfl rfl rfl), RO_c R5 rfl rfl (fun _ _ => rfl) (fun _ _ => rfl) rfl rfl rfl, R6⟩
/-- the wear when o's fit is told -/
theorem wr_fit {o blk : Nat} {v : Int32} (hw : ¬ b 7 (12 * o + 8) = 0) (h9 : b 9 o = 0) (hb : b 7 (12 * o) = nI blk) (hb9 : blk < 10) {j k : Nat} (hj : j < 10) (hk : k < 3) : ∀ O, wr (mf_a b o v) j k O = if o < O ∧ j = blk then wr b j k O + (if k = 0 then 0 else if k = 1 then 1 else v) else wr b j k O
  | 0 => by rw [if_neg (by omega)]; rfl
  | x + 1 => by
    have ih := wr_fit (v := v) hw h9 hb hb9 hj hk x
    show (if b 7 (12 * x + 8) = 0 ∨ ¬ b 7 (12 * x) = nI j then wr (mf_a b o v) j k x else wr (mf_a b o v) j k x + wr_t (mf_a b o v) k x) = if o < x + 1 ∧ j = blk then (if b 7 (12 * x + 8) = 0 ∨ ¬ b 7 (12 * x) = nI j then wr b j k x else wr b j k x + wr_t b k x) + (if k = 0 then 0 else if k = 1 then 1 else v) else (if b 7 (12 * x + 8) = 0 ∨ ¬ b 7 (12 * x) = nI j then wr b j k x else wr b j k x + wr_t b k x)
    by_cases e : x = o
    · subst e
      have et : wr_t (mf_a b x v) k x = if k = 0 then 1 else if k = 1 then 1 else v := by
        unfold wr_t
        rw [show mf_a b x v 9 x = 1 by unfold mf_a; rw [va_up_ne _ _ (by decide), vau_s, pk_us], show mf_a b x v 8 x = v by unfold mf_a; rw [vau_s, pk_us]]
        rfl
      rw [ih, if_neg (show ¬ (x < x ∧ j = blk) by omega), et, wr_t0 hk h9, hb]
      by_cases z : j = blk
      · subst z
        have hy : ¬ (b 7 (12 * x + 8) = 0 ∨ ¬ nI j = nI j) := fun y => y.elim hw (fun y => y rfl)
        rw [if_neg hy, if_neg hy, if_pos (show x < x + 1 ∧ j = j from ⟨by omega, rfl⟩)]
        rcases (show k = 0 ∨ k = 1 ∨ k = 2 by omega) with rfl | rfl | rfl
        · show wr b j 0 x + 1 = wr b j 0 x + 1 + 0
          rw [Int32.add_zero]
        · show wr b j 1 x + 1 = wr b j 1 x + 0 + 1
          rw [Int32.add_zero]
        · show wr b j 2 x + v = wr b j 2 x + 0 + v
          rw [Int32.add_zero]
      · have hy : b 7 (12 * x + 8) = 0 ∨ ¬ nI blk = nI j := Or.inr (fun y => z ((nI_eq (by omega) (by omega)).mp y).symm)
        rw [if_pos hy, if_pos hy, if_neg (show ¬ (x < x + 1 ∧ j = blk) by omega)]
    · have et : wr_t (mf_a b o v) k x = wr_t b k x := by
        unfold wr_t
        rw [show mf_a b o v 9 x = b 9 x by unfold mf_a; rw [va_up_ne _ _ (by decide), vau_s, pk_un e], show mf_a b o v 8 x = b 8 x by unfold mf_a; rw [vau_s, pk_un e]]
      rw [ih, et]
      by_cases z : o < x ∧ j = blk
      · rw [if_pos z, if_pos (show o < x + 1 ∧ j = blk from ⟨by omega, z.2⟩)]
        by_cases y : b 7 (12 * x + 8) = 0 ∨ ¬ b 7 (12 * x) = nI j
        · rw [if_pos y, if_pos y]
        · rw [if_neg y, if_neg y, Int32.add_assoc, Int32.add_assoc, Int32.add_comm (wr_t b k x)]
      · rw [if_neg z, if_neg (show ¬ (o < x + 1 ∧ j = blk) by omega)]
theorem r_fit {i : Nat} {x v r r' : Int32} {e e' : Int64} (R1 : RA n g a h b) (R2 : RB B g a h b) (R3 : RT T g a h b) (R4 : RN M B g a h b) (R5 : RO O B g a h b) (R6 : RP O g a c) (hM : M ≤ 1000000 + 1330 * i) (p : g' = g ∧ c' = c ∧ ¬ (v < -2 ∨ 2 < v) ∧ ∃ o, o < O ∧ x = nI o ∧ (if ¬ a (100 + o) 9 = -1 ∧ a (100 + o) 10 ≤ g 2 then (if a (100 + o) 12 = 0 then r = 1 ∧ a' = ft_a a o (a (100 + o) 0).toNatClampNeg v else r = 0 ∧ a' = a) else r = -1 ∧ a' = a)) (q : e' = e ∧ (if x < 0 ∨ nI O ≤ x then h' = upd h 0 1 ∧ b' = b else if v < -2 ∨ 2 < v then h' = upd h 0 2 ∧ b' = b else h' = upd h 0 0 ∧ ∃ o, o < O ∧ x = nI o ∧ (if ¬ b 7 (12 * o + 8) = 0 ∧ b 7 (12 * o + 10) ≤ h 8 then (if b 9 o = 0 then r' = 1 ∧ b' = mf_a b o v else r' = 0 ∧ b' = b) else r' = -1 ∧ b' = b))) : h' 0 = 0 ∧ r = r' ∧ Rel i g' a' c' h' b' := by
  obtain ⟨rfl, rfl, pv, o, ho, rfl, p⟩ := p
  obtain ⟨-, q⟩ := q
  have hO := R5.2.2.1
  rw [if_neg (fun z => z.elim (fun z => absurd z (nI_pos (by omega))) (fun z => by rw [nI_leI (by omega) (by omega)] at z; omega)), if_neg pv] at q
  obtain ⟨rfl, o2, ho2, e2, q⟩ := q
  obtain rfl : o = o2 := (nI_eq (by omega) (by omega)).mp e2
  obtain ⟨v1, v2, v3, v4, v5, v6, v7, v8⟩ := R5.2.2.2.1 o ho
  have same : r = r' ∧ a' = a ∧ b' = b → (upd h 0 0) 0 = 0 ∧ r = r' ∧ Rel i g' a' c' (upd h 0 0) b' := by
    rintro ⟨rfl, rfl, rfl⟩
    exact ⟨rfl, rfl, n, B, O, T, RA_c R1 rfl rfl rfl rfl, RB_c R2 rfl rfl (fun _ _ => rfl) rfl, RT_c R3 rfl rfl rfl rfl rfl rfl, RN_m hM (RN_c R4 rfl rfl rfl rfl rfl rfl rfl rfl rfl rfl), RO_c R5 rfl rfl (fun _ _ => rfl) (fun _ _ => rfl) rfl rfl rfl, R6⟩
  have hcond : (¬ a (100 + o) 9 = -1 ∧ a (100 + o) 10 ≤ g' 2) ↔ (¬ b 7 (12 * o + 8) = 0 ∧ b 7 (12 * o + 10) ≤ h 8) := by
    rw [v2 10 (by decide) (by decide), R4.1]
    rcases v8 with v8 | v8
    · exact ⟨fun z => absurd v8.2.1 z.1, fun z => absurd v8.1 z.1⟩
    · exact ⟨fun z => ⟨by rw [v8.1]; decide, z.2⟩, fun z => ⟨v8.2, z.2⟩⟩
  by_cases z : ¬ b 7 (12 * o + 8) = 0 ∧ b 7 (12 * o + 10) ≤ h 8
  · rw [if_pos (hcond.mpr z)] at p
    rw [if_pos z] at q
    rw [v7] at p
    by_cases y : b 9 o = 0
    · rw [if_pos y] at p q
      obtain ⟨rfl, rfl⟩ := p
      obtain ⟨rfl, rfl⟩ := q
      obtain ⟨u1, u2, u3, u4, u5, u6⟩ := R5
      have e0 : a (100 + o) 0 = b 7 (12 * o) := v1 0 (by decide)
      obtain ⟨blk, hblk⟩ : ∃ k, (a (100 + o) 0).toNatClampNeg = k := ⟨_, rfl⟩
      have eblk : b 7 (12 * o) = nI blk := by rw [← hblk, ← e0]; exact v3.1.1
      have hb10 : blk < 10 := by have := v3.1.2; omega
      rw [hblk]
      have f0 : ∀ k, k ≠ 100 + o → k ≠ 300 + blk → ft_a a o blk v k = a k := fun k h1 h2 => by unfold ft_a; rw [va_up_ne _ _ h2, va_up_ne _ _ h1]
      have f1 : ft_a a o blk v (100 + o) = upd (a (100 + o)) 12 1 := by unfold ft_a; rw [va_up_ne _ _ (by omega), vau_s]
      have f2 : ft_a a o blk v (300 + blk) = upd (upd (a (300 + blk)) 1 (a (300 + blk) 1 + 1)) 2 (a (300 + blk) 2 + v) := by unfold ft_a; rw [vau_s]
      have m0 : ∀ k, k ≠ 8 → k ≠ 9 → mf_a b o v k = b k := fun k h1 h2 => by unfold mf_a; rw [va_up_ne _ _ h1, va_up_ne _ _ h2]
      have m9 : mf_a b o v 9 = upd (b 9) o 1 := by unfold mf_a; rw [va_up_ne _ _ (by decide), vau_s]
      refine ⟨rfl, rfl, n, B, O, T, RA_c R1 rfl rfl (f0 0 (by omega) (by omega)) (m0 0 (by decide) (by decide)), RB_c R2 rfl rfl (fun j hj => f0 _ (by omega) (by omega)) (m0 1 (by decide) (by decide)), RT_c R3 rfl rfl (f0 1 (by omega) (by omega)) (m0 2 (by decide) (by decide)) rfl rfl, RN_m hM (RN_c R4 rfl rfl rfl rfl rfl rfl (f0 3 (by omega) (by omega)) (m0 5 (by decide) (by decide)) (f0 4 (by omega) (by omega)) (m0 6 (by decide) (by decide))), ⟨u1, u2, u3, fun x hx => ?_, fun x hx => ?_, fun j hj k hk => ?_⟩, RP_c R6 u3 rfl rfl rfl rfl (f0 3 (by omega) (by omega)) (f0 5 (by omega) (by omega)) (f0 12 (by omega) (by omega)) (fun x hx k hk => ?_) rfl⟩
      · obtain ⟨w1, w2, w3, w4, w5, w6, w7, w8⟩ := u4 x hx
        unfold ro
        rw [m0 7 (by decide) (by decide), m9]
        by_cases ex : x = o
        · subst ex
          rw [f1, pk_us, pk_us]
          refine ⟨fun k hk => by rw [pk_un (by omega)]; exact w1 k hk, fun k hk hk2 => by rw [pk_un (by omega)]; exact w2 k hk hk2, ?_, ?_, ?_, ?_, rfl, ?_⟩
          · rw [pk_un (by decide)]; exact w3
          · rw [pk_un (by decide)]; exact w4
          · rw [pk_un (by decide)]; exact w5
          · rw [pk_un (by decide)]; exact w6
          · rw [pk_un (by decide)]
            rcases w8 with w8 | w8
            · exact absurd w8.1 z.1
            · exact Or.inr w8
        · rw [f0 _ (by omega) (by omega), pk_un ex]
          exact ⟨w1, w2, w3, w4, w5, w6, w7, w8⟩
      · rw [m9, pk_un (by omega)]; exact u5 x hx
      · rw [wr_fit z.1 y eblk hb10 hj hk O]
        by_cases ej : j = blk
        · subst ej
          rw [f2, if_pos ⟨ho, rfl⟩, ← u6 j hj k hk]
          rcases (show k = 0 ∨ k = 1 ∨ k = 2 by omega) with rfl | rfl | rfl
          · rw [pk_un (by decide), pk_un (by decide)]
            show _ = _ + 0
            rw [Int32.add_zero]
          · rw [pk_un (by decide), pk_us]
            rfl
          · rw [pk_us]
            rfl
        · rw [f0 _ (by omega) (by omega), if_neg (fun y => ej y.2)]
          exact u6 j hj k hk
      · by_cases ex : x = o
        · rw [ex, f1, pk_un (by omega)]
        · rw [f0 _ (by omega) (by omega)]
    · rw [if_neg y] at p q
      exact same ⟨p.1.trans q.1.symm, p.2, q.2⟩
  · rw [if_neg (fun y => z (hcond.mp y))] at p
    rw [if_neg z] at q
    exact same ⟨p.1.trans q.1.symm, p.2, q.2⟩
theorem r_W (R5 : RO O B g a h b) : pb_W a O = mW b O := wl_congr O (fun o ho => by
  obtain ⟨v1, v2, v3, v4, v5, v6, v7, v8⟩ := R5.2.2.2.1 o ho
  unfold hx_wz mw
  rcases v8 with v8 | v8
  · rw [decide_eq_true v8.2.1, decide_eq_true v8.1]
  · rw [decide_eq_false v8.2, decide_eq_false (by rw [v8.1]; decide)])
theorem pl_F0 {N nw : Nat} {ob st on wt : Nat → Nat} {S : Nat × (Nat → Nat) × Nat} : pl_F N nw ob st on wt 0 [] S none = some (S.2.2, []) := rfl
theorem pb_F0 : pb_F g a 0 = some (0, []) := by
  unfold pb_F
  exact pl_F0
theorem mF_F0 : mF h b 0 = some (0, []) := by
  unfold mF
  exact pl_F0
theorem r_F (R4 : RN M B g a h b) (R5 : RO O B g a h b) : pb_F g a O = mF h b O := by
  rcases Nat.eq_zero_or_pos O with e | e
  · subst e; rw [pb_F0, mF_F0]
  · have eW := r_W R5
    have e1 : ∀ k, k < 8 → pb_at a O k = m_at b O k := fun k hk => funext (fun i => by
      have hi : (mW b O).getD i 0 < O := by
        have : (mW b O).getD i 0 < O ∨ (mW b O).getD i 0 = 0 := wl_sub i
        omega
      show (a (100 + (pb_W a O).getD i 0) k).toNatClampNeg = (b 7 (12 * (mW b O).getD i 0 + k)).toNatClampNeg
      rw [eW, (R5.2.2.2.1 _ hi).1 k hk])
    have e2 : pb_bf a = m_bf b := funext (fun j => by
      show (if j < 10 then _ else _) = (if j < 10 then _ else _)
      by_cases z : j < 10
      · rw [if_pos z, if_pos z, (R4.2.2.2.2.2.2.1 j z).1]
      · rw [if_neg z, if_neg z])
    unfold pb_F mF
    rw [e1 0 (by decide), e1 4 (by decide), e1 5 (by decide), e1 7 (by decide), e2, show pb_N a O = mN b O by show (pb_W a O).length = _; rw [eW], R4.1, R4.2.2.1]
theorem r_DT (R4 : RN M B g a h b) (R5 : RO O B g a h b) (hM : M ≤ 2000000) : DT g a O :=
  ⟨R5.1, R5.2.2.1, R4.2.1, ub_mono R4.2.2.2.1 hM, fun j hj => ub_mono (R4.2.2.2.2.2.2.1 j hj).2 hM, fun o ho => by
    obtain ⟨v1, v2, v3, v4, v5, v6, v7, v8⟩ := R5.2.2.2.1 o ho
    exact ⟨v3.1, v4, v5, v6⟩⟩
theorem r_DM (R2 : RB B g a h b) (R4 : RN M B g a h b) (R5 : RO O B g a h b) (hM : M ≤ 2000000) : DM h b O B :=
  ⟨R5.2.1, R5.2.2.1, R2.2.1, R2.2.2.1, by rw [← R4.1]; exact R4.2.1, by rw [← R4.2.2.1]; exact ub_mono R4.2.2.2.1 hM, fun j hj => by rw [← (R4.2.2.2.2.2.2.1 j hj).1]; exact ub_mono (R4.2.2.2.2.2.2.1 j hj).2 hM, fun o ho => by
    obtain ⟨v1, v2, v3, v4, v5, v6, v7, v8⟩ := R5.2.2.2.1 o ho
    rw [← v1 4 (by decide), ← v1 5 (by decide), ← v1 7 (by decide), ← show a (100 + o) 0 = b 7 (12 * o) from v1 0 (by decide)]
    exact ⟨v3, v4, v5, v6⟩⟩
/-- what findBest and plans leave -/
theorem r_best {g1 h1 : hw_G} {a1 b1 : hw_A} {c1 e1 : Int64} (R1 : RA n g a h b) (R2 : RB B g a h b) (R3 : RT T g a h b) (R4 : RN M B g a h b) (R5 : RO O B g a h b) (p : FB g a O g1 a1 c1) (q : MQQ (upd h 0 0) b O h1 b1 e1) : h1 0 = 0 ∧ RA n g1 a1 h1 b1 ∧ RB B g1 a1 h1 b1 ∧ RT T g1 a1 h1 b1 ∧ RN M B g1 a1 h1 b1 ∧ RO O B g1 a1 h1 b1 ∧ RP O g1 a1 c1 := by
  obtain ⟨p1, p2, p3, p4⟩ := p
  obtain ⟨rfl, w, x, y, z, rfl, q1, q2⟩ := q
  have hg := fun r h1 h2 h3 => p1 r h1 h2 h3
  exact ⟨rfl, RA_c R1 (p1 0 (by decide) (by decide) (by decide)) rfl (p3 0 (by omega)) rfl, RB_c R2 (p1 12 (by decide) (by decide) (by decide)) rfl (fun j _ => p3 _ (by omega)) rfl, RT_c R3 (p1 11 (by decide) (by decide) (by decide)) rfl (p3 1 (by omega)) rfl (p1 5 (by decide) (by decide) (by decide)) rfl, RN_c R4 (p1 2 (by decide) (by decide) (by decide)) rfl (p1 3 (by decide) (by decide) (by decide)) rfl (p1 4 (by decide) (by decide) (by decide)) rfl (p3 3 (by omega)) rfl (p3 4 (by omega)) rfl, RO_c R5 (p1 1 (by decide) (by decide) (by decide)) rfl (fun o _ => p3 _ (by omega)) (fun j _ => p3 _ (by omega)) rfl rfl rfl, fun _ => ⟨p2, p4⟩⟩
theorem r_plan {g1 h1 : hw_G} {a1 b1 : hw_A} {c1 e1 r r' : Int64} (R4 : RN M B g a h b) (R5 : RO O B g a h b) (p : r = (if g1 14 = 0 then 0 else c1) ∧ FB g a O g1 a1 c1) (q : r' = (if mN b O = 0 then 0 else e1) ∧ MQQ (upd h 0 0) b O h1 b1 e1) : r = r' := by
  obtain ⟨rfl, p1, p2, p3, s1, s2, s3⟩ := p
  obtain ⟨rfl, rfl, w, x, y, z, rfl, q1, q2⟩ := q
  have hO := R5.2.2.1
  have eW : pb_W a1 O = mW b O := (hx_wz_c hO p3).trans (r_W R5)
  have eN : pb_N a1 O = mN b O := by show (pb_W a1 O).length = _; rw [eW]
  have hl7 : mN b O ≤ 7 := wl_len _ _
  rw [s1, eN]
  by_cases e : mN b O = 0
  · rw [if_pos e, if_pos (by rw [e]; rfl)]
  · rw [if_neg e, if_neg (show ¬ nI (mN b O) = 0 from fun y => e ((nI_eq (b := 0) (by omega) (by omega)).mp y))]
    have e3 : pb_F g1 a1 O = mF h b O := (pb_F_c hO p3 (p1 2 (by decide) (by decide) (by decide)) (p1 3 (by decide) (by decide) (by decide))).trans (r_F R4 R5)
    obtain ⟨qq, hq⟩ := mF_some h b O
    rw [e3, hq] at s3
    have q2 := q2 (by omega)
    rw [mF_0, hq] at q2
    rw [s3.1, q2.1]
theorem r_planned {g1 h1 : hw_G} {a1 b1 : hw_A} {c1 e1 : Int64} {k r r' : Int32} {qq : Nat × List Nat} (R4 : RN M B g a h b) (R5 : RO O B g a h b) (hq : mF h b O = some qq) (p : r = (if k < 0 ∨ nI (pb_N a1 O) ≤ k then -1 else a1 5 (a1 12 k.toNatClampNeg).toNatClampNeg) ∧ FB g a O g1 a1 c1) (q : r' = (if k < 0 ∨ nI (mN b O) ≤ k then -1 else nI ((mW b O).getD (qq.2.getD k.toNatClampNeg 0) 0)) ∧ MQQ (upd h 0 0) b O h1 b1 e1) : r = r' := by
  obtain ⟨rfl, p1, p2, p3, s1, s2, s3⟩ := p
  obtain ⟨rfl, -⟩ := q
  have hO := R5.2.2.1
  have eW : pb_W a1 O = mW b O := (hx_wz_c hO p3).trans (r_W R5)
  have eN : pb_N a1 O = mN b O := by show (pb_W a1 O).length = _; rw [eW]
  have hl7 : mN b O ≤ 7 := wl_len _ _
  rw [eN]
  by_cases z : k < 0 ∨ nI (mN b O) ≤ k
  · rw [if_pos z, if_pos z]
  · rw [if_neg z, if_neg z]
    obtain ⟨j, hj, rfl⟩ : ∃ j, j < mN b O ∧ k = nI j := by
      rcases pk_ix k (n := mN b O) (by omega) with y | y | y
      · exact absurd (Or.inl y) z
      · exact absurd (Or.inr y) z
      · exact y
    have e3 : pb_F g1 a1 O = mF h b O := (pb_F_c hO p3 (p1 2 (by decide) (by decide) (by decide)) (p1 3 (by decide) (by decide) (by decide))).trans (r_F R4 R5)
    rw [e3, hq, eN] at s3
    rw [eN, eW] at s2
    have h9 := s3.2.2.2 j hj
    rw [nI_clamp (by omega), h9.1, nI_clamp (by omega), s2 _ h9.2]
end SREL3
