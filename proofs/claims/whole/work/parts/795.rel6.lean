section SREL6
variable {g g' h h' : hw_G} {a a' b b' : hw_A} {c c' : Int64} {n B O T M : Nat}
theorem oa_om (R3 : RT T g a h b) {x y z : Int32} : oa_bad g x y z ↔ om_bad h x y z := by
  unfold oa_bad
  rw [R3.1]
  show _ ↔ (x < 0 ∨ h 3 < x ∨ y < 0 ∨ 1000000 < y ∨ z < 1 ∨ 9 < z)
  rw [R3.2.1]
theorem mo_row_ne {F : Nat → Int32} {o x k : Nat} {s d w : Int32} {z : Nat → Int32} (h : x < o) (hk : k < 12) : mo_row F o s d w z (12 * x + k) = F (12 * x + k) := by
  unfold mo_row
  rw [pk_un (by omega), pk_un (by omega), pk_un (by omega), pk_un (by omega), pk_un (by omega), pk_un (by omega), pk_un (by omega), pk_un (by omega), pk_un (by omega), pk_un (by omega)]
theorem tp_none_at {f : Nat → Int32} : ∀ p, p < 4 → tp_none f p = -1 := fun p hp => by
  match p, hp with
  | 0, _ => rfl
  | 1, _ => rfl
  | 2, _ => rfl
  | 3, _ => rfl
set_option maxHeartbeats 4000000 in
theorem r_order {i : Nat} {x y z r r' : Int32} {e e' : Int64} (R1 : RA n g a h b) (R2 : RB B g a h b) (R3 : RT T g a h b) (R4 : RN M B g a h b) (R5 : RO O B g a h b) (R6 : RP O g a c) (hM : M ≤ 1000000 + 1330 * i) (p : ¬ oa_bad g x y z ∧ ∃ L, L ≤ T ∧ x = nI L ∧ (if n < 12 then r = -1 ∧ g' = g ∧ a' = a ∧ c' = c else if B = 0 then r = -2 ∧ g' = g ∧ a' = a ∧ c' = c else if 60 ≤ O then r = -3 ∧ g' = g ∧ a' = a ∧ c' = c else ∃ x9, c' = c ∧ (if (tp_end (tp_hat (a 1) L 5 0 (tp_none (a 2))) L).1 = 0 then r = nI O ∧ g' = upd (upd (or_g g L x9 (tp_end (tp_hat (a 1) L 5 0 (tp_none (a 2))) L).1 (tp_end (tp_hat (a 1) L 5 0 (tp_none (a 2))) L).2) 1 (nI (O + 1))) 6 0 ∧ a' = va_up (va_up a 2 (tp_hat (a 1) L 5 0 (tp_none (a 2))).2.2) (100 + O) (ao_row (va_up a 2 (tp_hat (a 1) L 5 0 (tp_none (a 2))).2.2) O B y z) else r = (tp_end (tp_hat (a 1) L 5 0 (tp_none (a 2))) L).1 - 10 ∧ g' = or_g g L x9 (tp_end (tp_hat (a 1) L 5 0 (tp_none (a 2))) L).1 (tp_end (tp_hat (a 1) L 5 0 (tp_none (a 2))) L).2 ∧ a' = va_up a 2 (tp_hat (a 1) L 5 0 (tp_none (a 2))).2.2))) (q : e' = e ∧ (if om_bad h x y z then h' = upd h 0 1 ∧ b' = b else ∃ L, L ≤ T ∧ x = nI L ∧ (if n < 12 then r' = -1 ∧ h' = upd h 0 0 ∧ b' = b else if B = 0 then r' = -2 ∧ h' = upd h 0 0 ∧ b' = b else if O = 60 then r' = -3 ∧ h' = upd h 0 0 ∧ b' = b else ∃ (x9 : Int32) (z4 z3 : Nat → Int32), (if (tp_end (tp_hat (b 2) L 5 0 (tp_none (a 2))) L).1 = 0 then (∀ p, p < 4 → z3 p = tp_v ((tp_hat (b 2) L 5 0 (tp_none (a 2))).2.2 p)) ∧ r' = nI O ∧ h' = upd (md_G (upd (upd (upd (upd h 0 0) 4 (nI L)) 3 0) 1 0) x9 (tp_end (tp_hat (b 2) L 5 0 (tp_none (a 2))) L).1 (tp_end (tp_hat (b 2) L 5 0 (tp_none (a 2))) L).2) 9 (nI (O + 1)) ∧ b' = va_up (md_A b z4 z3) 7 (mo_row (mo_t b O B 12 (-1, b 7)).2 O (mo_t b O B 12 (-1, b 7)).1 y z z3) else r' = (tp_end (tp_hat (b 2) L 5 0 (tp_none (a 2))) L).1 - 10 ∧ h' = md_G (upd (upd (upd (upd h 0 0) 4 (nI L)) 3 0) 1 0) x9 (tp_end (tp_hat (b 2) L 5 0 (tp_none (a 2))) L).1 (tp_end (tp_hat (b 2) L 5 0 (tp_none (a 2))) L).2 ∧ b' = md_A b z4 z3)))) : h' 0 = 0 ∧ r = r' ∧ Rel i g' a' c' h' b' := by
  obtain ⟨p0, L, hLT, rfl, p⟩ := p
  obtain ⟨-, q⟩ := q
  have p0' : ¬ om_bad h (nI L) y z := fun z9 => p0 ((oa_om R3).mpr z9)
  rw [if_neg p0'] at q
  obtain ⟨L2, hL2, eL, q⟩ := q
  have hT := R3.2.2.1
  have hO := R5.2.2.1
  obtain rfl : L = L2 := (nI_eq (by omega) (by omega)).mp eL
  by_cases z1 : n < 12
  · rw [if_pos z1] at p q
    obtain ⟨rfl, rfl, rfl, rfl⟩ := p
    obtain ⟨rfl, rfl, rfl⟩ := q
    exact ⟨rfl, rfl, n, B, O, T, RA_c R1 rfl rfl rfl rfl, RB_c R2 rfl rfl (fun _ _ => rfl) rfl, RT_c R3 rfl rfl rfl rfl rfl rfl, RN_m hM (RN_c R4 rfl rfl rfl rfl rfl rfl rfl rfl rfl rfl), RO_c R5 rfl rfl (fun _ _ => rfl) (fun _ _ => rfl) rfl rfl rfl, R6⟩
  rw [if_neg z1] at p q
  by_cases z2 : B = 0
  · rw [if_pos z2] at p q
    obtain ⟨rfl, rfl, rfl, rfl⟩ := p
    obtain ⟨rfl, rfl, rfl⟩ := q
    exact ⟨rfl, rfl, n, B, O, T, RA_c R1 rfl rfl rfl rfl, RB_c R2 rfl rfl (fun _ _ => rfl) rfl, RT_c R3 rfl rfl rfl rfl rfl rfl, RN_m hM (RN_c R4 rfl rfl rfl rfl rfl rfl rfl rfl rfl rfl), RO_c R5 rfl rfl (fun _ _ => rfl) (fun _ _ => rfl) rfl rfl rfl, R6⟩
  rw [if_neg z2] at p q
  by_cases z3 : O = 60
  · rw [if_pos (show 60 ≤ O by omega)] at p
    rw [if_pos z3] at q
    obtain ⟨rfl, rfl, rfl, rfl⟩ := p
    obtain ⟨rfl, rfl, rfl⟩ := q
    exact ⟨rfl, rfl, n, B, O, T, RA_c R1 rfl rfl rfl rfl, RB_c R2 rfl rfl (fun _ _ => rfl) rfl, RT_c R3 rfl rfl rfl rfl rfl rfl, RN_m hM (RN_c R4 rfl rfl rfl rfl rfl rfl rfl rfl rfl rfl), RO_c R5 rfl rfl (fun _ _ => rfl) (fun _ _ => rfl) rfl rfl rfl, R6⟩
  rw [if_neg (show ¬ 60 ≤ O by omega)] at p
  rw [if_neg z3] at q
  obtain ⟨xa, rfl, p⟩ := p
  obtain ⟨xb, w4, w3, q⟩ := q
  rw [← R3.2.2.2.1] at q
  obtain ⟨ht, eht⟩ : ∃ ht, tp_hat (a 1) L 5 0 (tp_none (a 2)) = ht := ⟨_, rfl⟩
  rw [eht] at p q
  obtain ⟨fe, efe⟩ : ∃ fe, tp_end ht L = fe := ⟨_, rfl⟩
  rw [efe] at p q
  have hB := R2.2.2.1
  have f2 : ∀ k, k ≠ 2 → va_up a 2 ht.2.2 k = a k := fun k hk => va_up_ne _ _ hk
  have fA : ∀ k, k ≠ 4 → k ≠ 3 → md_A b w4 w3 k = b k := fun k h1 h2 => by unfold md_A; rw [va_up_ne _ _ h2, va_up_ne _ _ h1]
  obtain ⟨u1, u2, u3, u4, u5, u6⟩ := R5
  by_cases z5 : fe.1 = 0
  · rw [if_pos z5] at p q
    obtain ⟨rfl, rfl, rfl⟩ := p
    obtain ⟨hz3, rfl, rfl, rfl⟩ := q
    have f0 : ∀ k, k ≠ 2 → k ≠ 100 + O → va_up (va_up a 2 ht.2.2) (100 + O) (ao_row (va_up a 2 ht.2.2) O B y z) k = a k := fun k h1 h2 => by rw [va_up_ne _ _ h2, va_up_ne _ _ h1]
    have fB : ∀ k, k ≠ 4 → k ≠ 3 → k ≠ 7 → va_up (md_A b w4 w3) 7 (mo_row (mo_t b O B 12 (-1, b 7)).2 O (mo_t b O B 12 (-1, b 7)).1 y z w3) k = b k := fun k h1 h2 h3 => by rw [va_up_ne _ _ h3, fA k h1 h2]
    have fr : va_up (va_up a 2 ht.2.2) (100 + O) (ao_row (va_up a 2 ht.2.2) O B y z) (100 + O) = ao_row (va_up a 2 ht.2.2) O B y z := vau_s _ _ _
    have fb : va_up (md_A b w4 w3) 7 (mo_row (mo_t b O B 12 (-1, b 7)).2 O (mo_t b O B 12 (-1, b 7)).1 y z w3) 7 = mo_row (mo_t b O B 12 (-1, b 7)).2 O (mo_t b O B 12 (-1, b 7)).1 y z w3 := vau_s _ _ _
    have em : ao_m (va_up a 2 ht.2.2) O B = (mt_t (a 0) (fun k => a (200 + k)) B 12 (2147483647, a (100 + O))).2 := by
      unfold ao_m
      rw [f2 0 (by decide), f2 (100 + O) (by omega), show (fun b9 => va_up a 2 ht.2.2 (200 + b9)) = (fun k => a (200 + k)) from funext (fun k => f2 _ (by omega))]
    have R1b : RA 12 g a h b := by
      have := R1.2.2.1
      have e12 : n = 12 := by omega
      rw [← e12]; exact R1
    obtain ⟨m1, m2⟩ := rmt_t (N := O) (s := (2147483647, a (100 + O))) (s' := (-1, b 7)) R1b R2 (by omega) ⟨fun k _ _ => rfl, Or.inl ⟨rfl, rfl⟩⟩ 12 (Nat.le_refl _)
    obtain ⟨m3, m4⟩ := m1
    obtain ⟨k9, hk9, ek9⟩ := m2 (by decide)
    rcases m4 with m4 | ⟨k0, blk, tn, c1, c2, c3, c4, c5, c6, c7, c8, c9⟩
    · rw [m4.1] at ek9
      exact absurd (ek9.symm.trans (show (2147483647 : Int32) = nI 2147483647 from rfl)) (fun z9 => by rw [nI_eq (by omega) (by decide)] at z9; omega)
    have hh := hat_ok (f := a 1) (L := L) 5 0 (tp_none (a 2)) (fun p hp => Or.inl (tp_none_at p hp))
    rw [eht] at hh
    obtain ⟨k_0, b_0, e_0⟩ := hok1_tv (hh 0 (by decide))
    obtain ⟨k_1, b_1, e_1⟩ := hok1_tv (hh 1 (by decide))
    obtain ⟨k_2, b_2, e_2⟩ := hok1_tv (hh 2 (by decide))
    obtain ⟨k_3, b_3, e_3⟩ := hok1_tv (hh 3 (by decide))
    have b_0 : k_0 ≤ 30 := b_0
    have b_1 : k_1 ≤ 20 := b_1
    have b_3 : k_3 ≤ 5 := b_3
    have a2 : va_up a 2 ht.2.2 2 = ht.2.2 := vau_s _ _ _
    have hd : ¬ (y < 0 ∨ 1000000 < y ∨ z < 1 ∨ 9 < z) := fun z9 => p0' (Or.inr (Or.inr z9))
    obtain ⟨wt, hwt, ewt⟩ : ∃ wt, wt ≤ 9 ∧ z = nI wt := by
      rcases pk_ix z (n := 10) (by decide) with z9 | z9 | ⟨j, hj, e9⟩
      · exact absurd (Or.inr (Or.inr (Or.inl (Int32.lt_of_lt_of_le z9 (by decide))))) hd
      · exact absurd (Or.inr (Or.inr (Or.inr (Int32.lt_of_lt_of_le (by decide) z9)))) hd
      · exact ⟨j, by omega, e9⟩
    have row : ∀ k, ao_row (va_up a 2 ht.2.2) O B y z k = upd (upd (upd (upd (upd (upd (upd (upd (upd (mt_t (a 0) (fun k => a (200 + k)) B 12 (2147483647, a (100 + O))).2 3 (4 * w3 0 * w3 3 + 3 * w3 1 * w3 3 + 10 * w3 2)) 4 (6 * w3 3 + w3 1)) 5 (10 + w3 0 + 20 * w3 3)) 6 y) 7 z) 9 (-1)) 10 (-1)) 11 (-1)) 12 0 k := by
      intro k
      unfold ao_row
      rw [em, a2, hz3 0 (by decide), hz3 1 (by decide), hz3 2 (by decide), hz3 3 (by decide)]
    rw [← hz3 0 (by decide)] at e_0
    rw [← hz3 1 (by decide)] at e_1
    rw [← hz3 3 (by decide)] at e_3
    have hr0 : ao_row (va_up a 2 ht.2.2) O B y z 0 = nI blk := by
      rw [row, pk_un (by decide), pk_un (by decide), pk_un (by decide), pk_un (by decide), pk_un (by decide), pk_un (by decide), pk_un (by decide), pk_un (by decide), pk_un (by decide)]; exact c5
    have hr1 : ao_row (va_up a 2 ht.2.2) O B y z 1 = nI tn := by
      rw [row, pk_un (by decide), pk_un (by decide), pk_un (by decide), pk_un (by decide), pk_un (by decide), pk_un (by decide), pk_un (by decide), pk_un (by decide), pk_un (by decide)]; exact c7
    have hr2 : ao_row (va_up a 2 ht.2.2) O B y z 2 = nI k0 := by
      rw [row, pk_un (by decide), pk_un (by decide), pk_un (by decide), pk_un (by decide), pk_un (by decide), pk_un (by decide), pk_un (by decide), pk_un (by decide), pk_un (by decide)]; exact c9
    have hb0 : mo_row (mo_t b O B 12 (-1, b 7)).2 O (mo_t b O B 12 (-1, b 7)).1 y z w3 (12 * O) = nI blk := by
      unfold mo_row
      rw [pk_un (by omega), pk_un (by omega), pk_un (by omega), pk_un (by omega), pk_un (by omega), pk_un (by omega), pk_un (by omega), pk_un (by omega), pk_un (by omega), pk_un (by omega)]; exact c6
    have hb1 : mo_row (mo_t b O B 12 (-1, b 7)).2 O (mo_t b O B 12 (-1, b 7)).1 y z w3 (12 * O + 1) = nI tn := by
      unfold mo_row
      rw [pk_un (by omega), pk_un (by omega), pk_un (by omega), pk_un (by omega), pk_un (by omega), pk_un (by omega), pk_un (by omega), pk_un (by omega), pk_un (by omega), pk_un (by omega)]; exact c8
    have hb2 : mo_row (mo_t b O B 12 (-1, b 7)).2 O (mo_t b O B 12 (-1, b 7)).1 y z w3 (12 * O + 2) = nI k0 := by
      unfold mo_row
      rw [pk_un (by omega), pk_un (by omega), pk_un (by omega), pk_un (by omega), pk_un (by omega), pk_un (by omega), pk_un (by omega), pk_un (by omega), pk_un (by omega), pk_us]; exact c3
    have hb8 : mo_row (mo_t b O B 12 (-1, b 7)).2 O (mo_t b O B 12 (-1, b 7)).1 y z w3 (12 * O + 8) = 0 := by
      unfold mo_row
      rw [pk_un (by omega), pk_un (by omega), pk_un (by omega), pk_us]
    refine ⟨rfl, rfl, 0, B, O + 1, 0, ⟨rfl, rfl, by omega, ?_, fun j hj => absurd hj (Nat.not_lt_zero _)⟩, RB_c R2 rfl rfl (fun j hj => f0 _ (by omega) (by omega)) (fB 1 (by decide) (by decide) (by decide)), ⟨rfl, rfl, by omega, ?_, ?_, rfl⟩, RN_m hM (RN_c R4 rfl rfl rfl rfl rfl rfl (f0 3 (by omega) (by omega)) (fB 5 (by decide) (by decide) (by decide)) (f0 4 (by omega) (by omega)) (fB 6 (by decide) (by decide) (by decide))), ⟨rfl, rfl, by omega, fun o ho => ?_, fun o ho => ?_, fun j hj k hk => ?_⟩, RP_0 rfl⟩
    · rw [f0 0 (by decide) (by omega), fB 0 (by decide) (by decide) (by decide)]; exact R1.2.2.2.1
    · rw [f0 1 (by decide) (by omega), fB 2 (by decide) (by decide) (by decide)]; exact R3.2.2.2.1
    · rw [fB 2 (by decide) (by decide) (by decide)]; exact R3.2.2.2.2.1
    · by_cases eo : o = O
      · subst eo
        unfold ro
        rw [fr, fb, fB 9 (by decide) (by decide) (by decide), u5 o (Nat.le_refl _)]
        refine ⟨fun k hk => ?_, fun k h1 h2 => ?_, ⟨?_, ?_⟩, ?_, ?_, ?_, ?_, Or.inl ⟨hb8, ?_, rfl⟩⟩
        · rcases (show k = 0 ∨ k = 1 ∨ k = 2 ∨ k = 3 ∨ k = 4 ∨ k = 5 ∨ k = 6 ∨ k = 7 by omega) with rfl | rfl | rfl | rfl | rfl | rfl | rfl | rfl
          · rw [hr0]; exact hb0.symm
          · rw [hr1, hb1]
          · rw [hr2, hb2]
          · rw [row]; unfold mo_row
            rw [pk_un (by decide), pk_un (by decide), pk_un (by decide), pk_un (by decide), pk_un (by decide), pk_un (by decide), pk_un (by decide), pk_un (by decide), pk_us]
            rw [pk_un (by omega), pk_un (by omega), pk_un (by omega), pk_un (by omega), pk_un (by omega), pk_un (by omega), pk_un (by omega), pk_un (by omega), pk_us]
          · rw [row]; unfold mo_row
            rw [pk_un (by decide), pk_un (by decide), pk_un (by decide), pk_un (by decide), pk_un (by decide), pk_un (by decide), pk_un (by decide), pk_us]
            rw [pk_un (by omega), pk_un (by omega), pk_un (by omega), pk_un (by omega), pk_un (by omega), pk_un (by omega), pk_un (by omega), pk_us]
          · rw [row]; unfold mo_row
            rw [pk_un (by decide), pk_un (by decide), pk_un (by decide), pk_un (by decide), pk_un (by decide), pk_un (by decide), pk_us]
            rw [pk_un (by omega), pk_un (by omega), pk_un (by omega), pk_un (by omega), pk_un (by omega), pk_un (by omega), pk_us]
          · rw [row]; unfold mo_row
            rw [pk_un (by decide), pk_un (by decide), pk_un (by decide), pk_un (by decide), pk_un (by decide), pk_us]
            rw [pk_un (by omega), pk_un (by omega), pk_un (by omega), pk_un (by omega), pk_un (by omega), pk_us]
          · rw [row]; unfold mo_row
            rw [pk_un (by decide), pk_un (by decide), pk_un (by decide), pk_un (by decide), pk_us]
            rw [pk_un (by omega), pk_un (by omega), pk_un (by omega), pk_un (by omega), pk_us]
        · rcases (show k = 9 ∨ k = 10 ∨ k = 11 by omega) with rfl | rfl | rfl
          · rw [row]; unfold mo_row
            rw [pk_un (by decide), pk_un (by decide), pk_un (by decide), pk_us]
            rw [pk_un (by omega), pk_un (by omega), pk_us]
          · rw [row]; unfold mo_row
            rw [pk_un (by decide), pk_un (by decide), pk_us]
            rw [pk_un (by omega), pk_us]
          · rw [row]; unfold mo_row
            rw [pk_un (by decide), pk_us]
            rw [pk_us]
        · rw [hr0]; exact ub_n (by omega) (by decide)
        · rw [hr0, nI_clamp (by omega)]; exact c4
        · rw [row, pk_un (by decide), pk_un (by decide), pk_un (by decide), pk_un (by decide), pk_un (by decide), pk_un (by decide), pk_un (by decide), pk_us, e_3, e_1, show (6 : Int32) = nI 6 from rfl, pk_mul, nI_add]
          exact ub_n (by omega) (by decide)
        · rw [row, pk_un (by decide), pk_un (by decide), pk_un (by decide), pk_un (by decide), pk_un (by decide), pk_un (by decide), pk_us, e_3, e_0, show (10 : Int32) = nI 10 from rfl, show (20 : Int32) = nI 20 from rfl, pk_mul, nI_add, nI_add]
          exact ub_n (by omega) (by decide)
        · rw [row, pk_un (by decide), pk_un (by decide), pk_un (by decide), pk_un (by decide), pk_us, ewt]
          exact ub_n hwt (by decide)
        · rw [row, pk_us]
        · rw [row, pk_un (by decide), pk_un (by decide), pk_un (by decide), pk_us]
      · obtain ⟨v1, v2, v3, v4, v5, v6, v7, v8⟩ := u4 o (by omega)
        have e7 : ∀ k, k < 12 → mo_row (mo_t b O B 12 (-1, b 7)).2 O (mo_t b O B 12 (-1, b 7)).1 y z w3 (12 * o + k) = b 7 (12 * o + k) := fun k hk => by
          rw [mo_row_ne (by omega) hk]
          exact m3 _ (by omega) (by omega)
        unfold ro
        rw [f0 _ (by omega) (by omega), fb, fB 9 (by decide) (by decide) (by decide), e7 8 (by decide)]
        exact ⟨fun k hk => by rw [e7 k (by omega)]; exact v1 k hk, fun k hk hk2 => by rw [e7 k hk2]; exact v2 k hk hk2, v3, v4, v5, v6, v7, v8⟩
    · rw [fB 9 (by decide) (by decide) (by decide)]; exact u5 o (by omega)
    · rw [f0 _ (by omega) (by omega), u6 j hj k hk]
      have ew : wr (va_up (md_A b w4 w3) 7 (mo_row (mo_t b O B 12 (-1, b 7)).2 O (mo_t b O B 12 (-1, b 7)).1 y z w3)) j k (O + 1) = wr (va_up (md_A b w4 w3) 7 (mo_row (mo_t b O B 12 (-1, b 7)).2 O (mo_t b O B 12 (-1, b 7)).1 y z w3)) j k O := if_pos (Or.inl (by rw [fb]; exact hb8))
      rw [ew]
      refine (wr_c (b' := va_up (md_A b w4 w3) 7 (mo_row (mo_t b O B 12 (-1, b 7)).2 O (mo_t b O B 12 (-1, b 7)).1 y z w3)) (b := b) (fun o ho => ?_) (fB 8 (by decide) (by decide) (by decide)) (fB 9 (by decide) (by decide) (by decide)) j k).symm
      rw [fb, mo_row_ne ho (by decide), show 12 * o = 12 * o + 0 from rfl, mo_row_ne ho (by decide)]
      exact ⟨m3 _ (by omega) (by omega), m3 _ (by omega) (by omega)⟩
  · rw [if_neg z5] at p q
    obtain ⟨rfl, rfl, rfl⟩ := p
    obtain ⟨rfl, rfl, rfl⟩ := q
    refine ⟨rfl, rfl, 0, B, O, 0, ⟨rfl, rfl, by omega, ?_, fun j hj => absurd hj (Nat.not_lt_zero _)⟩, RB_c R2 rfl rfl (fun j hj => f2 _ (by omega)) (fA 1 (by decide) (by decide)), ⟨rfl, rfl, by omega, ?_, ?_, rfl⟩, RN_m hM (RN_c R4 rfl rfl rfl rfl rfl rfl (f2 3 (by omega)) (fA 5 (by decide) (by decide)) (f2 4 (by omega)) (fA 6 (by decide) (by decide))), RO_c ⟨u1, u2, u3, u4, u5, u6⟩ rfl rfl (fun o ho => f2 _ (by omega)) (fun o ho => f2 _ (by omega)) (fA 7 (by decide) (by decide)) (fA 8 (by decide) (by decide)) (fA 9 (by decide) (by decide)), RP_c R6 u3 rfl rfl rfl rfl (f2 3 (by decide)) (f2 5 (by decide)) (f2 12 (by decide)) (fun o ho k hk => by rw [f2 _ (by omega)]) rfl⟩
    · rw [f2 0 (by decide), fA 0 (by decide) (by decide)]; exact R1.2.2.2.1
    · rw [f2 1 (by decide), fA 2 (by decide) (by decide)]; exact R3.2.2.2.1
    · rw [fA 2 (by decide) (by decide)]; exact R3.2.2.2.2.1
end SREL6
