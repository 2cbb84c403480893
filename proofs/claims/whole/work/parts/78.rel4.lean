section SREL4
variable {g g' h h' : hw_G} {a a' b b' : hw_A} {c c' : Int64} {n B O T M : Nat}
theorem pl_nd {N nw : Nat} {ob st on wt : Nat → Nat} : ∀ (k : Nat) (p : List Nat) (S : Nat × (Nat → Nat) × Nat) (acc : Option (Nat × List Nat)) (q : Nat × List Nat), p.Nodup → (∀ z, acc = some z → z.2.Nodup) → pl_F N nw ob st on wt k p S acc = some q → q.2.Nodup
  | 0, p, S, acc, q, hp, ha, h => by
    have h : pl_acc acc S.2.2 p = some q := h
    match acc, ha, h with
    | none, _, h => rw [← Option.some.inj h]; exact hp
    | some z, ha, h =>
      have h : (if S.2.2 < z.1 then some (S.2.2, p) else some z) = some q := h
      by_cases e : S.2.2 < z.1
      · rw [if_pos e] at h; rw [← Option.some.inj h]; exact hp
      · rw [if_neg e] at h; rw [← Option.some.inj h]; exact ha z rfl
  | k + 1, p, S, acc, q, hp, ha, h => by
    rw [pl_LN] at h
    have : ∀ (j : Nat) (q : Nat × List Nat), pl_L N nw ob st on wt k p S acc j = some q → q.2.Nodup := by
      intro j
      induction j with
      | zero => intro q h; rw [pl_L0] at h; exact ha q h
      | succ j ih =>
        intro q h
        rw [pl_Ls] at h
        by_cases e : j ∈ p
        · rw [if_pos e] at h; exact ih q h
        · rw [if_neg e] at h
          refine pl_nd k _ _ _ q ?_ ih h
          rw [List.nodup_append]
          exact ⟨hp, by simp, fun x hx y hy => by rw [List.mem_singleton.mp hy]; exact fun z => e (z ▸ hx)⟩
    exact this N q h
theorem nd_get {l : List Nat} (hn : l.Nodup) {i j : Nat} (hi : i < l.length) (hj : j < l.length) (e : l.getD i 0 = l.getD j 0) : i = j := by
  rw [List.getD_eq_getElem?_getD, List.getD_eq_getElem?_getD, List.getElem?_eq_getElem hi, List.getElem?_eq_getElem hj] at e
  have e : l[i] = l[j] := e
  rcases Nat.lt_trichotomy i j with z | z | z
  · exact absurd e (List.pairwise_iff_getElem.mp hn i j hi hj z)
  · exact z
  · exact absurd e.symm (List.pairwise_iff_getElem.mp hn j i hj hi z)
theorem wl_nd (w : Nat → Bool) : ∀ n, (wl w n).Nodup
  | 0 => List.nodup_nil
  | o + 1 => by
    show (if (wl w o).length < 7 ∧ w o = true then wl w o ++ [o] else wl w o).Nodup
    by_cases e : (wl w o).length < 7 ∧ w o = true
    · rw [if_pos e, List.nodup_append]
      exact ⟨wl_nd w o, by simp, fun x hx y hy => by rw [List.mem_singleton.mp hy]; have := (wl_lt w o x hx).1; omega⟩
    · rw [if_neg e]; exact wl_nd w o
theorem r_runS {ol : Nat → Nat} {N : Nat} (R1 : RA n g a h b) (R2 : RB B g a h b) (R3 : RT T g a h b) (R4 : RN M B g a h b) (R5 : RO O B g a h b) (hM : 1000000 ≤ M) (hN : N ≤ 7) (hM2 : M ≤ 1700000) (ho : ∀ k, k < N → ol k < O ∧ b 7 (12 * ol k + 8) = 0) (hinj : ∀ i j, i < N → j < N → ol i = ol j → i = j) : ∀ k, k ≤ N → (RA n (rn_S ol g a k).1 (rn_S ol g a k).2 (rm_S ol h b k).1 (rm_S ol h b k).2 ∧ RB B (rn_S ol g a k).1 (rn_S ol g a k).2 (rm_S ol h b k).1 (rm_S ol h b k).2 ∧ RT T (rn_S ol g a k).1 (rn_S ol g a k).2 (rm_S ol h b k).1 (rm_S ol h b k).2 ∧ RN (M + 190 * k) B (rn_S ol g a k).1 (rn_S ol g a k).2 (rm_S ol h b k).1 (rm_S ol h b k).2 ∧ RO O B (rn_S ol g a k).1 (rn_S ol g a k).2 (rm_S ol h b k).1 (rm_S ol h b k).2) ∧ (∀ j, k ≤ j → j < N → (rm_S ol h b k).2 7 (12 * ol j + 8) = 0) ∧ (rm_S ol h b k).1 0 = h 0 ∧ (0 < k → (rn_S ol g a k).1 6 = 0)
  | 0, _ => ⟨⟨R1, R2, R3, R4, R5⟩, fun j _ hj => (ho j hj).2, rfl, fun z => absurd z (Nat.lt_irrefl _)⟩
  | k + 1, hk => by
    obtain ⟨⟨s1, s2, s3, s4, s5⟩, s6, s7, s8⟩ := r_runS R1 R2 R3 R4 R5 hM hN hM2 ho hinj k (by omega)
    obtain ⟨-, t1, t2, t3, t4, t5⟩ := r_sendA s1 s2 s3 s4 s5 (by omega) (by omega) (ho k (by omega)).1 (s6 k (Nat.le_refl _) (by omega))
    refine ⟨⟨t1, t2, t3, ?_, t5⟩, fun j hj hjN => ?_, ?_, fun _ => ?_⟩
    · rw [show M + 190 * (k + 1) = M + 190 * k + 190 by omega]; exact t4
    · have hne : ol j ≠ ol k := fun z => by have := hinj j k hjN (by omega) z; omega
      show ge_a _ _ _ _ 7 _ = 0
      rw [ge_a7]
      unfold ge_7
      rw [pk_un (by omega), pk_un (by omega), pk_un (by omega), pk_un (by omega)]
      exact s6 j (by omega) hjN
    · exact (ge_g_ne (a := (rm_S ol h b k).2) (o := ol k) (b := ((rm_S ol h b k).2 7 (12 * ol k)).toNatClampNeg) (by decide) (by decide)).trans s7
    · rfl
theorem r_run {i : Nat} {r r' : Int32} {qq : Nat × List Nat} (R1 : RA n g a h b) (R2 : RB B g a h b) (R3 : RT T g a h b) (R4 : RN M B g a h b) (R5 : RO O B g a h b) (hM1 : 1000000 ≤ M) (hM2 : M ≤ 1700000) (hM : M + 1330 ≤ 1000000 + 1330 * i) (hq : mF h b O = some qq) (p : ∃ (g1 : hw_G) (a1 : hw_A) (c1 : Int64) (q : Nat × List Nat), FB g a O g1 a1 c1 ∧ pb_F g a O = some q ∧ r = nI (pb_N a O) ∧ g' = (rn_S (fun k => (pb_W a O).getD (q.2.getD k 0) 0) g1 a1 (pb_N a O)).1 ∧ a' = (rn_S (fun k => (pb_W a O).getD (q.2.getD k 0) 0) g1 a1 (pb_N a O)).2 ∧ c' = c1) (q : ∃ (h1 : hw_G) (b1 : hw_A) (e1 : Int64), MQQ (upd h 0 0) b O h1 b1 e1 ∧ r' = nI (mN b O) ∧ h' = (rm_S (fun k => (mW b O).getD (qq.2.getD k 0) 0) h1 b1 (mN b O)).1 ∧ b' = (rm_S (fun k => (mW b O).getD (qq.2.getD k 0) 0) h1 b1 (mN b O)).2) : h' 0 = 0 ∧ r = r' ∧ Rel i g' a' c' h' b' := by
  obtain ⟨g1, a1, c1, q0, p1, p2, rfl, rfl, rfl, rfl⟩ := p
  obtain ⟨h1, b1, e1, q1, rfl, rfl, rfl⟩ := q
  obtain rfl : q0 = qq := Option.some.inj (p2.symm.trans ((r_F R4 R5).trans hq))
  have eW : pb_W a O = mW b O := r_W R5
  have eN : pb_N a O = mN b O := by show (pb_W a O).length = _; rw [eW]
  have hl7 : mN b O ≤ 7 := wl_len _ _
  obtain ⟨h0, s1, s2, s3, s4, s5, s6⟩ := r_best R1 R2 R3 R4 R5 p1 q1
  have hqs : q0.2.length = mN b O ∧ ∀ j, j < mN b O → q0.2.getD j 0 < mN b O := by
    have s9 := p1.2.2.2.2.2
    have e3 : pb_F g1 a1 O = some q0 := (pb_F_c R5.2.2.1 p1.2.2.1 (p1.1 2 (by decide) (by decide) (by decide)) (p1.1 3 (by decide) (by decide) (by decide))).trans p2
    have e4 : pb_N a1 O = mN b O := by show (pb_W a1 O).length = _; rw [hx_wz_c R5.2.2.1 p1.2.2.1, eW]
    rw [e3, e4] at s9
    exact ⟨s9.2.2.1, fun j hj => (s9.2.2.2 j hj).2⟩
  have hb7 : b1 7 = b 7 := by obtain ⟨-, w, x, y, z, e, -⟩ := q1; rw [e]; rfl
  have hnd : q0.2.Nodup := pl_nd (mN b O) [] _ none q0 List.nodup_nil (fun z hz => absurd hz (by simp)) hq
  rw [eW, eN]
  obtain ⟨⟨t1, t2, t3, t4, t5⟩, t6, t7, t8⟩ := r_runS (ol := fun k => (mW b O).getD (q0.2.getD k 0) 0) (N := mN b O) s1 s2 s3 s4 s5 hM1 hl7 hM2 (fun k hk => by
    have hg := wl_get (hqs.2 k hk)
    exact ⟨hg.1, by rw [hb7]; exact of_decide_eq_true hg.2⟩) (fun i9 j9 hi hj e => nd_get hnd (by rw [hqs.1]; exact hi) (by rw [hqs.1]; exact hj) (nd_get (wl_nd _ _) (hqs.2 i9 hi) (hqs.2 j9 hj) e)) (mN b O) (Nat.le_refl _)
  refine ⟨t7.trans h0, rfl, n, B, O, T, t1, t2, t3, RN_m (by omega) t4, t5, ?_⟩
  rcases Nat.eq_zero_or_pos (mN b O) with z | z
  · rw [z]; exact s6
  · exact RP_0 (t8 z)
end SREL4
