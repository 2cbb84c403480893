/-! THE RELATION between the class's state (g, a, c) and the reference's (h, b) -/
def rg (x : Int32) : Prop := ∃ k : Nat, 50 ≤ k ∧ k ≤ 200 ∧ x = nI k
def RA (n : Nat) (g : hw_G) (a : hw_A) (h : hw_G) (b : hw_A) : Prop := g 0 = nI n ∧ h 1 = nI n ∧ n ≤ 12 ∧ a 0 = b 0 ∧ ∀ i, i < n → rg (a 0 i)
def RB (B : Nat) (g : hw_G) (a : hw_A) (h : hw_G) (b : hw_A) : Prop := g 12 = nI B ∧ h 2 = nI B ∧ B ≤ 10 ∧ ∀ j, j < B → ∀ i, i < 12 → a (200 + j) i = b 1 (12 * j + i) ∧ rg (a (200 + j) i)
def RT (T : Nat) (g : hw_G) (a : hw_A) (h : hw_G) (b : hw_A) : Prop := g 11 = nI T ∧ h 3 = nI T ∧ T ≤ 100 ∧ a 1 = b 2 ∧ by_ok (b 2) ∧ g 5 = h 7
def RN (M B : Nat) (g : hw_G) (a : hw_A) (h : hw_G) (b : hw_A) : Prop := g 2 = h 8 ∧ ub (g 2) 1000000 ∧ g 3 = h 10 ∧ ub (g 3) M ∧ g 4 = h 11 ∧ ((g 4 = -1 ∧ g 3 = 0) ∨ 0 ≤ g 4) ∧ (∀ j, j < 10 → a 3 j = b 5 j ∧ ub (a 3 j) M) ∧ (∀ j, j < B → a 4 j = b 6 j - 1) ∧ (∀ j, B ≤ j → b 6 j = 0)
def ro (B : Nat) (a b : hw_A) (o : Nat) : Prop := (∀ k, k < 8 → a (100 + o) k = b 7 (12 * o + k)) ∧ (∀ k, 9 ≤ k → k < 12 → a (100 + o) k = b 7 (12 * o + k)) ∧ (ub (a (100 + o) 0) 9 ∧ (a (100 + o) 0).toNatClampNeg < B) ∧ ub (a (100 + o) 4) 50 ∧ ub (a (100 + o) 5) 140 ∧ ub (a (100 + o) 7) 9 ∧ a (100 + o) 12 = b 9 o ∧ ((b 7 (12 * o + 8) = 0 ∧ a (100 + o) 9 = -1 ∧ b 9 o = 0) ∨ (b 7 (12 * o + 8) = 1 ∧ ¬ a (100 + o) 9 = -1))
def RO (O B : Nat) (g : hw_G) (a : hw_A) (h : hw_G) (b : hw_A) : Prop := g 1 = nI O ∧ h 9 = nI O ∧ O ≤ 60 ∧ (∀ o, o < O → ro B a b o) ∧ (∀ o, O ≤ o → b 9 o = 0) ∧ (∀ j, j < 10 → ∀ k, k < 3 → a (300 + j) k = wr b j k O)
def RP (O : Nat) (g : hw_G) (a : hw_A) (c : Int64) : Prop := ¬ g 6 = 0 → g 6 = 1 ∧ PB g a c O
def Rel (i : Nat) (g : hw_G) (a : hw_A) (c : Int64) (h : hw_G) (b : hw_A) : Prop := ∃ n B O T, RA n g a h b ∧ RB B g a h b ∧ RT T g a h b ∧ RN (1000000 + 1330 * i) B g a h b ∧ RO O B g a h b ∧ RP O g a c
section SREL
variable {g g' h h' : hw_G} {a a' b b' : hw_A} {c c' : Int64} {n B O T M : Nat}
theorem RA_c (r : RA n g a h b) (h1 : g' 0 = g 0) (h2 : h' 1 = h 1) (h3 : a' 0 = a 0) (h4 : b' 0 = b 0) : RA n g' a' h' b' := by
  unfold RA
  rw [h1, h2, h3, h4]
  exact r
theorem RB_c (r : RB B g a h b) (h1 : g' 12 = g 12) (h2 : h' 2 = h 2) (h3 : ∀ j, j < 10 → a' (200 + j) = a (200 + j)) (h4 : b' 1 = b 1) : RB B g' a' h' b' := by
  obtain ⟨r1, r2, r3, r4⟩ := r
  refine ⟨h1.trans r1, h2.trans r2, r3, fun j hj i hi => ?_⟩
  rw [h3 j (by omega), h4]
  exact r4 j hj i hi
theorem RT_c (r : RT T g a h b) (h1 : g' 11 = g 11) (h2 : h' 3 = h 3) (h3 : a' 1 = a 1) (h4 : b' 2 = b 2) (h5 : g' 5 = g 5) (h6 : h' 7 = h 7) : RT T g' a' h' b' := by
  unfold RT
  rw [h1, h2, h3, h4, h5, h6]
  exact r
theorem RN_c (r : RN M B g a h b) (h1 : g' 2 = g 2) (h2 : h' 8 = h 8) (h3 : g' 3 = g 3) (h4 : h' 10 = h 10) (h5 : g' 4 = g 4) (h6 : h' 11 = h 11) (h7 : a' 3 = a 3) (h8 : b' 5 = b 5) (h9 : a' 4 = a 4) (h10 : b' 6 = b 6) : RN M B g' a' h' b' := by
  unfold RN
  rw [h1, h2, h3, h4, h5, h6, h7, h8, h9, h10]
  exact r
theorem ub_mono {x : Int32} {m k : Nat} (h : ub x m) (hk : m ≤ k) : ub x k := ⟨h.1, Nat.le_trans h.2 hk⟩
theorem RN_m {M' : Nat} (hM : M ≤ M') (r : RN M B g a h b) : RN M' B g a h b := by
  obtain ⟨r1, r2, r3, r4, r5, r6, r7, r8, r9⟩ := r
  exact ⟨r1, r2, r3, ub_mono r4 hM, r5, r6, fun j hj => ⟨(r7 j hj).1, ub_mono (r7 j hj).2 hM⟩, r8, r9⟩
theorem wr_c (h7 : ∀ o, o < O → b' 7 (12 * o + 8) = b 7 (12 * o + 8) ∧ b' 7 (12 * o) = b 7 (12 * o)) (h8 : b' 8 = b 8) (h9 : b' 9 = b 9) (j k : Nat) : wr b' j k O = wr b j k O := by
  induction O with
  | zero => rfl
  | succ o ih =>
    have e := h7 o (Nat.lt_succ_self _)
    have e2 := ih (fun x hx => h7 x (Nat.lt_succ_of_lt hx))
    show (if b' 7 (12 * o + 8) = 0 ∨ ¬ b' 7 (12 * o) = nI j then wr b' j k o else wr b' j k o + wr_t b' k o) = (if b 7 (12 * o + 8) = 0 ∨ ¬ b 7 (12 * o) = nI j then wr b j k o else wr b j k o + wr_t b k o)
    rw [e.1, e.2, e2]
    unfold wr_t
    rw [h8, h9]
theorem RO_c (r : RO O B g a h b) (h1 : g' 1 = g 1) (h2 : h' 9 = h 9) (h3 : ∀ o, o < 60 → a' (100 + o) = a (100 + o)) (h4 : ∀ j, j < 10 → a' (300 + j) = a (300 + j)) (h5 : b' 7 = b 7) (h6 : b' 8 = b 8) (h7 : b' 9 = b 9) : RO O B g' a' h' b' := by
  obtain ⟨r1, r2, r3, r4, r5, r6⟩ := r
  refine ⟨h1.trans r1, h2.trans r2, r3, fun o ho => ?_, fun o ho => by rw [h7]; exact r5 o ho, fun j hj k hk => ?_⟩
  · unfold ro
    rw [h3 o (by omega), h5, h7]
    exact r4 o ho
  · rw [h4 j hj, wr_c (b := b) (fun o _ => by rw [h5]; exact ⟨rfl, rfl⟩) h6 h7]
    exact r6 j hj k hk
theorem pb_W_c (hO : O ≤ 60) (h3 : ∀ o, o < 60 → ∀ k, k < 12 → a' (100 + o) k = a (100 + o) k) : pb_W a' O = pb_W a O := wl_congr O (fun o ho => by unfold hx_wz; rw [h3 o (by omega) 9 (by decide)])
theorem wl_sub {w : Nat → Bool} (i : Nat) : (wl w O).getD i 0 < O ∨ (wl w O).getD i 0 = 0 := by
  rcases Nat.lt_or_ge i (wl w O).length with e | e
  · exact Or.inl (wl_get e).1
  · exact Or.inr (by rw [List.getD_eq_getElem?_getD, List.getElem?_eq_none e]; rfl)
theorem pb_F_c2 (hO : O ≤ 60) (h2 : g' 2 = g 2) (h3g : g' 3 = g 3) (ha3 : a' 3 = a 3) (h3 : ∀ o, o < 60 → ∀ k, k < 12 → a' (100 + o) k = a (100 + o) k) : pb_F g' a' O = pb_F g a O := by
  have e := pb_W_c hO h3
  have e1 : ∀ k, k < 12 → pb_at a' O k = pb_at a O k := fun k hk => funext (fun i => by
    show (a' (100 + (pb_W a' O).getD i 0) k).toNatClampNeg = _
    rw [e, h3 _ (by have : (pb_W a O).getD i 0 < O ∨ (pb_W a O).getD i 0 = 0 := wl_sub i; omega) k hk])
  have e2 : pb_bf a' = pb_bf a := by funext b; show (if _ then _ else _) = _; rw [ha3]
  unfold pb_F
  rw [e1 0 (by decide), e1 4 (by decide), e1 5 (by decide), e1 7 (by decide), e2, show pb_N a' O = pb_N a O by show (pb_W a' O).length = _; rw [e], h2, h3g]
theorem RP_c (r : RP O g a c) (hO : O ≤ 60) (h6 : g' 6 = g 6) (h14 : g' 14 = g 14) (h2 : g' 2 = g 2) (h3g : g' 3 = g 3) (ha3 : a' 3 = a 3) (ha5 : a' 5 = a 5) (ha12 : a' 12 = a 12) (h3 : ∀ o, o < 60 → ∀ k, k < 12 → a' (100 + o) k = a (100 + o) k) (hc : c' = c) : RP O g' a' c' := by
  unfold RP at r ⊢
  rw [h6]
  intro hz
  obtain ⟨r1, p1, p2, p3⟩ := r hz
  have e := pb_W_c hO h3
  have eN : pb_N a' O = pb_N a O := by show (pb_W a' O).length = _; rw [e]
  refine ⟨r1, ?_, ?_, ?_⟩
  · rw [h14, eN]; exact p1
  · rw [eN, ha5, e]; exact p2
  · rw [eN, ha12, pb_F_c2 hO h2 h3g ha3 h3, hc]; exact p3
theorem RP_0 (h : g 6 = 0) : RP O g a c := fun z => absurd h z
theorem ms_c {h1 h2 r1 r2 : Nat → Int32} {t : Nat} (e1 : h1 = h2) : ∀ m, (∀ i, i < m → r1 i = r2 i) → ms h1 r1 t m = ms h2 r2 t m
  | 0, _ => rfl
  | m + 1, h => by
    show ms h1 r1 t m + (h1 (ms_ix m t) - r1 m) * (h1 (ms_ix m t) - r1 m) = ms h2 r2 t m + (h2 (ms_ix m t) - r2 m) * (h2 (ms_ix m t) - r2 m)
    rw [ms_c e1 m (fun i hi => h i (Nat.lt_succ_of_lt hi)), h m (Nat.lt_succ_self _), e1]
theorem rg_of {x : Int32} (h : ¬ (x < 50 ∨ 200 < x)) : rg x := by
  rcases pk_ix x (n := 201) (by decide) with z | z | ⟨j, hj, rfl⟩
  · exact absurd (Or.inl (Int32.lt_of_lt_of_le z (by decide))) h
  · exact absurd (Or.inr (Int32.lt_of_lt_of_le (by decide) z)) h
  · refine ⟨j, ?_, by omega, rfl⟩
    rcases Nat.lt_or_ge j 50 with e | e
    · exact absurd (Or.inl (nI_lt (b := 50) e (by decide))) h
    · exact e
theorem cp_n_at (f h : Nat → Int32) (m i : Nat) : cp_n f h m i = if i < m then h i else f i := cp_at f h m i
theorem cp_o_at (f h : Nat → Int32) (k : Nat) : ∀ (m i : Nat), cp_o f h k m i = if k ≤ i ∧ i < k + m then h (i - k) else f i
  | 0, i => by rw [if_neg (by omega)]; rfl
  | m + 1, i => by
    show upd (cp_o f h k m) (k + m) (h m) i = _
    by_cases e : i = k + m
    · rw [e, pk_us, if_pos (by omega)]; congr 1; omega
    · rw [pk_un e, cp_o_at f h k m i]
      by_cases e2 : k ≤ i ∧ i < k + m
      · rw [if_pos e2, if_pos (by omega)]
      · rw [if_neg e2, if_neg (by omega)]
/-! the operations -/
theorem r_push {i : Nat} {x r r' : Int32} {e e' : Int64} (R : RA n g a h b) (R2 : RB B g a h b) (R3 : RT T g a h b) (R4 : RN M B g a h b) (R5 : RO O B g a h b) (R6 : RP O g a c) (hM : M ≤ 1000000 + 1330 * i) (p : ¬ (x < 50 ∨ 200 < x) ∧ c' = c ∧ (if n = 12 then r = -1 ∧ g' = g ∧ a' = a else r = nI (n + 1) ∧ g' = upd g 0 (nI (n + 1)) ∧ a' = va_up a 0 (upd (a 0) n x))) (q : e' = e ∧ (if x < 50 ∨ 200 < x then h' = upd h 0 1 ∧ b' = b else if n = 12 then r' = -1 ∧ h' = upd h 0 0 ∧ b' = b else r' = nI (n + 1) ∧ h' = upd (upd h 0 0) 1 (nI (n + 1)) ∧ b' = va_up b 0 (upd (b 0) n x))) : h' 0 = 0 ∧ r = r' ∧ Rel i g' a' c' h' b' := by
  obtain ⟨p1, rfl, p3⟩ := p
  obtain ⟨-, q⟩ := q
  rw [if_neg p1] at q
  by_cases z : n = 12
  · rw [if_pos z] at p3 q
    obtain ⟨rfl, rfl, rfl⟩ := p3
    obtain ⟨rfl, rfl, rfl⟩ := q
    exact ⟨rfl, rfl, n, B, O, T, RA_c R rfl rfl rfl rfl, RB_c R2 rfl rfl (fun _ _ => rfl) rfl, RT_c R3 rfl rfl rfl rfl rfl rfl, RN_m hM (RN_c R4 rfl rfl rfl rfl rfl rfl rfl rfl rfl rfl), RO_c R5 rfl rfl (fun _ _ => rfl) (fun _ _ => rfl) rfl rfl rfl, R6⟩
  · rw [if_neg z] at p3 q
    obtain ⟨rfl, rfl, rfl⟩ := p3
    obtain ⟨rfl, rfl, rfl⟩ := q
    obtain ⟨r1, r2, r3, r4, r5⟩ := R
    refine ⟨rfl, rfl, n + 1, B, O, T, ⟨rfl, rfl, by omega, ?_, fun i9 hi => ?_⟩, RB_c R2 rfl rfl (fun j _ => va_up_ne _ _ (by omega)) rfl, RT_c R3 rfl rfl rfl rfl rfl rfl, RN_m hM (RN_c R4 rfl rfl rfl rfl rfl rfl rfl rfl rfl rfl), RO_c R5 rfl rfl (fun j _ => va_up_ne _ _ (by omega)) (fun j _ => va_up_ne _ _ (by omega)) rfl rfl rfl, RP_c R6 R5.2.2.1 rfl rfl rfl rfl rfl rfl rfl (fun o _ k _ => by rw [va_up_ne _ _ (by omega)]) rfl⟩
    · rw [vau_s, vau_s, r4]
    · rw [vau_s]
      by_cases e9 : i9 = n
      · rw [e9, pk_us]; exact rg_of p1
      · rw [pk_un e9]; exact r5 i9 (by omega)
/-- nothing but what was thrown has changed -/
theorem Rel_t {i : Nat} {x : Int32} (R : Rel i g a c h b) : Rel (i + 1) g a c (upd h 0 x) b := by
  obtain ⟨n, B, O, T, R1, R2, R3, R4, R5, R6⟩ := R
  exact ⟨n, B, O, T, RA_c R1 rfl rfl rfl rfl, RB_c R2 rfl rfl (fun _ _ => rfl) rfl, RT_c R3 rfl rfl rfl rfl rfl rfl, RN_m (by omega) (RN_c R4 rfl rfl rfl rfl rfl rfl rfl rfl rfl rfl), RO_c R5 rfl rfl (fun _ _ => rfl) (fun _ _ => rfl) rfl rfl rfl, R6⟩
theorem r_block {i : Nat} {r r' : Int32} {e e' : Int64} (R : RA n g a h b) (R2 : RB B g a h b) (R3 : RT T g a h b) (R4 : RN M B g a h b) (R5 : RO O B g a h b) (R6 : RP O g a c) (hM : M ≤ 1000000 + 1330 * i) (p : B < 10 ∧ c' = c ∧ (if n < 12 then r = -1 ∧ g' = g ∧ a' = a else r = nI B ∧ g' = upd (upd g 0 0) 12 (nI (B + 1)) ∧ a' = va_up (va_up a (200 + B) (cp_n (a (200 + B)) (a 0) 12)) 4 (upd (a 4) B (-1)))) (q : e' = e ∧ (if B = 10 then h' = upd h 0 1 ∧ b' = b else if n < 12 then r' = -1 ∧ h' = upd h 0 0 ∧ b' = b else r' = nI B ∧ h' = upd (upd (upd h 0 0) 1 0) 2 (nI (B + 1)) ∧ b' = (va_up b 1 (cp_o (b 1) (b 0) (12 * B) 12)))) : h' 0 = 0 ∧ r = r' ∧ Rel i g' a' c' h' b' := by
  obtain ⟨p1, rfl, p3⟩ := p
  obtain ⟨-, q⟩ := q
  rw [if_neg (by omega)] at q
  by_cases z : n < 12
  · rw [if_pos z] at p3 q
    obtain ⟨rfl, rfl, rfl⟩ := p3
    obtain ⟨rfl, rfl, rfl⟩ := q
    exact ⟨rfl, rfl, n, B, O, T, RA_c R rfl rfl rfl rfl, RB_c R2 rfl rfl (fun _ _ => rfl) rfl, RT_c R3 rfl rfl rfl rfl rfl rfl, RN_m hM (RN_c R4 rfl rfl rfl rfl rfl rfl rfl rfl rfl rfl), RO_c R5 rfl rfl (fun _ _ => rfl) (fun _ _ => rfl) rfl rfl rfl, R6⟩
  · rw [if_neg z] at p3 q
    obtain ⟨rfl, rfl, rfl⟩ := p3
    obtain ⟨rfl, rfl, rfl⟩ := q
    obtain ⟨r1, r2, r3, r4, r5⟩ := R
    obtain ⟨s1, s2, s3, s4⟩ := R2
    obtain ⟨t1, t2, t3, t4, t5, t6, t7, t8, t9⟩ := R4
    obtain ⟨u1, u2, u3, u4, u5, u6⟩ := R5
    have e0 : ∀ k, k ≠ 200 + B → k ≠ 4 → va_up (va_up a (200 + B) (cp_n (a (200 + B)) (a 0) 12)) 4 (upd (a 4) B (-1)) k = a k := fun k h1 h2 => by rw [va_up_ne _ _ h2, va_up_ne _ _ h1]
    refine ⟨rfl, rfl, 0, B + 1, O, T, ⟨rfl, rfl, by omega, ?_, fun i9 hi => absurd hi (Nat.not_lt_zero _)⟩, ⟨rfl, rfl, by omega, fun j hj i9 hi => ?_⟩, RT_c R3 rfl rfl (e0 1 (by omega) (by omega)) rfl rfl rfl, RN_m hM ⟨t1, t2, t3, t4, t5, t6, fun j hj => ?_, fun j hj => ?_, fun j hj => t9 j (by omega)⟩, ⟨u1, u2, u3, fun o ho => ?_, u5, fun j hj k hk => ?_⟩, RP_c R6 u3 rfl rfl rfl rfl (e0 3 (by omega) (by omega)) (e0 5 (by omega) (by omega)) (e0 12 (by omega) (by omega)) (fun o _ k _ => by rw [e0 _ (by omega) (by omega)]) rfl⟩
    · rw [e0 0 (by omega) (by omega)]; exact r4
    · rw [show va_up b 1 (cp_o (b 1) (b 0) (12 * B) 12) 1 = cp_o (b 1) (b 0) (12 * B) 12 from vau_s _ _ _, cp_o_at]
      by_cases e : j = B
      · subst e
        rw [va_up_ne _ _ (by omega), vau_s, cp_n_at, if_pos hi, if_pos (by omega), show 12 * j + i9 - 12 * j = i9 by omega, r4]
        exact ⟨rfl, r4 ▸ r5 i9 (by omega)⟩
      · rw [e0 _ (by omega) (by omega), if_neg (by omega)]
        exact s4 j (by omega) i9 hi
    · rw [e0 3 (by omega) (by omega)]; exact t7 j hj
    · rw [vau_s]
      by_cases e : j = B
      · rw [e, pk_us, show va_up b 1 (cp_o (b 1) (b 0) (12 * B) 12) 6 = b 6 from rfl, t9 B (Nat.le_refl _)]; rfl
      · rw [pk_un e]; exact t8 j (by omega)
    · obtain ⟨v1, v2, v3, v4, v5, v6, v7, v8⟩ := u4 o ho
      unfold ro
      rw [e0 (100 + o) (by omega) (by omega)]
      exact ⟨v1, v2, ⟨v3.1, by omega⟩, v4, v5, v6, v7, v8⟩
    · rw [e0 (300 + j) (by omega) (by omega)]
      exact (u6 j hj k hk).trans (wr_c (b' := va_up b 1 (cp_o (b 1) (b 0) (12 * B) 12)) (b := b) (fun _ _ => ⟨rfl, rfl⟩) rfl rfl j k).symm
theorem by_sh (x s : Int32) : (tp_sh x s).toInt8.toInt32 = tp_sh x s := by
  unfold tp_sh
  rw [vp_nar_byte]
  simp
theorem by_put {f : Nat → Int32} (hf : by_ok f) (m : Nat) (x : Int32) : by_ok (tp_put4 f m x) := by
  intro j
  unfold tp_put4
  by_cases e3 : j = m + 3
  · rw [e3, pk_us]; exact by_sh _ _
  · rw [pk_un e3]
    by_cases e2 : j = m + 2
    · rw [e2, pk_us]; exact by_sh _ _
    · rw [pk_un e2]
      by_cases e1 : j = m + 1
      · rw [e1, pk_us]; exact by_sh _ _
      · rw [pk_un e1]
        by_cases e0 : j = m
        · rw [e0, pk_us]; exact by_sh _ _
        · rw [pk_un e0]; exact hf j
theorem r_feed {i : Nat} {x1 x2 x3 x4 x5 r r' : Int32} {e e' : Int64} (R : RA n g a h b) (R2 : RB B g a h b) (R3 : RT T g a h b) (R4 : RN M B g a h b) (R5 : RO O B g a h b) (R6 : RP O g a c) (hM : M ≤ 1000000 + 1330 * i) (p : c' = c ∧ (if T ≤ 80 then r = nI (T + 20) ∧ g' = upd g 11 (nI (T + 20)) ∧ a' = va_up a 1 (fd_b (a 1) T x1 x2 x3 x4 x5) else r = -1 ∧ g' = g ∧ a' = a)) (q : e' = e ∧ (if T ≤ 80 then r' = nI (T + 20) ∧ h' = upd (upd h 0 0) 3 (nI (T + 20)) ∧ b' = va_up b 2 (fd_b (b 2) T x1 x2 x3 x4 x5) else r' = -1 ∧ h' = upd h 0 0 ∧ b' = b)) : r = r' ∧ Rel i g' a' c' h' b' := by
  obtain ⟨rfl, p3⟩ := p
  obtain ⟨-, q⟩ := q
  by_cases z : T ≤ 80
  · rw [if_pos z] at p3 q
    obtain ⟨rfl, rfl, rfl⟩ := p3
    obtain ⟨rfl, rfl, rfl⟩ := q
    obtain ⟨r1, r2, r3, r4, r5, r6⟩ := R3
    refine ⟨rfl, n, B, O, T + 20, RA_c R rfl rfl rfl rfl, RB_c R2 rfl rfl (fun j _ => va_up_ne _ _ (by omega)) rfl, ⟨rfl, rfl, by omega, ?_, ?_, r6⟩, RN_m hM (RN_c R4 rfl rfl rfl rfl rfl rfl rfl rfl rfl rfl), RO_c R5 rfl rfl (fun j _ => va_up_ne _ _ (by omega)) (fun j _ => va_up_ne _ _ (by omega)) rfl rfl rfl, RP_c R6 R5.2.2.1 rfl rfl rfl rfl rfl rfl rfl (fun o _ k _ => by rw [va_up_ne _ _ (by omega)]) rfl⟩
    · rw [vau_s, vau_s, r4]
    · rw [vau_s]
      exact by_put (by_put (by_put (by_put (by_put r5 _ _) _ _) _ _) _ _) _ _
  · rw [if_neg z] at p3 q
    obtain ⟨rfl, rfl, rfl⟩ := p3
    obtain ⟨rfl, rfl, rfl⟩ := q
    exact ⟨rfl, n, B, O, T, RA_c R rfl rfl rfl rfl, RB_c R2 rfl rfl (fun _ _ => rfl) rfl, RT_c R3 rfl rfl rfl rfl rfl rfl, RN_m hM (RN_c R4 rfl rfl rfl rfl rfl rfl rfl rfl rfl rfl), RO_c R5 rfl rfl (fun _ _ => rfl) (fun _ _ => rfl) rfl rfl rfl, R6⟩
theorem r_misfit {x w : Int32} {r r' : Int32} (R : RA n g a h b) (R2 : RB B g a h b) (p : ∃ k j, k < B ∧ x = nI k ∧ j < 12 ∧ w = nI j ∧ r = (if n < 12 then -1 else ms (a 0) (a (200 + k)) j 12)) (q : ∃ k j, k < B ∧ x = nI k ∧ j < 12 ∧ w = nI j ∧ r' = (if n < 12 then -1 else ms (b 0) (fun i => b 1 (12 * k + i)) j 12)) : r = r' := by
  obtain ⟨k, j, p1, rfl, p3, rfl, rfl⟩ := p
  obtain ⟨k2, j2, q1, q2, q3, q4, rfl⟩ := q
  have hB := R2.2.2.1
  obtain rfl : k = k2 := (nI_eq (by omega) (by omega)).mp q2
  obtain rfl : j = j2 := (nI_eq (by omega) (by omega)).mp q4
  by_cases z : n < 12
  · rw [if_pos z, if_pos z]
  · rw [if_neg z, if_neg z]
    exact ms_c R.2.2.2.1 12 (fun i hi => (R2.2.2.2 k p1 i hi).1)
theorem r_told {x w : Int32} {r r' : Int32} (R4 : RN M B g a h b) (R5 : RO O B g a h b) (p : ∃ o j, o < O ∧ x = nI o ∧ j < 12 ∧ w = nI j ∧ r = (if j = 8 then (if a (100 + o) 9 = -1 then 0 else if a (100 + o) 10 ≤ g 2 then 2 else 1) else a (100 + o) j)) (q : ∃ o j, o < O ∧ x = nI o ∧ j < 12 ∧ w = nI j ∧ r' = md_told h b o j) : r = r' := by
  obtain ⟨k, j, p1, rfl, p3, rfl, rfl⟩ := p
  obtain ⟨k2, j2, q1, q2, q3, q4, rfl⟩ := q
  have hO := R5.2.2.1
  obtain rfl : k = k2 := (nI_eq (by omega) (by omega)).mp q2
  obtain rfl : j = j2 := (nI_eq (by omega) (by omega)).mp q4
  obtain ⟨v1, v2, v3, v4, v5, v6, v7, v8⟩ := R5.2.2.2.1 k p1
  unfold md_told
  by_cases z : j = 8
  · rw [if_pos z]
    subst z
    rcases v8 with v8 | v8
    · rw [if_pos v8.2.1, if_neg (fun y => by rw [v8.1] at y; exact absurd y.2.1 (by decide)), v8.1]
    · rw [if_neg v8.2, v2 10 (by decide) (by decide), R4.1]
      by_cases y : b 7 (12 * k + 10) ≤ h 8
      · rw [if_pos y, if_pos ⟨rfl, v8.1, y⟩]
      · rw [if_neg y, if_neg (fun w => y w.2.2), v8.1]
  · rw [if_neg z, if_neg (fun w => z w.1)]
    rcases Nat.lt_or_ge j 8 with y | y
    · exact v1 j y
    · exact v2 j (by omega) p3
theorem i_sub1 (k ah : Int32) : k - (ah + 1) = k - ah + (-1) := by rw [i32_m1, Int32.sub_sub]
theorem lt_eq (p : Nat → Bool) (k : Int32) : ∀ (m o : Nat) (ah : Int32), lt_f p k m o ah = lt_m p m o (k - ah)
  | 0, _, _ => rfl
  | m + 1, o, ah => by
    show (if p o = true then (if ah = k then nI o else lt_f p k m (o + 1) (ah + 1)) else lt_f p k m (o + 1) ah) = (if p o = true then (if k - ah = 0 then nI o else lt_m p m (o + 1) (k - ah + (-1))) else lt_m p m (o + 1) (k - ah))
    rw [lt_eq p k m (o + 1) (ah + 1), lt_eq p k m (o + 1) ah, i_sub1]
    have : ah = k ↔ k - ah = 0 := by rw [Int32.sub_eq_iff_eq_add, Int32.zero_add]; exact ⟨fun z => z.symm, fun z => z.symm⟩
    by_cases z : ah = k
    · rw [if_pos z, if_pos (this.mp z)]
    · rw [if_neg z, if_neg (fun y => z (this.mpr y))]
end SREL
