section SREL5
variable {g g' h h' : hw_G} {a a' b b' : hw_A} {c c' : Int64} {n B O T M : Nat}
/-- a misfit is small -/
theorem sq_n {x y : Int32} (hx : rg x) (hy : rg y) : ∃ k, k ≤ 22500 ∧ (x - y) * (x - y) = nI k := by
  obtain ⟨p, p1, p2, rfl⟩ := hx
  obtain ⟨q, q1, q2, rfl⟩ := hy
  rcases Nat.le_total q p with z | z
  · refine ⟨(p - q) * (p - q), Nat.le_trans (Nat.mul_le_mul (show p - q ≤ 150 by omega) (show p - q ≤ 150 by omega)) (by decide), ?_⟩
    rw [pk_sub z, pk_mul]
  · refine ⟨(q - p) * (q - p), Nat.le_trans (Nat.mul_le_mul (show q - p ≤ 150 by omega) (show q - p ≤ 150 by omega)) (by decide), ?_⟩
    have e : nI p - nI q = -(nI q - nI p) := (Int32.neg_sub ..).symm
    rw [e, Int32.neg_mul_neg, pk_sub z, pk_mul]
theorem ms_n {hd r : Nat → Int32} {t : Nat} (ht : t < 12) (h1 : ∀ i, i < 12 → rg (hd i)) (h2 : ∀ i, i < 12 → rg (r i)) : ∀ m, m ≤ 12 → ∃ k, k ≤ 22500 * m ∧ ms hd r t m = nI k
  | 0, _ => ⟨0, by omega, rfl⟩
  | m + 1, hm => by
    obtain ⟨k, hk, e⟩ := ms_n ht h1 h2 m (by omega)
    obtain ⟨j, hj, e2⟩ := sq_n (h1 (ms_ix m t) (by unfold ms_ix; split <;> omega)) (h2 m (by omega))
    refine ⟨k + j, by omega, ?_⟩
    show ms hd r t m + _ = _
    rw [e, e2, nI_add]
/-- the two searches for the block and the turn -/
def rmt (B N : Nat) (b : hw_A) (s s' : Int32 × (Nat → Int32)) : Prop := (∀ k, k ≠ 12 * N → k ≠ 12 * N + 1 → s'.2 k = b 7 k) ∧ ((s.1 = 2147483647 ∧ s'.1 = -1) ∨ (∃ k blk tn : Nat, k ≤ 270000 ∧ s.1 = nI k ∧ s'.1 = nI k ∧ blk < B ∧ s.2 0 = nI blk ∧ s'.2 (12 * N) = nI blk ∧ s.2 1 = nI tn ∧ s'.2 (12 * N + 1) = nI tn ∧ s.2 2 = nI k))
theorem rmt_s {N t j : Nat} {s s' : Int32 × (Nat → Int32)} (R1 : RA 12 g a h b) (R2 : RB B g a h b) (ht : t < 12) (hj : j < B) (r : rmt B N b s s') : rmt B N b (mt_s (a 0) (fun k => a (200 + k)) t j s) (mo_s b N t j s') ∧ ∃ k, k ≤ 270000 ∧ (mt_s (a 0) (fun k => a (200 + k)) t j s).1 = nI k := by
  have hB := R2.2.2.1
  obtain ⟨k, hk, ek⟩ := ms_n ht R1.2.2.2.2 (fun i hi => (R2.2.2.2 j hj i hi).2) 12 (Nat.le_refl _)
  have em : mm b t j = nI k := by
    unfold mm
    rw [← ek]
    exact (ms_c R1.2.2.2.1 12 (fun i hi => (R2.2.2.2 j hj i hi).1)).symm
  obtain ⟨r1, r2⟩ := r
  unfold mt_s mo_s
  rw [em, ek]
  have take : rmt B N b (nI k, upd (upd (upd s.2 0 (nI j)) 1 (nI t)) 2 (nI k)) (nI k, upd (upd s'.2 (12 * N) (nI j)) (12 * N + 1) (nI t)) := by
    refine ⟨fun x h1 h2 => ?_, Or.inr ⟨k, j, t, by omega, rfl, rfl, hj, ?_, ?_, ?_, ?_, ?_⟩⟩
    · show upd (upd s'.2 (12 * N) (nI j)) (12 * N + 1) (nI t) x = _
      rw [pk_un h2, pk_un h1]; exact r1 x h1 h2
    · show upd (upd (upd s.2 0 (nI j)) 1 (nI t)) 2 (nI k) 0 = _
      rw [pk_un (by decide), pk_un (by decide), pk_us]
    · show upd (upd s'.2 (12 * N) (nI j)) (12 * N + 1) (nI t) (12 * N) = _
      rw [pk_un (by omega), pk_us]
    · show upd (upd (upd s.2 0 (nI j)) 1 (nI t)) 2 (nI k) 1 = _
      rw [pk_un (by decide), pk_us]
    · show upd (upd s'.2 (12 * N) (nI j)) (12 * N + 1) (nI t) (12 * N + 1) = _
      rw [pk_us]
    · show upd (upd (upd s.2 0 (nI j)) 1 (nI t)) 2 (nI k) 2 = _
      rw [pk_us]
  rcases r2 with r2 | ⟨k0, blk, tn, r3, r4, r5, r6⟩
  · rw [if_pos (show nI k < s.1 by rw [r2.1]; exact nI_lt (b := 2147483647) (by omega) (by decide)), if_pos (show s'.1 < 0 ∨ nI k < s'.1 from Or.inl (by rw [r2.2]; decide))]
    exact ⟨take, k, by omega, rfl⟩
  · by_cases z : k < k0
    · rw [if_pos (show nI k < s.1 by rw [r4]; exact nI_lt z (by omega)), if_pos (show s'.1 < 0 ∨ nI k < s'.1 from Or.inr (by rw [r5]; exact nI_lt z (by omega)))]
      exact ⟨take, k, by omega, rfl⟩
    · rw [if_neg (show ¬ nI k < s.1 by rw [r4, nI_ltI (by omega) (by omega)]; exact z), if_neg (show ¬ (s'.1 < 0 ∨ nI k < s'.1) from fun y => y.elim (fun y => by rw [r5] at y; exact absurd y (nI_pos (by omega))) (fun y => by rw [r5, nI_ltI (by omega) (by omega)] at y; exact z y))]
      exact ⟨⟨r1, Or.inr ⟨k0, blk, tn, r3, r4, r5, r6⟩⟩, k0, r3, r4⟩
theorem rmt_b {N t : Nat} {s s' : Int32 × (Nat → Int32)} (R1 : RA 12 g a h b) (R2 : RB B g a h b) (ht : t < 12) (r : rmt B N b s s') : ∀ j, j ≤ B → rmt B N b (mt_b (a 0) (fun k => a (200 + k)) t j s) (mo_b b N t j s') ∧ (0 < j → ∃ k, k ≤ 270000 ∧ (mt_b (a 0) (fun k => a (200 + k)) t j s).1 = nI k)
  | 0, _ => ⟨r, fun z => absurd z (Nat.lt_irrefl _)⟩
  | j + 1, hj => by
    have ih := rmt_b R1 R2 ht r j (by omega)
    have s9 := rmt_s R1 R2 ht (show j < B by omega) ih.1
    exact ⟨s9.1, fun _ => s9.2⟩
theorem rmt_t {N : Nat} {s s' : Int32 × (Nat → Int32)} (R1 : RA 12 g a h b) (R2 : RB B g a h b) (hB : 0 < B) (r : rmt B N b s s') : ∀ t, t ≤ 12 → rmt B N b (mt_t (a 0) (fun k => a (200 + k)) B t s) (mo_t b N B t s') ∧ (0 < t → ∃ k, k ≤ 270000 ∧ (mt_t (a 0) (fun k => a (200 + k)) B t s).1 = nI k)
  | 0, _ => ⟨r, fun z => absurd z (Nat.lt_irrefl _)⟩
  | t + 1, ht => by
    have ih := rmt_t R1 R2 hB r t (by omega)
    have s9 := rmt_b R1 R2 (show t < 12 by omega) ih.1 B (Nat.le_refl _)
    exact ⟨s9.1, fun _ => s9.2 hB⟩
/-- a part's number -/
def hok1 (p : Nat) (x : Int32) : Prop := x = -1 ∨ ∃ k : Nat, k ≤ (tp_most p).toNatClampNeg ∧ x = nI k
theorem hok1_v {p : Nat} {v : Int32} (hp : p < 4) (h : ¬ (v < tp_least p ∨ tp_most p < v)) : hok1 p v := by
  have h0 : 0 ≤ v := by
    have : ¬ v < tp_least p := fun z => h (Or.inl z)
    refine Int32.le_trans ?_ (Int32.not_lt.mp this)
    match p, hp with
    | 0, _ => decide
    | 1, _ => decide
    | 2, _ => decide
    | 3, _ => decide
  have h1 : v ≤ tp_most p := Int32.not_lt.mp (fun z => h (Or.inr z))
  have hm : (tp_most p) = nI (tp_most p).toNatClampNeg ∧ (tp_most p).toNatClampNeg ≤ 30 := by
    match p, hp with
    | 0, _ => exact ⟨by decide, by decide⟩
    | 1, _ => exact ⟨by decide, by decide⟩
    | 2, _ => exact ⟨by decide, by decide⟩
    | 3, _ => exact ⟨by decide, by decide⟩
  right
  rcases pk_ix v (n := 31) (by decide) with z | z | ⟨j, hj, rfl⟩
  · exact absurd z (Int32.not_lt.mpr h0)
  · rw [hm.1] at h1
    exact absurd (Int32.le_trans z h1) (fun y => by rw [nI_leI (by omega) (by omega)] at y; omega)
  · rw [hm.1, nI_leI (by omega) (by omega)] at h1
    exact ⟨j, h1, rfl⟩
theorem hat_ok {f : Nat → Int32} {L : Nat} : ∀ (k m : Nat) (ps : Nat → Int32), (∀ p, p < 4 → hok1 p (ps p)) → ∀ p, p < 4 → hok1 p ((tp_hat f L k m ps).2.2 p)
  | 0, _, _, hp => hp
  | k + 1, m, ps, hp => by
    obtain ⟨n1, e1⟩ : ∃ z, skp (tp_bl f) L m = z := ⟨_, rfl⟩
    obtain ⟨n2, e2⟩ : ∃ z, skp (tp_le f) L n1 = z := ⟨_, rfl⟩
    obtain ⟨p0, ep⟩ : ∃ z, tp_pn f n1 n2 = z := ⟨_, rfl⟩
    obtain ⟨n3, e3⟩ : ∃ z, skp (tp_bl f) L n2 = z := ⟨_, rfl⟩
    obtain ⟨n4, e4⟩ : ∃ z, skp (tp_di f) L n3 = z := ⟨_, rfl⟩
    obtain ⟨v, ev⟩ : ∃ z, tp_rv f L n3 0 = z := ⟨_, rfl⟩
    obtain ⟨n5, e5⟩ : ∃ z, skp (tp_bl f) L n4 = z := ⟨_, rfl⟩
    rw [tp_hat_s e1 e2 ep e3 e4 ev e5]
    have hp9 : p0 ≤ 4 := by rw [← ep]; exact tp_pn_le _ _ _
    by_cases c1 : p0 = 4 ∨ ¬ ps p0 = -1
    · rw [if_pos c1]; exact hp
    · rw [if_neg c1]
      by_cases c2 : n4 = n3
      · rw [if_pos c2]; exact hp
      · rw [if_neg c2]
        by_cases c3 : v < tp_least p0 ∨ tp_most p0 < v
        · rw [if_pos c3]; exact hp
        · rw [if_neg c3]
          have hp4 : p0 < 4 := by have : ¬ p0 = 4 := fun z => c1 (Or.inl z); omega
          have hu : ∀ p, p < 4 → hok1 p (upd ps p0 v p) := fun p hp5 => by
            by_cases e : p = p0
            · rw [e, pk_us]; exact hok1_v hp4 c3
            · rw [pk_un e]; exact hp p hp5
          by_cases c4 : L ≤ n5
          · rw [if_pos c4]; exact hu
          · rw [if_neg c4]
            by_cases c5 : f n5 = 44
            · rw [if_pos c5]; exact hat_ok k _ _ hu
            · rw [if_neg c5]; exact hu
theorem hok1_tv {p : Nat} {x : Int32} (h : hok1 p x) : ∃ k, k ≤ (tp_most p).toNatClampNeg ∧ tp_v x = nI k := by
  rcases h with rfl | ⟨k, hk, rfl⟩
  · exact ⟨0, Nat.zero_le _, rfl⟩
  · refine ⟨k, hk, if_neg (fun z => ?_)⟩
    have z2 : (-1 : Int32).toInt = -1 := by decide
    have hk2 : k < 2 ^ 31 := Nat.lt_of_le_of_lt hk (Int32.toNatClampNeg_lt _)
    have z1 : (nI k).toInt = (-1 : Int32).toInt := by rw [z]
    rw [nI_toInt hk2] at z1
    omega
end SREL5
