/-! THE PLAN, purely: orders in which v = 0 .. N-1 may go, one behind another, by their numbers; the first of the cheapest -/
def pl_st (nw sf f s : Nat) : Nat := max (max nw sf) (f - s)
def pl_done (nw : Nat) (ob st on : Nat → Nat) (v : Nat) (S : Nat × (Nat → Nat) × Nat) : Nat := pl_st nw S.1 (S.2.1 (ob v)) (st v) + st v + on v
def pl_step (nw : Nat) (ob st on wt : Nat → Nat) (v : Nat) (S : Nat × (Nat → Nat) × Nat) : Nat × (Nat → Nat) × Nat := (pl_st nw S.1 (S.2.1 (ob v)) (st v) + st v, va_up S.2.1 (ob v) (pl_done nw ob st on v S), S.2.2 + wt v * pl_done nw ob st on v S)
def pl_acc (acc : Option (Nat × List Nat)) (c : Nat) (p : List Nat) : Option (Nat × List Nat) := match acc with
  | none => some (c, p)
  | some q => if c < q.1 then some (c, p) else some q
def pl_F (N nw : Nat) (ob st on wt : Nat → Nat) : Nat → List Nat → Nat × (Nat → Nat) × Nat → Option (Nat × List Nat) → Option (Nat × List Nat)
  | 0, p, S, acc => pl_acc acc S.2.2 p
  | k + 1, p, S, acc => (List.range N).foldl (fun acc v => if v ∈ p then acc else pl_F N nw ob st on wt k (p ++ [v]) (pl_step nw ob st on wt v S) acc) acc
/-- the loop of one depth: what the first j tries give -/
def pl_L (N nw : Nat) (ob st on wt : Nat → Nat) (k : Nat) (p : List Nat) (S : Nat × (Nat → Nat) × Nat) (acc : Option (Nat × List Nat)) (j : Nat) : Option (Nat × List Nat) := (List.range j).foldl (fun acc v => if v ∈ p then acc else pl_F N nw ob st on wt k (p ++ [v]) (pl_step nw ob st on wt v S) acc) acc
theorem pl_L0 {N nw : Nat} {ob st on wt : Nat → Nat} {k : Nat} {p : List Nat} {S : Nat × (Nat → Nat) × Nat} {acc : Option (Nat × List Nat)} : pl_L N nw ob st on wt k p S acc 0 = acc := rfl
theorem pl_Ls {N nw : Nat} {ob st on wt : Nat → Nat} {k : Nat} {p : List Nat} {S : Nat × (Nat → Nat) × Nat} {acc : Option (Nat × List Nat)} {j : Nat} : pl_L N nw ob st on wt k p S acc (j + 1) = if j ∈ p then pl_L N nw ob st on wt k p S acc j else pl_F N nw ob st on wt k (p ++ [j]) (pl_step nw ob st on wt j S) (pl_L N nw ob st on wt k p S acc j) := by
  unfold pl_L
  rw [List.range_succ, List.foldl_append]
  rfl
theorem pl_LN {N nw : Nat} {ob st on wt : Nat → Nat} {k : Nat} {p : List Nat} {S : Nat × (Nat → Nat) × Nat} {acc : Option (Nat × List Nat)} : pl_F N nw ob st on wt (k + 1) p S acc = pl_L N nw ob st on wt k p S acc N := rfl
/-- what is dear already gets no cheaper -/
theorem pl_prune {N nw : Nat} {ob st on wt : Nat → Nat} : ∀ (k : Nat) (p : List Nat) (S : Nat × (Nat → Nat) × Nat) (q : Nat × List Nat), q.1 ≤ S.2.2 → pl_F N nw ob st on wt k p S (some q) = some q
  | 0, p, S, q, h => by
    show (if S.2.2 < q.1 then _ else _) = _
    rw [if_neg (Nat.not_lt.mpr h)]
  | k + 1, p, S, q, h => by
    rw [pl_LN]
    have : ∀ j, pl_L N nw ob st on wt k p S (some q) j = some q := by
      intro j
      induction j with
      | zero => rfl
      | succ j ih =>
        rw [pl_Ls, ih]
        by_cases e : j ∈ p
        · rw [if_pos e]
        · rw [if_neg e]
          exact pl_prune k _ _ q (Nat.le_trans h (Nat.le_add_right _ _))
    exact this N
theorem lgc_lt {x y : Int64} : lg_cmp x y < 0 ↔ x < y := by
  unfold lg_cmp
  by_cases h1 : y < x
  · simp only [h1, if_true]
    exact ⟨fun h => absurd h (by decide), fun h => absurd (Int64.lt_iff_toInt_lt.mp h) (by have := Int64.lt_iff_toInt_lt.mp h1; omega)⟩
  · by_cases h2 : x = y
    · subst h2
      simp
    · simp only [h1, h2, if_false]
      refine ⟨fun _ => ?_, fun _ => by decide⟩
      have a1 : ¬ y.toInt < x.toInt := fun z => h1 (Int64.lt_iff_toInt_lt.mpr z)
      have a2 : ¬ x.toInt = y.toInt := fun z => h2 (Int64.toInt_inj.mp z)
      exact Int64.lt_iff_toInt_lt.mpr (by omega)
theorem mxi_n {a b : Nat} (ha : a < 2 ^ 31) (hb : b < 2 ^ 31) : mxi (nI a) (nI b) = nI (max a b) := by
  unfold mxi
  by_cases h : a < b
  · rw [if_pos ((nI_ltI ha hb).mpr h), Nat.max_eq_right (by omega)]
  · rw [if_neg (fun z => h ((nI_ltI ha hb).mp z)), Nat.max_eq_left (by omega)]
theorem mxi_st {nw sf f s : Nat} (h1 : nw < 2 ^ 30) (h2 : sf < 2 ^ 30) (h3 : f < 2 ^ 30) (h4 : s < 2 ^ 30) : mxi (mxi (nI nw) (nI sf)) (nI f - nI s) = nI (pl_st nw sf f s) := by
  rw [mxi_n (by omega) (by omega)]
  by_cases h : s ≤ f
  · rw [pk_sub h, mxi_n (by omega) (by omega)]
    rfl
  · have hn := pk_sneg (a := f) (b := s) h4 (by omega)
    unfold mxi pl_st
    rw [if_neg (fun z => ?_), show f - s = 0 by omega, Nat.max_zero]
    have z1 := Int32.lt_iff_toInt_lt.mp z
    have z2 := Int32.lt_iff_toInt_lt.mp hn
    rw [nI_toInt (by omega)] at z1
    have z3 : (0 : Int32).toInt = 0 := by decide
    omega
def pl_ok (d : Nat) (S : Nat × (Nat → Nat) × Nat) : Prop := S.1 ≤ 2000000 + 200 * d ∧ (∀ b, S.2.1 b ≤ 2000000 + 200 * d) ∧ S.2.2 ≤ 40000000 * d
theorem pl_st_le {nw sf f s M : Nat} (h1 : nw ≤ M) (h2 : sf ≤ M) (h3 : f ≤ M) : pl_st nw sf f s ≤ M := by
  unfold pl_st
  omega
theorem pl_ok_s {nw : Nat} {ob st on wt : Nat → Nat} {v d : Nat} {S : Nat × (Nat → Nat) × Nat} (hnw : nw ≤ 2000000) (hd : d ≤ 7) (h : pl_ok d S) (h1 : st v ≤ 50) (h2 : on v ≤ 140) (h3 : wt v ≤ 9) : pl_ok (d + 1) (pl_step nw ob st on wt v S) ∧ pl_done nw ob st on v S ≤ 2000000 + 200 * (d + 1) := by
  obtain ⟨a1, a2, a3⟩ := h
  have b1 := pl_st_le (s := st v) (show nw ≤ 2000000 + 200 * d by omega) a1 (a2 (ob v))
  have b2 : pl_done nw ob st on v S ≤ 2000000 + 200 * (d + 1) := by unfold pl_done; omega
  refine ⟨⟨?_, ?_, ?_⟩, b2⟩
  · show _ + st v ≤ _
    omega
  · intro b
    show va_up S.2.1 (ob v) _ b ≤ _
    by_cases e : b = ob v
    · rw [e, vau_s]; exact b2
    · rw [va_up_ne _ _ e]; have := a2 b; omega
  · show S.2.2 + wt v * pl_done nw ob st on v S ≤ _
    have b3 : wt v * pl_done nw ob st on v S ≤ 9 * (2000000 + 200 * (d + 1)) := Nat.mul_le_mul h3 b2
    omega
/-- the class's long and row hold the best so far -/
def pl_R (N : Nat) (c : Int64) (f : Nat → Int32) (acc : Option (Nat × List Nat)) : Prop := match acc with
  | none => c = 9223372036854775807
  | some q => c = lN q.1 ∧ q.1 < 2 ^ 62 ∧ q.2.length = N ∧ ∀ i, i < N → f i = nI (q.2.getD i 0) ∧ q.2.getD i 0 < N
def pl_P (N nw : Nat) (ob st on wt : Nat → Nat) (g : hw_G) (a : hw_A) (c : Int64) (p : List Nat) (S : Nat × (Nat → Nat) × Nat) (acc : Option (Nat × List Nat)) (d : Nat) : Prop :=
  g 14 = nI N ∧ N ≤ 7 ∧ g 13 = nI nw ∧ nw ≤ 2000000 ∧ (∀ v, v < N → ob v < 10 ∧ st v ≤ 50 ∧ on v ≤ 140 ∧ wt v ≤ 9 ∧ a 6 v = nI (ob v) ∧ a 7 v = nI (st v) ∧ a 8 v = nI (on v) ∧ a 9 v = nI (wt v)) ∧ p.length = d ∧ d ≤ N ∧ (∀ v ∈ p, v < N) ∧ (∀ i, i < d → a 11 i = nI (p.getD i 0)) ∧ (∀ v, v < N → a 10 v = if v ∈ p then 1 else 0) ∧ (∀ b, b < 10 → a 13 b = nI (S.2.1 b)) ∧ pl_ok d S ∧ pl_R N c (a 12) acc
def pl_Q (N : Nat) (g : hw_G) (a : hw_A) (d : Nat) (acc : Option (Nat × List Nat)) (g' : hw_G) (a' : hw_A) (c' : Int64) : Prop := g' = g ∧ ∃ x y : Nat → Int32, a' = va_up (va_up a 11 x) 12 y ∧ (∀ i, i < d → x i = a 11 i) ∧ pl_R N c' y acc
theorem cp_at (f h : Nat → Int32) : ∀ (n i : Nat), cp_n f h n i = if i < n then h i else f i
  | 0, i => by simp [cp_n]
  | n + 1, i => by
    show upd (cp_n f h n) n (h n) i = _
    by_cases e : i = n
    · rw [e, pk_us, if_pos (by omega)]
    · rw [pk_un e, cp_at f h n i]
      by_cases e2 : i < n
      · rw [if_pos e2, if_pos (by omega)]
      · rw [if_neg e2, if_neg (by omega)]
