/-! small rows on numbers, registers, and the pure readings of loops -/
abbrev hw_rm (n : Nat) : Room := { frames := n, cells := 0, slots := 0, locals := 64 * n }
theorem hw_inc {i : Int32} {n : Nat} (h : (!decide (i < 0) && decide (i.toNatClampNeg < n)) = true) : vp_in i n := by
  simp only [Bool.and_eq_true, Bool.not_eq_true', decide_eq_false_iff_not, decide_eq_true_eq] at h
  exact fun q => q.elim h.1 (fun q => Nat.not_lt.mpr q h.2)
theorem hw_inN {x : Int32} {k n : Nat} (e : x = nI k) (h : k < n) (hn : n < 2 ^ 31) : vp_in x n := by rw [e]; exact vp_in_nI h hn
theorem hw_lt {i : Int32} {n : Nat} (h : vp_in i n) : i.toNatClampNeg < n := Nat.not_le.mp fun q => h (Or.inr q)
theorem upd_uu (f : Nat → Int32) (k : Nat) (x y : Int32) : upd (upd f k x) k y = upd f k y := by
  funext j
  by_cases h : j = k <;> simp [upd, h]
theorem upd_self (f : Nat → Int32) (k : Nat) {x : Int32} (h : f k = x) : upd f k x = f := by
  funext j
  by_cases e : j = k
  · rw [e, pk_us, h]
  · rw [pk_un e]
theorem upd_comm (f : Nat → Int32) {k j : Nat} (x y : Int32) (h : k ≠ j) : upd (upd f k x) j y = upd (upd f j y) k x := by
  funext i
  by_cases h1 : i = k <;> by_cases h2 : i = j <;> simp [upd, h1, h2, h, Ne.symm h]
theorem vau_self {α : Type} (f : Nat → α) (k : Nat) {x : α} (h : f k = x) : va_up f k x = f := by
  funext j
  by_cases e : j = k
  · rw [e]; simp [va_up, h]
  · rw [va_up_ne _ _ e]
theorem vau_s {α : Type} (f : Nat → α) (k : Nat) (x : α) : va_up f k x k = x := by simp [va_up]
theorem vau_comm {α : Type} (f : Nat → α) {k j : Nat} (x y : α) (h : k ≠ j) : va_up (va_up f k x) j y = va_up (va_up f j y) k x := by
  funext i
  by_cases h1 : i = k <;> by_cases h2 : i = j <;> simp [va_up, h1, h2, h, Ne.symm h]
/-- from n on, at most k places on, while p -/
def sk (p : Nat → Bool) : Nat → Nat → Nat
  | 0, n => n
  | k + 1, n => if p n then sk p k (n + 1) else n
/-- from n on, below L, while p -/
def skp (p : Nat → Bool) (L n : Nat) : Nat := sk p (L - n) n
theorem skp_t {p : Nat → Bool} {L n : Nat} (h : n < L) (hp : p n = true) : skp p L n = skp p L (n + 1) := by
  unfold skp
  rw [show L - n = (L - (n + 1)) + 1 by omega]
  show (if p n then _ else _) = _
  rw [if_pos hp]
theorem skp_f {p : Nat → Bool} {L n : Nat} (h : ¬ (n < L ∧ p n = true)) : skp p L n = n := by
  unfold skp
  by_cases hn : n < L
  · rw [show L - n = (L - (n + 1)) + 1 by omega]
    show (if p n then _ else _) = _
    rw [if_neg (fun q => h ⟨hn, q⟩)]
  · rw [show L - n = 0 by omega]
    rfl
theorem sk_ge (p : Nat → Bool) : ∀ k n, n ≤ sk p k n ∧ sk p k n ≤ n + k
  | 0, n => ⟨Nat.le_refl _, Nat.le_refl _⟩
  | k + 1, n => by
    have h := sk_ge p k (n + 1)
    show n ≤ (if p n then _ else _) ∧ (if p n then _ else _) ≤ _
    by_cases hp : p n = true
    · rw [if_pos hp]; omega
    · rw [if_neg hp]; omega
theorem skp_ge (p : Nat → Bool) {L n : Nat} (h : n ≤ L) : n ≤ skp p L n ∧ skp p L n ≤ L := by
  have := sk_ge p (L - n) n
  unfold skp
  omega
theorem hw_eq4 {α β γ δ : Type} {r0 : α} {g0 : β} {a0 : γ} {c0 : δ} {Q : α → β → γ → δ → Prop} (h : Q r0 g0 a0 c0) : ∀ r g a c, (r = r0 ∧ g = g0 ∧ a = a0 ∧ c = c0) → Q r g a c := by
  rintro _ _ _ _ ⟨rfl, rfl, rfl, rfl⟩
  exact h
theorem hw_eq3 {β γ δ : Type} {g0 : β} {a0 : γ} {c0 : δ} {Q : β → γ → δ → Prop} (h : Q g0 a0 c0) : ∀ g a c, (g = g0 ∧ a = a0 ∧ c = c0) → Q g a c := by
  rintro _ _ _ ⟨rfl, rfl, rfl⟩
  exact h
