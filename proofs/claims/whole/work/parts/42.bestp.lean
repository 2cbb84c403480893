/-! BEST, purely, over the class's rows -/
def ub (x : Int32) (B : Nat) : Prop := x = nI x.toNatClampNeg ∧ x.toNatClampNeg ≤ B
/-- the first seven that wait, of the first n -/
def wl (w : Nat → Bool) : Nat → List Nat
  | 0 => []
  | o + 1 => if (wl w o).length < 7 ∧ w o = true then wl w o ++ [o] else wl w o
theorem wl_len (w : Nat → Bool) : ∀ n, (wl w n).length ≤ 7
  | 0 => by simp [wl]
  | o + 1 => by
    have h := wl_len w o
    show (if _ then _ else _ : List Nat).length ≤ 7
    by_cases c : (wl w o).length < 7 ∧ w o = true
    · rw [if_pos c, List.length_append]
      have := c.1
      simp
      omega
    · rw [if_neg c]; exact h
theorem wl_full {w : Nat → Bool} {n : Nat} (h : 7 ≤ (wl w n).length) : ∀ m, n ≤ m → wl w m = wl w n := by
  intro m hm
  induction m with
  | zero => rw [show n = 0 by omega]
  | succ m ih =>
    by_cases e : n = m + 1
    · rw [e]
    · have := ih (by omega)
      show (if _ then _ else _) = _
      rw [if_neg (fun z => by have := z.1; rw [ih (by omega)] at this; omega)]
      exact ih (by omega)
theorem wl_lt (w : Nat → Bool) : ∀ n, ∀ x ∈ wl w n, x < n ∧ w x = true
  | 0, x, h => by simp [wl] at h
  | o + 1, x, h => by
    have ih := wl_lt w o
    by_cases c : (wl w o).length < 7 ∧ w o = true
    · have h : x ∈ (if (wl w o).length < 7 ∧ w o = true then wl w o ++ [o] else wl w o) := h
      rw [if_pos c] at h
      rcases List.mem_append.mp h with h | h
      · exact ⟨Nat.lt_succ_of_lt (ih x h).1, (ih x h).2⟩
      · rw [List.mem_singleton.mp h]; exact ⟨Nat.lt_succ_self _, c.2⟩
    · have h : x ∈ (if (wl w o).length < 7 ∧ w o = true then wl w o ++ [o] else wl w o) := h
      rw [if_neg c] at h
      exact ⟨Nat.lt_succ_of_lt (ih x h).1, (ih x h).2⟩
theorem wl_get {w : Nat → Bool} {n i : Nat} (h : i < (wl w n).length) : (wl w n).getD i 0 < n ∧ w ((wl w n).getD i 0) = true := by
  apply wl_lt w n
  rw [List.getD_eq_getElem?_getD, List.getElem?_eq_getElem h]
  exact List.getElem_mem _
theorem wl_congr {w w' : Nat → Bool} : ∀ n, (∀ o, o < n → w o = w' o) → wl w n = wl w' n
  | 0, _ => rfl
  | o + 1, h => by
    have e := wl_congr o (fun x hx => h x (Nat.lt_succ_of_lt hx))
    show (if _ then _ else _) = (if _ then _ else _)
    rw [e, h o (Nat.lt_succ_self _)]
def hx_wz (a : hw_A) (o : Nat) : Bool := decide (a (100 + o) 9 = -1)
abbrev pb_W (a : hw_A) (n : Nat) : List Nat := wl (hx_wz a) n
abbrev pb_N (a : hw_A) (n : Nat) : Nat := (pb_W a n).length
abbrev pb_at (a : hw_A) (n k i : Nat) : Nat := (a (100 + (pb_W a n).getD i 0) k).toNatClampNeg
abbrev pb_bf (a : hw_A) (b : Nat) : Nat := if b < 10 then (a 3 b).toNatClampNeg else 0
/-- the cheapest, of the orders that wait in this state -/
def pb_F (g : hw_G) (a : hw_A) (n : Nat) : Option (Nat × List Nat) := pl_F (pb_N a n) (g 2).toNatClampNeg (pb_at a n 0) (pb_at a n 4) (pb_at a n 5) (pb_at a n 7) (pb_N a n) [] ((g 3).toNatClampNeg, pb_bf a, 0) none
/-- the planner holds it -/
def PB (g : hw_G) (a : hw_A) (c : Int64) (n : Nat) : Prop := g 14 = nI (pb_N a n) ∧ (∀ i, i < pb_N a n → a 5 i = nI ((pb_W a n).getD i 0)) ∧ pl_R (pb_N a n) c (a 12) (pb_F g a n)
/-- what the numbers keep to -/
def DT (g : hw_G) (a : hw_A) (n : Nat) : Prop := g 1 = nI n ∧ n ≤ 60 ∧ ub (g 2) 1000000 ∧ ub (g 3) 2000000 ∧ (∀ b, b < 10 → ub (a 3 b) 2000000) ∧ ∀ o, o < n → ub (a (100 + o) 0) 9 ∧ ub (a (100 + o) 4) 50 ∧ ub (a (100 + o) 5) 140 ∧ ub (a (100 + o) 7) 9
def FB (g : hw_G) (a : hw_A) (n : Nat) (g' : hw_G) (a' : hw_A) (c' : Int64) : Prop := (∀ r, r ≠ 6 → r ≠ 13 → r ≠ 14 → g' r = g r) ∧ g' 6 = 1 ∧ (∀ k, k < 5 ∨ 13 < k → a' k = a k) ∧ PB g' a' c' n
theorem hx_wz_c {a a' : hw_A} {n : Nat} (hn : n ≤ 60) (h : ∀ k, k < 5 ∨ 13 < k → a' k = a k) : pb_W a' n = pb_W a n := wl_congr n (fun o ho => by unfold hx_wz; rw [h (100 + o) (Or.inr (by omega))])
theorem pb_F_c {g g' : hw_G} {a a' : hw_A} {n : Nat} (hn : n ≤ 60) (h : ∀ k, k < 5 ∨ 13 < k → a' k = a k) (h2 : g' 2 = g 2) (h3 : g' 3 = g 3) : pb_F g' a' n = pb_F g a n := by
  have e := hx_wz_c hn h
  unfold pb_F
  have e1 : ∀ k i, pb_at a' n k i = pb_at a n k i := fun k i => by
    show (a' (100 + (pb_W a' n).getD i 0) k).toNatClampNeg = _
    rw [e, h _ (Or.inr (by omega))]
  have e2 : pb_bf a' = pb_bf a := by funext b; show (if _ then _ else _) = _; rw [h 3 (Or.inl (by omega))]
  rw [show pb_at a' n 0 = pb_at a n 0 from funext (e1 0), show pb_at a' n 4 = pb_at a n 4 from funext (e1 4), show pb_at a' n 5 = pb_at a n 5 from funext (e1 5), show pb_at a' n 7 = pb_at a n 7 from funext (e1 7), e2, show pb_N a' n = pb_N a n by show (pb_W a' n).length = _; rw [e], h2, h3]
/-- the loading of the planner -/
def LD (g : hw_G) (a : hw_A) (W : List Nat) (g' : hw_G) (a' : hw_A) : Prop := g' = upd g 14 (nI W.length) ∧ (∀ k, k < 5 ∨ 10 < k → a' k = a k) ∧ ∀ i, i < W.length → a' 5 i = nI (W.getD i 0) ∧ a' 6 i = a (100 + W.getD i 0) 0 ∧ a' 7 i = a (100 + W.getD i 0) 4 ∧ a' 8 i = a (100 + W.getD i 0) 5 ∧ a' 9 i = a (100 + W.getD i 0) 7 ∧ a' 10 i = 0
theorem LD_add {g g' : hw_G} {a a' : hw_A} {W : List Nat} {o : Nat} (h : LD g a W g' a') : LD g a (W ++ [o]) (upd g' 14 (nI (W.length + 1))) (pl_add a' W.length (nI o) o) := by
  obtain ⟨rfl, h2, h3⟩ := h
  have hl : (W ++ [o]).length = W.length + 1 := by simp
  refine ⟨by rw [upd_uu, hl], fun k hk => ?_, fun i hi => ?_⟩
  · unfold pl_add
    simp (disch := omega) only [va_up_ne]
    exact h2 k hk
  · rw [hl] at hi
    have e9 : a' (100 + o) = a (100 + o) := h2 _ (Or.inr (by omega))
    unfold pl_add
    simp (disch := omega) only [va_up_ne, vau_s]
    by_cases e : i = W.length
    · have eg : (W ++ [o]).getD i 0 = o := by rw [List.getD_eq_getElem?_getD, List.getElem?_append_right (by omega), e]; simp
      rw [eg, e, pk_us, pk_us, pk_us, pk_us, pk_us, pk_us, e9]
      exact ⟨rfl, rfl, rfl, rfl, rfl, rfl⟩
    · have eg : (W ++ [o]).getD i 0 = W.getD i 0 := by rw [List.getD_eq_getElem?_getD, List.getD_eq_getElem?_getD, List.getElem?_append_left (by omega)]
      rw [eg, pk_un e, pk_un e, pk_un e, pk_un e, pk_un e, pk_un e]
      exact h3 i (by omega)
