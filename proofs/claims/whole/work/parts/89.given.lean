theorem lw_b1 {w : Cond} (h : w ∈ tables_1_1) : w ∈ lw_tbl := List.mem_append_right _ (List.mem_append_left _ h)
theorem lw_b2 {w : Cond} (h : w ∈ tables_1_2) : w ∈ lw_tbl := List.mem_append_right _ (List.mem_append_right _ (List.mem_append_left _ h))
theorem lw_b3 {w : Cond} (h : w ∈ tables_1_3) : w ∈ lw_tbl := List.mem_append_right _ (List.mem_append_right _ (List.mem_append_right _ (List.mem_append_left _ h)))
theorem lw_b4 {w : Cond} (h : w ∈ tables_1_4) : w ∈ lw_tbl := List.mem_append_right _ (List.mem_append_right _ (List.mem_append_right _ (List.mem_append_right _ h)))
/-! WHAT IS GIVEN OF THE START -/
def xn (U : State) : Prop := va_Nw (.methodLinkNest RX1 67 yX3_startOf RX3) U ∧ va_Nw (.methodLinkNest RX3 15 yX2_init RX3) U ∧ va_Nw (.methodLinkNest RX3 22 yX0_init RX3) U ∧ va_Nw (.methodLinkNest RX3 34 yX1_init RX3) U ∧ va_AOA .int U ∧ va_Nc "java/lang/IllegalArgumentException" "java/lang/IndexOutOfBoundsException" U
def Xl (τ : Nat → Nat) : hw_XT := fun A U H => sx τ A U H ∧ sx2 τ U ∧ sx4 τ U ∧ sxT τ A U H ∧ xt A U H ∧ xn U
theorem bd_warm {E : String} {s U : State} (hW : s.WarmedH U.vm) (h : ∀ w ∈ hw_bd E, va_Nw w s) : ∀ w ∈ hw_bd E, va_Nw w U := by
  intro w hw
  have h1 := h w hw
  rcases List.mem_cons.mp hw with rfl | hw
  · exact va_Nw.warmC hW h1
  rcases List.mem_cons.mp hw with rfl | hw
  · exact va_Nw.warmD hW h1
  rcases List.mem_cons.mp hw with rfl | hw
  · exact va_Nw.warmD hW h1
  rcases List.mem_cons.mp hw with rfl | hw
  · exact va_Nw.warmD hW h1
  cases hw
theorem bd_same {E : String} {u U : State} (hv : u.vm = U.vm) (h : ∀ w ∈ hw_bd E, va_Nw w u) : ∀ w ∈ hw_bd E, va_Nw w U := by
  intro w hw
  have h1 := h w hw
  rcases List.mem_cons.mp hw with rfl | hw
  · exact va_Nw.same rfl hv h1
  rcases List.mem_cons.mp hw with rfl | hw
  · exact va_Nw.same rfl hv h1
  rcases List.mem_cons.mp hw with rfl | hw
  · exact va_Nw.same rfl hv h1
  rcases List.mem_cons.mp hw with rfl | hw
  · exact va_Nw.same rfl hv h1
  cases hw
theorem aoa_vm {u U : State} (hv : u.vm = U.vm) (h : va_AOA .int u) : va_AOA .int U := by
  unfold va_AOA at h ⊢
  simp only [Cond.before, Cond.holds, Cond.value] at h ⊢
  rw [← hv]
  exact h
theorem aoa_warm {s U : State} (hW : s.WarmedH U.vm) (h : va_AOA .int s) : va_AOA .int U := by
  have h1 : va_AOA .int (s.setVm U.vm) := by
    unfold va_AOA
    rw [Cond.arrayOver_setVmC hW.alike]
    exact h
  exact aoa_vm (u := s.setVm U.vm) rfl h1
theorem Xl_ok (τ : Nat → Nat) : hw_XOK (Xl τ) := by
  refine ⟨fun A s U H hW h => ?_, fun A U H H1 h hq => ?_, fun A B U H h hAB => ?_, fun A U H g mk a h => ?_⟩
  · obtain ⟨⟨a1, a2, a3⟩, ⟨b1, b2, b3, b4⟩, ⟨c1, c2, c3, c4⟩, ⟨d1, d2, d3, d4⟩, ⟨⟨e1, e2, e3, e4, e5⟩, e6⟩, ⟨f1, f2, f3, f4, f5, f6⟩⟩ := h
    exact ⟨⟨vk_S.moved hW.alike a1, va_Z.moved hW.alike a2, va_Zq.moved hW.alike a3⟩, ⟨vk_R.warm hW b1, vk_R.warm hW b2, vk_R.warm hW b3, vk_R.warm hW b4⟩, ⟨vk_R.warm hW c1, vk_R.warm hW c2, vk_R.warm hW c3, vk_R.warm hW c4⟩, ⟨va_Z.moved hW.alike d1, va_T.moved hW.alike d2, va_Z.moved hW.alike d3, va_T.moved hW.alike d4⟩, ⟨⟨bd_warm hW e1, bd_warm hW e2, bd_warm hW e3, vx_Zq.moved hW.alike e4, vx_Zq.moved hW.alike e5⟩, fun q hq => (e6 q hq).imp (fun sa h => vk_R.warm hW h)⟩, ⟨va_Nw.warmM hW f1, va_Nw.warmM hW f2, va_Nw.warmM hW f3, va_Nw.warmM hW f4, aoa_warm hW f5, va_Nc.moved hW.alike f6⟩⟩
  · obtain ⟨⟨a1, a2, a3⟩, b, c, ⟨d1, d2, d3, d4⟩, ⟨⟨e1, e2, e3, e4, e5⟩, e6⟩, f⟩ := h
    exact ⟨⟨a1.kept hq, a2.kept hq, a3.kept hq⟩, b, c, ⟨d1.kept hq, d2.kept hq, d3.kept hq, d4.kept hq⟩, ⟨⟨e1, e2, e3, e4.kept hq, e5.kept hq⟩, e6⟩, f⟩
  · obtain ⟨⟨a1, a2, a3⟩, b, c, ⟨d1, d2, d3, d4⟩, ⟨⟨e1, e2, e3, e4, e5⟩, e6⟩, f⟩ := h
    exact ⟨⟨a1.narrow hAB, a2.narrow hAB, a3.narrow hAB⟩, b, c, ⟨d1.narrow hAB, d2.narrow hAB, d3.narrow hAB, d4.narrow hAB⟩, ⟨⟨e1, e2, e3, e4.narrow hAB, e5.narrow hAB⟩, e6⟩, f⟩
  · obtain ⟨⟨a1, a2, a3⟩, ⟨b1, b2, b3, b4⟩, ⟨c1, c2, c3, c4⟩, ⟨d1, d2, d3, d4⟩, ⟨⟨e1, e2, e3, e4, e5⟩, e6⟩, ⟨f1, f2, f3, f4, f5, f6⟩⟩ := h
    have hal : U.vm.Alike (U.calling g mk a).vm := Vm.Alike.refl U.vm
    have hv : U.vm = (U.calling g mk a).vm := rfl
    exact ⟨⟨vk_S.moved hal a1, va_Z.moved hal a2, va_Zq.moved hal a3⟩, ⟨vk_R.same hv.symm b1, vk_R.same hv.symm b2, vk_R.same hv.symm b3, vk_R.same hv.symm b4⟩, ⟨vk_R.same hv.symm c1, vk_R.same hv.symm c2, vk_R.same hv.symm c3, vk_R.same hv.symm c4⟩, ⟨va_Z.moved hal d1, va_T.moved hal d2, va_Z.moved hal d3, va_T.moved hal d4⟩, ⟨⟨bd_same hv e1, bd_same hv e2, bd_same hv e3, vx_Zq.moved hal e4, vx_Zq.moved hal e5⟩, fun q hq => (e6 q hq).imp (fun sa h => vk_R.same hv.symm h)⟩, ⟨va_Nw.same rfl hv f1, va_Nw.same rfl hv f2, va_Nw.same rfl hv f3, va_Nw.same rfl hv f4, aoa_vm hv f5, va_Nc.moved hal f6⟩⟩
def sx_t (i : Nat) : Term := .string RX2 (95 + 2 * i)
section SGIV
variable {args : Array Value} {s : State} {A : Nat → Prop}
set_option maxRecDepth 100000 in
set_option maxHeartbeats 4000000 in
theorem gv_str (hs : ∀ c ∈ flatC (Jvm.Cond.and given_1 narrow_1), c.before args s = true) (hA : ∀ a : Nat, a < s.heap.size → ¬ A a) : ∃ adK adV : Nat → Nat, vk_S 4 sx_len sx_B adK adV A s s.heap ∧ ∀ i : Nat, i < 4 → (sx_t i).eval args s none [] s = some (.ref (adK i)) := by
  refine vk_Sof (tm := sx_t) ?_ ?_ ?_ ?_ ?_ ?_ ?_ hA
  · intro i hi
    match i, hi with
    | 0, _ => decide
    | 1, _ => decide
    | 2, _ => decide
    | 3, _ => decide
  · intro i hi
    match i, hi with
    | 0, _ => exact (hs _ (List.mem_of_getElem? (i := 185) (by decide +kernel)))
    | 1, _ => exact (hs _ (List.mem_of_getElem? (i := 199) (by decide +kernel)))
    | 2, _ => exact (hs _ (List.mem_of_getElem? (i := 213) (by decide +kernel)))
    | 3, _ => exact (hs _ (List.mem_of_getElem? (i := 228) (by decide +kernel)))
  · intro i hi
    match i, hi with
    | 0, _ => exact (hs _ (List.mem_of_getElem? (i := 186) (by decide +kernel)))
    | 1, _ => exact (hs _ (List.mem_of_getElem? (i := 200) (by decide +kernel)))
    | 2, _ => exact (hs _ (List.mem_of_getElem? (i := 214) (by decide +kernel)))
    | 3, _ => exact (hs _ (List.mem_of_getElem? (i := 229) (by decide +kernel)))
  · intro i hi
    match i, hi with
    | 0, _ => exact (hs _ (List.mem_of_getElem? (i := 187) (by decide +kernel)))
    | 1, _ => exact (hs _ (List.mem_of_getElem? (i := 201) (by decide +kernel)))
    | 2, _ => exact (hs _ (List.mem_of_getElem? (i := 215) (by decide +kernel)))
    | 3, _ => exact (hs _ (List.mem_of_getElem? (i := 230) (by decide +kernel)))
  · intro i hi
    match i, hi with
    | 0, _ => exact (hs _ (List.mem_of_getElem? (i := 188) (by decide +kernel)))
    | 1, _ => exact (hs _ (List.mem_of_getElem? (i := 202) (by decide +kernel)))
    | 2, _ => exact (hs _ (List.mem_of_getElem? (i := 216) (by decide +kernel)))
    | 3, _ => exact (hs _ (List.mem_of_getElem? (i := 231) (by decide +kernel)))
  · intro i hi j hj
    match i, hi with
    | 0, _ =>
      have hj : j < 5 := hj
      match j, hj with
      | 0, _ => exact (hs _ (List.mem_of_getElem? (i := 189) (by decide +kernel)))
      | 1, _ => exact (hs _ (List.mem_of_getElem? (i := 190) (by decide +kernel)))
      | 2, _ => exact (hs _ (List.mem_of_getElem? (i := 191) (by decide +kernel)))
      | 3, _ => exact (hs _ (List.mem_of_getElem? (i := 192) (by decide +kernel)))
      | 4, _ => exact (hs _ (List.mem_of_getElem? (i := 193) (by decide +kernel)))
    | 1, _ =>
      have hj : j < 4 := hj
      match j, hj with
      | 0, _ => exact (hs _ (List.mem_of_getElem? (i := 203) (by decide +kernel)))
      | 1, _ => exact (hs _ (List.mem_of_getElem? (i := 204) (by decide +kernel)))
      | 2, _ => exact (hs _ (List.mem_of_getElem? (i := 205) (by decide +kernel)))
      | 3, _ => exact (hs _ (List.mem_of_getElem? (i := 206) (by decide +kernel)))
    | 2, _ =>
      have hj : j < 4 := hj
      match j, hj with
      | 0, _ => exact (hs _ (List.mem_of_getElem? (i := 217) (by decide +kernel)))
      | 1, _ => exact (hs _ (List.mem_of_getElem? (i := 218) (by decide +kernel)))
      | 2, _ => exact (hs _ (List.mem_of_getElem? (i := 219) (by decide +kernel)))
      | 3, _ => exact (hs _ (List.mem_of_getElem? (i := 220) (by decide +kernel)))
    | 3, _ =>
      have hj : j < 4 := hj
      match j, hj with
      | 0, _ => exact (hs _ (List.mem_of_getElem? (i := 232) (by decide +kernel)))
      | 1, _ => exact (hs _ (List.mem_of_getElem? (i := 233) (by decide +kernel)))
      | 2, _ => exact (hs _ (List.mem_of_getElem? (i := 234) (by decide +kernel)))
      | 3, _ => exact (hs _ (List.mem_of_getElem? (i := 235) (by decide +kernel)))
  · intro i j hi hj hij
    match i, hi, j, hj, hij with
    | 0, _, 0, _, h => exact absurd rfl h
    | 0, _, 1, _, h => exact Or.inl (hs _ (List.mem_of_getElem? (i := 212) (by decide +kernel)))
    | 0, _, 2, _, h => exact Or.inl (hs _ (List.mem_of_getElem? (i := 226) (by decide +kernel)))
    | 0, _, 3, _, h => exact Or.inl (hs _ (List.mem_of_getElem? (i := 241) (by decide +kernel)))
    | 1, _, 0, _, h => exact Or.inr (hs _ (List.mem_of_getElem? (i := 212) (by decide +kernel)))
    | 1, _, 1, _, h => exact absurd rfl h
    | 1, _, 2, _, h => exact Or.inl (hs _ (List.mem_of_getElem? (i := 227) (by decide +kernel)))
    | 1, _, 3, _, h => exact Or.inl (hs _ (List.mem_of_getElem? (i := 242) (by decide +kernel)))
    | 2, _, 0, _, h => exact Or.inr (hs _ (List.mem_of_getElem? (i := 226) (by decide +kernel)))
    | 2, _, 1, _, h => exact Or.inr (hs _ (List.mem_of_getElem? (i := 227) (by decide +kernel)))
    | 2, _, 2, _, h => exact absurd rfl h
    | 2, _, 3, _, h => exact Or.inl (hs _ (List.mem_of_getElem? (i := 243) (by decide +kernel)))
    | 3, _, 0, _, h => exact Or.inr (hs _ (List.mem_of_getElem? (i := 241) (by decide +kernel)))
    | 3, _, 1, _, h => exact Or.inr (hs _ (List.mem_of_getElem? (i := 242) (by decide +kernel)))
    | 3, _, 2, _, h => exact Or.inr (hs _ (List.mem_of_getElem? (i := 243) (by decide +kernel)))
    | 3, _, 3, _, h => exact absurd rfl h
theorem eq_ref {t u : Term} {a : Nat} (h : (Cond.eq t u).before args s = true) (ht : t.eval args s none [] s = some (.ref a)) : u.eval args s none [] s = some (.ref a) := by
  cases hv : u.eval args s none [] s with
  | none => simp [Cond.before, Cond.holds, Cond.value, ht, hv] at h
  | some w =>
    cases w with
    | ref y =>
      simp [Cond.before, Cond.holds, Cond.value, ht, hv] at h
      rw [h]
    | _ => simp [Cond.before, Cond.holds, Cond.value, ht, hv] at h
set_option maxRecDepth 100000 in
theorem gv_LEAST (hs : ∀ c ∈ flatC (Jvm.Cond.and given_1 narrow_1), c.before args s = true) (hts : ∀ w ∈ lw_tbl, w.before args s = true) (hA : ∀ a : Nat, a < s.heap.size → ¬ A a) : ∃ q : Nat, va_Z "HatWorks$Tape" "LEAST" "[I" (.ref q) A s s.heap ∧ va_T .int q 4 (fun j => .int (tp_least j)) A s s.heap := by
  obtain ⟨q, h1, h2⟩ := va_Tof (args := args) (s := s) (A := A) (tm := .static "HatWorks$Tape" "LEAST" "[I") (ty := .int) (N := 4) (f := fun j => .int (tp_least j)) (by decide) (hs _ (List.mem_of_getElem? (i := 12) (by decide +kernel))) (va_eqt (hs _ (List.mem_of_getElem? (i := 13) (by decide +kernel)))) (fun j hj => by
      match j, hj with
      | 0, _ => exact va_eqt (hs _ (List.mem_of_getElem? (i := 14) (by decide +kernel)))
      | 1, _ => exact va_eqt (hs _ (List.mem_of_getElem? (i := 15) (by decide +kernel)))
      | 2, _ => exact va_eqt (hs _ (List.mem_of_getElem? (i := 16) (by decide +kernel)))
      | 3, _ => exact va_eqt (hs _ (List.mem_of_getElem? (i := 17) (by decide +kernel)))) hA
  exact ⟨q, va_Zof (hts _ (lw_b2 (List.mem_of_getElem? (i := 237) (by decide +kernel)))) (hts _ (lw_b1 (List.mem_of_getElem? (i := 2) (by decide +kernel)))) h1 hA, h2⟩
set_option maxRecDepth 100000 in
theorem gv_MOST (hs : ∀ c ∈ flatC (Jvm.Cond.and given_1 narrow_1), c.before args s = true) (hts : ∀ w ∈ lw_tbl, w.before args s = true) (hA : ∀ a : Nat, a < s.heap.size → ¬ A a) : ∃ q : Nat, va_Z "HatWorks$Tape" "MOST" "[I" (.ref q) A s s.heap ∧ va_T .int q 4 (fun j => .int (tp_most j)) A s s.heap := by
  obtain ⟨q, h1, h2⟩ := va_Tof (args := args) (s := s) (A := A) (tm := .static "HatWorks$Tape" "MOST" "[I") (ty := .int) (N := 4) (f := fun j => .int (tp_most j)) (by decide) (hs _ (List.mem_of_getElem? (i := 19) (by decide +kernel))) (va_eqt (hs _ (List.mem_of_getElem? (i := 20) (by decide +kernel)))) (fun j hj => by
      match j, hj with
      | 0, _ => exact va_eqt (hs _ (List.mem_of_getElem? (i := 21) (by decide +kernel)))
      | 1, _ => exact va_eqt (hs _ (List.mem_of_getElem? (i := 22) (by decide +kernel)))
      | 2, _ => exact va_eqt (hs _ (List.mem_of_getElem? (i := 23) (by decide +kernel)))
      | 3, _ => exact va_eqt (hs _ (List.mem_of_getElem? (i := 24) (by decide +kernel)))) hA
  exact ⟨q, va_Zof (hts _ (lw_b2 (List.mem_of_getElem? (i := 239) (by decide +kernel)))) (hts _ (lw_b1 (List.mem_of_getElem? (i := 2) (by decide +kernel)))) h1 hA, h2⟩
end SGIV
