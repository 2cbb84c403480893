section SGIV2
variable {args : Array Value} {s : State} {A : Nat → Prop}
theorem gv_ref {own tx : String} {k : Nat} (h1 : (Cond.stringRef own k tx).before args s = true) (h2 : (Cond.exactly (.string own k) "java/lang/String").before args s = true) : ∃ sa : Nat, vk_R own k tx sa s := by
  obtain ⟨a, c, cA, kA, q1, -⟩ := Cond.exactly_spec (args := args) (first := s) (o := none) (s := s) (idx := []) (t := .string own k) (cls := "java/lang/String") h2
  exact ⟨a, vk_R.of h1 q1⟩
set_option maxRecDepth 100000 in
theorem gv_S (hs : ∀ c ∈ flatC (Jvm.Cond.and given_1 narrow_1), c.before args s = true) (hts : ∀ w ∈ lw_tbl, w.before args s = true) : ∀ q ∈ xt_S, ∃ sa : Nat, vk_R RX3 q.1 q.2 sa s := by
  intro q hq
  rcases List.mem_cons.mp hq with rfl | hq
  · exact gv_ref (hts _ (lw_b2 (List.mem_of_getElem? (i := 73) (by decide +kernel)))) (hs _ (List.mem_of_getElem? (i := 46) (by decide +kernel)))
  rcases List.mem_cons.mp hq with rfl | hq
  · exact gv_ref (hts _ (lw_b2 (List.mem_of_getElem? (i := 116) (by decide +kernel)))) (hs _ (List.mem_of_getElem? (i := 71) (by decide +kernel)))
  rcases List.mem_cons.mp hq with rfl | hq
  · exact gv_ref (hts _ (lw_b3 (List.mem_of_getElem? (i := 61) (by decide +kernel)))) (hs _ (List.mem_of_getElem? (i := 270) (by decide +kernel)))
  rcases List.mem_cons.mp hq with rfl | hq
  · exact gv_ref (hts _ (lw_b3 (List.mem_of_getElem? (i := 75) (by decide +kernel)))) (hs _ (List.mem_of_getElem? (i := 329) (by decide +kernel)))
  rcases List.mem_cons.mp hq with rfl | hq
  · exact gv_ref (hts _ (lw_b3 (List.mem_of_getElem? (i := 98) (by decide +kernel)))) (hs _ (List.mem_of_getElem? (i := 367) (by decide +kernel)))
  rcases List.mem_cons.mp hq with rfl | hq
  · exact gv_ref (hts _ (lw_b3 (List.mem_of_getElem? (i := 99) (by decide +kernel)))) (hs _ (List.mem_of_getElem? (i := 407) (by decide +kernel)))
  rcases List.mem_cons.mp hq with rfl | hq
  · exact gv_ref (hts _ (lw_b3 (List.mem_of_getElem? (i := 107) (by decide +kernel)))) (hs _ (List.mem_of_getElem? (i := 449) (by decide +kernel)))
  rcases List.mem_cons.mp hq with rfl | hq
  · exact gv_ref (hts _ (lw_b3 (List.mem_of_getElem? (i := 115) (by decide +kernel)))) (hs _ (List.mem_of_getElem? (i := 484) (by decide +kernel)))
  rcases List.mem_cons.mp hq with rfl | hq
  · exact gv_ref (hts _ (lw_b3 (List.mem_of_getElem? (i := 54) (by decide +kernel)))) (hs _ (List.mem_of_getElem? (i := 244) (by decide +kernel)))
  rcases List.mem_cons.mp hq with rfl | hq
  · exact gv_ref (hts _ (lw_b3 (List.mem_of_getElem? (i := 74) (by decide +kernel)))) (hs _ (List.mem_of_getElem? (i := 301) (by decide +kernel)))
  rcases List.mem_cons.mp hq with rfl | hq
  · exact gv_ref (hts _ (lw_b2 (List.mem_of_getElem? (i := 138) (by decide +kernel)))) (hs _ (List.mem_of_getElem? (i := 95) (by decide +kernel)))
  rcases List.mem_cons.mp hq with rfl | hq
  · exact gv_ref (hts _ (lw_b2 (List.mem_of_getElem? (i := 140) (by decide +kernel)))) (hs _ (List.mem_of_getElem? (i := 131) (by decide +kernel)))
  rcases List.mem_cons.mp hq with rfl | hq
  · exact gv_ref (hts _ (lw_b2 (List.mem_of_getElem? (i := 141) (by decide +kernel)))) (hs _ (List.mem_of_getElem? (i := 159) (by decide +kernel)))
  cases hq
set_option maxRecDepth 100000 in
theorem gv_IAE (hts : ∀ w ∈ lw_tbl, w.before args s = true) : ∀ w ∈ hw_bd "java/lang/IllegalArgumentException", va_Nw w s := by
  intro w hw
  rcases List.mem_cons.mp hw with rfl | hw
  · exact va_Nw.of rfl (hts _ (lw_b2 (List.mem_of_getElem? (i := 34) (by decide +kernel))))
  rcases List.mem_cons.mp hw with rfl | hw
  · exact va_Nw.of rfl (hts _ (lw_b2 (List.mem_of_getElem? (i := 36) (by decide +kernel))))
  rcases List.mem_cons.mp hw with rfl | hw
  · exact va_Nw.of rfl (hts _ (lw_b2 (List.mem_of_getElem? (i := 38) (by decide +kernel))))
  rcases List.mem_cons.mp hw with rfl | hw
  · exact va_Nw.of rfl (hts _ (lw_b2 (List.mem_of_getElem? (i := 40) (by decide +kernel))))
  cases hw
set_option maxRecDepth 100000 in
theorem gv_ISE (hts : ∀ w ∈ lw_tbl, w.before args s = true) : ∀ w ∈ hw_bd "java/lang/IllegalStateException", va_Nw w s := by
  intro w hw
  rcases List.mem_cons.mp hw with rfl | hw
  · exact va_Nw.of rfl (hts _ (lw_b2 (List.mem_of_getElem? (i := 109) (by decide +kernel))))
  rcases List.mem_cons.mp hw with rfl | hw
  · exact va_Nw.of rfl (hts _ (lw_b2 (List.mem_of_getElem? (i := 36) (by decide +kernel))))
  rcases List.mem_cons.mp hw with rfl | hw
  · exact va_Nw.of rfl (hts _ (lw_b2 (List.mem_of_getElem? (i := 38) (by decide +kernel))))
  rcases List.mem_cons.mp hw with rfl | hw
  · exact va_Nw.of rfl (hts _ (lw_b2 (List.mem_of_getElem? (i := 40) (by decide +kernel))))
  cases hw
set_option maxRecDepth 100000 in
theorem gv_IOB (hts : ∀ w ∈ lw_tbl, w.before args s = true) : ∀ w ∈ hw_bd "java/lang/IndexOutOfBoundsException", va_Nw w s := by
  intro w hw
  rcases List.mem_cons.mp hw with rfl | hw
  · exact va_Nw.of rfl (hts _ (lw_b3 (List.mem_of_getElem? (i := 47) (by decide +kernel))))
  rcases List.mem_cons.mp hw with rfl | hw
  · exact va_Nw.of rfl (hts _ (lw_b2 (List.mem_of_getElem? (i := 36) (by decide +kernel))))
  rcases List.mem_cons.mp hw with rfl | hw
  · exact va_Nw.of rfl (hts _ (lw_b2 (List.mem_of_getElem? (i := 38) (by decide +kernel))))
  rcases List.mem_cons.mp hw with rfl | hw
  · exact va_Nw.of rfl (hts _ (lw_b2 (List.mem_of_getElem? (i := 40) (by decide +kernel))))
  cases hw
set_option maxRecDepth 100000 in
set_option maxHeartbeats 4000000 in
theorem Xl_start (hgv : (Jvm.Cond.and given_1 narrow_1).before args s = true) (hts : ∀ w ∈ lw_tbl, w.before args s = true) (hA : ∀ a : Nat, a < s.heap.size → ¬ A a) : ∃ τ : Nat → Nat, Xl τ A s s.heap := by
  have hs := flat_of_before _ hgv
  obtain ⟨adK, adV, h1, h2⟩ := gv_str (A := A) hs hA
  obtain ⟨q1, l1, l2⟩ := gv_LEAST (A := A) hs hts hA
  obtain ⟨q2, m1, m2⟩ := gv_MOST (A := A) hs hts hA
  refine ⟨fun k => if k < 10 then adK k else if k < 20 then adV (k - 10) else if k = 20 then q1 else q2, ⟨?_, va_Zof (hts _ (lw_b2 (List.mem_of_getElem? (i := 186) (by decide +kernel)))) (hts _ (lw_b1 (List.mem_of_getElem? (i := 11) (by decide +kernel)))) (va_eqt (hs _ (List.mem_of_getElem? (i := 6) (by decide +kernel)))) hA, va_Zqof (hts _ (lw_b2 (List.mem_of_getElem? (i := 202) (by decide +kernel)))) (hts _ (lw_b1 (List.mem_of_getElem? (i := 13) (by decide +kernel)))) (hs _ (List.mem_of_getElem? (i := 7) (by decide +kernel))) hA⟩, ⟨?_, ?_, ?_, ?_⟩, ⟨?_, ?_, ?_, ?_⟩, ⟨l1, l2, m1, m2⟩, ⟨⟨gv_IAE hts, gv_ISE hts, gv_IOB hts, vx_Zqof (hts _ (lw_b2 (List.mem_of_getElem? (i := 59) (by decide +kernel)))) (hts _ (lw_b1 (List.mem_of_getElem? (i := 6) (by decide +kernel)))) (hs _ (List.mem_of_getElem? (i := 4) (by decide +kernel))) hA, vx_Zqof (hts _ (lw_b2 (List.mem_of_getElem? (i := 61) (by decide +kernel)))) (hts _ (lw_b1 (List.mem_of_getElem? (i := 6) (by decide +kernel)))) (hs _ (List.mem_of_getElem? (i := 5) (by decide +kernel))) hA⟩, gv_S hs hts⟩, ⟨va_Nw.of rfl (hts _ (lw_b1 (List.mem_of_getElem? (i := 217) (by decide +kernel)))), va_Nw.of rfl (hts _ (lw_b1 (List.mem_of_getElem? (i := 27) (by decide +kernel)))), va_Nw.of rfl (hts _ (lw_b1 (List.mem_of_getElem? (i := 59) (by decide +kernel)))), va_Nw.of rfl (hts _ (lw_b1 (List.mem_of_getElem? (i := 88) (by decide +kernel)))), va_AOA.of (hts _ (lw_b1 (List.mem_of_getElem? (i := 64) (by decide +kernel)))), va_Nc.of (hs _ (List.mem_of_getElem? (i := 44) (by decide +kernel)))⟩⟩
  · refine ⟨fun i hi => ?_, fun i j hi hj e => ?_⟩
    · have z := h1.1 i hi
      have e1 : (if i < 10 then adK i else if i < 20 then adV (i - 10) else if i = 20 then q1 else q2) = adK i := if_pos (by omega)
      have e2 : (if 10 + i < 10 then adK (10 + i) else if 10 + i < 20 then adV (10 + i - 10) else if 10 + i = 20 then q1 else q2) = adV i := by
        rw [if_neg (by omega), if_pos (by omega), show 10 + i - 10 = i by omega]
      show va_O "java/lang/String" (if i < 10 then adK i else if i < 20 then adV (i - 10) else if i = 20 then q1 else q2) A s s.heap ∧ _
      dsimp only
      rw [e1, e2]
      exact z
    · dsimp only at e
      rw [if_pos (by omega), if_pos (by omega)] at e
      exact h1.2 i j hi hj e
  · exact vk_R.of (hts _ (lw_b2 (List.mem_of_getElem? (i := 169) (by decide +kernel)))) (h2 0 (by decide))
  · exact vk_R.of (hts _ (lw_b2 (List.mem_of_getElem? (i := 170) (by decide +kernel)))) (h2 1 (by decide))
  · exact vk_R.of (hts _ (lw_b2 (List.mem_of_getElem? (i := 171) (by decide +kernel)))) (h2 2 (by decide))
  · exact vk_R.of (hts _ (lw_b2 (List.mem_of_getElem? (i := 172) (by decide +kernel)))) (h2 3 (by decide))
  · exact vk_R.of (hts _ (lw_b4 (List.mem_of_getElem? (i := 23) (by decide +kernel)))) (eq_ref (hs _ (List.mem_of_getElem? (i := 542) (by decide +kernel))) (h2 0 (by decide)))
  · exact vk_R.of (hts _ (lw_b4 (List.mem_of_getElem? (i := 24) (by decide +kernel)))) (eq_ref (hs _ (List.mem_of_getElem? (i := 568) (by decide +kernel))) (h2 1 (by decide)))
  · exact vk_R.of (hts _ (lw_b4 (List.mem_of_getElem? (i := 25) (by decide +kernel)))) (eq_ref (hs _ (List.mem_of_getElem? (i := 595) (by decide +kernel))) (h2 2 (by decide)))
  · exact vk_R.of (hts _ (lw_b4 (List.mem_of_getElem? (i := 26) (by decide +kernel)))) (eq_ref (hs _ (List.mem_of_getElem? (i := 623) (by decide +kernel))) (h2 3 (by decide)))
end SGIV2
