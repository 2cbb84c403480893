/-! CONTRACTS over one object graph, their entry, their calls -/
abbrev hw_S : Type := hw_G × hw_A × Int64
def hw_Pre (D : va_G) (Wd : hw_W) (tys : List (ClassId × FieldType)) (X : hw_XT) (g : hw_G) (a : hw_A) (c : Int64) (sz : Nat) : State → Prop := fun U => U.heap.size = sz ∧ va_P D vwCl (Wd g a c) U.heap ∧ va_K D vwCl tys U ∧ va_D (fun _ => True) (Wd g a c) ∧ X (va_A (Wd g a c) sz) U U.heap
/-- the addresses don't change -/
def hw_ads (Wd : hw_W) : Prop := ∀ (g : hw_G) (a : hw_A) (c : Int64) (g' : hw_G) (a' : hw_A) (c' : Int64), (Wd g a c).map (·.1) = (Wd g' a' c').map (·.1)
theorem hw_adr {ws ws' : va_W} (he : ws.map (·.1) = ws'.map (·.1)) {k : Nat} {q : Nat × va_E} (h : ws'[k]? = some q) : ∃ q0 : Nat × va_E, ws[k]? = some q0 ∧ q0.1 = q.1 := by
  have h1 : (ws.map (·.1))[k]? = some q.1 := by rw [he, List.getElem?_map, h]; rfl
  rw [List.getElem?_map] at h1
  cases h2 : ws[k]? with
  | none => rw [h2] at h1; cases h1
  | some z => rw [h2] at h1; exact ⟨z, rfl, Option.some.inj h1⟩
theorem hw_D {A : Nat → Prop} {ws ws' : va_W} (hD : va_D A ws) (he : ws.map (·.1) = ws'.map (·.1)) : va_D A ws' := by
  refine ⟨fun i j p q hi hj e => ?_, fun k q hk => ?_⟩
  · obtain ⟨p0, h1, e1⟩ := hw_adr he hi
    obtain ⟨q0, h2, e2⟩ := hw_adr he hj
    exact hD.1 i j p0 q0 h1 h2 (by rw [e1, e2]; exact e)
  · obtain ⟨q0, h1, e1⟩ := hw_adr he hk
    rw [← e1]
    exact hD.2 k q0 h1
theorem hw_blind {D : va_G} {Wd : hw_W} {tys : List (ClassId × FieldType)} {X : hw_XT} {g : hw_G} {a : hw_A} {c : Int64} {sz : Nat} {av : List Value} (hok : hw_XOK X) : FrameBlind (va_Pc av (hw_Pre D Wd tys X g a c sz)) := fun b U f mk q => by
  obtain ⟨q0, q1, q2, q3, q4, q5⟩ := q
  exact ⟨q0, q1, q2, va_K.moved (u := U) (U := U.calling f mk b) (Vm.Alike.refl U.vm) q3, q4, hok.2.2.2 _ _ _ _ _ _ q5⟩
def hw_Ci (l : Launch) (D : va_G) (Wd : hw_W) (tys : List (ClassId × FieldType)) (X : hw_XT) (y : MethodName) (ws : List Cond) (rm : Room) (av : List Value) (g : hw_G) (a : hw_A) (c : Int64) (P : Int32 → hw_G → hw_A → Int64 → Prop) : Prop :=
  ∀ sz : Nat, Met l y ws rm (va_Pc av (hw_Pre D Wd tys X g a c sz)) (va_Qi (S := hw_S) (fun r u => P r u.1 u.2.1 u.2.2) (fun u t => va_P D vwCl (Wd u.1 u.2.1 u.2.2) t.heap) (va_A (Wd g a c) sz)) 0 0 (va_A (Wd g a c) sz)
theorem hw_Ci.mk {l : Launch} {D : va_G} {Wd : hw_W} {tys : List (ClassId × FieldType)} {X : hw_XT} {y : MethodName} {ws ws' : List Cond} {rm : Room} {av : List Value} {g : hw_G} {a : hw_A} {c : Int64} {P : Int32 → hw_G → hw_A → Int64 → Prop} {cc : ByteArray} {nL : Nat} {ty : FieldType} {lv0 : List (Nat × Value)}
    (hy : plainName y.cls = true) (hw : ws = Cond.code y cc nL (some ty) :: ws') (hav : (lg_sl av).length ≤ nL) (hlv : lv_args 0 av = lv0) (hWd : hw_ads Wd) (hok : hw_XOK X)
    (body : ∀ K : hw_K, hw_F K l D Wd tys X cc y.cls ws rm nL → (∀ {g' : hw_G} {a' : hw_A} {c' : Int64} {lv : List (Nat × Value)} {pc : Nat} {v : Int32}, decode cc pc = .ok (.ireturn, 1) → narrow ty (.int v) = .int v → P v g' a' c' → hw_J K Wd 0 0 g' a' c' lv pc [.int v]) → hw_J K Wd 0 0 g a c lv0 0 []) : hw_Ci l D Wd tys X y ws rm av g a c P := by
  intro sz
  refine Met.ofW (cc := cc) (maxL := nL) (ret := (some ty)) hy hw ?_
  intro p e s m args below meth cd s₁ B hml hv
  obtain ⟨rfl, hsz, hP, hK, hD0, hX⟩ := hv
  have hx := B.exec
  have hb := B.bytes
  have hr := B.returns
  have hts := atoms_spec (ws := ws) B.pre
  have hown : s.vm.findClass y.cls = some m.cls := findClass_of_methodNamed B.named
  have hlocks := B.notSynchronized
  subst hsz
  have hD := hD0.self (sz := s.heap.size)
  rw [lg_entry_eq]
  have hl := lv_entry av (n := nL) hav
  rw [hlv] at hl
  exact body (p, l, e, rm, s, m, av.toArray, below, meth, cd, _, D, va_A (Wd g a c) s.heap.size, nL) ⟨rfl, rfl, rfl, rfl, hx, hb, hml, hown, hts, hK, fun g' a' c' => hw_D hD (hWd g a c g' a' c'), fun q h => Or.inr h, hlocks, hok, hX⟩
    (fun {g' a' c' lv pc v} d hn hp H locs ls hP hS hl => W.zret hx hb hr hn (fun t ht hW => ⟨⟨v, (g', a', c'), rfl, hp, by show va_P _ _ _ t.heap; rw [ht]; exact hP⟩, hS.F ht⟩) hS.2.2 d hlocks) s.heap [] _ hP va_S.rf hl
def hw_Cl (l : Launch) (D : va_G) (Wd : hw_W) (tys : List (ClassId × FieldType)) (X : hw_XT) (y : MethodName) (ws : List Cond) (rm : Room) (av : List Value) (g : hw_G) (a : hw_A) (c : Int64) (P : Int64 → hw_G → hw_A → Int64 → Prop) : Prop :=
  ∀ sz : Nat, Met l y ws rm (va_Pc av (hw_Pre D Wd tys X g a c sz)) (va_Ql (S := hw_S) (fun r u => P r u.1 u.2.1 u.2.2) (fun u t => va_P D vwCl (Wd u.1 u.2.1 u.2.2) t.heap) (va_A (Wd g a c) sz)) 0 0 (va_A (Wd g a c) sz)
theorem hw_Cl.mk {l : Launch} {D : va_G} {Wd : hw_W} {tys : List (ClassId × FieldType)} {X : hw_XT} {y : MethodName} {ws ws' : List Cond} {rm : Room} {av : List Value} {g : hw_G} {a : hw_A} {c : Int64} {P : Int64 → hw_G → hw_A → Int64 → Prop} {cc : ByteArray} {nL : Nat} {lv0 : List (Nat × Value)}
    (hy : plainName y.cls = true) (hw : ws = Cond.code y cc nL (some .long) :: ws') (hav : (lg_sl av).length ≤ nL) (hlv : lv_args 0 av = lv0) (hWd : hw_ads Wd) (hok : hw_XOK X)
    (body : ∀ K : hw_K, hw_F K l D Wd tys X cc y.cls ws rm nL → (∀ {g' : hw_G} {a' : hw_A} {c' : Int64} {lv : List (Nat × Value)} {pc : Nat} {v : Int64}, decode cc pc = .ok (.lreturn, 1) → P v g' a' c' → hw_J K Wd 0 0 g' a' c' lv pc [.long v]) → hw_J K Wd 0 0 g a c lv0 0 []) : hw_Cl l D Wd tys X y ws rm av g a c P := by
  intro sz
  refine Met.ofW (cc := cc) (maxL := nL) (ret := (some .long)) hy hw ?_
  intro p e s m args below meth cd s₁ B hml hv
  obtain ⟨rfl, hsz, hP, hK, hD0, hX⟩ := hv
  have hx := B.exec
  have hb := B.bytes
  have hr := B.returns
  have hts := atoms_spec (ws := ws) B.pre
  have hown : s.vm.findClass y.cls = some m.cls := findClass_of_methodNamed B.named
  have hlocks := B.notSynchronized
  subst hsz
  have hD := hD0.self (sz := s.heap.size)
  rw [lg_entry_eq]
  have hl := lv_entry av (n := nL) hav
  rw [hlv] at hl
  exact body (p, l, e, rm, s, m, av.toArray, below, meth, cd, _, D, va_A (Wd g a c) s.heap.size, nL) ⟨rfl, rfl, rfl, rfl, hx, hb, hml, hown, hts, hK, fun g' a' c' => hw_D hD (hWd g a c g' a' c'), fun q h => Or.inr h, hlocks, hok, hX⟩
    (fun {g' a' c' lv pc v} d hp H locs ls hP hS hl => W.lret hx hb hr (fun t ht hW => ⟨⟨v, (g', a', c'), rfl, hp, by show va_P _ _ _ t.heap; rw [ht]; exact hP⟩, hS.F ht⟩) hS.2.2 d hlocks) s.heap [] _ hP va_S.rf hl
def hw_Cv (l : Launch) (D : va_G) (Wd : hw_W) (tys : List (ClassId × FieldType)) (X : hw_XT) (y : MethodName) (ws : List Cond) (rm : Room) (av : List Value) (g : hw_G) (a : hw_A) (c : Int64) (P : hw_G → hw_A → Int64 → Prop) : Prop :=
  ∀ sz : Nat, Met l y ws rm (va_Pc av (hw_Pre D Wd tys X g a c sz)) (va_Qv (S := hw_S) (fun u => P u.1 u.2.1 u.2.2) (fun u t => va_P D vwCl (Wd u.1 u.2.1 u.2.2) t.heap) (va_A (Wd g a c) sz)) 0 0 (va_A (Wd g a c) sz)
theorem hw_Cv.mk {l : Launch} {D : va_G} {Wd : hw_W} {tys : List (ClassId × FieldType)} {X : hw_XT} {y : MethodName} {ws ws' : List Cond} {rm : Room} {av : List Value} {g : hw_G} {a : hw_A} {c : Int64} {P : hw_G → hw_A → Int64 → Prop} {cc : ByteArray} {nL : Nat} {lv0 : List (Nat × Value)}
    (hy : plainName y.cls = true) (hw : ws = Cond.code y cc nL none :: ws') (hav : (lg_sl av).length ≤ nL) (hlv : lv_args 0 av = lv0) (hWd : hw_ads Wd) (hok : hw_XOK X)
    (body : ∀ K : hw_K, hw_F K l D Wd tys X cc y.cls ws rm nL → (∀ {g' : hw_G} {a' : hw_A} {c' : Int64} {lv : List (Nat × Value)} {pc : Nat}, decode cc pc = .ok (.return_, 1) → P g' a' c' → hw_J K Wd 0 0 g' a' c' lv pc []) → hw_J K Wd 0 0 g a c lv0 0 []) : hw_Cv l D Wd tys X y ws rm av g a c P := by
  intro sz
  refine Met.ofW (cc := cc) (maxL := nL) (ret := none) hy hw ?_
  intro p e s m args below meth cd s₁ B hml hv
  obtain ⟨rfl, hsz, hP, hK, hD0, hX⟩ := hv
  have hx := B.exec
  have hb := B.bytes
  have hr := B.returns
  have hts := atoms_spec (ws := ws) B.pre
  have hown : s.vm.findClass y.cls = some m.cls := findClass_of_methodNamed B.named
  have hlocks := B.notSynchronized
  subst hsz
  have hD := hD0.self (sz := s.heap.size)
  rw [lg_entry_eq]
  have hl := lv_entry av (n := nL) hav
  rw [hlv] at hl
  exact body (p, l, e, rm, s, m, av.toArray, below, meth, cd, _, D, va_A (Wd g a c) s.heap.size, nL) ⟨rfl, rfl, rfl, rfl, hx, hb, hml, hown, hts, hK, fun g' a' c' => hw_D hD (hWd g a c g' a' c'), fun q h => Or.inr h, hlocks, hok, hX⟩
    (fun {g' a' c' lv pc} d hp H locs ls hP hS hl => W.vret hx hb hr (fun t ht hW => ⟨⟨(g', a', c'), rfl, hp, by show va_P _ _ _ t.heap; rw [ht]; exact hP⟩, hS.F ht⟩) hS.2.2 d hlocks) s.heap [] _ hP va_S.rf hl
section HWC
variable {K : hw_K} {l : Launch} {D : va_G} {Wd : hw_W} {tys : List (ClassId × FieldType)} {X : hw_XT} {cc : ByteArray} {own : String} {Ts : List Cond} {rm : Room} {nL : Nat} {kc ks : Nat} {g : hw_G} {a : hw_A} {c : Int64} {lv : List (Nat × Value)} {pc : Nat} {st : List Value}
variable {y : MethodName} {ws1 ws2 : List Cond} {rm1 : Room} {bytes : ByteArray} {maxL n index b : Nat} {ret : Option FieldType} {C host : String} {As st0 : List Value}
theorem hj_cVi (F : hw_F K l D Wd tys X cc own Ts rm nL) {P : Int32 → hw_G → hw_A → Int64 → Prop} (hC : hw_Ci l D Wd tys X y ws1 rm1 (.ref b :: As) g a c P) (hG : GoodIn Ts (wsV own index C y ws1)) (hw : ws1 = Cond.code y bytes maxL ret :: ws2) (hz : rm1.cells = 0 ∧ rm1.slots = 0) (hd : y.cls = C ∧ y.cls ≠ "java/lang/invoke/MethodHandle" ∧ y.cls ≠ "java/lang/invoke/VarHandle" ∧ (parseMethodDescriptor y.desc).map (fun d => d.parameters.length) = some n) (hR : rm1.frames + 1 ≤ rm.frames ∧ 8 + (maxL + 11) + rm1.locals ≤ rm.locals) (q0 ci : Nat) {fs : List Value} (he : (Wd g a c)[q0]? = some (b, .inr (ci, fs))) {T : u_T} {N : Nat} (hc : vwCl[ci]? = some (C, T, N)) (hn : As.length = n) (hst : st0 = As.reverse ++ .ref b :: st) (hW8 : (st.map fun v => v.category).sum ≤ 8) (hcs : kc ≤ rm.cells ∧ ks ≤ rm.slots) (d : decode cc pc = .ok (.invokevirtual index, 3))
    (h : ∀ r g' a' c', P r g' a' c' → hw_J K Wd kc ks g' a' c' lv (pc + 3) (.int r :: st)) : hw_J K Wd kc ks g a c lv pc st0 := by
  obtain ⟨p, l, e, R, s, m, args, below, meth, cd, Q, D, A, nL⟩ := K
  obtain ⟨rfl, rfl, rfl, rfl, hx, hb, hml, hown, hts, hK, hD, hA, hlk, hok, hX⟩ := F
  intro H locs ls hP hS hl
  have hfree : ∀ q, va_A (Wd g a c) H.size q → A q := fun q hq => hq.elim (fun ⟨k, e, hk⟩ => (hD g a c).2 k _ hk) (fun h => hA q (Nat.le_trans hS.1 h))
  have hXf : ∀ U : State, s.WarmedH U.vm → X (va_A (Wd g a c) H.size) U H := fun U hW => hok.2.2.1 _ _ _ _ (hok.1 _ _ _ _ hW (hok.2.1 _ _ _ _ hX hS.2.1)) hfree
  subst hst
  exact va_calli (S := hw_S) (va_runV (As := As) (rest := st) ⟨hx, hb, hml, hown, hts⟩ (hC H.size) (cwV n hts hG hw hz.1 hz.2 hd hR) ⟨hw_blind hok, va_recv hK hP hc he, fun U hU hW => ⟨rfl, by rw [hU], by rw [hU]; exact hP, va_K.moved hW.alike hK, (hD g a c).weaken (fun _ _ _ _ => trivial), by rw [hU]; exact hXf U hW⟩⟩ rfl hn hl.1 rfl (lv_room hW8) d ⟨hcs.1, hcs.2⟩) hS (fun q _ hq => hfree q hq) hfree (fun r u t H1 locs1 ht hvm hw hB hz1 hk1 hS1 => h r u.1 u.2.1 u.2.2 hw H1 locs1 ls (by rw [← ht]; exact hB) hS1 hl)
theorem hj_cVl (F : hw_F K l D Wd tys X cc own Ts rm nL) {P : Int64 → hw_G → hw_A → Int64 → Prop} (hC : hw_Cl l D Wd tys X y ws1 rm1 (.ref b :: As) g a c P) (hG : GoodIn Ts (wsV own index C y ws1)) (hw : ws1 = Cond.code y bytes maxL ret :: ws2) (hz : rm1.cells = 0 ∧ rm1.slots = 0) (hd : y.cls = C ∧ y.cls ≠ "java/lang/invoke/MethodHandle" ∧ y.cls ≠ "java/lang/invoke/VarHandle" ∧ (parseMethodDescriptor y.desc).map (fun d => d.parameters.length) = some n) (hR : rm1.frames + 1 ≤ rm.frames ∧ 8 + (maxL + 11) + rm1.locals ≤ rm.locals) (q0 ci : Nat) {fs : List Value} (he : (Wd g a c)[q0]? = some (b, .inr (ci, fs))) {T : u_T} {N : Nat} (hc : vwCl[ci]? = some (C, T, N)) (hn : As.length = n) (hst : st0 = As.reverse ++ .ref b :: st) (hW8 : (st.map fun v => v.category).sum ≤ 8) (hcs : kc ≤ rm.cells ∧ ks ≤ rm.slots) (d : decode cc pc = .ok (.invokevirtual index, 3))
    (h : ∀ r g' a' c', P r g' a' c' → hw_J K Wd kc ks g' a' c' lv (pc + 3) (.long r :: st)) : hw_J K Wd kc ks g a c lv pc st0 := by
  obtain ⟨p, l, e, R, s, m, args, below, meth, cd, Q, D, A, nL⟩ := K
  obtain ⟨rfl, rfl, rfl, rfl, hx, hb, hml, hown, hts, hK, hD, hA, hlk, hok, hX⟩ := F
  intro H locs ls hP hS hl
  have hfree : ∀ q, va_A (Wd g a c) H.size q → A q := fun q hq => hq.elim (fun ⟨k, e, hk⟩ => (hD g a c).2 k _ hk) (fun h => hA q (Nat.le_trans hS.1 h))
  have hXf : ∀ U : State, s.WarmedH U.vm → X (va_A (Wd g a c) H.size) U H := fun U hW => hok.2.2.1 _ _ _ _ (hok.1 _ _ _ _ hW (hok.2.1 _ _ _ _ hX hS.2.1)) hfree
  subst hst
  exact va_calll (S := hw_S) (va_runV (As := As) (rest := st) ⟨hx, hb, hml, hown, hts⟩ (hC H.size) (cwV n hts hG hw hz.1 hz.2 hd hR) ⟨hw_blind hok, va_recv hK hP hc he, fun U hU hW => ⟨rfl, by rw [hU], by rw [hU]; exact hP, va_K.moved hW.alike hK, (hD g a c).weaken (fun _ _ _ _ => trivial), by rw [hU]; exact hXf U hW⟩⟩ rfl hn hl.1 rfl (lv_room hW8) d ⟨hcs.1, hcs.2⟩) hS (fun q _ hq => hfree q hq) hfree (fun r u t H1 locs1 ht hvm hw hB hz1 hk1 hS1 => h r u.1 u.2.1 u.2.2 hw H1 locs1 ls (by rw [← ht]; exact hB) hS1 hl)
theorem hj_cVv (F : hw_F K l D Wd tys X cc own Ts rm nL) {P : hw_G → hw_A → Int64 → Prop} (hC : hw_Cv l D Wd tys X y ws1 rm1 (.ref b :: As) g a c P) (hG : GoodIn Ts (wsV own index C y ws1)) (hw : ws1 = Cond.code y bytes maxL ret :: ws2) (hz : rm1.cells = 0 ∧ rm1.slots = 0) (hd : y.cls = C ∧ y.cls ≠ "java/lang/invoke/MethodHandle" ∧ y.cls ≠ "java/lang/invoke/VarHandle" ∧ (parseMethodDescriptor y.desc).map (fun d => d.parameters.length) = some n) (hR : rm1.frames + 1 ≤ rm.frames ∧ 8 + (maxL + 11) + rm1.locals ≤ rm.locals) (q0 ci : Nat) {fs : List Value} (he : (Wd g a c)[q0]? = some (b, .inr (ci, fs))) {T : u_T} {N : Nat} (hc : vwCl[ci]? = some (C, T, N)) (hn : As.length = n) (hst : st0 = As.reverse ++ .ref b :: st) (hW8 : (st.map fun v => v.category).sum ≤ 8) (hcs : kc ≤ rm.cells ∧ ks ≤ rm.slots) (d : decode cc pc = .ok (.invokevirtual index, 3))
    (h : ∀ g' a' c', P g' a' c' → hw_J K Wd kc ks g' a' c' lv (pc + 3) st) : hw_J K Wd kc ks g a c lv pc st0 := by
  obtain ⟨p, l, e, R, s, m, args, below, meth, cd, Q, D, A, nL⟩ := K
  obtain ⟨rfl, rfl, rfl, rfl, hx, hb, hml, hown, hts, hK, hD, hA, hlk, hok, hX⟩ := F
  intro H locs ls hP hS hl
  have hfree : ∀ q, va_A (Wd g a c) H.size q → A q := fun q hq => hq.elim (fun ⟨k, e, hk⟩ => (hD g a c).2 k _ hk) (fun h => hA q (Nat.le_trans hS.1 h))
  have hXf : ∀ U : State, s.WarmedH U.vm → X (va_A (Wd g a c) H.size) U H := fun U hW => hok.2.2.1 _ _ _ _ (hok.1 _ _ _ _ hW (hok.2.1 _ _ _ _ hX hS.2.1)) hfree
  subst hst
  exact va_callv (S := hw_S) (va_runV (As := As) (rest := st) ⟨hx, hb, hml, hown, hts⟩ (hC H.size) (cwV n hts hG hw hz.1 hz.2 hd hR) ⟨hw_blind hok, va_recv hK hP hc he, fun U hU hW => ⟨rfl, by rw [hU], by rw [hU]; exact hP, va_K.moved hW.alike hK, (hD g a c).weaken (fun _ _ _ _ => trivial), by rw [hU]; exact hXf U hW⟩⟩ rfl hn hl.1 rfl (lv_room hW8) d ⟨hcs.1, hcs.2⟩) hS (fun q _ hq => hfree q hq) hfree (fun u t H1 locs1 ht hvm hw hB hz1 hk1 hS1 => h u.1 u.2.1 u.2.2 hw H1 locs1 ls (by rw [← ht]; exact hB) hS1 hl)
theorem hj_cSi (F : hw_F K l D Wd tys X cc own Ts rm nL) {P : Int32 → hw_G → hw_A → Int64 → Prop} (hC : hw_Ci l D Wd tys X y ws1 rm1 As g a c P) (hG : GoodIn Ts (va_wsS own index y ws1)) (hw : ws1 = Cond.code y bytes maxL ret :: ws2) (hz : rm1.cells = 0 ∧ rm1.slots = 0) (hd : y.cls ≠ "java/lang/invoke/MethodHandle" ∧ y.cls ≠ "java/lang/invoke/VarHandle" ∧ (parseMethodDescriptor y.desc).map (fun d => d.parameters.length) = some n) (hR : rm1.frames + 1 ≤ rm.frames ∧ 8 + (maxL + 11) + rm1.locals ≤ rm.locals) (hn : As.length = n) (hst : st0 = As.reverse ++ st) (hW8 : (st.map fun v => v.category).sum ≤ 8) (hcs : kc ≤ rm.cells ∧ ks ≤ rm.slots) (d : decode cc pc = .ok (.invokestatic index, 3))
    (h : ∀ r g' a' c', P r g' a' c' → hw_J K Wd kc ks g' a' c' lv (pc + 3) (.int r :: st)) : hw_J K Wd kc ks g a c lv pc st0 := by
  obtain ⟨p, l, e, R, s, m, args, below, meth, cd, Q, D, A, nL⟩ := K
  obtain ⟨rfl, rfl, rfl, rfl, hx, hb, hml, hown, hts, hK, hD, hA, hlk, hok, hX⟩ := F
  intro H locs ls hP hS hl
  have hfree : ∀ q, va_A (Wd g a c) H.size q → A q := fun q hq => hq.elim (fun ⟨k, e, hk⟩ => (hD g a c).2 k _ hk) (fun h => hA q (Nat.le_trans hS.1 h))
  have hXf : ∀ U : State, s.WarmedH U.vm → X (va_A (Wd g a c) H.size) U H := fun U hW => hok.2.2.1 _ _ _ _ (hok.1 _ _ _ _ hW (hok.2.1 _ _ _ _ hX hS.2.1)) hfree
  subst hst
  exact va_calli (S := hw_S) (va_runS (As := As) (rest := st) ⟨hx, hb, hml, hown, hts⟩ (hC H.size) (va_cwS n hts hG hw hz.1 hz.2 hd hR) ⟨hw_blind hok, fun U hU hW => ⟨rfl, by rw [hU], by rw [hU]; exact hP, va_K.moved hW.alike hK, (hD g a c).weaken (fun _ _ _ _ => trivial), by rw [hU]; exact hXf U hW⟩⟩ rfl hn hl.1 rfl (lv_room hW8) d ⟨hcs.1, hcs.2⟩) hS (fun q _ hq => hfree q hq) hfree (fun r u t H1 locs1 ht hvm hw hB hz1 hk1 hS1 => h r u.1 u.2.1 u.2.2 hw H1 locs1 ls (by rw [← ht]; exact hB) hS1 hl)
theorem hj_cSl (F : hw_F K l D Wd tys X cc own Ts rm nL) {P : Int64 → hw_G → hw_A → Int64 → Prop} (hC : hw_Cl l D Wd tys X y ws1 rm1 As g a c P) (hG : GoodIn Ts (va_wsS own index y ws1)) (hw : ws1 = Cond.code y bytes maxL ret :: ws2) (hz : rm1.cells = 0 ∧ rm1.slots = 0) (hd : y.cls ≠ "java/lang/invoke/MethodHandle" ∧ y.cls ≠ "java/lang/invoke/VarHandle" ∧ (parseMethodDescriptor y.desc).map (fun d => d.parameters.length) = some n) (hR : rm1.frames + 1 ≤ rm.frames ∧ 8 + (maxL + 11) + rm1.locals ≤ rm.locals) (hn : As.length = n) (hst : st0 = As.reverse ++ st) (hW8 : (st.map fun v => v.category).sum ≤ 8) (hcs : kc ≤ rm.cells ∧ ks ≤ rm.slots) (d : decode cc pc = .ok (.invokestatic index, 3))
    (h : ∀ r g' a' c', P r g' a' c' → hw_J K Wd kc ks g' a' c' lv (pc + 3) (.long r :: st)) : hw_J K Wd kc ks g a c lv pc st0 := by
  obtain ⟨p, l, e, R, s, m, args, below, meth, cd, Q, D, A, nL⟩ := K
  obtain ⟨rfl, rfl, rfl, rfl, hx, hb, hml, hown, hts, hK, hD, hA, hlk, hok, hX⟩ := F
  intro H locs ls hP hS hl
  have hfree : ∀ q, va_A (Wd g a c) H.size q → A q := fun q hq => hq.elim (fun ⟨k, e, hk⟩ => (hD g a c).2 k _ hk) (fun h => hA q (Nat.le_trans hS.1 h))
  have hXf : ∀ U : State, s.WarmedH U.vm → X (va_A (Wd g a c) H.size) U H := fun U hW => hok.2.2.1 _ _ _ _ (hok.1 _ _ _ _ hW (hok.2.1 _ _ _ _ hX hS.2.1)) hfree
  subst hst
  exact va_calll (S := hw_S) (va_runS (As := As) (rest := st) ⟨hx, hb, hml, hown, hts⟩ (hC H.size) (va_cwS n hts hG hw hz.1 hz.2 hd hR) ⟨hw_blind hok, fun U hU hW => ⟨rfl, by rw [hU], by rw [hU]; exact hP, va_K.moved hW.alike hK, (hD g a c).weaken (fun _ _ _ _ => trivial), by rw [hU]; exact hXf U hW⟩⟩ rfl hn hl.1 rfl (lv_room hW8) d ⟨hcs.1, hcs.2⟩) hS (fun q _ hq => hfree q hq) hfree (fun r u t H1 locs1 ht hvm hw hB hz1 hk1 hS1 => h r u.1 u.2.1 u.2.2 hw H1 locs1 ls (by rw [← ht]; exact hB) hS1 hl)
theorem hj_cSv (F : hw_F K l D Wd tys X cc own Ts rm nL) {P : hw_G → hw_A → Int64 → Prop} (hC : hw_Cv l D Wd tys X y ws1 rm1 As g a c P) (hG : GoodIn Ts (va_wsS own index y ws1)) (hw : ws1 = Cond.code y bytes maxL ret :: ws2) (hz : rm1.cells = 0 ∧ rm1.slots = 0) (hd : y.cls ≠ "java/lang/invoke/MethodHandle" ∧ y.cls ≠ "java/lang/invoke/VarHandle" ∧ (parseMethodDescriptor y.desc).map (fun d => d.parameters.length) = some n) (hR : rm1.frames + 1 ≤ rm.frames ∧ 8 + (maxL + 11) + rm1.locals ≤ rm.locals) (hn : As.length = n) (hst : st0 = As.reverse ++ st) (hW8 : (st.map fun v => v.category).sum ≤ 8) (hcs : kc ≤ rm.cells ∧ ks ≤ rm.slots) (d : decode cc pc = .ok (.invokestatic index, 3))
    (h : ∀ g' a' c', P g' a' c' → hw_J K Wd kc ks g' a' c' lv (pc + 3) st) : hw_J K Wd kc ks g a c lv pc st0 := by
  obtain ⟨p, l, e, R, s, m, args, below, meth, cd, Q, D, A, nL⟩ := K
  obtain ⟨rfl, rfl, rfl, rfl, hx, hb, hml, hown, hts, hK, hD, hA, hlk, hok, hX⟩ := F
  intro H locs ls hP hS hl
  have hfree : ∀ q, va_A (Wd g a c) H.size q → A q := fun q hq => hq.elim (fun ⟨k, e, hk⟩ => (hD g a c).2 k _ hk) (fun h => hA q (Nat.le_trans hS.1 h))
  have hXf : ∀ U : State, s.WarmedH U.vm → X (va_A (Wd g a c) H.size) U H := fun U hW => hok.2.2.1 _ _ _ _ (hok.1 _ _ _ _ hW (hok.2.1 _ _ _ _ hX hS.2.1)) hfree
  subst hst
  exact va_callv (S := hw_S) (va_runS (As := As) (rest := st) ⟨hx, hb, hml, hown, hts⟩ (hC H.size) (va_cwS n hts hG hw hz.1 hz.2 hd hR) ⟨hw_blind hok, fun U hU hW => ⟨rfl, by rw [hU], by rw [hU]; exact hP, va_K.moved hW.alike hK, (hD g a c).weaken (fun _ _ _ _ => trivial), by rw [hU]; exact hXf U hW⟩⟩ rfl hn hl.1 rfl (lv_room hW8) d ⟨hcs.1, hcs.2⟩) hS (fun q _ hq => hfree q hq) hfree (fun u t H1 locs1 ht hvm hw hB hz1 hk1 hS1 => h u.1 u.2.1 u.2.2 hw H1 locs1 ls (by rw [← ht]; exact hB) hS1 hl)
theorem hj_cNi (F : hw_F K l D Wd tys X cc own Ts rm nL) {P : Int32 → hw_G → hw_A → Int64 → Prop} (hC : hw_Ci l D Wd tys X y ws1 rm1 As g a c P) (hG : GoodIn Ts ws1) (hN : ∀ (A : Nat → Prop) (U : State) (H : Heap), X A U H → va_Nw (.methodLinkNest own index y host) U) (hini : Cond.initialized y.cls ∈ Ts) (hsta : Cond.static y ∈ Ts) (hw : ws1 = Cond.code y bytes maxL ret :: ws2) (hz : rm1.cells = 0 ∧ rm1.slots = 0) (hd : y.cls ≠ "java/lang/invoke/MethodHandle" ∧ y.cls ≠ "java/lang/invoke/VarHandle" ∧ (parseMethodDescriptor y.desc).map (fun d => d.parameters.length) = some n) (hR : rm1.frames + 1 ≤ rm.frames ∧ 8 + (maxL + 11) + rm1.locals ≤ rm.locals) (hn : As.length = n) (hst : st0 = As.reverse ++ st) (hW8 : (st.map fun v => v.category).sum ≤ 8) (hcs : kc ≤ rm.cells ∧ ks ≤ rm.slots) (d : decode cc pc = .ok (.invokestatic index, 3))
    (h : ∀ r g' a' c', P r g' a' c' → hw_J K Wd kc ks g' a' c' lv (pc + 3) (.int r :: st)) : hw_J K Wd kc ks g a c lv pc st0 := by
  obtain ⟨p, l, e, R, s, m, args, below, meth, cd, Q, D, A, nL⟩ := K
  obtain ⟨rfl, rfl, rfl, rfl, hx, hb, hml, hown, hts, hK, hD, hA, hlk, hok, hX⟩ := F
  intro H locs ls hP hS hl
  have hfree : ∀ q, va_A (Wd g a c) H.size q → A q := fun q hq => hq.elim (fun ⟨k, e, hk⟩ => (hD g a c).2 k _ hk) (fun h => hA q (Nat.le_trans hS.1 h))
  have hXf : ∀ U : State, s.WarmedH U.vm → X (va_A (Wd g a c) H.size) U H := fun U hW => hok.2.2.1 _ _ _ _ (hok.1 _ _ _ _ hW (hok.2.1 _ _ _ _ hX hS.2.1)) hfree
  subst hst
  exact va_calli (S := hw_S) (va_runSN (As := As) (rest := st) ⟨hx, hb, hml, hown, hts⟩ (hC H.size) ⟨va_cnB n hts hG hw hz.1 hz.2 (hN _ _ _ hX) (hts _ hini) hd hR, hts _ hsta, trivial⟩ ⟨hw_blind hok, fun U hU hW => ⟨rfl, by rw [hU], by rw [hU]; exact hP, va_K.moved hW.alike hK, (hD g a c).weaken (fun _ _ _ _ => trivial), by rw [hU]; exact hXf U hW⟩⟩ rfl hn hl.1 rfl (lv_room hW8) d ⟨hcs.1, hcs.2⟩) hS (fun q _ hq => hfree q hq) hfree (fun r u t H1 locs1 ht hvm hw hB hz1 hk1 hS1 => h r u.1 u.2.1 u.2.2 hw H1 locs1 ls (by rw [← ht]; exact hB) hS1 hl)
theorem hj_cNl (F : hw_F K l D Wd tys X cc own Ts rm nL) {P : Int64 → hw_G → hw_A → Int64 → Prop} (hC : hw_Cl l D Wd tys X y ws1 rm1 As g a c P) (hG : GoodIn Ts ws1) (hN : ∀ (A : Nat → Prop) (U : State) (H : Heap), X A U H → va_Nw (.methodLinkNest own index y host) U) (hini : Cond.initialized y.cls ∈ Ts) (hsta : Cond.static y ∈ Ts) (hw : ws1 = Cond.code y bytes maxL ret :: ws2) (hz : rm1.cells = 0 ∧ rm1.slots = 0) (hd : y.cls ≠ "java/lang/invoke/MethodHandle" ∧ y.cls ≠ "java/lang/invoke/VarHandle" ∧ (parseMethodDescriptor y.desc).map (fun d => d.parameters.length) = some n) (hR : rm1.frames + 1 ≤ rm.frames ∧ 8 + (maxL + 11) + rm1.locals ≤ rm.locals) (hn : As.length = n) (hst : st0 = As.reverse ++ st) (hW8 : (st.map fun v => v.category).sum ≤ 8) (hcs : kc ≤ rm.cells ∧ ks ≤ rm.slots) (d : decode cc pc = .ok (.invokestatic index, 3))
    (h : ∀ r g' a' c', P r g' a' c' → hw_J K Wd kc ks g' a' c' lv (pc + 3) (.long r :: st)) : hw_J K Wd kc ks g a c lv pc st0 := by
  obtain ⟨p, l, e, R, s, m, args, below, meth, cd, Q, D, A, nL⟩ := K
  obtain ⟨rfl, rfl, rfl, rfl, hx, hb, hml, hown, hts, hK, hD, hA, hlk, hok, hX⟩ := F
  intro H locs ls hP hS hl
  have hfree : ∀ q, va_A (Wd g a c) H.size q → A q := fun q hq => hq.elim (fun ⟨k, e, hk⟩ => (hD g a c).2 k _ hk) (fun h => hA q (Nat.le_trans hS.1 h))
  have hXf : ∀ U : State, s.WarmedH U.vm → X (va_A (Wd g a c) H.size) U H := fun U hW => hok.2.2.1 _ _ _ _ (hok.1 _ _ _ _ hW (hok.2.1 _ _ _ _ hX hS.2.1)) hfree
  subst hst
  exact va_calll (S := hw_S) (va_runSN (As := As) (rest := st) ⟨hx, hb, hml, hown, hts⟩ (hC H.size) ⟨va_cnB n hts hG hw hz.1 hz.2 (hN _ _ _ hX) (hts _ hini) hd hR, hts _ hsta, trivial⟩ ⟨hw_blind hok, fun U hU hW => ⟨rfl, by rw [hU], by rw [hU]; exact hP, va_K.moved hW.alike hK, (hD g a c).weaken (fun _ _ _ _ => trivial), by rw [hU]; exact hXf U hW⟩⟩ rfl hn hl.1 rfl (lv_room hW8) d ⟨hcs.1, hcs.2⟩) hS (fun q _ hq => hfree q hq) hfree (fun r u t H1 locs1 ht hvm hw hB hz1 hk1 hS1 => h r u.1 u.2.1 u.2.2 hw H1 locs1 ls (by rw [← ht]; exact hB) hS1 hl)
theorem hj_cNv (F : hw_F K l D Wd tys X cc own Ts rm nL) {P : hw_G → hw_A → Int64 → Prop} (hC : hw_Cv l D Wd tys X y ws1 rm1 As g a c P) (hG : GoodIn Ts ws1) (hN : ∀ (A : Nat → Prop) (U : State) (H : Heap), X A U H → va_Nw (.methodLinkNest own index y host) U) (hini : Cond.initialized y.cls ∈ Ts) (hsta : Cond.static y ∈ Ts) (hw : ws1 = Cond.code y bytes maxL ret :: ws2) (hz : rm1.cells = 0 ∧ rm1.slots = 0) (hd : y.cls ≠ "java/lang/invoke/MethodHandle" ∧ y.cls ≠ "java/lang/invoke/VarHandle" ∧ (parseMethodDescriptor y.desc).map (fun d => d.parameters.length) = some n) (hR : rm1.frames + 1 ≤ rm.frames ∧ 8 + (maxL + 11) + rm1.locals ≤ rm.locals) (hn : As.length = n) (hst : st0 = As.reverse ++ st) (hW8 : (st.map fun v => v.category).sum ≤ 8) (hcs : kc ≤ rm.cells ∧ ks ≤ rm.slots) (d : decode cc pc = .ok (.invokestatic index, 3))
    (h : ∀ g' a' c', P g' a' c' → hw_J K Wd kc ks g' a' c' lv (pc + 3) st) : hw_J K Wd kc ks g a c lv pc st0 := by
  obtain ⟨p, l, e, R, s, m, args, below, meth, cd, Q, D, A, nL⟩ := K
  obtain ⟨rfl, rfl, rfl, rfl, hx, hb, hml, hown, hts, hK, hD, hA, hlk, hok, hX⟩ := F
  intro H locs ls hP hS hl
  have hfree : ∀ q, va_A (Wd g a c) H.size q → A q := fun q hq => hq.elim (fun ⟨k, e, hk⟩ => (hD g a c).2 k _ hk) (fun h => hA q (Nat.le_trans hS.1 h))
  have hXf : ∀ U : State, s.WarmedH U.vm → X (va_A (Wd g a c) H.size) U H := fun U hW => hok.2.2.1 _ _ _ _ (hok.1 _ _ _ _ hW (hok.2.1 _ _ _ _ hX hS.2.1)) hfree
  subst hst
  exact va_callv (S := hw_S) (va_runSN (As := As) (rest := st) ⟨hx, hb, hml, hown, hts⟩ (hC H.size) ⟨va_cnB n hts hG hw hz.1 hz.2 (hN _ _ _ hX) (hts _ hini) hd hR, hts _ hsta, trivial⟩ ⟨hw_blind hok, fun U hU hW => ⟨rfl, by rw [hU], by rw [hU]; exact hP, va_K.moved hW.alike hK, (hD g a c).weaken (fun _ _ _ _ => trivial), by rw [hU]; exact hXf U hW⟩⟩ rfl hn hl.1 rfl (lv_room hW8) d ⟨hcs.1, hcs.2⟩) hS (fun q _ hq => hfree q hq) hfree (fun u t H1 locs1 ht hvm hw hB hz1 hk1 hS1 => h u.1 u.2.1 u.2.2 hw H1 locs1 ls (by rw [← ht]; exact hB) hS1 hl)
end HWC
