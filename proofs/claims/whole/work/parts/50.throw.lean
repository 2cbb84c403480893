/-! METHODS THAT MAY THROW: the state stays as it was; a cell of six slots comes a throw -/
def hw_rx (n k : Nat) : Room := { frames := n, cells := k, slots := 6 * k, locals := 64 * n }
abbrev hw_nm : List String := ["java/lang/RuntimeException", "java/lang/Exception"]
def hw_bd (cls : String) : List Cond := [.castable cls cls, .declares (Bundle.initS "java/lang/RuntimeException"), .declares (Bundle.initS "java/lang/Exception"), .declares (Bundle.initS Bundle.tN)]
def hw_XQ (D : va_G) (Wd : hw_W) (g : hw_G) (a : hw_A) (c : Int64) (Ex : String → Prop) (A : Nat → Prop) : String → State → State → Prop := vx_X (S := Unit) (fun _ => True) (fun E _ t => Ex E ∧ va_P D vwCl (Wd g a c) t.heap) A
def hw_Xi (l : Launch) (D : va_G) (Wd : hw_W) (tys : List (ClassId × FieldType)) (X : hw_XT) (y : MethodName) (ws : List Cond) (rm : Room) (k : Nat) (av : List Value) (g : hw_G) (a : hw_A) (c : Int64) (Ex : String → Prop) (P : Int32 → hw_G → hw_A → Int64 → Prop) : Prop :=
  ∀ sz : Nat, vx_Met l y ws rm (va_Pc av (hw_Pre D Wd tys X g a c sz)) (va_Qi (S := hw_S) (fun r u => P r u.1 u.2.1 u.2.2) (fun u t => va_P D vwCl (Wd u.1 u.2.1 u.2.2) t.heap) (va_A (Wd g a c) sz)) (hw_XQ D Wd g a c Ex (va_A (Wd g a c) sz)) k (6 * k) (va_A (Wd g a c) sz)
def hw_Xv (l : Launch) (D : va_G) (Wd : hw_W) (tys : List (ClassId × FieldType)) (X : hw_XT) (y : MethodName) (ws : List Cond) (rm : Room) (k : Nat) (av : List Value) (g : hw_G) (a : hw_A) (c : Int64) (Ex : String → Prop) (P : hw_G → hw_A → Int64 → Prop) : Prop :=
  ∀ sz : Nat, vx_Met l y ws rm (va_Pc av (hw_Pre D Wd tys X g a c sz)) (va_Qv (S := hw_S) (fun u => P u.1 u.2.1 u.2.2) (fun u t => va_P D vwCl (Wd u.1 u.2.1 u.2.2) t.heap) (va_A (Wd g a c) sz)) (hw_XQ D Wd g a c Ex (va_A (Wd g a c) sz)) k (6 * k) (va_A (Wd g a c) sz)
/-- what a throw of cls needs -/
def hw_th (X : hw_XT) (own : String) (Ts : List Cond) (ik ic : Nat) (cls : String) : Prop := Bundle.fit cls = true ∧ Cond.classLink own ik cls ∈ Ts ∧ Cond.initialized cls ∈ Ts ∧ (∀ w ∈ (vx_atS own ic cls hw_nm).filter goodWord, w ∈ Ts) ∧ (∀ w ∈ (vx_atS own ic cls hw_nm).filter (fun w => !goodWord w), w ∈ hw_bd cls) ∧ (∀ w ∈ Cond.classLink own ik cls :: Cond.initialized cls :: vx_atS own ic cls hw_nm, vx_ot w = true) ∧ ∀ (A : Nat → Prop) (U : State) (H : Heap), X A U H → (∀ w ∈ hw_bd cls, va_Nw w U) ∧ vx_Zq Bundle.tN "UNASSIGNED_STACK" Bundle.steD A U H ∧ vx_Zq Bundle.tN "SUPPRESSED_SENTINEL" Bundle.listD A U H
/-- q thrown over the frame, the state as it was -/
def hw_thr (K : hw_K) (Wd : hw_W) (g : hw_G) (a : hw_A) (c : Int64) (Ex : String → Prop) (kc ks : Nat) (lv : List (Nat × Value)) (pc : Nat) (rest : List Value) : Prop := match K with
  | (p, l, e, R, s, m, args, below, meth, cd, Q, D, A, nL) => ∀ (E : String) (ce : Cell) (q : Addr) (H : Heap) (locs : List Loc) (ls : Array Slot), Ex E → va_P D vwCl (Wd g a c) H → va_S A s.heap H locs → lv_has ls nL lv → H[q]? = some ce → ce.vm = .none → s.vm.findClass E = some ce.cls → vx_W p l e R s m args below meth cd H locs kc ks Q (F0 m pc ls rest) q
/-- the rows that a throwing body is given -/
def hw_RI (K : hw_K) (Wd : hw_W) (cc : ByteArray) (k : Nat) (ty : FieldType) (P : Int32 → hw_G → hw_A → Int64 → Prop) : Prop := ∀ {kc ks : Nat} {g' : hw_G} {a' : hw_A} {c' : Int64} {lv : List (Nat × Value)} {pc : Nat} {v : Int32}, kc ≤ k → ks ≤ 6 * k → decode cc pc = .ok (.ireturn, 1) → narrow ty (.int v) = .int v → P v g' a' c' → hw_J K Wd kc ks g' a' c' lv pc [.int v]
def hw_RV (K : hw_K) (Wd : hw_W) (cc : ByteArray) (k : Nat) (P : hw_G → hw_A → Int64 → Prop) : Prop := ∀ {kc ks : Nat} {g' : hw_G} {a' : hw_A} {c' : Int64} {lv : List (Nat × Value)} {pc : Nat}, kc ≤ k → ks ≤ 6 * k → decode cc pc = .ok (.return_, 1) → P g' a' c' → hw_J K Wd kc ks g' a' c' lv pc []
def hw_TR (K : hw_K) (Wd : hw_W) (X : hw_XT) (cc : ByteArray) (own : String) (Ts : List Cond) (rm : Room) (k : Nat) (g : hw_G) (a : hw_A) (c : Int64) (Ex : String → Prop) : Prop := ∀ {kc ks : Nat} {lv : List (Nat × Value)} {pc : Nat} {st : List Value} {ik ic is : Nat} {cls text : String}, kc + 1 ≤ k → ks + 6 ≤ 6 * k → hw_th X own Ts ik ic cls → (∀ (A : Nat → Prop) (U : State) (H : Heap), X A U H → ∃ sa : Nat, vk_R own is text sa U) → 5 < rm.frames → (st.map fun v => v.category).sum + 82 ≤ rm.locals → decode cc pc = .ok (.new ik, 3) → decode cc (pc + 3) = .ok (.dup, 1) → decode cc (pc + 4) = .ok (.ldc is, 2) → decode cc (pc + 6) = .ok (.invokespecial ic, 3) → decode cc (pc + 9) = .ok (.athrow, 1) → Ex cls → hw_J K Wd kc ks g a c lv pc st
set_option maxHeartbeats 4000000 in
theorem hw_tr {p : Program} {l : Launch} {e : Env} {R : Room} {s : State} {m : MethodId} {args : Array Value} {below : List Frame} {meth : Method} {cd : Code} {D : va_G} {A : Nat → Prop} {nL k : Nat} {Wd : hw_W} {X : hw_XT} {cc : ByteArray} {own : String} {Ts : List Cond} {rm : Room} {g : hw_G} {a : hw_A} {c : Int64} {Ex : String → Prop} {Qc : Array Value → State → Outcome → State → Prop}
    (hl : l.stackTraces = false) (hx : p.tables.exec = Jvm.exec) (hb : cd.code = cc) (hml : cd.maxLocals = nL) (hown : s.vm.findClass own = some m.cls) (hts : ∀ w ∈ Ts, w.before args s = true) (hlk : meth.locks = false) (htab : ∀ x ∈ cd.exceptionTable.toList, False) (hX : X A s s.heap) (hR : R = rm) (hRc : rm.cells = k ∧ rm.slots = 6 * k) :
    hw_TR (p, l, e, R, s, m, args, below, meth, cd, vx_MQ below Qc (hw_XQ D Wd g a c Ex A) args s k (6 * k) A, D, A, nL) Wd X cc own Ts rm k g a c Ex := by
  subst hR
  intro kc ks lv pc st ik ic is cls text h1 h2 hth hstr hf hlo d0 d3 d4 d6 d9 hE
  obtain ⟨t1, t2, t3, t4, t5, t6, t7⟩ := hth
  obtain ⟨n1, n2, n3⟩ := t7 _ _ _ hX
  obtain ⟨sa, hsa⟩ := hstr _ _ _ hX
  intro H locs ls hP hS hlv
  refine vx_throwS (A := A) (names := hw_nm) hx hb hl hown t1 (by decide) (hts _ t2) (hts _ t3) hsa (vx_hat (B := hw_bd cls) (fun w hw => hts w (t4 w hw)) t5 (fun w hw => va_Nw.use (by rcases List.mem_cons.mp hw with h | h; rw [h]; rfl; rcases List.mem_cons.mp h with h | h; rw [h]; rfl; rcases List.mem_cons.mp h with h | h; rw [h]; rfl; rcases List.mem_cons.mp h with h | h; rw [h]; rfl; cases h) (n1 w hw))) t6 n2 n3 hS (hlv.1.trans hml.symm) d0 d3 d4 d6 d9 (fun x hx => (htab x hx).elim) hf (by simpa using hlo) (by rw [hRc.1]; exact h1) (by rw [hRc.2]; exact h2) hlk (fun t hvm hz hk => ⟨(), trivial, ⟨hE, ?_⟩, ?_, ?_⟩) hS.2.2 h1 h2
  · exact hP.kept (fun k9 q hq => hk q.1 ((hP k9 q hq).lt))
  · exact Nat.le_trans hS.1 hz
  · intro q h3 h4
    rw [hk q (Nat.lt_of_lt_of_le h3 hS.1)]
    exact hS.2.1 q h3 h4
set_option maxHeartbeats 4000000 in
theorem hw_oT {p : Program} {l : Launch} {e : Env} {R : Room} {s : State} {m : MethodId} {args : Array Value} {below : List Frame} {meth : Method} {cd : Code} {D : va_G} {A : Nat → Prop} {nL k : Nat} {Wd : hw_W} {g : hw_G} {a : hw_A} {c : Int64} {Ex : String → Prop} {Qc : Array Value → State → Outcome → State → Prop}
    (hlk : meth.locks = false) (htab : ∀ x ∈ cd.exceptionTable.toList, False) {Ex1 : String → Prop} (hE : ∀ E, Ex1 E → Ex E) {kc ks : Nat} (h1 : kc ≤ k) (h2 : ks ≤ 6 * k) {lv : List (Nat × Value)} {pc : Nat} {rest : List Value} :
    hw_thr (p, l, e, R, s, m, args, below, meth, cd, vx_MQ below Qc (hw_XQ D Wd g a c Ex A) args s k (6 * k) A, D, A, nL) Wd g a c Ex1 kc ks lv pc rest := by
  intro E ce q H locs ls hE1 hP hS hlv hq hv hcl
  exact vx_out (fun x hx => (htab x hx).elim) hlk hq hv hcl (fun t ht hvm => ⟨(), trivial, ⟨hE E hE1, by rw [ht]; exact hP⟩, hS.F ht⟩) hS.2.2 h1 h2
theorem hw_Xi.mk {l : Launch} {D : va_G} {Wd : hw_W} {tys : List (ClassId × FieldType)} {X : hw_XT} {y : MethodName} {ws ws' : List Cond} {rm : Room} {k : Nat} {av : List Value} {g : hw_G} {a : hw_A} {c : Int64} {Ex : String → Prop} {P : Int32 → hw_G → hw_A → Int64 → Prop} {cc : ByteArray} {nL : Nat} {ty : FieldType} {lv0 : List (Nat × Value)}
    (hlt : l.stackTraces = false) (hy : plainName y.cls = true) (hw : ws = Cond.code y cc nL (some ty) :: ws') (hav : (lg_sl av).length ≤ nL) (hlv : lv_args 0 av = lv0) (hWd : hw_ads Wd) (hok : hw_XOK X) (hRc : rm.cells = k ∧ rm.slots = 6 * k)
    (body : ∀ K : hw_K, hw_F K l D Wd tys X cc y.cls ws rm nL → hw_RI K Wd cc k ty P → hw_TR K Wd X cc y.cls ws rm k g a c Ex → (∀ {Ex1 : String → Prop} {kc ks : Nat} {lv : List (Nat × Value)} {pc : Nat} {rest : List Value}, (∀ E, Ex1 E → Ex E) → kc ≤ k → ks ≤ 6 * k → hw_thr K Wd g a c Ex1 kc ks lv pc rest) → hw_J K Wd 0 0 g a c lv0 0 []) : hw_Xi l D Wd tys X y ws rm k av g a c Ex P := by
  intro sz
  refine vx_ofW (cc := cc) (maxL := nL) (ret := some ty) hy hw ?_
  intro p e s m args below meth cd s₁ B hml htab hv
  obtain ⟨rfl, hsz, hP, hK, hD0, hX⟩ := hv
  have hx := B.exec
  have hb := B.bytes
  have hr := B.returns
  have hts := atoms_spec (ws := ws) B.pre
  have hown : s.vm.findClass y.cls = some m.cls := findClass_of_methodNamed B.named
  have hlocks := B.notSynchronized
  subst hsz
  have hD := hD0.self (sz := s.heap.size)
  rw [lg_entry_eq]
  have hl := lv_entry av (n := nL) hav
  rw [hlv] at hl
  exact body (p, l, e, rm, s, m, av.toArray, below, meth, cd, _, D, va_A (Wd g a c) s.heap.size, nL) ⟨rfl, rfl, rfl, rfl, hx, hb, hml, hown, hts, hK, fun g' a' c' => hw_D hD (hWd g a c g' a' c'), fun q h => Or.inr h, hlocks, hok, hX⟩
    (fun {kc ks g' a' c' lv pc v} h1 h2 d hn hp H locs ls hP hS hl => W.widen h1 h2 (vx_ret (W.zret hx hb hr hn (fun t ht hW => ⟨⟨v, (g', a', c'), rfl, hp, by show va_P _ _ _ t.heap; rw [ht]; exact hP⟩, hS.F ht⟩) hS.2.2 d hlocks)))
    (hw_tr hlt hx hb hml hown hts hlocks htab hX rfl hRc) (fun {Ex1 kc ks lv pc rest} hE h1 h2 => hw_oT hlocks htab hE h1 h2) s.heap [] _ hP va_S.rf hl
theorem hw_Xv.mk {l : Launch} {D : va_G} {Wd : hw_W} {tys : List (ClassId × FieldType)} {X : hw_XT} {y : MethodName} {ws ws' : List Cond} {rm : Room} {k : Nat} {av : List Value} {g : hw_G} {a : hw_A} {c : Int64} {Ex : String → Prop} {P : hw_G → hw_A → Int64 → Prop} {cc : ByteArray} {nL : Nat} {lv0 : List (Nat × Value)}
    (hlt : l.stackTraces = false) (hy : plainName y.cls = true) (hw : ws = Cond.code y cc nL none :: ws') (hav : (lg_sl av).length ≤ nL) (hlv : lv_args 0 av = lv0) (hWd : hw_ads Wd) (hok : hw_XOK X) (hRc : rm.cells = k ∧ rm.slots = 6 * k)
    (body : ∀ K : hw_K, hw_F K l D Wd tys X cc y.cls ws rm nL → hw_RV K Wd cc k P → hw_TR K Wd X cc y.cls ws rm k g a c Ex → hw_J K Wd 0 0 g a c lv0 0 []) : hw_Xv l D Wd tys X y ws rm k av g a c Ex P := by
  intro sz
  refine vx_ofW (cc := cc) (maxL := nL) (ret := none) hy hw ?_
  intro p e s m args below meth cd s₁ B hml htab hv
  obtain ⟨rfl, hsz, hP, hK, hD0, hX⟩ := hv
  have hx := B.exec
  have hb := B.bytes
  have hr := B.returns
  have hts := atoms_spec (ws := ws) B.pre
  have hown : s.vm.findClass y.cls = some m.cls := findClass_of_methodNamed B.named
  have hlocks := B.notSynchronized
  subst hsz
  have hD := hD0.self (sz := s.heap.size)
  rw [lg_entry_eq]
  have hl := lv_entry av (n := nL) hav
  rw [hlv] at hl
  exact body (p, l, e, rm, s, m, av.toArray, below, meth, cd, _, D, va_A (Wd g a c) s.heap.size, nL) ⟨rfl, rfl, rfl, rfl, hx, hb, hml, hown, hts, hK, fun g' a' c' => hw_D hD (hWd g a c g' a' c'), fun q h => Or.inr h, hlocks, hok, hX⟩
    (fun {kc ks g' a' c' lv pc} h1 h2 d hp H locs ls hP hS hl => W.widen h1 h2 (vx_ret (W.vret hx hb hr (fun t ht hW => ⟨⟨(g', a', c'), rfl, hp, by show va_P _ _ _ t.heap; rw [ht]; exact hP⟩, hS.F ht⟩) hS.2.2 d hlocks)))
    (hw_tr hlt hx hb hml hown hts hlocks htab hX rfl hRc) s.heap [] _ hP va_S.rf hl
section HWX
variable {K : hw_K} {l : Launch} {D : va_G} {Wd : hw_W} {tys : List (ClassId × FieldType)} {X : hw_XT} {cc : ByteArray} {own : String} {Ts : List Cond} {rm : Room} {nL : Nat} {kc ks : Nat} {g : hw_G} {a : hw_A} {c : Int64} {lv : List (Nat × Value)} {pc : Nat} {st : List Value}
variable {y : MethodName} {ws1 ws2 : List Cond} {rm1 : Room} {bytes : ByteArray} {maxL n index b : Nat} {ret : Option FieldType} {C : String} {As st0 : List Value}
theorem hj_xVv (F : hw_F K l D Wd tys X cc own Ts rm nL) {k : Nat} {Ex : String → Prop} {P : hw_G → hw_A → Int64 → Prop} (hC : hw_Xv l D Wd tys X y ws1 rm1 k (.ref b :: As) g a c Ex P) (hG : GoodIn Ts (wsV own index C y ws1)) (hw : ws1 = Cond.code y bytes maxL ret :: ws2) (hz : rm1.cells = k ∧ rm1.slots = 6 * k) (hd : y.cls = C ∧ y.cls ≠ "java/lang/invoke/MethodHandle" ∧ y.cls ≠ "java/lang/invoke/VarHandle" ∧ (parseMethodDescriptor y.desc).map (fun d => d.parameters.length) = some n) (hR : rm1.frames + 1 ≤ rm.frames ∧ 8 + (maxL + 11) + rm1.locals ≤ rm.locals) (q0 ci : Nat) {fs : List Value} (he : (Wd g a c)[q0]? = some (b, .inr (ci, fs))) {T : u_T} {N : Nat} (hc : vwCl[ci]? = some (C, T, N)) (hn : As.length = n) (hst : st0 = As.reverse ++ .ref b :: st) (hW8 : (st.map fun v => v.category).sum ≤ 8) (hcs : kc + k ≤ rm.cells ∧ ks + 6 * k ≤ rm.slots) (d : decode cc pc = .ok (.invokevirtual index, 3))
    (ho : hw_thr K Wd g a c Ex (kc + k) (ks + 6 * k) lv pc st) (h : ∀ g' a' c', P g' a' c' → hw_J K Wd (kc + k) (ks + 6 * k) g' a' c' lv (pc + 3) st) : hw_J K Wd kc ks g a c lv pc st0 := by
  obtain ⟨p, l, e, R, s, m, args, below, meth, cd, Q, D, A, nL⟩ := K
  obtain ⟨rfl, rfl, rfl, rfl, hx, hb, hml, hown, hts, hK, hD, hA, hlk, hok, hX⟩ := F
  intro H locs ls hP hS hl
  have hfree : ∀ q, va_A (Wd g a c) H.size q → A q := fun q hq => hq.elim (fun ⟨k, e, hk⟩ => (hD g a c).2 k _ hk) (fun h => hA q (Nat.le_trans hS.1 h))
  have hXf : ∀ U : State, s.WarmedH U.vm → X (va_A (Wd g a c) H.size) U H := fun U hW => hok.2.2.1 _ _ _ _ (hok.1 _ _ _ _ hW (hok.2.1 _ _ _ _ hX hS.2.1)) hfree
  subst hst
  exact vx_callv (S := hw_S) (SX := Unit) (vx_runV (As := As) (rest := st) ⟨hx, hb, hml, hown, hts⟩ (hC H.size) (cwV n hts hG hw hz.1 hz.2 hd hR) ⟨hw_blind hok, va_recv hK hP hc he, fun U hU hW => ⟨rfl, by rw [hU], by rw [hU]; exact hP, va_K.moved hW.alike hK, (hD g a c).weaken (fun _ _ _ _ => trivial), by rw [hU]; exact hXf U hW⟩⟩ rfl hn hl.1 rfl (lv_room hW8) d ⟨hcs.1, hcs.2⟩) hS (fun q _ hq => hfree q hq) hfree (fun q _ hq => hfree q hq)
    (fun E ce q9 u t H1 locs1 ht hvm hp hB hz1 hk1 hS1 h1 h2 h3 => ho E ce q9 H1 locs1 ls hB.1 (by rw [← ht]; exact hB.2) hS1 hl h1 h2 h3)
    (fun u t H1 locs1 ht hvm hw hB hz1 hk1 hS1 => h u.1 u.2.1 u.2.2 hw H1 locs1 ls (by rw [← ht]; exact hB) hS1 hl)
theorem hj_xVi (F : hw_F K l D Wd tys X cc own Ts rm nL) {k : Nat} {Ex : String → Prop} {P : Int32 → hw_G → hw_A → Int64 → Prop} (hC : hw_Xi l D Wd tys X y ws1 rm1 k (.ref b :: As) g a c Ex P) (hG : GoodIn Ts (wsV own index C y ws1)) (hw : ws1 = Cond.code y bytes maxL ret :: ws2) (hz : rm1.cells = k ∧ rm1.slots = 6 * k) (hd : y.cls = C ∧ y.cls ≠ "java/lang/invoke/MethodHandle" ∧ y.cls ≠ "java/lang/invoke/VarHandle" ∧ (parseMethodDescriptor y.desc).map (fun d => d.parameters.length) = some n) (hR : rm1.frames + 1 ≤ rm.frames ∧ 8 + (maxL + 11) + rm1.locals ≤ rm.locals) (q0 ci : Nat) {fs : List Value} (he : (Wd g a c)[q0]? = some (b, .inr (ci, fs))) {T : u_T} {N : Nat} (hc : vwCl[ci]? = some (C, T, N)) (hn : As.length = n) (hst : st0 = As.reverse ++ .ref b :: st) (hW8 : (st.map fun v => v.category).sum ≤ 8) (hcs : kc + k ≤ rm.cells ∧ ks + 6 * k ≤ rm.slots) (d : decode cc pc = .ok (.invokevirtual index, 3))
    (ho : hw_thr K Wd g a c Ex (kc + k) (ks + 6 * k) lv pc st) (h : ∀ r g' a' c', P r g' a' c' → hw_J K Wd (kc + k) (ks + 6 * k) g' a' c' lv (pc + 3) (.int r :: st)) : hw_J K Wd kc ks g a c lv pc st0 := by
  obtain ⟨p, l, e, R, s, m, args, below, meth, cd, Q, D, A, nL⟩ := K
  obtain ⟨rfl, rfl, rfl, rfl, hx, hb, hml, hown, hts, hK, hD, hA, hlk, hok, hX⟩ := F
  intro H locs ls hP hS hl
  have hfree : ∀ q, va_A (Wd g a c) H.size q → A q := fun q hq => hq.elim (fun ⟨k, e, hk⟩ => (hD g a c).2 k _ hk) (fun h => hA q (Nat.le_trans hS.1 h))
  have hXf : ∀ U : State, s.WarmedH U.vm → X (va_A (Wd g a c) H.size) U H := fun U hW => hok.2.2.1 _ _ _ _ (hok.1 _ _ _ _ hW (hok.2.1 _ _ _ _ hX hS.2.1)) hfree
  subst hst
  exact vx_calli (S := hw_S) (SX := Unit) (vx_runV (As := As) (rest := st) ⟨hx, hb, hml, hown, hts⟩ (hC H.size) (cwV n hts hG hw hz.1 hz.2 hd hR) ⟨hw_blind hok, va_recv hK hP hc he, fun U hU hW => ⟨rfl, by rw [hU], by rw [hU]; exact hP, va_K.moved hW.alike hK, (hD g a c).weaken (fun _ _ _ _ => trivial), by rw [hU]; exact hXf U hW⟩⟩ rfl hn hl.1 rfl (lv_room hW8) d ⟨hcs.1, hcs.2⟩) hS (fun q _ hq => hfree q hq) hfree (fun q _ hq => hfree q hq)
    (fun E ce q9 u t H1 locs1 ht hvm hp hB hz1 hk1 hS1 h1 h2 h3 => ho E ce q9 H1 locs1 ls hB.1 (by rw [← ht]; exact hB.2) hS1 hl h1 h2 h3)
    (fun r u t H1 locs1 ht hvm hw hB hz1 hk1 hS1 => h r u.1 u.2.1 u.2.2 hw H1 locs1 ls (by rw [← ht]; exact hB) hS1 hl)
end HWX
