/-! THE LAW'S FRAME: worlds side by side, calls over a part of the world, helpers with handlers -/
theorem hw_Pm {D : va_G} {cl : List vw_C} {ws : va_W} {H : Heap} : va_P D cl ws H ↔ ∀ q ∈ ws, va_at D cl q H := by
  constructor
  · intro h q hq
    obtain ⟨k, hk⟩ := List.getElem?_of_mem hq
    exact h k q hk
  · intro h k q hk
    exact h q (List.mem_of_getElem? hk)
theorem hw_Pp {D : va_G} {cl : List vw_C} {ws ws' : va_W} {H : Heap} (h : va_P D cl ws H) (p : ws.Perm ws') : va_P D cl ws' H := hw_Pm.mpr (fun q hq => hw_Pm.mp h q (p.mem_iff.mpr hq))
theorem hw_Dm {A : Nat → Prop} {ws : va_W} : va_D A ws ↔ ws.Pairwise (fun x y => x.1 ≠ y.1) ∧ ∀ q ∈ ws, A q.1 := by
  constructor
  · intro h
    refine ⟨List.pairwise_iff_getElem.mpr (fun i j hi hj hij e => ?_), fun q hq => ?_⟩
    · have := h.1 i j ws[i] ws[j] (List.getElem?_eq_getElem hi) (List.getElem?_eq_getElem hj) e
      omega
    · obtain ⟨k, hk⟩ := List.getElem?_of_mem hq
      exact h.2 k q hk
  · intro h
    refine ⟨fun i j p q hi hj e => ?_, fun k q hk => h.2 q (List.mem_of_getElem? hk)⟩
    obtain ⟨hi1, rfl⟩ := List.getElem?_eq_some_iff.mp hi
    obtain ⟨hj1, rfl⟩ := List.getElem?_eq_some_iff.mp hj
    have hp := List.pairwise_iff_getElem.mp h.1
    rcases Nat.lt_trichotomy i j with z | z | z
    · exact absurd e (hp i j hi1 hj1 z)
    · exact z
    · exact absurd e.symm (hp j i hj1 hi1 z)
theorem hw_Dp {A : Nat → Prop} {ws ws' : va_W} (h : va_D A ws) (p : ws.Perm ws') : va_D A ws' := hw_Dm.mpr ⟨(p.pairwise_iff (fun {x y} e z => e z.symm)).mp (hw_Dm.mp h).1, fun q hq => (hw_Dm.mp h).2 q (p.mem_iff.mpr hq)⟩
theorem hw_Pl {D : va_G} {cl : List vw_C} {w1 w2 : va_W} {H : Heap} (h : va_P D cl (w1 ++ w2) H) : va_P D cl w1 H := hw_Pm.mpr (fun q hq => hw_Pm.mp h q (List.mem_append_left _ hq))
theorem hw_Pr {D : va_G} {cl : List vw_C} {w1 w2 : va_W} {H : Heap} (h : va_P D cl (w1 ++ w2) H) : va_P D cl w2 H := hw_Pm.mpr (fun q hq => hw_Pm.mp h q (List.mem_append_right _ hq))
theorem hw_Dl {A : Nat → Prop} {w1 w2 : va_W} (h : va_D A (w1 ++ w2)) : va_D A w1 := hw_Dm.mpr ⟨(List.pairwise_append.mp (hw_Dm.mp h).1).1, fun q hq => (hw_Dm.mp h).2 q (List.mem_append_left _ hq)⟩
/-- what a callee doesn't hold stays -/
theorem hw_keep {D : va_G} {cl : List vw_C} {A : Nat → Prop} {w1 w2 : va_W} {H H1 : Heap} (hP : va_P D cl (w1 ++ w2) H) (hD : va_D A (w1 ++ w2)) (hk : ∀ q : Nat, q < H.size → ¬ va_A w1 H.size q → H1[q]? = H[q]?) : va_P D cl w2 H1 := by
  refine hw_Pm.mpr (fun q hq => ?_)
  have h1 := hw_Pm.mp hP q (List.mem_append_right _ hq)
  refine h1.kept (hk q.1 h1.lt (fun z => ?_))
  rcases z with ⟨k, e, z⟩ | z
  · exact (List.pairwise_append.mp (hw_Dm.mp hD).1).2.2 (q.1, e) (List.mem_of_getElem? z) q hq rfl
  · exact absurd h1.lt (Nat.not_lt.mpr z)
section HWL
variable {K : hw_K} {l : Launch} {D : va_G} {Wd : hw_W} {tys tyc : List (ClassId × FieldType)} {X : hw_XT} {cc : ByteArray} {own : String} {Ts : List Cond} {rm : Room} {nL : Nat} {kc ks : Nat} {g : hw_G} {a : hw_A} {c : Int64} {lv : List (Nat × Value)} {pc : Nat} {st : List Value}
variable {y : MethodName} {ws1 ws2 : List Cond} {rm1 : Room} {bytes : ByteArray} {maxL n index b : Nat} {ret : Option FieldType} {C : String} {As st0 : List Value} {Wc : hw_W} {E : va_W} {g1 : hw_G} {a1 : hw_A} {c1 : Int64}
theorem hj_pm {Wd2 : hw_W} {g2 : hw_G} {a2 : hw_A} {c2 : Int64} (hp : (Wd g a c).Perm (Wd2 g2 a2 c2)) (h : hw_J K Wd2 kc ks g2 a2 c2 lv pc st) : hw_J K Wd kc ks g a c lv pc st := by
  obtain ⟨p, l, e, R, s, m, args, below, meth, cd, Q, D, A, nL⟩ := K
  intro H locs ls hP hS hl
  exact h H locs ls (hw_Pp hP hp) hS hl
theorem hj_fVi (F : hw_F K l D Wd tys X cc own Ts rm nL) (hp : (Wd g a c).Perm (Wc g1 a1 c1 ++ E)) (is : List Nat) (hty : is.filterMap (fun i => tys[i]?) = tyc) {P : Int32 → hw_G → hw_A → Int64 → Prop} (hC : hw_Ci l D Wc tyc X y ws1 rm1 (.ref b :: As) g1 a1 c1 P) (hG : GoodIn Ts (wsV own index C y ws1)) (hw : ws1 = Cond.code y bytes maxL ret :: ws2) (hz : rm1.cells = 0 ∧ rm1.slots = 0) (hd : y.cls = C ∧ y.cls ≠ "java/lang/invoke/MethodHandle" ∧ y.cls ≠ "java/lang/invoke/VarHandle" ∧ (parseMethodDescriptor y.desc).map (fun d => d.parameters.length) = some n) (hR : rm1.frames + 1 ≤ rm.frames ∧ 8 + (maxL + 11) + rm1.locals ≤ rm.locals) (q0 ci : Nat) {fs : List Value} (he : (Wc g1 a1 c1)[q0]? = some (b, .inr (ci, fs))) {T : u_T} {N : Nat} (hc : vwCl[ci]? = some (C, T, N)) (hn : As.length = n) (hst : st0 = As.reverse ++ .ref b :: st) (hW8 : (st.map fun v => v.category).sum ≤ 8) (hcs : kc ≤ rm.cells ∧ ks ≤ rm.slots) (d : decode cc pc = .ok (.invokevirtual index, 3))
    (h : ∀ r g' a' c', P r g' a' c' → hw_J K (fun _ _ _ => Wc g' a' c' ++ E) kc ks g a c lv (pc + 3) (.int r :: st)) : hw_J K Wd kc ks g a c lv pc st0 := by
  obtain ⟨p, l, e, R, s, m, args, below, meth, cd, Q, D, A, nL⟩ := K
  obtain ⟨rfl, rfl, rfl, rfl, hx, hb, hml, hown, hts, hK0, hD0, hA, hlk, hok, hX⟩ := F
  intro H locs ls hP0 hS hl
  have hP1 := hw_Pp hP0 hp
  have hD1 := hw_Dp (hD0 g a c) hp
  have hP := hw_Pl hP1
  have hD := hw_Dl hD1
  have hK := hK0.sub is hty
  have hfree : ∀ q, va_A (Wc g1 a1 c1) H.size q → A q := fun q hq => hq.elim (fun ⟨k, e, hk⟩ => hD.2 k _ hk) (fun h => hA q (Nat.le_trans hS.1 h))
  have hXf : ∀ U : State, s.WarmedH U.vm → X (va_A (Wc g1 a1 c1) H.size) U H := fun U hW => hok.2.2.1 _ _ _ _ (hok.1 _ _ _ _ hW (hok.2.1 _ _ _ _ hX hS.2.1)) hfree
  subst hst
  exact va_calli (S := hw_S) (va_runV (As := As) (rest := st) ⟨hx, hb, hml, hown, hts⟩ (hC H.size) (cwV n hts hG hw hz.1 hz.2 hd hR) ⟨hw_blind hok, va_recv hK hP hc he, fun U hU hW => ⟨rfl, by rw [hU], by rw [hU]; exact hP, va_K.moved hW.alike hK, hD.weaken (fun _ _ _ _ => trivial), by rw [hU]; exact hXf U hW⟩⟩ rfl hn hl.1 rfl (lv_room hW8) d ⟨hcs.1, hcs.2⟩) hS (fun q _ hq => hfree q hq) hfree (fun r u t H1 locs1 ht hvm hw hB hz1 hk1 hS1 => h r u.1 u.2.1 u.2.2 hw H1 locs1 ls (va_P.app (by rw [← ht]; exact hB) (hw_keep hP1 hD1 hk1)) hS1 hl)
theorem hj_fVl (F : hw_F K l D Wd tys X cc own Ts rm nL) (hp : (Wd g a c).Perm (Wc g1 a1 c1 ++ E)) (is : List Nat) (hty : is.filterMap (fun i => tys[i]?) = tyc) {P : Int64 → hw_G → hw_A → Int64 → Prop} (hC : hw_Cl l D Wc tyc X y ws1 rm1 (.ref b :: As) g1 a1 c1 P) (hG : GoodIn Ts (wsV own index C y ws1)) (hw : ws1 = Cond.code y bytes maxL ret :: ws2) (hz : rm1.cells = 0 ∧ rm1.slots = 0) (hd : y.cls = C ∧ y.cls ≠ "java/lang/invoke/MethodHandle" ∧ y.cls ≠ "java/lang/invoke/VarHandle" ∧ (parseMethodDescriptor y.desc).map (fun d => d.parameters.length) = some n) (hR : rm1.frames + 1 ≤ rm.frames ∧ 8 + (maxL + 11) + rm1.locals ≤ rm.locals) (q0 ci : Nat) {fs : List Value} (he : (Wc g1 a1 c1)[q0]? = some (b, .inr (ci, fs))) {T : u_T} {N : Nat} (hc : vwCl[ci]? = some (C, T, N)) (hn : As.length = n) (hst : st0 = As.reverse ++ .ref b :: st) (hW8 : (st.map fun v => v.category).sum ≤ 8) (hcs : kc ≤ rm.cells ∧ ks ≤ rm.slots) (d : decode cc pc = .ok (.invokevirtual index, 3))
    (h : ∀ r g' a' c', P r g' a' c' → hw_J K (fun _ _ _ => Wc g' a' c' ++ E) kc ks g a c lv (pc + 3) (.long r :: st)) : hw_J K Wd kc ks g a c lv pc st0 := by
  obtain ⟨p, l, e, R, s, m, args, below, meth, cd, Q, D, A, nL⟩ := K
  obtain ⟨rfl, rfl, rfl, rfl, hx, hb, hml, hown, hts, hK0, hD0, hA, hlk, hok, hX⟩ := F
  intro H locs ls hP0 hS hl
  have hP1 := hw_Pp hP0 hp
  have hD1 := hw_Dp (hD0 g a c) hp
  have hP := hw_Pl hP1
  have hD := hw_Dl hD1
  have hK := hK0.sub is hty
  have hfree : ∀ q, va_A (Wc g1 a1 c1) H.size q → A q := fun q hq => hq.elim (fun ⟨k, e, hk⟩ => hD.2 k _ hk) (fun h => hA q (Nat.le_trans hS.1 h))
  have hXf : ∀ U : State, s.WarmedH U.vm → X (va_A (Wc g1 a1 c1) H.size) U H := fun U hW => hok.2.2.1 _ _ _ _ (hok.1 _ _ _ _ hW (hok.2.1 _ _ _ _ hX hS.2.1)) hfree
  subst hst
  exact va_calll (S := hw_S) (va_runV (As := As) (rest := st) ⟨hx, hb, hml, hown, hts⟩ (hC H.size) (cwV n hts hG hw hz.1 hz.2 hd hR) ⟨hw_blind hok, va_recv hK hP hc he, fun U hU hW => ⟨rfl, by rw [hU], by rw [hU]; exact hP, va_K.moved hW.alike hK, hD.weaken (fun _ _ _ _ => trivial), by rw [hU]; exact hXf U hW⟩⟩ rfl hn hl.1 rfl (lv_room hW8) d ⟨hcs.1, hcs.2⟩) hS (fun q _ hq => hfree q hq) hfree (fun r u t H1 locs1 ht hvm hw hB hz1 hk1 hS1 => h r u.1 u.2.1 u.2.2 hw H1 locs1 ls (va_P.app (by rw [← ht]; exact hB) (hw_keep hP1 hD1 hk1)) hS1 hl)
end HWL
/-! the helpers' world: out ahead of the class -/
abbrev hw_TL (t : Nat → ClassId) : List (ClassId × FieldType) := [(t 0, .int), (t 1, .byte), (t 2, .boolean), (t 3, .array .int), (t 4, .long)]
abbrev hw_oc (t : Nat → ClassId) (qo : Nat) (v : Nat → Int64) : Nat × va_E := (qo, .inl (t 4, 1, .inr (.inl v)))
def HW (ad : Nat → Nat) (t : Nat → ClassId) (qo : Nat) (v : Nat → Int64) : hw_W := fun g a c => hw_oc t qo v :: WH ad t g a c
def LW (ad ad2 : Nat → Nat) (t : Nat → ClassId) (qo : Nat) (h : hw_G) (b : hw_A) (e : Int64) (v : Nat → Int64) : hw_W := fun g a c => hw_oc t qo v :: (WM ad2 t h b e ++ WH ad t g a c)
theorem HW_ads (ad : Nat → Nat) (t : Nat → ClassId) (qo : Nat) (v v' : Nat → Int64) (g g' : hw_G) (a a' : hw_A) (c c' : Int64) : (HW ad t qo v g a c).map (·.1) = (HW ad t qo v' g' a' c').map (·.1) := congrArg (qo :: ·) (WH_ads ad t g a c g' a' c')
theorem LW_ads (ad ad2 : Nat → Nat) (t : Nat → ClassId) (qo : Nat) (h h' : hw_G) (b b' : hw_A) (e e' : Int64) (v v' : Nat → Int64) (g g' : hw_G) (a a' : hw_A) (c c' : Int64) : (LW ad ad2 t qo h b e v g a c).map (·.1) = (LW ad ad2 t qo h' b' e' v' g' a' c').map (·.1) := by
  show qo :: (WM ad2 t h b e ++ WH ad t g a c).map (·.1) = qo :: (WM ad2 t h' b' e' ++ WH ad t g' a' c').map (·.1)
  rw [List.map_append, List.map_append, WH_ads ad t g a c g' a' c', WM_ads ad2 t h b e h' b' e']
def hw_Hi (l : Launch) (D : va_G) (ad : Nat → Nat) (t : Nat → ClassId) (qo : Nat) (X : hw_XT) (y : MethodName) (ws : List Cond) (rm : Room) (k : Nat) (av : List Value) (g : hw_G) (a : hw_A) (c : Int64) (v : Nat → Int64) (P : Int32 → hw_G → hw_A → Int64 → (Nat → Int64) → Prop) : Prop :=
  ∀ sz : Nat, Met l y ws rm (va_Pc av (hw_Pre D (HW ad t qo v) (hw_TL t) X g a c sz)) (va_Qi (S := hw_S × (Nat → Int64)) (fun r u => P r u.1.1 u.1.2.1 u.1.2.2 u.2) (fun u T => va_P D vwCl (HW ad t qo u.2 u.1.1 u.1.2.1 u.1.2.2) T.heap) (va_A (HW ad t qo v g a c) sz)) k (6 * k) (va_A (HW ad t qo v g a c) sz)
def hw_tab (K : hw_K) (hh : List (Nat × Nat × Nat × Nat)) : Prop := match K with
  | (_, _, _, _, _, _, _, _, _, cd, _, _, _, _) => cd.exceptionTable.toList = tableOf hh
theorem hw_Hi.mk {l : Launch} {D : va_G} {ad : Nat → Nat} {t : Nat → ClassId} {qo : Nat} {X : hw_XT} {y : MethodName} {ws ws' : List Cond} {rm : Room} {k : Nat} {av : List Value} {g : hw_G} {a : hw_A} {c : Int64} {v : Nat → Int64} {P : Int32 → hw_G → hw_A → Int64 → (Nat → Int64) → Prop} {cc : ByteArray} {nL : Nat} {hh : List (Nat × Nat × Nat × Nat)} {lv0 : List (Nat × Value)}
    (hy : plainName y.cls = true) (hw : ws = Cond.codeWith y cc nL (some .int) hh :: ws') (hav : (lg_sl av).length ≤ nL) (hlv : lv_args 0 av = lv0) (hok : hw_XOK X)
    (body : ∀ K : hw_K, (∀ v, hw_F K l D (HW ad t qo v) (hw_TL t) X cc y.cls ws rm nL) → hw_tab K hh → (∀ {kc ks : Nat} {g' : hw_G} {a' : hw_A} {c' : Int64} {v' : Nat → Int64} {lv : List (Nat × Value)} {pc : Nat} {r : Int32}, kc ≤ k → ks ≤ 6 * k → decode cc pc = .ok (.ireturn, 1) → P r g' a' c' v' → hw_J K (HW ad t qo v') kc ks g' a' c' lv pc [.int r]) → hw_J K (HW ad t qo v) 0 0 g a c lv0 0 []) : hw_Hi l D ad t qo X y ws rm k av g a c v P := by
  intro sz
  refine va_MetW (cc := cc) (maxL := nL) (ret := some .int) (hh := hh) hy hw ?_
  intro p e s m args below meth cd s₁ B hml hv
  obtain ⟨rfl, hsz, hP, hK, hD0, hX⟩ := hv
  have hx := B.exec
  have hb := B.bytes
  have hr := B.returns
  have hts := atoms_spec (ws := ws) B.pre
  have htab : cd.exceptionTable.toList = tableOf hh := vx_table (x := y) B (hts _ (by rw [hw]; exact List.mem_cons_self))
  have hown : s.vm.findClass y.cls = some m.cls := findClass_of_methodNamed B.named
  have hlocks := B.notSynchronized
  subst hsz
  have hD := hD0.self (sz := s.heap.size)
  rw [lg_entry_eq]
  have hl := lv_entry av (n := nL) hav
  rw [hlv] at hl
  exact body (p, l, e, rm, s, m, av.toArray, below, meth, cd, _, D, va_A (HW ad t qo v g a c) s.heap.size, nL) (fun v9 => ⟨rfl, rfl, rfl, rfl, hx, hb, hml, hown, hts, hK, fun g' a' c' => hw_D hD (HW_ads ad t qo v v9 g g' a a' c c'), fun q h => Or.inr h, hlocks, hok, hX⟩) htab
    (fun {kc ks g' a' c' v' lv pc r} h1 h2 d hp H locs ls hP hS hl => W.widen h1 h2 (W.zret hx hb hr rfl (fun T ht hW => ⟨⟨r, ((g', a', c'), v'), rfl, hp, by show va_P _ _ _ T.heap; rw [ht]; exact hP⟩, hS.F ht⟩) hS.2.2 d hlocks)) s.heap [] _ hP va_S.rf hl
section HWH
variable {K : hw_K} {l : Launch} {D : va_G} {ad ad2 : Nat → Nat} {t : Nat → ClassId} {qo : Nat} {X : hw_XT} {cc : ByteArray} {own : String} {Ts : List Cond} {rm : Room} {nL : Nat} {kc ks : Nat} {g : hw_G} {a : hw_A} {c : Int64} {v : Nat → Int64} {lv : List (Nat × Value)} {pc : Nat} {st : List Value}
variable {y : MethodName} {ws1 ws2 : List Cond} {rm1 : Room} {bytes : ByteArray} {maxL n index : Nat} {ret : Option FieldType} {As st0 : List Value}
/-- what becomes of a throw of E at pc: caught by a row of the table, the handler goes on -/
def hw_ct (K : hw_K) (X : hw_XT) (own : String) (Ts : List Cond) (hh : List (Nat × Nat × Nat × Nat)) (pc : Nat) (E : String) (go : Nat → Prop) : Prop := ∃ (pre : List ExceptionTableEntry) (x : ExceptionTableEntry) (suf : List ExceptionTableEntry) (nm : String), tableOf hh = pre ++ x :: suf ∧ (∀ z ∈ pre, z.catchType ≠ 0 ∧ ∃ n2 : String, Cond.classLink own z.catchType n2 ∈ Ts ∧ ∀ (A : Nat → Prop) (U : State) (H : Heap), X A U H → va_Nc E n2 U) ∧ covers x pc = true ∧ x.catchType ≠ 0 ∧ Cond.classLink own x.catchType nm ∈ Ts ∧ (∀ (A : Nat → Prop) (U : State) (H : Heap), X A U H → va_Nw (.castable E nm) U) ∧ go x.handlerPc
theorem hj_hx (F : ∀ v, hw_F K l D (HW ad t qo v) (hw_TL t) X cc own Ts rm nL) {hh : List (Nat × Nat × Nat × Nat)} (htab : hw_tab K hh) {k : Nat} {Ex : String → Prop} {P : Int32 → hw_G → hw_A → Int64 → Prop} (hC : hw_Xi l D (WH ad t) (hw_T t) X y ws1 rm1 k (.ref (ad 0) :: As) g a c Ex P) (hG : GoodIn Ts (wsV own index RX3 y ws1)) (hw : ws1 = Cond.code y bytes maxL ret :: ws2) (hz : rm1.cells = k ∧ rm1.slots = 6 * k) (hd : y.cls = RX3 ∧ y.cls ≠ "java/lang/invoke/MethodHandle" ∧ y.cls ≠ "java/lang/invoke/VarHandle" ∧ (parseMethodDescriptor y.desc).map (fun d => d.parameters.length) = some n) (hR : rm1.frames + 1 ≤ rm.frames ∧ 8 + (maxL + 11) + rm1.locals ≤ rm.locals) (hn : As.length = n) (hst : st0 = As.reverse ++ .ref (ad 0) :: st) (hW8 : (st.map fun v => v.category).sum ≤ 8) (hcs : kc + k ≤ rm.cells ∧ ks + 6 * k ≤ rm.slots) (d : decode cc pc = .ok (.invokevirtual index, 3))
    (ho : ∀ E, Ex E → hw_ct K X own Ts hh pc E (fun hpc => ∀ q : Nat, hw_J K (HW ad t qo v) (kc + k) (ks + 6 * k) g a c lv hpc [.ref q])) (h : ∀ r g' a' c', P r g' a' c' → hw_J K (HW ad t qo v) (kc + k) (ks + 6 * k) g' a' c' lv (pc + 3) (.int r :: st)) : hw_J K (HW ad t qo v) kc ks g a c lv pc st0 := by
  have F := F v
  obtain ⟨p, l, e, R, s, m, args, below, meth, cd, Q, D, A, nL⟩ := K
  obtain ⟨rfl, rfl, rfl, rfl, hx, hb, hml, hown, hts, hK0, hD0, hA, hlk, hok, hX⟩ := F
  intro H locs ls hP0 hS hl
  have hp : (HW ad t qo v g a c).Perm (WH ad t g a c ++ [hw_oc t qo v]) := List.perm_append_comm (l₁ := [hw_oc t qo v]) (l₂ := WH ad t g a c)
  have hback : ∀ g' a' c', (WH ad t g' a' c' ++ [hw_oc t qo v]).Perm (HW ad t qo v g' a' c') := fun g' a' c' => List.perm_append_comm (l₁ := WH ad t g' a' c') (l₂ := [hw_oc t qo v])
  have hP1 := hw_Pp hP0 hp
  have hD1 := hw_Dp (hD0 g a c) hp
  have hP := hw_Pl hP1
  have hD := hw_Dl hD1
  have hK : va_K D vwCl (hw_T t) s := hK0.sub [0, 1, 2, 3] rfl
  have hfree : ∀ q, va_A (WH ad t g a c) H.size q → A q := fun q hq => hq.elim (fun ⟨k, e, hk⟩ => hD.2 k _ hk) (fun h => hA q (Nat.le_trans hS.1 h))
  have hXf : ∀ U : State, s.WarmedH U.vm → X (va_A (WH ad t g a c) H.size) U H := fun U hW => hok.2.2.1 _ _ _ _ (hok.1 _ _ _ _ hW (hok.2.1 _ _ _ _ hX hS.2.1)) hfree
  have he : (WH ad t g a c)[0]? = some (ad 0, .inr (3, [.ref (ad 10), .ref (ad 1), .ref (ad 2), .ref (ad 30), .ref (ad 3), .int (g 0), .int (g 1), .int (g 2), .int (g 3), .int (g 4), .int (g 5), .int (g 6)])) := rfl
  have hc : vwCl[3]? = some (RX3, TX3, 12) := rfl
  subst hst
  exact vx_calli (S := hw_S) (SX := Unit) (vx_runV (As := As) (rest := st) ⟨hx, hb, hml, hown, hts⟩ (hC H.size) (cwV n hts hG hw hz.1 hz.2 hd hR) ⟨hw_blind hok, va_recv hK hP hc he, fun U hU hW => ⟨rfl, by rw [hU], by rw [hU]; exact hP, va_K.moved hW.alike hK, hD.weaken (fun _ _ _ _ => trivial), by rw [hU]; exact hXf U hW⟩⟩ rfl hn hl.1 rfl (lv_room hW8) d ⟨hcs.1, hcs.2⟩) hS (fun q _ hq => hfree q hq) hfree (fun q _ hq => hfree q hq)
    (fun E ce q9 u T H1 locs1 ht hvm hp9 hB hz1 hk1 hS1 h1 h2 h3 => by
      obtain ⟨pre, x, suf, nm, e1, e2, e3, e4, e5, e6, e7⟩ := ho E hB.1
      exact vx_catch hown pre x suf (htab.trans e1) (fun z hz => by
        obtain ⟨z1, n2, z2, z3⟩ := e2 z hz
        exact Or.inr ⟨z1, n2, hts _ z2, z3 _ _ _ hX⟩) e3 e4 (hts _ e5) (va_Nw.use rfl (e6 _ _ _ hX)) h1 h2 h3 (e7 q9 H1 locs1 ls (hw_Pp (va_P.app (by rw [← ht]; exact hB.2) (hw_keep hP1 hD1 hk1)) (hback g a c)) hS1 hl))
    (fun r u T H1 locs1 ht hvm hw hB hz1 hk1 hS1 => h r u.1 u.2.1 u.2.2 hw H1 locs1 ls (hw_Pp (va_P.app (by rw [← ht]; exact hB) (hw_keep hP1 hD1 hk1)) (hback _ _ _)) hS1 hl)
theorem hj_out (F : ∀ v, hw_F K l D (HW ad t qo v) (hw_TL t) X cc own Ts rm nL) {x : Int64} (d : decode cc pc = .ok (.lastore, 1)) (h : hw_J K (HW ad t qo (vp_updL v 0 x)) kc ks g a c lv (pc + 1) st) : hw_J K (HW ad t qo v) kc ks g a c lv pc (.long x :: .int 0 :: .ref qo :: st) := by
  have F := F v
  obtain ⟨p, l, e, R, s, m, args, below, meth, cd, Q, D, A, nL⟩ := K
  obtain ⟨rfl, rfl, rfl, rfl, hx, hb, hml, hown, hts, hK, hD, hA, hlk, hok, hX⟩ := F
  intro H locs ls hP hS hl
  exact va_last (i := 0) (x := x) hx hb hK hP (hD g a c) hS 0 4 (cA := t 4) (n := 1) (f := v) rfl rfl (by unfold vp_in; decide) d (fun H1 locs1 hP1 hD1 hS1 => h H1 locs1 ls hP1 hS1 hl)
/-! the law's own rows -/
variable {h : hw_G} {b : hw_A} {e : Int64}
theorem hj_in0 (F : ∀ h b e v, hw_F K l D (LW ad ad2 t qo h b e v) (hw_TL t) X cc own Ts rm nL) (d : decode cc pc = .ok (.laload, 1)) (hh : hw_J K (LW ad ad2 t qo h b e v) kc ks g a c lv (pc + 1) (.long (v 0) :: st)) : hw_J K (LW ad ad2 t qo h b e v) kc ks g a c lv pc (.int 0 :: .ref qo :: st) := by
  have F := F h b e v
  obtain ⟨p, l, e, R, s, m, args, below, meth, cd, Q, D, A, nL⟩ := K
  obtain ⟨rfl, rfl, rfl, rfl, hx, hb, hml, hown, hts, hK, hD, hA, hlk, hok, hX⟩ := F
  intro H locs ls hP hS hl
  exact va_lald (i := 0) hx hb hK hP 0 4 (cA := t 4) (n := 1) (f := v) rfl rfl (by unfold vp_in; decide) d (hh H locs ls hP hS hl)
def hw_SC (K : hw_K) (bs L : Nat) (xs : Nat → Int32) : Prop := match K with
  | (_, _, _, _, s, _, _, _, _, _, _, _, A, _) => va_X bs L xs s s.heap ∧ bs < s.heap.size ∧ ¬ A bs
theorem hj_sld {bs L : Nat} {xs : Nat → Int32} {Wd : hw_W} {tys : List (ClassId × FieldType)} (F : hw_F K l D Wd tys X cc own Ts rm nL) (S : hw_SC K bs L xs) {i : Int32} (hin : vp_in i L) (d : decode cc pc = .ok (.iaload, 1)) (hh : hw_J K Wd kc ks g a c lv (pc + 1) (.int (xs i.toNatClampNeg) :: st)) : hw_J K Wd kc ks g a c lv pc (.int i :: .ref bs :: st) := by
  obtain ⟨p, l, e, R, s, m, args, below, meth, cd, Q, D, A, nL⟩ := K
  obtain ⟨rfl, rfl, rfl, rfl, hx, hb, hml, hown, hts, hK, hD, hA, hlk, hok, hX⟩ := F
  obtain ⟨S1, S2, S3⟩ := S
  intro H locs ls hP hS hl
  exact va_sld hx hb S1 S2 S3 hS hin d (hh H locs ls hP hS hl)
theorem hj_slen {bs L : Nat} {xs : Nat → Int32} {Wd : hw_W} {tys : List (ClassId × FieldType)} (F : hw_F K l D Wd tys X cc own Ts rm nL) (S : hw_SC K bs L xs) (d : decode cc pc = .ok (.arraylength, 1)) (hh : hw_J K Wd kc ks g a c lv (pc + 1) (.int (nI L) :: st)) : hw_J K Wd kc ks g a c lv pc (.ref bs :: st) := by
  obtain ⟨p, l, e, R, s, m, args, below, meth, cd, Q, D, A, nL⟩ := K
  obtain ⟨rfl, rfl, rfl, rfl, hx, hb, hml, hown, hts, hK, hD, hA, hlk, hok, hX⟩ := F
  obtain ⟨S1, S2, S3⟩ := S
  intro H locs ls hP hS hl
  exact va_slen hx hb S1 S2 S3 hS d (hh H locs ls hP hS hl)
/-- a call of the class -/
theorem hj_HVi (F : ∀ h b e v, hw_F K l D (LW ad ad2 t qo h b e v) (hw_TL t) X cc own Ts rm nL) {P : Int32 → hw_G → hw_A → Int64 → Prop} (hC : hw_Ci l D (WH ad t) (hw_T t) X y ws1 rm1 (.ref (ad 0) :: As) g a c P) (hG : GoodIn Ts (wsV own index RX3 y ws1)) (hw : ws1 = Cond.code y bytes maxL ret :: ws2) (hz : rm1.cells = 0 ∧ rm1.slots = 0) (hd : y.cls = RX3 ∧ y.cls ≠ "java/lang/invoke/MethodHandle" ∧ y.cls ≠ "java/lang/invoke/VarHandle" ∧ (parseMethodDescriptor y.desc).map (fun d => d.parameters.length) = some n) (hR : rm1.frames + 1 ≤ rm.frames ∧ 8 + (maxL + 11) + rm1.locals ≤ rm.locals) (hn : As.length = n) (hst : st0 = As.reverse ++ .ref (ad 0) :: st) (hW8 : (st.map fun v => v.category).sum ≤ 8) (hcs : kc ≤ rm.cells ∧ ks ≤ rm.slots) (d : decode cc pc = .ok (.invokevirtual index, 3))
    (k : ∀ r g' a' c', P r g' a' c' → hw_J K (LW ad ad2 t qo h b e v) kc ks g' a' c' lv (pc + 3) (.int r :: st)) : hw_J K (LW ad ad2 t qo h b e v) kc ks g a c lv pc st0 :=
  hj_fVi (F h b e v) (Wc := WH ad t) (E := hw_oc t qo v :: WM ad2 t h b e) (g1 := g) (a1 := a) (c1 := c) (List.perm_append_comm (l₁ := hw_oc t qo v :: WM ad2 t h b e) (l₂ := WH ad t g a c)) [0, 1, 2, 3] rfl hC hG hw hz hd hR 0 3 rfl rfl hn hst hW8 hcs d (fun r g' a' c' hp => hj_pm (Wd2 := LW ad ad2 t qo h b e v) (g2 := g') (a2 := a') (c2 := c') (List.perm_append_comm (l₁ := WH ad t g' a' c') (l₂ := hw_oc t qo v :: WM ad2 t h b e)) (k r g' a' c' hp))
theorem hj_HVl (F : ∀ h b e v, hw_F K l D (LW ad ad2 t qo h b e v) (hw_TL t) X cc own Ts rm nL) {P : Int64 → hw_G → hw_A → Int64 → Prop} (hC : hw_Cl l D (WH ad t) (hw_T t) X y ws1 rm1 (.ref (ad 0) :: As) g a c P) (hG : GoodIn Ts (wsV own index RX3 y ws1)) (hw : ws1 = Cond.code y bytes maxL ret :: ws2) (hz : rm1.cells = 0 ∧ rm1.slots = 0) (hd : y.cls = RX3 ∧ y.cls ≠ "java/lang/invoke/MethodHandle" ∧ y.cls ≠ "java/lang/invoke/VarHandle" ∧ (parseMethodDescriptor y.desc).map (fun d => d.parameters.length) = some n) (hR : rm1.frames + 1 ≤ rm.frames ∧ 8 + (maxL + 11) + rm1.locals ≤ rm.locals) (hn : As.length = n) (hst : st0 = As.reverse ++ .ref (ad 0) :: st) (hW8 : (st.map fun v => v.category).sum ≤ 8) (hcs : kc ≤ rm.cells ∧ ks ≤ rm.slots) (d : decode cc pc = .ok (.invokevirtual index, 3))
    (k : ∀ r g' a' c', P r g' a' c' → hw_J K (LW ad ad2 t qo h b e v) kc ks g' a' c' lv (pc + 3) (.long r :: st)) : hw_J K (LW ad ad2 t qo h b e v) kc ks g a c lv pc st0 :=
  hj_fVl (F h b e v) (Wc := WH ad t) (E := hw_oc t qo v :: WM ad2 t h b e) (g1 := g) (a1 := a) (c1 := c) (List.perm_append_comm (l₁ := hw_oc t qo v :: WM ad2 t h b e) (l₂ := WH ad t g a c)) [0, 1, 2, 3] rfl hC hG hw hz hd hR 0 3 rfl rfl hn hst hW8 hcs d (fun r g' a' c' hp => hj_pm (Wd2 := LW ad ad2 t qo h b e v) (g2 := g') (a2 := a') (c2 := c') (List.perm_append_comm (l₁ := WH ad t g' a' c') (l₂ := hw_oc t qo v :: WM ad2 t h b e)) (k r g' a' c' hp))
/-- a call of the reference -/
theorem hj_MVi (F : ∀ h b e v, hw_F K l D (LW ad ad2 t qo h b e v) (hw_TL t) X cc own Ts rm nL) {P : Int32 → hw_G → hw_A → Int64 → Prop} (hC : hw_Ci l D (WM ad2 t) (hw_T t) X y ws1 rm1 (.ref (ad2 0) :: As) h b e P) (hG : GoodIn Ts (wsV own index RX4 y ws1)) (hw : ws1 = Cond.code y bytes maxL ret :: ws2) (hz : rm1.cells = 0 ∧ rm1.slots = 0) (hd : y.cls = RX4 ∧ y.cls ≠ "java/lang/invoke/MethodHandle" ∧ y.cls ≠ "java/lang/invoke/VarHandle" ∧ (parseMethodDescriptor y.desc).map (fun d => d.parameters.length) = some n) (hR : rm1.frames + 1 ≤ rm.frames ∧ 8 + (maxL + 11) + rm1.locals ≤ rm.locals) (hn : As.length = n) (hst : st0 = As.reverse ++ .ref (ad2 0) :: st) (hW8 : (st.map fun v => v.category).sum ≤ 8) (hcs : kc ≤ rm.cells ∧ ks ≤ rm.slots) (d : decode cc pc = .ok (.invokevirtual index, 3))
    (k : ∀ r h' b' e', P r h' b' e' → hw_J K (LW ad ad2 t qo h' b' e' v) kc ks g a c lv (pc + 3) (.int r :: st)) : hw_J K (LW ad ad2 t qo h b e v) kc ks g a c lv pc st0 :=
  hj_fVi (F h b e v) (Wc := WM ad2 t) (E := hw_oc t qo v :: WH ad t g a c) (g1 := h) (a1 := b) (c1 := e) (List.perm_middle (a := hw_oc t qo v) (l₁ := WM ad2 t h b e) (l₂ := WH ad t g a c)).symm [0, 1, 2, 3] rfl hC hG hw hz hd hR 0 4 rfl rfl hn hst hW8 hcs d (fun r h' b' e' hp => hj_pm (Wd2 := LW ad ad2 t qo h' b' e' v) (g2 := g) (a2 := a) (c2 := c) (List.perm_middle (a := hw_oc t qo v) (l₁ := WM ad2 t h' b' e') (l₂ := WH ad t g a c)) (k r h' b' e' hp))
theorem hj_MVl (F : ∀ h b e v, hw_F K l D (LW ad ad2 t qo h b e v) (hw_TL t) X cc own Ts rm nL) {P : Int64 → hw_G → hw_A → Int64 → Prop} (hC : hw_Cl l D (WM ad2 t) (hw_T t) X y ws1 rm1 (.ref (ad2 0) :: As) h b e P) (hG : GoodIn Ts (wsV own index RX4 y ws1)) (hw : ws1 = Cond.code y bytes maxL ret :: ws2) (hz : rm1.cells = 0 ∧ rm1.slots = 0) (hd : y.cls = RX4 ∧ y.cls ≠ "java/lang/invoke/MethodHandle" ∧ y.cls ≠ "java/lang/invoke/VarHandle" ∧ (parseMethodDescriptor y.desc).map (fun d => d.parameters.length) = some n) (hR : rm1.frames + 1 ≤ rm.frames ∧ 8 + (maxL + 11) + rm1.locals ≤ rm.locals) (hn : As.length = n) (hst : st0 = As.reverse ++ .ref (ad2 0) :: st) (hW8 : (st.map fun v => v.category).sum ≤ 8) (hcs : kc ≤ rm.cells ∧ ks ≤ rm.slots) (d : decode cc pc = .ok (.invokevirtual index, 3))
    (k : ∀ r h' b' e', P r h' b' e' → hw_J K (LW ad ad2 t qo h' b' e' v) kc ks g a c lv (pc + 3) (.long r :: st)) : hw_J K (LW ad ad2 t qo h b e v) kc ks g a c lv pc st0 :=
  hj_fVl (F h b e v) (Wc := WM ad2 t) (E := hw_oc t qo v :: WH ad t g a c) (g1 := h) (a1 := b) (c1 := e) (List.perm_middle (a := hw_oc t qo v) (l₁ := WM ad2 t h b e) (l₂ := WH ad t g a c)).symm [0, 1, 2, 3] rfl hC hG hw hz hd hR 0 4 rfl rfl hn hst hW8 hcs d (fun r h' b' e' hp => hj_pm (Wd2 := LW ad ad2 t qo h' b' e' v) (g2 := g) (a2 := a) (c2 := c) (List.perm_middle (a := hw_oc t qo v) (l₁ := WM ad2 t h' b' e') (l₂ := WH ad t g a c)) (k r h' b' e' hp))
/-- a call of a helper -/
theorem hj_hS (F : ∀ h b e v, hw_F K l D (LW ad ad2 t qo h b e v) (hw_TL t) X cc own Ts rm nL) {k : Nat} {hh : List (Nat × Nat × Nat × Nat)} {P : Int32 → hw_G → hw_A → Int64 → (Nat → Int64) → Prop} (hC : hw_Hi l D ad t qo X y ws1 rm1 k As g a c v P) (hG : GoodIn Ts (va_wsS own index y ws1)) (hw : ws1 = Cond.codeWith y bytes maxL ret hh :: ws2) (hz : rm1.cells = k ∧ rm1.slots = 6 * k) (hd : y.cls ≠ "java/lang/invoke/MethodHandle" ∧ y.cls ≠ "java/lang/invoke/VarHandle" ∧ (parseMethodDescriptor y.desc).map (fun d => d.parameters.length) = some n) (hR : rm1.frames + 1 ≤ rm.frames ∧ 8 + (maxL + 11) + rm1.locals ≤ rm.locals) (hn : As.length = n) (hst : st0 = As.reverse ++ st) (hW8 : (st.map fun v => v.category).sum ≤ 8) (hcs : kc + k ≤ rm.cells ∧ ks + 6 * k ≤ rm.slots) (d : decode cc pc = .ok (.invokestatic index, 3))
    (kk : ∀ r g' a' c' v', P r g' a' c' v' → hw_J K (LW ad ad2 t qo h b e v') (kc + k) (ks + 6 * k) g' a' c' lv (pc + 3) (.int r :: st)) : hw_J K (LW ad ad2 t qo h b e v) kc ks g a c lv pc st0 := by
  have F := F h b e v
  obtain ⟨p, l, e0, R, s, m, args, below, meth, cd, Q, D, A, nL⟩ := K
  obtain ⟨rfl, rfl, rfl, rfl, hx, hb, hml, hown, hts, hK, hD0, hA, hlk, hok, hX⟩ := F
  intro H locs ls hP0 hS hl
  have hp : (LW ad ad2 t qo h b e v g a c).Perm (HW ad t qo v g a c ++ WM ad2 t h b e) := (List.perm_append_comm (l₁ := WM ad2 t h b e) (l₂ := WH ad t g a c)).cons (hw_oc t qo v)
  have hback : ∀ v' g' a' c', (HW ad t qo v' g' a' c' ++ WM ad2 t h b e).Perm (LW ad ad2 t qo h b e v' g' a' c') := fun v' g' a' c' => (List.perm_append_comm (l₁ := WH ad t g' a' c') (l₂ := WM ad2 t h b e)).cons (hw_oc t qo v')
  have hP1 := hw_Pp hP0 hp
  have hD1 := hw_Dp (hD0 g a c) hp
  have hP := hw_Pl hP1
  have hD := hw_Dl hD1
  have hfree : ∀ q, va_A (HW ad t qo v g a c) H.size q → A q := fun q hq => hq.elim (fun ⟨k, e, hk⟩ => hD.2 k _ hk) (fun h => hA q (Nat.le_trans hS.1 h))
  have hXf : ∀ U : State, s.WarmedH U.vm → X (va_A (HW ad t qo v g a c) H.size) U H := fun U hW => hok.2.2.1 _ _ _ _ (hok.1 _ _ _ _ hW (hok.2.1 _ _ _ _ hX hS.2.1)) hfree
  subst hst
  exact va_calli (S := hw_S × (Nat → Int64)) (vx_runSW (As := As) (rest := st) (hh := hh) ⟨hx, hb, hml, hown, hts⟩ (hC H.size) (vx_cwSW n hts hG hw hz.1 hz.2 hd hR) ⟨hw_blind hok, fun U hU hW => ⟨rfl, by rw [hU], by rw [hU]; exact hP, va_K.moved hW.alike hK, hD.weaken (fun _ _ _ _ => trivial), by rw [hU]; exact hXf U hW⟩⟩ rfl hn hl.1 rfl (lv_room hW8) d ⟨hcs.1, hcs.2⟩) hS (fun q _ hq => hfree q hq) hfree (fun r u T H1 locs1 ht hvm hw hB hz1 hk1 hS1 => kk r u.1.1 u.1.2.1 u.1.2.2 u.2 hw H1 locs1 ls (hw_Pp (va_P.app (by rw [← ht]; exact hB) (hw_keep hP1 hD1 hk1)) (hback _ _ _ _)) hS1 hl)
end HWH
