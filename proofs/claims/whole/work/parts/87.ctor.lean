/-! CONSTRUCTORS: a world that grows: A the cells by name, B a block of rows -/
def hw_c (ws : va_W) : hw_W := fun _ _ _ => ws
def hw_rn (n mc ms : Nat) : Room := { frames := n, cells := mc, slots := ms, locals := 64 * n }
def hw_g0 : hw_G := fun _ => 0
def hw_a0 : hw_A := fun _ _ => 0
def hw_in (K : hw_K) : Prop := match K with
  | (_, _, _, _, _, _, _, _, meth, _, _, _, _, _) => meth.name = "<init>"
theorem pm_x {α : Type} (A B : List α) (x : α) : ((A ++ B) ++ [x]).Perm ((A ++ [x]) ++ B) := by
  rw [List.append_assoc, List.append_assoc]
  exact List.perm_append_comm.append_left A
theorem pm_last {α : Type} (A B : List α) (x : α) : ((A ++ [x]) ++ B).Perm ([x] ++ (A ++ B)) := by
  rw [← List.append_assoc]
  exact List.perm_append_comm.append_right B
theorem pm_blk {α : Type} (L Rw A B : List α) : ((L ++ Rw) ++ (A ++ B)).Perm ((L ++ A) ++ (Rw ++ B)) := by
  rw [List.append_assoc, List.append_assoc]
  exact (List.perm_append_comm_assoc Rw A B).append_left L
theorem pm_rng {α : Type} : ∀ A : List α, (List.range A.length).filterMap (fun i => A[i]?) = A
  | [] => rfl
  | x :: xs => by
    rw [List.length_cons, List.range_succ_eq_map, List.filterMap_cons, List.filterMap_map]
    exact congrArg (x :: ·) (pm_rng xs)
/-- a list's cells in another order -/
theorem pm_idx {α : Type} (A : List α) (is : List Nat) (n : Nat) (hn : A.length = n) (h : is.Perm (List.range n)) : A.Perm (is.filterMap (fun i => A[i]?)) := by
  rw [← hn] at h
  have h1 := (h.filterMap (fun i => A[i]?)).symm
  rw [pm_rng] at h1
  exact h1
/-- behind a constructor: its world beside the rest -/
theorem hw_joinD {D : va_G} {cl : List vw_C} {A : Nat → Prop} {w1 w2 E : va_W} {H : Heap} (hP : va_P D cl (w1 ++ E) H) (hD : va_D A (w1 ++ E)) (hF : ∀ q, va_A w1 H.size q → A q) (hD1 : va_D (va_A w1 H.size) w2) : va_D A (w2 ++ E) := by
  refine hw_Dm.mpr ⟨List.pairwise_append.mpr ⟨(hw_Dm.mp hD1).1, (List.pairwise_append.mp (hw_Dm.mp hD).1).2.1, fun x hx y hy e => ?_⟩, fun q hq => ?_⟩
  · have h1 := (hw_Dm.mp hD1).2 x hx
    rw [e] at h1
    rcases h1 with ⟨k, z, hz⟩ | h1
    · exact (List.pairwise_append.mp (hw_Dm.mp hD).1).2.2 (y.1, z) (List.mem_of_getElem? hz) y hy rfl
    · exact absurd (hw_Pm.mp hP y (List.mem_append_right _ hy)).lt (Nat.not_lt.mpr h1)
  · rcases List.mem_append.mp hq with h | h
    · exact hF _ ((hw_Dm.mp hD1).2 q h)
    · exact (hw_Dm.mp hD).2 q (List.mem_append_right _ h)
section HWN
variable {K : hw_K} {l : Launch} {D : va_G} {Wd : hw_W} {tys : List (ClassId × FieldType)} {X : hw_XT} {cc : ByteArray} {own : String} {Ts : List Cond} {rm : Room} {nL : Nat} {kc ks : Nat} {g : hw_G} {a : hw_A} {c : Int64} {lv : List (Nat × Value)} {pc : Nat} {st : List Value} {A B : va_W}
theorem hn_obj (F : hw_F K l D Wd tys X cc own Ts rm nL) {idx : Nat} (h1 : Cond.methodLink own idx objectInit ∈ Ts) (h2 : Cond.instanceMethod objectInit ∈ Ts) (h3 : Cond.code objectInit ⟨#[0xb1]⟩ 1 none ∈ Ts) {q : Nat} (hf : 1 ≤ rm.frames) (hlo : (st.map fun v => v.category).sum + 12 ≤ rm.locals) (d : decode cc pc = .ok (.invokespecial idx, 3)) (h : hw_J K Wd kc ks g a c lv (pc + 3) st) : hw_J K Wd kc ks g a c lv pc (.ref q :: st) := by
  obtain ⟨p, l, e, R, s, m, args, below, meth, cd, Q, D, A, nL⟩ := K
  obtain ⟨rfl, rfl, rfl, rfl, hx, hb, hml, hown, hts, hK, hD, hA, hlk, hok, hX⟩ := F
  intro H locs ls hP hS hl
  exact W.objInit hx hb hown (hts _ h1) (hts _ h2) (hts _ h3) rfl (hl.1.trans hml.symm) rfl d hf (by show 2 * 0 + _ + 12 ≤ _; omega) (h H locs ls hP hS hl)
theorem hn_newa (F : hw_F K l D (hw_c (A ++ B)) tys X cc own Ts rm nL) {atype : ArrayType} {ty : FieldType} (harr : Cond.arrayClass ty ∈ Ts) (hty : newarray.typeOf atype = ty) (t0 : Nat) {cA : ClassId} (ht : tys[t0]? = some (cA, ty)) (hra : ∀ (U : State) (c : ClassId), va_RA U c ty → U.vm.findClass ("[" ++ ty.toString) = some c) {n : Int32} {N : Nat} {a0 : vp_A} (ha : ∀ cA : ClassId, vp_cell cA a0 = arrV cA N (fun _ => defaultValue ty)) (hn : ¬ n < 0) (hN : n.toNatClampNeg = N) (hbytes : N * componentBytes ty ≤ 536870912) (hcells : kc + 1 ≤ rm.cells) (hslots : ks + N ≤ rm.slots) (d : decode cc pc = .ok (.newarray atype, 2)) {A2 : Nat → va_W} (hA2 : ∀ q, A ++ [(q, .inl (cA, a0))] = A2 q)
    (kk : ∀ q, hw_F K l D (hw_c (A2 q ++ B)) tys X cc own Ts rm nL → hw_J K (hw_c (A2 q ++ B)) (kc + 1) (ks + N) g a c lv (pc + 2) (.ref q :: st)) : hw_J K (hw_c (A ++ B)) kc ks g a c lv pc (.int n :: st) := by
  obtain ⟨p, l, e, R, s, m, args, below, meth, cd, Q, D, AA, nL⟩ := K
  obtain ⟨rfl, rfl, rfl, rfl, hx, hb, hml, hown, hts, hK, hD, hA, hlk, hok, hX⟩ := F
  intro H locs ls hP hS hl
  refine va_newa hx hb (by rw [hty]; exact hts _ harr) hty hK hP (hD g a c) hS hA ha hn hN hbytes hcells hslots d (fun q cA' H1 hK1 hP1 hD1 hS1 => ?_)
  have e1 : va_RA s cA' ty := (hK1.2 tys.length (cA', ty) (by rw [List.getElem?_append_right (Nat.le_refl _), Nat.sub_self]; rfl)).2
  have e2 := hra _ _ e1
  rw [hra _ _ (hK.2 t0 _ ht).2] at e2
  obtain rfl : cA = cA' := Option.some.inj e2
  have pm := pm_x A B (q, .inl (cA, a0))
  rw [hA2 q] at pm
  exact kk q ⟨rfl, rfl, rfl, rfl, hx, hb, hml, hown, hts, hK, fun _ _ _ => hw_Dp hD1 pm, hA, hlk, hok, hX⟩ H1 locs ls (hw_Pp hP1 pm) hS1 hl
theorem hn_put (F : hw_F K l D (hw_c (A ++ B)) tys X cc own Ts rm nL) {index ci N : Nat} {C : String} {T : u_T} (hin : ∀ w ∈ u_ws C T N, w ∈ Ts) {ty0 : Nat → FieldType} (hty : ∀ k, k < N → parseFieldDescriptor (T k).2.2.1 = some (ty0 k)) (hnm : ∀ a, a < N → ∀ b, b < N → a ≠ b → (T a).2.1 ≠ (T b).2.1) (q0 : Nat) {b : Nat} {fs : List Value} (he : A[q0]? = some (b, .inr (ci, fs))) (hc : vwCl[ci]? = some (C, T, N)) (k : Nat) (hk : k < N) (hlink : Cond.fieldLink own index (T k).1 (T k).2.1 (T k).2.2.1 ∈ Ts) (hfin : (T k).2.2.2 = false) {ty : FieldType} {v : Value} (hd : parseFieldDescriptor (T k).2.2.1 = some ty) (hn : narrow ty v = v) (hfit : fits ty v = true) (hl' : k < fs.length) {A2 : va_W} (hA2 : A.set q0 (b, .inr (ci, fs.set k v)) = A2) (d : decode cc pc = .ok (.putfield index, 3))
    (kk : hw_F K l D (hw_c (A2 ++ B)) tys X cc own Ts rm nL → hw_J K (hw_c (A2 ++ B)) kc ks g a c lv (pc + 3) st) : hw_J K (hw_c (A ++ B)) kc ks g a c lv pc (v :: .ref b :: st) := by
  obtain ⟨p, l, e, R, s, m, args, below, meth, cd, Q, D, AA, nL⟩ := K
  obtain ⟨rfl, rfl, rfl, rfl, hx, hb, hml, hown, hts, hK, hD, hA, hlk, hok, hX⟩ := F
  intro H locs ls hP hS hl
  have hq : q0 < A.length := (List.getElem?_eq_some_iff.mp he).1
  have e1 : (A ++ B).set q0 (b, .inr (ci, fs.set k v)) = A2 ++ B := by rw [List.set_append_left _ _ hq, hA2]
  exact va_put (ws := A ++ B) hx hb hts hin ty0 hty hnm hown hK hP (hD g a c) hS q0 (by rw [List.getElem?_append_left hq]; exact he) hc k hk (hts _ hlink) (fun _ q => q) hfin hd hn hfit hl' d (fun H1 locs1 hP1 hD1 hS1 => by
    rw [e1] at hP1 hD1
    exact kk ⟨rfl, rfl, rfl, rfl, hx, hb, hml, hown, hts, hK, fun _ _ _ => hD1, hA, hlk, hok, hX⟩ H1 locs1 ls hP1 hS1 hl)
theorem hn_putF (F : hw_F K l D (hw_c (A ++ B)) tys X cc own Ts rm nL) (hI : hw_in K) {index ci N : Nat} {C : String} {T : u_T} (hin : ∀ w ∈ u_ws C T N, w ∈ Ts) {ty0 : Nat → FieldType} (hty : ∀ k, k < N → parseFieldDescriptor (T k).2.2.1 = some (ty0 k)) (hnm : ∀ a, a < N → ∀ b, b < N → a ≠ b → (T a).2.1 ≠ (T b).2.1) (q0 : Nat) {b : Nat} {fs : List Value} (he : A[q0]? = some (b, .inr (ci, fs))) (hc : vwCl[ci]? = some (C, T, N)) (k : Nat) (hk : k < N) (hlink : Cond.fieldLink own index (T k).1 (T k).2.1 (T k).2.2.1 ∈ Ts) (hfin : (T k).2.2.2 = true) (hdecl : (T k).1 = own) {ty : FieldType} {v : Value} (hd : parseFieldDescriptor (T k).2.2.1 = some ty) (hn : narrow ty v = v) (hfit : fits ty v = true) (hl' : k < fs.length) {A2 : va_W} (hA2 : A.set q0 (b, .inr (ci, fs.set k v)) = A2) (d : decode cc pc = .ok (.putfield index, 3))
    (kk : hw_F K l D (hw_c (A2 ++ B)) tys X cc own Ts rm nL → hw_J K (hw_c (A2 ++ B)) kc ks g a c lv (pc + 3) st) : hw_J K (hw_c (A ++ B)) kc ks g a c lv pc (v :: .ref b :: st) := by
  obtain ⟨p, l, e, R, s, m, args, below, meth, cd, Q, D, AA, nL⟩ := K
  obtain ⟨rfl, rfl, rfl, rfl, hx, hb, hml, hown, hts, hK, hD, hA, hlk, hok, hX⟩ := F
  intro H locs ls hP hS hl
  have hq : q0 < A.length := (List.getElem?_eq_some_iff.mp he).1
  have e1 : (A ++ B).set q0 (b, .inr (ci, fs.set k v)) = A2 ++ B := by rw [List.set_append_left _ _ hq, hA2]
  exact va_putF (ws := A ++ B) hx hb hts hin ty0 hty hnm hown hK hP (hD g a c) hS q0 (by rw [List.getElem?_append_left hq]; exact he) hc k hk (hts _ hlink) (fun _ q => q) hfin hI hdecl hd hn hfit hl' d (fun H1 locs1 hP1 hD1 hS1 => by
    rw [e1] at hP1 hD1
    exact kk ⟨rfl, rfl, rfl, rfl, hx, hb, hml, hown, hts, hK, fun _ _ _ => hD1, hA, hlk, hok, hX⟩ H1 locs1 ls hP1 hS1 hl)
theorem hn_new (F : hw_F K l D (hw_c (A ++ B)) tys X cc own Ts rm nL) {C : String} {T : u_T} {N ci index : Nat} (hin : ∀ w ∈ u_ws C T N, w ∈ Ts) {ty : Nat → FieldType} (hty : ∀ k, k < N → parseFieldDescriptor (T k).2.2.1 = some (ty k)) (hcl : Cond.classLink own index C ∈ Ts) (hinst : Cond.instantiable C N ∈ Ts) (hini : Cond.initialized C ∈ Ts) (hc : vwCl[ci]? = some (C, T, N)) {fs : List Value} (hfs : ∀ j, j < N → defaultValue (ty j) = vp_V fs j) (hcells : kc + 1 ≤ rm.cells) (hslots : ks + N ≤ rm.slots) (d : decode cc pc = .ok (.new index, 3)) {A2 : Nat → va_W} (hA2 : ∀ q, A ++ [(q, .inr (ci, fs))] = A2 q)
    (kk : ∀ q, hw_F K l D (hw_c (A2 q ++ B)) tys X cc own Ts rm nL → hw_J K (hw_c (A2 q ++ B)) (kc + 1) (ks + N) g a c lv (pc + 3) (.ref q :: st)) : hw_J K (hw_c (A ++ B)) kc ks g a c lv pc st := by
  obtain ⟨p, l, e, R, s, m, args, below, meth, cd, Q, D, AA, nL⟩ := K
  obtain ⟨rfl, rfl, rfl, rfl, hx, hb, hml, hown, hts, hK, hD, hA, hlk, hok, hX⟩ := F
  intro H locs ls hP hS hl
  refine va_new hx hb hts hin ty hty hown (hts _ hcl) (hts _ hinst) (hts _ hini) hK hP (hD g a c) hS hA hc hfs hcells hslots d (fun q H1 hP1 hD1 hS1 => ?_)
  have pm := pm_x A B (q, .inr (ci, fs))
  rw [hA2 q] at pm
  exact kk q ⟨rfl, rfl, rfl, rfl, hx, hb, hml, hown, hts, hK, fun _ _ _ => hw_Dp hD1 pm, hA, hlk, hok, hX⟩ H1 locs ls (hw_Pp hP1 pm) hS1 hl
def hw_rws (t : Nat → ClassId) (N w : Nat) (r : Nat → Nat) : va_W := (List.range N).map (fun i => (r i, .inl (t 0, w, .inl (fun _ => 0))))
theorem pl_rws {t : Nat → ClassId} {N w : Nat} {r : Nat → Nat} {f : Nat → va_E} : va_pl ([] ++ (List.range N).map r) (vr_up f ((List.range N).map r) (.inl (t 0, w, .inl (fun _ => 0)))) = hw_rws t N w r := by
  unfold va_pl hw_rws
  rw [List.nil_append, List.map_map]
  refine List.map_congr_left (fun i hi => ?_)
  show (r i, vr_up f ((List.range N).map r) (.inl (t 0, w, .inl (fun _ => 0))) (r i)) = _
  rw [vr_up_in (List.mem_map.mpr ⟨i, hi, rfl⟩)]
theorem hn_mna {t : Nat → ClassId} (F : hw_F K l D (hw_c (A ++ B)) (hw_T t) X cc own Ts rm nL) (hao : ∀ (A : Nat → Prop) (U : State) (H : Heap), X A U H → va_AOA .int U) {index : Nat} (hcl : Cond.classLink own index "[[I" ∈ Ts) (harr : Cond.arrayClass .int ∈ Ts) {n k : Int32} {N w : Nat} (hn : ¬ n < 0) (hk : ¬ k < 0) (hN : n.toNatClampNeg = N) (hw : k.toNatClampNeg = w) (hb1 : N * 4 ≤ 536870912) (hb2 : w * 4 ≤ 536870912) (hcells : kc + (1 + N) ≤ rm.cells) (hslots : ks + (N + N * w) ≤ rm.slots) (d : decode cc pc = .ok (.multianewarray index 2, 4)) {A2 : Nat → (Nat → Nat) → va_W} (hA2 : ∀ q r, A ++ [(q, .inl (t 3, N, .inr (.inr (.inr (.inr (fun i => if i < N then some (r i) else none))))))] = A2 q r)
    (kk : ∀ q r, hw_F K l D (hw_c (A2 q r ++ (B ++ hw_rws t N w r))) (hw_T t) X cc own Ts rm nL → hw_J K (hw_c (A2 q r ++ (B ++ hw_rws t N w r))) (kc + 1 + N) (ks + N + N * w) g a c lv (pc + 4) (.ref q :: st)) : hw_J K (hw_c (A ++ B)) kc ks g a c lv pc (.int k :: .int n :: st) := by
  obtain ⟨p, l, e, R, s, m, args, below, meth, cd, Q, D, AA, nL⟩ := K
  obtain ⟨rfl, rfl, rfl, rfl, hx, hb, hml, hown, hts, hK, hD, hA, hlk, hok, hX⟩ := F
  intro H locs ls hP hS hl
  have hP0 : va_P D vwCl ((A ++ B) ++ va_pl [] (fun _ => .inl (t 0, 0, .inl (fun _ => 0)))) H := by
    show va_P D vwCl ((A ++ B) ++ []) H
    rw [List.append_nil]
    exact hP
  have hD0 : va_D AA ((A ++ B) ++ va_pl [] (fun _ => .inl (t 0, 0, .inl (fun _ => 0)))) := by
    show va_D AA ((A ++ B) ++ [])
    rw [List.append_nil]
    exact hD g a c
  have es : "[" ++ (FieldType.array .int).toString = "[[I" := by decide +kernel
  refine va_mna (ty := .int) (cy := t 0) (z := (w, .inl (fun _ => 0))) hx hb hown (by rw [es]; exact hts _ hcl) (hao _ _ _ hX) (hts _ harr) (hK.2 0 _ rfl).2 hK hP0 hD0 hS hA hn hk hN hw hb1 hb2 (by omega) rfl rfl hcells hslots (fun c9 => by rw [vp_cell_i]; exact arrV_new _ _ _) d (fun q r cA H1 _ _ hK1 hP1 hD1 hS1 => ?_)
  have e1 : va_RA s cA (.array .int) := (hK1.2 4 (cA, .array .int) rfl).2
  have e0 : va_RA s (t 3) (.array .int) := (hK.2 3 _ rfl).2
  obtain rfl : t 3 = cA := Option.some.inj (e0.symm.trans e1)
  rw [pl_rws] at hP1 hD1
  have pm := (pm_x A B (q, (.inl (t 3, N, .inr (.inr (.inr (.inr (fun i => if i < N then some (r i) else none))))) : va_E))).append_right (hw_rws t N w r)
  rw [hA2 q r] at pm
  have pm := pm.trans (List.Perm.of_eq (List.append_assoc _ _ _))
  exact kk q r ⟨rfl, rfl, rfl, rfl, hx, hb, hml, hown, hts, hK, fun _ _ _ => hw_Dp hD1 pm, hA, hlk, hok, hX⟩ H1 locs ls (hw_Pp hP1 pm) hS1 hl
end HWN
/-- a constructor's contract: from the bare object q to the world W2 u, u the addresses -/
def hw_N (l : Launch) (D : va_G) (tys : List (ClassId × FieldType)) (X : hw_XT) (y : MethodName) (ws : List Cond) (rm : Room) (mc ms q ci : Nat) (fs : List Value) (P : (Nat → Nat) → Prop) (W2 : (Nat → Nat) → va_W) : Prop :=
  ∀ sz : Nat, Met l y ws rm (va_Pc [.ref q] (hw_Pre D (hw_c [(q, .inr (ci, fs))]) tys X hw_g0 hw_a0 0 sz)) (va_Qv (S := Nat → Nat) P (fun u T => va_P D vwCl (W2 u) T.heap ∧ va_D (va_A [(q, .inr (ci, fs))] sz) (W2 u)) (va_A [(q, .inr (ci, fs))] sz)) mc ms (va_A [(q, .inr (ci, fs))] sz)
theorem hw_N.mk {l : Launch} {D : va_G} {tys : List (ClassId × FieldType)} {X : hw_XT} {y : MethodName} {ws ws' : List Cond} {rm : Room} {mc ms q ci : Nat} {fs : List Value} {P : (Nat → Nat) → Prop} {W2 : (Nat → Nat) → va_W} {cc : ByteArray}
    (hy : plainName y.cls = true) (hyn : y.name = "<init>") (hw : ws = Cond.code y cc 1 none :: ws') (hok : hw_XOK X)
    (body : ∀ K : hw_K, hw_F K l D (hw_c ([(q, .inr (ci, fs))] ++ [])) tys X cc y.cls ws rm 1 → hw_in K → (∀ {kc ks : Nat} {Wl : va_W} {lv : List (Nat × Value)} {pc : Nat} (u : Nat → Nat), kc ≤ mc → ks ≤ ms → decode cc pc = .ok (.return_, 1) → P u → Wl.Perm (W2 u) → hw_F K l D (hw_c Wl) tys X cc y.cls ws rm 1 → hw_J K (hw_c Wl) kc ks hw_g0 hw_a0 0 lv pc []) → hw_J K (hw_c ([(q, .inr (ci, fs))] ++ [])) 0 0 hw_g0 hw_a0 0 [(0, .ref q)] 0 []) : hw_N l D tys X y ws rm mc ms q ci fs P W2 := by
  intro sz
  refine Met.ofW (cc := cc) (maxL := 1) (ret := none) hy hw ?_
  intro p e s m args below meth cd s₁ B hml hv
  obtain ⟨rfl, hsz, hP, hK, hD0, hX⟩ := hv
  have hx := B.exec
  have hb := B.bytes
  have hr := B.returns
  have hts := atoms_spec (ws := ws) B.pre
  have hown : s.vm.findClass y.cls = some m.cls := findClass_of_methodNamed B.named
  have hlocks := B.notSynchronized
  have hin : meth.name = "<init>" := (name_of_methodNamed B.named B.method).1.trans hyn
  subst hsz
  have hD := hD0.self (sz := s.heap.size)
  rw [lg_entry_eq]
  have hl := lv_entry [.ref q] (n := 1) (Nat.le_of_ble_eq_true rfl)
  exact body (p, l, e, rm, s, m, [Value.ref q].toArray, below, meth, cd, _, D, va_A [(q, .inr (ci, fs))] s.heap.size, 1) ⟨rfl, rfl, rfl, rfl, hx, hb, hml, hown, hts, hK, fun _ _ _ => hD, fun q h => Or.inr h, hlocks, hok, hX⟩ hin
    (fun {kc ks Wl lv pc} u h1 h2 d hp pm F H locs ls hP hS hl => by
      obtain ⟨-, -, -, -, -, -, -, -, -, -, hD9, -⟩ := F
      exact W.widen h1 h2 (W.vret hx hb hr (fun T ht hW => ⟨⟨u, rfl, hp, by rw [ht]; exact hw_Pp hP pm, hw_Dp (hD9 hw_g0 hw_a0 0) pm⟩, hS.F ht⟩) hS.2.2 d hlocks)) s.heap [] _ hP va_S.rf hl
section HWO
variable {K : hw_K} {l : Launch} {D : va_G} {tys tyc : List (ClassId × FieldType)} {X : hw_XT} {cc : ByteArray} {own : String} {Ts : List Cond} {rm : Room} {nL : Nat} {kc ks : Nat} {g : hw_G} {a : hw_A} {c : Int64} {lv : List (Nat × Value)} {pc : Nat} {st : List Value} {A B : va_W}
variable {y : MethodName} {ws1 ws2 : List Cond} {rm1 : Room} {bytes : ByteArray} {maxL index mc ms q ci : Nat} {fs : List Value} {P : (Nat → Nat) → Prop} {W2 : (Nat → Nat) → va_W}
/-- a nest mate's constructor over the newest cell -/
theorem hn_ctN (F : hw_F K l D (hw_c ((A ++ [(q, .inr (ci, fs))]) ++ B)) tys X cc own Ts rm nL) (is : List Nat) (hty : is.filterMap (fun i => tys[i]?) = tyc) (hC : hw_N l D tyc X y ws1 rm1 mc ms q ci fs P W2) (hG : GoodIn Ts ws1) {host : String} (hN : ∀ (A : Nat → Prop) (U : State) (H : Heap), X A U H → va_Nw (.methodLinkNest own index y host) U) (hini : Cond.initialized y.cls ∈ Ts) (hins : Cond.instanceMethod y ∈ Ts) (hyn : y.name = "<init>") (hw : ws1 = Cond.code y bytes maxL none :: ws2) (hz : rm1.cells = mc ∧ rm1.slots = ms) (hd : y.cls ≠ "java/lang/invoke/MethodHandle" ∧ y.cls ≠ "java/lang/invoke/VarHandle" ∧ (parseMethodDescriptor y.desc).map (fun d => d.parameters.length) = some 0) (hR : rm1.frames + 1 ≤ rm.frames ∧ 8 + (maxL + 11) + rm1.locals ≤ rm.locals) (hW8 : (st.map fun v => v.category).sum ≤ 8) (hcs : kc + mc ≤ rm.cells ∧ ks + ms ≤ rm.slots) (d : decode cc pc = .ok (.invokespecial index, 3)) {A2 B2 : (Nat → Nat) → va_W} (pm : ∀ u, (W2 u ++ (A ++ B)).Perm (A2 u ++ B2 u))
    (kk : ∀ u, P u → hw_F K l D (hw_c (A2 u ++ B2 u)) tys X cc own Ts rm nL → hw_J K (hw_c (A2 u ++ B2 u)) (kc + mc) (ks + ms) g a c lv (pc + 3) st) : hw_J K (hw_c ((A ++ [(q, .inr (ci, fs))]) ++ B)) kc ks g a c lv pc (.ref q :: st) := by
  obtain ⟨p, l, e, R, s, m, args, below, meth, cd, Q, D, AA, nL⟩ := K
  obtain ⟨rfl, rfl, rfl, rfl, hx, hb, hml, hown, hts, hK0, hD0, hA, hlk, hok, hX⟩ := F
  intro H locs ls hP0 hS hl
  have hp := pm_last A B (q, (.inr (ci, fs) : va_E))
  have hP1 := hw_Pp hP0 hp
  have hD1 := hw_Dp (hD0 g a c) hp
  have hP := hw_Pl hP1
  have hD := hw_Dl hD1
  have hK := hK0.sub is hty
  have hfree : ∀ x, va_A [(q, .inr (ci, fs))] H.size x → AA x := fun x hq => hq.elim (fun ⟨k, e, hk⟩ => hD.2 k _ hk) (fun h => hA x (Nat.le_trans hS.1 h))
  have hXf : ∀ U : State, s.WarmedH U.vm → X (va_A [(q, .inr (ci, fs))] H.size) U H := fun U hW => hok.2.2.1 _ _ _ _ (hok.1 _ _ _ _ hW (hok.2.1 _ _ _ _ hX hS.2.1)) hfree
  exact va_callv (S := Nat → Nat) (va_runIN (As := []) (rest := st) ⟨hx, hb, hml, hown, hts⟩ (hC H.size) ⟨va_cnB 0 hts hG hw hz.1 hz.2 (hN _ _ _ hX) (hts _ hini) hd hR, hyn, hts _ hins⟩ ⟨hw_blind hok, fun U hU hW => ⟨rfl, by rw [hU], by rw [hU]; exact hP, va_K.moved hW.alike hK, hD.weaken (fun _ _ _ _ => trivial), by rw [hU]; exact hXf U hW⟩⟩ rfl rfl hl.1 rfl (lv_room hW8) d ⟨hcs.1, hcs.2⟩) hS (fun x _ hq => hfree x hq) hfree (fun u T H1 locs1 ht hvm hw9 hB hz1 hk1 hS1 => kk u hw9 ⟨rfl, rfl, rfl, rfl, hx, hb, hml, hown, hts, hK0, fun _ _ _ => hw_Dp (hw_joinD hP1 hD1 hfree hB.2) (pm u), hA, hlk, hok, hX⟩ H1 locs1 ls (hw_Pp (va_P.app (by rw [← ht]; exact hB.1) (hw_keep hP1 hD1 hk1)) (pm u)) hS1 hl)
/-- a constructor over the newest cell -/
theorem hn_ct (F : hw_F K l D (hw_c ((A ++ [(q, .inr (ci, fs))]) ++ B)) tys X cc own Ts rm nL) (is : List Nat) (hty : is.filterMap (fun i => tys[i]?) = tyc) (hC : hw_N l D tyc X y ws1 rm1 mc ms q ci fs P W2) (hG : GoodIn Ts ws1) (hlk2 : Cond.methodLink own index y ∈ Ts) (hini : Cond.initialized y.cls ∈ Ts) (hins : Cond.instanceMethod y ∈ Ts) (hyn : y.name = "<init>") (hw : ws1 = Cond.code y bytes maxL none :: ws2) (hz : rm1.cells = mc ∧ rm1.slots = ms) (hd : y.cls ≠ "java/lang/invoke/MethodHandle" ∧ y.cls ≠ "java/lang/invoke/VarHandle" ∧ (parseMethodDescriptor y.desc).map (fun d => d.parameters.length) = some 0) (hR : rm1.frames + 1 ≤ rm.frames ∧ 8 + (maxL + 11) + rm1.locals ≤ rm.locals) (hW8 : (st.map fun v => v.category).sum ≤ 8) (hcs : kc + mc ≤ rm.cells ∧ ks + ms ≤ rm.slots) (d : decode cc pc = .ok (.invokespecial index, 3)) {A2 B2 : (Nat → Nat) → va_W} (pm : ∀ u, (W2 u ++ (A ++ B)).Perm (A2 u ++ B2 u))
    (kk : ∀ u, P u → hw_F K l D (hw_c (A2 u ++ B2 u)) tys X cc own Ts rm nL → hw_J K (hw_c (A2 u ++ B2 u)) (kc + mc) (ks + ms) g a c lv (pc + 3) st) : hw_J K (hw_c ((A ++ [(q, .inr (ci, fs))]) ++ B)) kc ks g a c lv pc (.ref q :: st) := by
  obtain ⟨p, l, e, R, s, m, args, below, meth, cd, Q, D, AA, nL⟩ := K
  obtain ⟨rfl, rfl, rfl, rfl, hx, hb, hml, hown, hts, hK0, hD0, hA, hlk, hok, hX⟩ := F
  intro H locs ls hP0 hS hl
  have hp := pm_last A B (q, (.inr (ci, fs) : va_E))
  have hP1 := hw_Pp hP0 hp
  have hD1 := hw_Dp (hD0 g a c) hp
  have hP := hw_Pl hP1
  have hD := hw_Dl hD1
  have hK := hK0.sub is hty
  have hfree : ∀ x, va_A [(q, .inr (ci, fs))] H.size x → AA x := fun x hq => hq.elim (fun ⟨k, e, hk⟩ => hD.2 k _ hk) (fun h => hA x (Nat.le_trans hS.1 h))
  have hXf : ∀ U : State, s.WarmedH U.vm → X (va_A [(q, .inr (ci, fs))] H.size) U H := fun U hW => hok.2.2.1 _ _ _ _ (hok.1 _ _ _ _ hW (hok.2.1 _ _ _ _ hX hS.2.1)) hfree
  exact va_callv (S := Nat → Nat) (va_runI (As := []) (rest := st) ⟨hx, hb, hml, hown, hts⟩ (hC H.size) (cwI 0 hts hG hw hz.1 hz.2 (hts _ hini) (hts _ hlk2) (hts _ hins) hyn hd hR) ⟨hw_blind hok, fun U hU hW => ⟨rfl, by rw [hU], by rw [hU]; exact hP, va_K.moved hW.alike hK, hD.weaken (fun _ _ _ _ => trivial), by rw [hU]; exact hXf U hW⟩⟩ rfl rfl hl.1 rfl (lv_room hW8) d ⟨hcs.1, hcs.2⟩) hS (fun x _ hq => hfree x hq) hfree (fun u T H1 locs1 ht hvm hw9 hB hz1 hk1 hS1 => kk u hw9 ⟨rfl, rfl, rfl, rfl, hx, hb, hml, hown, hts, hK0, fun _ _ _ => hw_Dp (hw_joinD hP1 hD1 hfree hB.2) (pm u), hA, hlk, hok, hX⟩ H1 locs1 ls (hw_Pp (va_P.app (by rw [← ht]; exact hB.1) (hw_keep hP1 hD1 hk1)) (pm u)) hS1 hl)
end HWO
