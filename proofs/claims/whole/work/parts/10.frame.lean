/-! THE FRAME: a walk over one fixed object graph: Wd g a c lists its cells; g the int fields, a the int arrays' contents, c the long field. K: the walk's context. -/
abbrev hw_G : Type := Nat → Int32
abbrev hw_A : Type := Nat → Nat → Int32
abbrev hw_W : Type := hw_G → hw_A → Int64 → va_W
abbrev hw_XT : Type := (Nat → Prop) → State → Heap → Prop
abbrev hw_K : Type := Program × Launch × Env × Room × State × MethodId × Array Value × List Frame × Method × Code × (State → Prop) × va_G × (Nat → Prop) × Nat
def hw_XOK (X : hw_XT) : Prop := (∀ (A : Nat → Prop) (s U : State) (H : Heap), s.WarmedH U.vm → X A s H → X A U H) ∧ (∀ (A : Nat → Prop) (U : State) (H H1 : Heap), X A U H → (∀ q : Nat, q < H.size → ¬ A q → H1[q]? = H[q]?) → X A U H1) ∧ (∀ (A B : Nat → Prop) (U : State) (H : Heap), X A U H → (∀ q, B q → A q) → X B U H) ∧ (∀ (A : Nat → Prop) (U : State) (H : Heap) (g : JFrame) (mk : MethodId) (a : Array Value), X A U H → X A (U.calling g mk a) H)
/-- the judgement -/
def hw_J (K : hw_K) (Wd : hw_W) (kc ks : Nat) (g : hw_G) (a : hw_A) (c : Int64) (lv : List (Nat × Value)) (pc : Nat) (st : List Value) : Prop := match K with
  | (p, l, e, R, s, m, args, below, meth, cd, Q, D, A, nL) => ∀ (H : Heap) (locs : List Loc) (ls : Array Slot), va_P D vwCl (Wd g a c) H → va_S A s.heap H locs → lv_has ls nL lv → W p l e R s m args below meth cd H locs kc ks Q (F0 m pc ls st)
/-- what a walk knows of its context -/
def hw_F (K : hw_K) (l : Launch) (D : va_G) (Wd : hw_W) (tys : List (ClassId × FieldType)) (X : hw_XT) (cc : ByteArray) (own : String) (Ts : List Cond) (rm : Room) (nL : Nat) : Prop := match K with
  | (p, l', _, R, s, m, args, _, meth, cd, _, D', A, nL') => l' = l ∧ D' = D ∧ R = rm ∧ nL' = nL ∧ p.tables.exec = Jvm.exec ∧ cd.code = cc ∧ cd.maxLocals = nL ∧ s.vm.findClass own = some m.cls ∧ (∀ w ∈ Ts, w.before args s = true) ∧ va_K D vwCl tys s ∧ (∀ g a c, va_D A (Wd g a c)) ∧ (∀ q, s.heap.size ≤ q → A q) ∧ meth.locks = false ∧ hw_XOK X ∧ X A s s.heap
section HWR
variable {K : hw_K} {l : Launch} {D : va_G} {Wd : hw_W} {tys : List (ClassId × FieldType)} {X : hw_XT} {cc : ByteArray} {own : String} {Ts : List Cond} {rm : Room} {nL : Nat} {kc ks : Nat} {g : hw_G} {a : hw_A} {c : Int64} {lv : List (Nat × Value)} {pc : Nat} {st : List Value}
theorem hj_iconst (F : hw_F K l D Wd tys X cc own Ts rm nL) {n : Int} {v : Int32} (d : decode cc pc = .ok (.iconst n, 1)) (hv : Int32.ofInt n = v) (h : hw_J K Wd kc ks g a c lv (pc + 1) (.int v :: st)) : hw_J K Wd kc ks g a c lv pc st := by
  obtain ⟨p, l, e, R, s, m, args, below, meth, cd, Q, D, A, nL⟩ := K
  obtain ⟨rfl, rfl, rfl, rfl, hx, hb, hml, hown, hts, hK, hD, hA, hlk, hok, hX⟩ := F
  intro H locs ls hP hS hl
  exact lv_iconst hx hb d hv (h H locs ls hP hS hl)
theorem hj_bipush (F : hw_F K l D Wd tys X cc own Ts rm nL) {n : Int} {v : Int32} (d : decode cc pc = .ok (.bipush n, 2)) (hv : (Int8.ofInt n).toInt32 = v) (h : hw_J K Wd kc ks g a c lv (pc + 2) (.int v :: st)) : hw_J K Wd kc ks g a c lv pc st := by
  obtain ⟨p, l, e, R, s, m, args, below, meth, cd, Q, D, A, nL⟩ := K
  obtain ⟨rfl, rfl, rfl, rfl, hx, hb, hml, hown, hts, hK, hD, hA, hlk, hok, hX⟩ := F
  intro H locs ls hP hS hl
  exact lv_bipush hx hb d hv (h H locs ls hP hS hl)
theorem hj_sipush (F : hw_F K l D Wd tys X cc own Ts rm nL) {n : Int} {v : Int32} (d : decode cc pc = .ok (.sipush n, 3)) (hv : (Int16.ofInt n).toInt32 = v) (h : hw_J K Wd kc ks g a c lv (pc + 3) (.int v :: st)) : hw_J K Wd kc ks g a c lv pc st := by
  obtain ⟨p, l, e, R, s, m, args, below, meth, cd, Q, D, A, nL⟩ := K
  obtain ⟨rfl, rfl, rfl, rfl, hx, hb, hml, hown, hts, hK, hD, hA, hlk, hok, hX⟩ := F
  intro H locs ls hP hS hl
  exact lv_sipush hx hb d hv (h H locs ls hP hS hl)
theorem hj_lconst (F : hw_F K l D Wd tys X cc own Ts rm nL) {n : Fin 2} {v : Int64} (d : decode cc pc = .ok (.lconst n, 1)) (hv : Int64.ofNat (n : Nat) = v) (h : hw_J K Wd kc ks g a c lv (pc + 1) (.long v :: st)) : hw_J K Wd kc ks g a c lv pc st := by
  obtain ⟨p, l, e, R, s, m, args, below, meth, cd, Q, D, A, nL⟩ := K
  obtain ⟨rfl, rfl, rfl, rfl, hx, hb, hml, hown, hts, hK, hD, hA, hlk, hok, hX⟩ := F
  intro H locs ls hP hS hl
  exact lv_lconst hx hb d hv (h H locs ls hP hS hl)
theorem hj_ldc (F : hw_F K l D Wd tys X cc own Ts rm nL) {index : Nat} {v : Int32} (hc : Cond.constant own index v ∈ Ts) (d : decode cc pc = .ok (.ldc index, 2)) (h : hw_J K Wd kc ks g a c lv (pc + 2) (.int v :: st)) : hw_J K Wd kc ks g a c lv pc st := by
  obtain ⟨p, l, e, R, s, m, args, below, meth, cd, Q, D, A, nL⟩ := K
  obtain ⟨rfl, rfl, rfl, rfl, hx, hb, hml, hown, hts, hK, hD, hA, hlk, hok, hX⟩ := F
  intro H locs ls hP hS hl
  exact lv_ldc hx hb hown (hts _ hc) d (h H locs ls hP hS hl)
theorem hj_ldc2 (F : hw_F K l D Wd tys X cc own Ts rm nL) {index : Nat} {v : Int64} (hc : Cond.constantLong own index v ∈ Ts) (d : decode cc pc = .ok (.ldc2_w index, 3)) (h : hw_J K Wd kc ks g a c lv (pc + 3) (.long v :: st)) : hw_J K Wd kc ks g a c lv pc st := by
  obtain ⟨p, l, e, R, s, m, args, below, meth, cd, Q, D, A, nL⟩ := K
  obtain ⟨rfl, rfl, rfl, rfl, hx, hb, hml, hown, hts, hK, hD, hA, hlk, hok, hX⟩ := F
  intro H locs ls hP hS hl
  exact lv_ldc2 hx hb hown (hts _ hc) d (h H locs ls hP hS hl)
theorem hj_iload_n (F : hw_F K l D Wd tys X cc own Ts rm nL) (k : Nat) {n : Fin 4} {i : Nat} {x : Int32} (d : decode cc pc = .ok (.iload_n n, 1)) (hi : (n : Nat) = i) (hk : lv[k]? = some (i, .int x)) (h : hw_J K Wd kc ks g a c lv (pc + 1) (.int x :: st)) : hw_J K Wd kc ks g a c lv pc st := by
  obtain ⟨p, l, e, R, s, m, args, below, meth, cd, Q, D, A, nL⟩ := K
  obtain ⟨rfl, rfl, rfl, rfl, hx, hb, hml, hown, hts, hK, hD, hA, hlk, hok, hX⟩ := F
  intro H locs ls hP hS hl
  exact lv_iload_n hx hb d hi (lv_at hl k hk) (h H locs ls hP hS hl)
theorem hj_iload (F : hw_F K l D Wd tys X cc own Ts rm nL) (k : Nat) {i : Nat} {x : Int32} (d : decode cc pc = .ok (.iload i, 2)) (hk : lv[k]? = some (i, .int x)) (h : hw_J K Wd kc ks g a c lv (pc + 2) (.int x :: st)) : hw_J K Wd kc ks g a c lv pc st := by
  obtain ⟨p, l, e, R, s, m, args, below, meth, cd, Q, D, A, nL⟩ := K
  obtain ⟨rfl, rfl, rfl, rfl, hx, hb, hml, hown, hts, hK, hD, hA, hlk, hok, hX⟩ := F
  intro H locs ls hP hS hl
  exact lv_iload hx hb d (lv_at hl k hk) (h H locs ls hP hS hl)
theorem hj_istore_n (F : hw_F K l D Wd tys X cc own Ts rm nL) {n : Fin 4} {i : Nat} {x : Int32} {lv' : List (Nat × Value)} (d : decode cc pc = .ok (.istore_n n, 1)) (hi : (n : Nat) = i) (hn : i < nL) (hl' : (i, Value.int x) :: lv.filter (fun q => !(q.1 == i) && !(q.1 + 1 == i && q.2.category == 2)) = lv') (h : hw_J K Wd kc ks g a c lv' (pc + 1) st) : hw_J K Wd kc ks g a c lv pc (.int x :: st) := by
  obtain ⟨p, l, e, R, s, m, args, below, meth, cd, Q, D, A, nL⟩ := K
  obtain ⟨rfl, rfl, rfl, rfl, hx, hb, hml, hown, hts, hK, hD, hA, hlk, hok, hX⟩ := F
  intro H locs ls hP hS hl
  exact lv_istore_n hx hb d hi hl hn hl' (fun ls hl => h H locs ls hP hS hl)
theorem hj_istore (F : hw_F K l D Wd tys X cc own Ts rm nL) {i : Nat} {x : Int32} {lv' : List (Nat × Value)} (d : decode cc pc = .ok (.istore i, 2)) (hn : i < nL) (hl' : (i, Value.int x) :: lv.filter (fun q => !(q.1 == i) && !(q.1 + 1 == i && q.2.category == 2)) = lv') (h : hw_J K Wd kc ks g a c lv' (pc + 2) st) : hw_J K Wd kc ks g a c lv pc (.int x :: st) := by
  obtain ⟨p, l, e, R, s, m, args, below, meth, cd, Q, D, A, nL⟩ := K
  obtain ⟨rfl, rfl, rfl, rfl, hx, hb, hml, hown, hts, hK, hD, hA, hlk, hok, hX⟩ := F
  intro H locs ls hP hS hl
  exact lv_istore hx hb d hl hn hl' (fun ls hl => h H locs ls hP hS hl)
theorem hj_lload_n (F : hw_F K l D Wd tys X cc own Ts rm nL) (k : Nat) {n : Fin 4} {i : Nat} {x : Int64} (d : decode cc pc = .ok (.lload_n n, 1)) (hi : (n : Nat) = i) (hk : lv[k]? = some (i, .long x)) (h : hw_J K Wd kc ks g a c lv (pc + 1) (.long x :: st)) : hw_J K Wd kc ks g a c lv pc st := by
  obtain ⟨p, l, e, R, s, m, args, below, meth, cd, Q, D, A, nL⟩ := K
  obtain ⟨rfl, rfl, rfl, rfl, hx, hb, hml, hown, hts, hK, hD, hA, hlk, hok, hX⟩ := F
  intro H locs ls hP hS hl
  exact lv_lload_n hx hb d hi (lv_at hl k hk) (h H locs ls hP hS hl)
theorem hj_lload (F : hw_F K l D Wd tys X cc own Ts rm nL) (k : Nat) {i : Nat} {x : Int64} (d : decode cc pc = .ok (.lload i, 2)) (hk : lv[k]? = some (i, .long x)) (h : hw_J K Wd kc ks g a c lv (pc + 2) (.long x :: st)) : hw_J K Wd kc ks g a c lv pc st := by
  obtain ⟨p, l, e, R, s, m, args, below, meth, cd, Q, D, A, nL⟩ := K
  obtain ⟨rfl, rfl, rfl, rfl, hx, hb, hml, hown, hts, hK, hD, hA, hlk, hok, hX⟩ := F
  intro H locs ls hP hS hl
  exact lv_lload hx hb d (lv_at hl k hk) (h H locs ls hP hS hl)
theorem hj_lstore_n (F : hw_F K l D Wd tys X cc own Ts rm nL) {n : Fin 4} {i : Nat} {x : Int64} {lv' : List (Nat × Value)} (d : decode cc pc = .ok (.lstore_n n, 1)) (hi : (n : Nat) = i) (hn : i + 1 < nL) (hl' : (i, Value.long x) :: lv.filter (fun q => !(q.1 == i) && (!(q.1 == i + 1) && !(q.1 + 1 == i && q.2.category == 2))) = lv') (h : hw_J K Wd kc ks g a c lv' (pc + 1) st) : hw_J K Wd kc ks g a c lv pc (.long x :: st) := by
  obtain ⟨p, l, e, R, s, m, args, below, meth, cd, Q, D, A, nL⟩ := K
  obtain ⟨rfl, rfl, rfl, rfl, hx, hb, hml, hown, hts, hK, hD, hA, hlk, hok, hX⟩ := F
  intro H locs ls hP hS hl
  exact lv_lstore_n hx hb d hi hl hn hl' (fun ls hl => h H locs ls hP hS hl)
theorem hj_lstore (F : hw_F K l D Wd tys X cc own Ts rm nL) {i : Nat} {x : Int64} {lv' : List (Nat × Value)} (d : decode cc pc = .ok (.lstore i, 2)) (hn : i + 1 < nL) (hl' : (i, Value.long x) :: lv.filter (fun q => !(q.1 == i) && (!(q.1 == i + 1) && !(q.1 + 1 == i && q.2.category == 2))) = lv') (h : hw_J K Wd kc ks g a c lv' (pc + 2) st) : hw_J K Wd kc ks g a c lv pc (.long x :: st) := by
  obtain ⟨p, l, e, R, s, m, args, below, meth, cd, Q, D, A, nL⟩ := K
  obtain ⟨rfl, rfl, rfl, rfl, hx, hb, hml, hown, hts, hK, hD, hA, hlk, hok, hX⟩ := F
  intro H locs ls hP hS hl
  exact lv_lstore hx hb d hl hn hl' (fun ls hl => h H locs ls hP hS hl)
theorem hj_aload_n (F : hw_F K l D Wd tys X cc own Ts rm nL) (k : Nat) {n : Fin 4} {i : Nat} {x : Nat} (d : decode cc pc = .ok (.aload_n n, 1)) (hi : (n : Nat) = i) (hk : lv[k]? = some (i, .ref x)) (h : hw_J K Wd kc ks g a c lv (pc + 1) (.ref x :: st)) : hw_J K Wd kc ks g a c lv pc st := by
  obtain ⟨p, l, e, R, s, m, args, below, meth, cd, Q, D, A, nL⟩ := K
  obtain ⟨rfl, rfl, rfl, rfl, hx, hb, hml, hown, hts, hK, hD, hA, hlk, hok, hX⟩ := F
  intro H locs ls hP hS hl
  exact lv_aload_n hx hb d hi (lv_at hl k hk) (h H locs ls hP hS hl)
theorem hj_aload (F : hw_F K l D Wd tys X cc own Ts rm nL) (k : Nat) {i : Nat} {x : Nat} (d : decode cc pc = .ok (.aload i, 2)) (hk : lv[k]? = some (i, .ref x)) (h : hw_J K Wd kc ks g a c lv (pc + 2) (.ref x :: st)) : hw_J K Wd kc ks g a c lv pc st := by
  obtain ⟨p, l, e, R, s, m, args, below, meth, cd, Q, D, A, nL⟩ := K
  obtain ⟨rfl, rfl, rfl, rfl, hx, hb, hml, hown, hts, hK, hD, hA, hlk, hok, hX⟩ := F
  intro H locs ls hP hS hl
  exact lv_aload hx hb d (lv_at hl k hk) (h H locs ls hP hS hl)
theorem hj_astore_n (F : hw_F K l D Wd tys X cc own Ts rm nL) {n : Fin 4} {i : Nat} {x : Nat} {lv' : List (Nat × Value)} (d : decode cc pc = .ok (.astore_n n, 1)) (hi : (n : Nat) = i) (hn : i < nL) (hl' : (i, Value.ref x) :: lv.filter (fun q => !(q.1 == i) && !(q.1 + 1 == i && q.2.category == 2)) = lv') (h : hw_J K Wd kc ks g a c lv' (pc + 1) st) : hw_J K Wd kc ks g a c lv pc (.ref x :: st) := by
  obtain ⟨p, l, e, R, s, m, args, below, meth, cd, Q, D, A, nL⟩ := K
  obtain ⟨rfl, rfl, rfl, rfl, hx, hb, hml, hown, hts, hK, hD, hA, hlk, hok, hX⟩ := F
  intro H locs ls hP hS hl
  exact lv_astore_n hx hb d hi hl hn hl' (fun ls hl => h H locs ls hP hS hl)
theorem hj_astore (F : hw_F K l D Wd tys X cc own Ts rm nL) {i : Nat} {x : Nat} {lv' : List (Nat × Value)} (d : decode cc pc = .ok (.astore i, 2)) (hn : i < nL) (hl' : (i, Value.ref x) :: lv.filter (fun q => !(q.1 == i) && !(q.1 + 1 == i && q.2.category == 2)) = lv') (h : hw_J K Wd kc ks g a c lv' (pc + 2) st) : hw_J K Wd kc ks g a c lv pc (.ref x :: st) := by
  obtain ⟨p, l, e, R, s, m, args, below, meth, cd, Q, D, A, nL⟩ := K
  obtain ⟨rfl, rfl, rfl, rfl, hx, hb, hml, hown, hts, hK, hD, hA, hlk, hok, hX⟩ := F
  intro H locs ls hP hS hl
  exact lv_astore hx hb d hl hn hl' (fun ls hl => h H locs ls hP hS hl)
theorem hj_iinc (F : hw_F K l D Wd tys X cc own Ts rm nL) (k : Nat) {i : Nat} {n : Int} {x v : Int32} {lv' : List (Nat × Value)} (d : decode cc pc = .ok (.iinc i n, 3)) (hk : lv[k]? = some (i, .int x)) (hv : x + Int32.ofInt n = v) (hn : i < nL) (hl' : (i, Value.int v) :: lv.filter (fun q => !(q.1 == i) && !(q.1 + 1 == i && q.2.category == 2)) = lv') (h : hw_J K Wd kc ks g a c lv' (pc + 3) st) : hw_J K Wd kc ks g a c lv pc st := by
  obtain ⟨p, l, e, R, s, m, args, below, meth, cd, Q, D, A, nL⟩ := K
  obtain ⟨rfl, rfl, rfl, rfl, hx, hb, hml, hown, hts, hK, hD, hA, hlk, hok, hX⟩ := F
  intro H locs ls hP hS hl
  exact lv_iinc hx hb d hl hk hv hn hl' (fun ls hl => h H locs ls hP hS hl)
theorem hj_iadd (F : hw_F K l D Wd tys X cc own Ts rm nL) {x y : Int32} (d : decode cc pc = .ok (.iadd, 1)) (h : hw_J K Wd kc ks g a c lv (pc + 1) (.int (x + y) :: st)) : hw_J K Wd kc ks g a c lv pc (.int y :: .int x :: st) := by
  obtain ⟨p, l, e, R, s, m, args, below, meth, cd, Q, D, A, nL⟩ := K
  obtain ⟨rfl, rfl, rfl, rfl, hx, hb, hml, hown, hts, hK, hD, hA, hlk, hok, hX⟩ := F
  intro H locs ls hP hS hl
  exact lv_iadd hx hb d (h H locs ls hP hS hl)
theorem hj_isub (F : hw_F K l D Wd tys X cc own Ts rm nL) {x y : Int32} (d : decode cc pc = .ok (.isub, 1)) (h : hw_J K Wd kc ks g a c lv (pc + 1) (.int (x - y) :: st)) : hw_J K Wd kc ks g a c lv pc (.int y :: .int x :: st) := by
  obtain ⟨p, l, e, R, s, m, args, below, meth, cd, Q, D, A, nL⟩ := K
  obtain ⟨rfl, rfl, rfl, rfl, hx, hb, hml, hown, hts, hK, hD, hA, hlk, hok, hX⟩ := F
  intro H locs ls hP hS hl
  exact lv_isub hx hb d (h H locs ls hP hS hl)
theorem hj_imul (F : hw_F K l D Wd tys X cc own Ts rm nL) {x y : Int32} (d : decode cc pc = .ok (.imul, 1)) (h : hw_J K Wd kc ks g a c lv (pc + 1) (.int (x * y) :: st)) : hw_J K Wd kc ks g a c lv pc (.int y :: .int x :: st) := by
  obtain ⟨p, l, e, R, s, m, args, below, meth, cd, Q, D, A, nL⟩ := K
  obtain ⟨rfl, rfl, rfl, rfl, hx, hb, hml, hown, hts, hK, hD, hA, hlk, hok, hX⟩ := F
  intro H locs ls hP hS hl
  exact lv_imul hx hb d (h H locs ls hP hS hl)
theorem hj_iand (F : hw_F K l D Wd tys X cc own Ts rm nL) {x y : Int32} (d : decode cc pc = .ok (.iand, 1)) (h : hw_J K Wd kc ks g a c lv (pc + 1) (.int (x &&& y) :: st)) : hw_J K Wd kc ks g a c lv pc (.int y :: .int x :: st) := by
  obtain ⟨p, l, e, R, s, m, args, below, meth, cd, Q, D, A, nL⟩ := K
  obtain ⟨rfl, rfl, rfl, rfl, hx, hb, hml, hown, hts, hK, hD, hA, hlk, hok, hX⟩ := F
  intro H locs ls hP hS hl
  exact lv_iand hx hb d (h H locs ls hP hS hl)
theorem hj_ishr (F : hw_F K l D Wd tys X cc own Ts rm nL) {x y : Int32} (d : decode cc pc = .ok (.ishr, 1)) (h : hw_J K Wd kc ks g a c lv (pc + 1) (.int (x >>> (y &&& 31)) :: st)) : hw_J K Wd kc ks g a c lv pc (.int y :: .int x :: st) := by
  obtain ⟨p, l, e, R, s, m, args, below, meth, cd, Q, D, A, nL⟩ := K
  obtain ⟨rfl, rfl, rfl, rfl, hx, hb, hml, hown, hts, hK, hD, hA, hlk, hok, hX⟩ := F
  intro H locs ls hP hS hl
  exact lv_ishr hx hb d (h H locs ls hP hS hl)
theorem hj_irem (F : hw_F K l D Wd tys X cc own Ts rm nL) {x y : Int32} (d : decode cc pc = .ok (.irem, 1)) (hne : ¬ y = 0) (h : hw_J K Wd kc ks g a c lv (pc + 1) (.int (x - x / y * y) :: st)) : hw_J K Wd kc ks g a c lv pc (.int y :: .int x :: st) := by
  obtain ⟨p, l, e, R, s, m, args, below, meth, cd, Q, D, A, nL⟩ := K
  obtain ⟨rfl, rfl, rfl, rfl, hx, hb, hml, hown, hts, hK, hD, hA, hlk, hok, hX⟩ := F
  intro H locs ls hP hS hl
  exact lv_irem hx hb d hne (h H locs ls hP hS hl)
theorem hj_iushr (F : hw_F K l D Wd tys X cc own Ts rm nL) {x y : Int32} (d : decode cc pc = .ok (.iushr, 1)) (h : hw_J K Wd kc ks g a c lv (pc + 1) (.int (x.toUInt32 >>> (y.toUInt32 &&& Int32.toUInt32 31)).toInt32 :: st)) : hw_J K Wd kc ks g a c lv pc (.int y :: .int x :: st) := by
  obtain ⟨p, l, e, R, s, m, args, below, meth, cd, Q, D, A, nL⟩ := K
  obtain ⟨rfl, rfl, rfl, rfl, hx, hb, hml, hown, hts, hK, hD, hA, hlk, hok, hX⟩ := F
  intro H locs ls hP hS hl
  exact lv_iushr hx hb d rfl (h H locs ls hP hS hl)
theorem hj_ladd (F : hw_F K l D Wd tys X cc own Ts rm nL) {x y : Int64} (d : decode cc pc = .ok (.ladd, 1)) (h : hw_J K Wd kc ks g a c lv (pc + 1) (.long (x + y) :: st)) : hw_J K Wd kc ks g a c lv pc (.long y :: .long x :: st) := by
  obtain ⟨p, l, e, R, s, m, args, below, meth, cd, Q, D, A, nL⟩ := K
  obtain ⟨rfl, rfl, rfl, rfl, hx, hb, hml, hown, hts, hK, hD, hA, hlk, hok, hX⟩ := F
  intro H locs ls hP hS hl
  exact lv_ladd hx hb d (h H locs ls hP hS hl)
theorem hj_lmul (F : hw_F K l D Wd tys X cc own Ts rm nL) {x y : Int64} (d : decode cc pc = .ok (.lmul, 1)) (h : hw_J K Wd kc ks g a c lv (pc + 1) (.long (x * y) :: st)) : hw_J K Wd kc ks g a c lv pc (.long y :: .long x :: st) := by
  obtain ⟨p, l, e, R, s, m, args, below, meth, cd, Q, D, A, nL⟩ := K
  obtain ⟨rfl, rfl, rfl, rfl, hx, hb, hml, hown, hts, hK, hD, hA, hlk, hok, hX⟩ := F
  intro H locs ls hP hS hl
  exact lv_lmul hx hb d (h H locs ls hP hS hl)
theorem hj_lcmp (F : hw_F K l D Wd tys X cc own Ts rm nL) {x y : Int64} (d : decode cc pc = .ok (.lcmp, 1)) (h : hw_J K Wd kc ks g a c lv (pc + 1) (.int (lg_cmp x y) :: st)) : hw_J K Wd kc ks g a c lv pc (.long y :: .long x :: st) := by
  obtain ⟨p, l, e, R, s, m, args, below, meth, cd, Q, D, A, nL⟩ := K
  obtain ⟨rfl, rfl, rfl, rfl, hx, hb, hml, hown, hts, hK, hD, hA, hlk, hok, hX⟩ := F
  intro H locs ls hP hS hl
  exact W.lcmp hx hb d (h H locs ls hP hS hl)
theorem hj_i2l (F : hw_F K l D Wd tys X cc own Ts rm nL) {x : Int32} (d : decode cc pc = .ok (.i2l, 1)) (h : hw_J K Wd kc ks g a c lv (pc + 1) (.long x.toInt64 :: st)) : hw_J K Wd kc ks g a c lv pc (.int x :: st) := by
  obtain ⟨p, l, e, R, s, m, args, below, meth, cd, Q, D, A, nL⟩ := K
  obtain ⟨rfl, rfl, rfl, rfl, hx, hb, hml, hown, hts, hK, hD, hA, hlk, hok, hX⟩ := F
  intro H locs ls hP hS hl
  exact lv_i2l hx hb d rfl (h H locs ls hP hS hl)
theorem hj_i2b (F : hw_F K l D Wd tys X cc own Ts rm nL) {x : Int32} (d : decode cc pc = .ok (.i2b, 1)) (h : hw_J K Wd kc ks g a c lv (pc + 1) (.int x.toInt8.toInt32 :: st)) : hw_J K Wd kc ks g a c lv pc (.int x :: st) := by
  obtain ⟨p, l, e, R, s, m, args, below, meth, cd, Q, D, A, nL⟩ := K
  obtain ⟨rfl, rfl, rfl, rfl, hx, hb, hml, hown, hts, hK, hD, hA, hlk, hok, hX⟩ := F
  intro H locs ls hP hS hl
  exact lv_i2b hx hb d rfl (h H locs ls hP hS hl)
theorem hj_dup (F : hw_F K l D Wd tys X cc own Ts rm nL) {v : Value} (d : decode cc pc = .ok (.dup, 1)) (hv : v.category = 1) (h : hw_J K Wd kc ks g a c lv (pc + 1) (v :: v :: st)) : hw_J K Wd kc ks g a c lv pc (v :: st) := by
  obtain ⟨p, l, e, R, s, m, args, below, meth, cd, Q, D, A, nL⟩ := K
  obtain ⟨rfl, rfl, rfl, rfl, hx, hb, hml, hown, hts, hK, hD, hA, hlk, hok, hX⟩ := F
  intro H locs ls hP hS hl
  exact lv_dup hx hb d hv (h H locs ls hP hS hl)
theorem hj_pop (F : hw_F K l D Wd tys X cc own Ts rm nL) {v : Value} (d : decode cc pc = .ok (.pop, 1)) (hv : v.category = 1) (h : hw_J K Wd kc ks g a c lv (pc + 1) st) : hw_J K Wd kc ks g a c lv pc (v :: st) := by
  obtain ⟨p, l, e, R, s, m, args, below, meth, cd, Q, D, A, nL⟩ := K
  obtain ⟨rfl, rfl, rfl, rfl, hx, hb, hml, hown, hts, hK, hD, hA, hlk, hok, hX⟩ := F
  intro H locs ls hP hS hl
  exact lv_pop hx hb d hv (h H locs ls hP hS hl)
theorem hj_dup2 (F : hw_F K l D Wd tys X cc own Ts rm nL) {v w : Value} (d : decode cc pc = .ok (.dup2, 1)) (hv : v.category = 1) (hw : w.category = 1) (h : hw_J K Wd kc ks g a c lv (pc + 1) (v :: w :: v :: w :: st)) : hw_J K Wd kc ks g a c lv pc (v :: w :: st) := by
  obtain ⟨p, l, e, R, s, m, args, below, meth, cd, Q, D, A, nL⟩ := K
  obtain ⟨rfl, rfl, rfl, rfl, hx, hb, hml, hown, hts, hK, hD, hA, hlk, hok, hX⟩ := F
  intro H locs ls hP hS hl
  exact lv_dup2_11 hx hb d hv hw (h H locs ls hP hS hl)
theorem hj_goto (F : hw_F K l D Wd tys X cc own Ts rm nL) {off : Int} (tgt : Nat) (d : decode cc pc = .ok (.goto off, 3)) (ht : (pc : Int) + off = (tgt : Int)) (h : hw_J K Wd kc ks g a c lv tgt st) : hw_J K Wd kc ks g a c lv pc st := by
  obtain ⟨p, l, e, R, s, m, args, below, meth, cd, Q, D, A, nL⟩ := K
  obtain ⟨rfl, rfl, rfl, rfl, hx, hb, hml, hown, hts, hK, hD, hA, hlk, hok, hX⟩ := F
  intro H locs ls hP hS hl
  exact lv_goto hx hb d ht (h H locs ls hP hS hl)
theorem hj_if_eq (F : hw_F K l D Wd tys X cc own Ts rm nL) {x : Int32} {off : Int} (tgt : Nat) (d : decode cc pc = .ok (.ifCond .eq off, 3)) (ht : (pc : Int) + off = (tgt : Int)) (h1 : x = 0 → hw_J K Wd kc ks g a c lv tgt st) (h2 : ¬ x = 0 → hw_J K Wd kc ks g a c lv (pc + 3) st) : hw_J K Wd kc ks g a c lv pc (.int x :: st) := by
  obtain ⟨p, l, e, R, s, m, args, below, meth, cd, Q, D, A, nL⟩ := K
  obtain ⟨rfl, rfl, rfl, rfl, hx, hb, hml, hown, hts, hK, hD, hA, hlk, hok, hX⟩ := F
  intro H locs ls hP hS hl
  exact lv_if_eq hx hb d ht (fun q => h1 q H locs ls hP hS hl) (fun q => h2 q H locs ls hP hS hl)
theorem hj_icmp_eq (F : hw_F K l D Wd tys X cc own Ts rm nL) {x y : Int32} {off : Int} (tgt : Nat) (d : decode cc pc = .ok (.if_icmp .eq off, 3)) (ht : (pc : Int) + off = (tgt : Int)) (h1 : x = y → hw_J K Wd kc ks g a c lv tgt st) (h2 : ¬ x = y → hw_J K Wd kc ks g a c lv (pc + 3) st) : hw_J K Wd kc ks g a c lv pc (.int y :: .int x :: st) := by
  obtain ⟨p, l, e, R, s, m, args, below, meth, cd, Q, D, A, nL⟩ := K
  obtain ⟨rfl, rfl, rfl, rfl, hx, hb, hml, hown, hts, hK, hD, hA, hlk, hok, hX⟩ := F
  intro H locs ls hP hS hl
  exact lv_icmp_eq hx hb d ht (fun q => h1 q H locs ls hP hS hl) (fun q => h2 q H locs ls hP hS hl)
theorem hj_if_ne (F : hw_F K l D Wd tys X cc own Ts rm nL) {x : Int32} {off : Int} (tgt : Nat) (d : decode cc pc = .ok (.ifCond .ne off, 3)) (ht : (pc : Int) + off = (tgt : Int)) (h1 : ¬ x = 0 → hw_J K Wd kc ks g a c lv tgt st) (h2 : x = 0 → hw_J K Wd kc ks g a c lv (pc + 3) st) : hw_J K Wd kc ks g a c lv pc (.int x :: st) := by
  obtain ⟨p, l, e, R, s, m, args, below, meth, cd, Q, D, A, nL⟩ := K
  obtain ⟨rfl, rfl, rfl, rfl, hx, hb, hml, hown, hts, hK, hD, hA, hlk, hok, hX⟩ := F
  intro H locs ls hP hS hl
  exact lv_if_ne hx hb d ht (fun q => h1 q H locs ls hP hS hl) (fun q => h2 q H locs ls hP hS hl)
theorem hj_icmp_ne (F : hw_F K l D Wd tys X cc own Ts rm nL) {x y : Int32} {off : Int} (tgt : Nat) (d : decode cc pc = .ok (.if_icmp .ne off, 3)) (ht : (pc : Int) + off = (tgt : Int)) (h1 : ¬ x = y → hw_J K Wd kc ks g a c lv tgt st) (h2 : x = y → hw_J K Wd kc ks g a c lv (pc + 3) st) : hw_J K Wd kc ks g a c lv pc (.int y :: .int x :: st) := by
  obtain ⟨p, l, e, R, s, m, args, below, meth, cd, Q, D, A, nL⟩ := K
  obtain ⟨rfl, rfl, rfl, rfl, hx, hb, hml, hown, hts, hK, hD, hA, hlk, hok, hX⟩ := F
  intro H locs ls hP hS hl
  exact lv_icmp_ne hx hb d ht (fun q => h1 q H locs ls hP hS hl) (fun q => h2 q H locs ls hP hS hl)
theorem hj_if_lt (F : hw_F K l D Wd tys X cc own Ts rm nL) {x : Int32} {off : Int} (tgt : Nat) (d : decode cc pc = .ok (.ifCond .lt off, 3)) (ht : (pc : Int) + off = (tgt : Int)) (h1 : x < 0 → hw_J K Wd kc ks g a c lv tgt st) (h2 : ¬ x < 0 → hw_J K Wd kc ks g a c lv (pc + 3) st) : hw_J K Wd kc ks g a c lv pc (.int x :: st) := by
  obtain ⟨p, l, e, R, s, m, args, below, meth, cd, Q, D, A, nL⟩ := K
  obtain ⟨rfl, rfl, rfl, rfl, hx, hb, hml, hown, hts, hK, hD, hA, hlk, hok, hX⟩ := F
  intro H locs ls hP hS hl
  exact lv_if_lt hx hb d ht (fun q => h1 q H locs ls hP hS hl) (fun q => h2 q H locs ls hP hS hl)
theorem hj_icmp_lt (F : hw_F K l D Wd tys X cc own Ts rm nL) {x y : Int32} {off : Int} (tgt : Nat) (d : decode cc pc = .ok (.if_icmp .lt off, 3)) (ht : (pc : Int) + off = (tgt : Int)) (h1 : x < y → hw_J K Wd kc ks g a c lv tgt st) (h2 : ¬ x < y → hw_J K Wd kc ks g a c lv (pc + 3) st) : hw_J K Wd kc ks g a c lv pc (.int y :: .int x :: st) := by
  obtain ⟨p, l, e, R, s, m, args, below, meth, cd, Q, D, A, nL⟩ := K
  obtain ⟨rfl, rfl, rfl, rfl, hx, hb, hml, hown, hts, hK, hD, hA, hlk, hok, hX⟩ := F
  intro H locs ls hP hS hl
  exact lv_icmp_lt hx hb d ht (fun q => h1 q H locs ls hP hS hl) (fun q => h2 q H locs ls hP hS hl)
theorem hj_if_ge (F : hw_F K l D Wd tys X cc own Ts rm nL) {x : Int32} {off : Int} (tgt : Nat) (d : decode cc pc = .ok (.ifCond .ge off, 3)) (ht : (pc : Int) + off = (tgt : Int)) (h1 : 0 ≤ x → hw_J K Wd kc ks g a c lv tgt st) (h2 : ¬ 0 ≤ x → hw_J K Wd kc ks g a c lv (pc + 3) st) : hw_J K Wd kc ks g a c lv pc (.int x :: st) := by
  obtain ⟨p, l, e, R, s, m, args, below, meth, cd, Q, D, A, nL⟩ := K
  obtain ⟨rfl, rfl, rfl, rfl, hx, hb, hml, hown, hts, hK, hD, hA, hlk, hok, hX⟩ := F
  intro H locs ls hP hS hl
  exact lv_if_ge hx hb d ht (fun q => h1 q H locs ls hP hS hl) (fun q => h2 q H locs ls hP hS hl)
theorem hj_icmp_ge (F : hw_F K l D Wd tys X cc own Ts rm nL) {x y : Int32} {off : Int} (tgt : Nat) (d : decode cc pc = .ok (.if_icmp .ge off, 3)) (ht : (pc : Int) + off = (tgt : Int)) (h1 : y ≤ x → hw_J K Wd kc ks g a c lv tgt st) (h2 : ¬ y ≤ x → hw_J K Wd kc ks g a c lv (pc + 3) st) : hw_J K Wd kc ks g a c lv pc (.int y :: .int x :: st) := by
  obtain ⟨p, l, e, R, s, m, args, below, meth, cd, Q, D, A, nL⟩ := K
  obtain ⟨rfl, rfl, rfl, rfl, hx, hb, hml, hown, hts, hK, hD, hA, hlk, hok, hX⟩ := F
  intro H locs ls hP hS hl
  exact lv_icmp_ge hx hb d ht (fun q => h1 q H locs ls hP hS hl) (fun q => h2 q H locs ls hP hS hl)
theorem hj_if_gt (F : hw_F K l D Wd tys X cc own Ts rm nL) {x : Int32} {off : Int} (tgt : Nat) (d : decode cc pc = .ok (.ifCond .gt off, 3)) (ht : (pc : Int) + off = (tgt : Int)) (h1 : 0 < x → hw_J K Wd kc ks g a c lv tgt st) (h2 : ¬ 0 < x → hw_J K Wd kc ks g a c lv (pc + 3) st) : hw_J K Wd kc ks g a c lv pc (.int x :: st) := by
  obtain ⟨p, l, e, R, s, m, args, below, meth, cd, Q, D, A, nL⟩ := K
  obtain ⟨rfl, rfl, rfl, rfl, hx, hb, hml, hown, hts, hK, hD, hA, hlk, hok, hX⟩ := F
  intro H locs ls hP hS hl
  exact lv_if_gt hx hb d ht (fun q => h1 q H locs ls hP hS hl) (fun q => h2 q H locs ls hP hS hl)
theorem hj_icmp_gt (F : hw_F K l D Wd tys X cc own Ts rm nL) {x y : Int32} {off : Int} (tgt : Nat) (d : decode cc pc = .ok (.if_icmp .gt off, 3)) (ht : (pc : Int) + off = (tgt : Int)) (h1 : y < x → hw_J K Wd kc ks g a c lv tgt st) (h2 : ¬ y < x → hw_J K Wd kc ks g a c lv (pc + 3) st) : hw_J K Wd kc ks g a c lv pc (.int y :: .int x :: st) := by
  obtain ⟨p, l, e, R, s, m, args, below, meth, cd, Q, D, A, nL⟩ := K
  obtain ⟨rfl, rfl, rfl, rfl, hx, hb, hml, hown, hts, hK, hD, hA, hlk, hok, hX⟩ := F
  intro H locs ls hP hS hl
  exact lv_icmp_gt hx hb d ht (fun q => h1 q H locs ls hP hS hl) (fun q => h2 q H locs ls hP hS hl)
theorem hj_if_le (F : hw_F K l D Wd tys X cc own Ts rm nL) {x : Int32} {off : Int} (tgt : Nat) (d : decode cc pc = .ok (.ifCond .le off, 3)) (ht : (pc : Int) + off = (tgt : Int)) (h1 : x ≤ 0 → hw_J K Wd kc ks g a c lv tgt st) (h2 : ¬ x ≤ 0 → hw_J K Wd kc ks g a c lv (pc + 3) st) : hw_J K Wd kc ks g a c lv pc (.int x :: st) := by
  obtain ⟨p, l, e, R, s, m, args, below, meth, cd, Q, D, A, nL⟩ := K
  obtain ⟨rfl, rfl, rfl, rfl, hx, hb, hml, hown, hts, hK, hD, hA, hlk, hok, hX⟩ := F
  intro H locs ls hP hS hl
  exact lv_if_le hx hb d ht (fun q => h1 q H locs ls hP hS hl) (fun q => h2 q H locs ls hP hS hl)
theorem hj_icmp_le (F : hw_F K l D Wd tys X cc own Ts rm nL) {x y : Int32} {off : Int} (tgt : Nat) (d : decode cc pc = .ok (.if_icmp .le off, 3)) (ht : (pc : Int) + off = (tgt : Int)) (h1 : x ≤ y → hw_J K Wd kc ks g a c lv tgt st) (h2 : ¬ x ≤ y → hw_J K Wd kc ks g a c lv (pc + 3) st) : hw_J K Wd kc ks g a c lv pc (.int y :: .int x :: st) := by
  obtain ⟨p, l, e, R, s, m, args, below, meth, cd, Q, D, A, nL⟩ := K
  obtain ⟨rfl, rfl, rfl, rfl, hx, hb, hml, hown, hts, hK, hD, hA, hlk, hok, hX⟩ := F
  intro H locs ls hP hS hl
  exact lv_icmp_le hx hb d ht (fun q => h1 q H locs ls hP hS hl) (fun q => h2 q H locs ls hP hS hl)
theorem hj_tableOut (F : hw_F K l D Wd tys X cc own Ts rm nL) {dflt lo hi : Int} {offs : Array Int} {len : Nat} {x : Int32} (tgt : Nat) (d : decode cc pc = .ok (.tableswitch dflt lo hi offs, len)) (hq : x.toInt < lo ∨ hi < x.toInt) (ht : (pc : Int) + dflt = (tgt : Int)) (h : hw_J K Wd kc ks g a c lv tgt st) : hw_J K Wd kc ks g a c lv pc (.int x :: st) := by
  obtain ⟨p, l, e, R, s, m, args, below, meth, cd, Q, D, A, nL⟩ := K
  obtain ⟨rfl, rfl, rfl, rfl, hx, hb, hml, hown, hts, hK, hD, hA, hlk, hok, hX⟩ := F
  intro H locs ls hP hS hl
  exact lv_tableOut hx hb d hq ht (h H locs ls hP hS hl)
theorem hj_tableIn (F : hw_F K l D Wd tys X cc own Ts rm nL) {dflt lo hi : Int} {offs : Array Int} {len : Nat} {x : Int32} {off : Int} (tgt : Nat) (d : decode cc pc = .ok (.tableswitch dflt lo hi offs, len)) (q1 : ¬ x.toInt < lo) (q2 : ¬ hi < x.toInt) (ho : offs[(x.toInt - lo).toNat]? = some off) (ht : (pc : Int) + off = (tgt : Int)) (h : hw_J K Wd kc ks g a c lv tgt st) : hw_J K Wd kc ks g a c lv pc (.int x :: st) := by
  obtain ⟨p, l, e, R, s, m, args, below, meth, cd, Q, D, A, nL⟩ := K
  obtain ⟨rfl, rfl, rfl, rfl, hx, hb, hml, hown, hts, hK, hD, hA, hlk, hok, hX⟩ := F
  intro H locs ls hP hS hl
  exact lv_tableIn hx hb d q1 q2 ho ht (h H locs ls hP hS hl)
theorem hj_get (F : hw_F K l D Wd tys X cc own Ts rm nL) {index ci N : Nat} {C : String} {T : u_T} (hin : ∀ w ∈ u_ws C T N, w ∈ Ts) (q0 : Nat) {b : Nat} {fs : List Value} (he : (Wd g a c)[q0]? = some (b, .inr (ci, fs))) (hc : vwCl[ci]? = some (C, T, N)) (k : Nat) (hk : k < N) (hlink : Cond.fieldLink own index (T k).1 (T k).2.1 (T k).2.2.1 ∈ Ts) {v : Value} (hv : fs[k]? = some v) (d : decode cc pc = .ok (.getfield index, 3)) (h : hw_J K Wd kc ks g a c lv (pc + 3) (v :: st)) : hw_J K Wd kc ks g a c lv pc (.ref b :: st) := by
  obtain ⟨p, l, e, R, s, m, args, below, meth, cd, Q, D, A, nL⟩ := K
  obtain ⟨rfl, rfl, rfl, rfl, hx, hb, hml, hown, hts, hK, hD, hA, hlk, hok, hX⟩ := F
  intro H locs ls hP hS hl
  exact va_get hx hb hts hin hown hK hP q0 he hc k hk (hts _ hlink) (fun _ q => q) hv d (h H locs ls hP hS hl)
theorem hj_put (F : hw_F K l D Wd tys X cc own Ts rm nL) {index ci N : Nat} {C : String} {T : u_T} (hin : ∀ w ∈ u_ws C T N, w ∈ Ts) {ty0 : Nat → FieldType} (hty : ∀ k, k < N → parseFieldDescriptor (T k).2.2.1 = some (ty0 k)) (hnm : ∀ a, a < N → ∀ b, b < N → a ≠ b → (T a).2.1 ≠ (T b).2.1) (q0 : Nat) {b : Nat} {fs : List Value} (he : (Wd g a c)[q0]? = some (b, .inr (ci, fs))) (hc : vwCl[ci]? = some (C, T, N)) (k : Nat) (hk : k < N) (hlink : Cond.fieldLink own index (T k).1 (T k).2.1 (T k).2.2.1 ∈ Ts) (hfin : (T k).2.2.2 = false) {ty : FieldType} {v : Value} (hd : parseFieldDescriptor (T k).2.2.1 = some ty) (hn : narrow ty v = v) (hfit : fits ty v = true) (hl' : k < fs.length) {g' : hw_G} {c' : Int64} (hw : (Wd g a c).set q0 (b, .inr (ci, fs.set k v)) = Wd g' a c') (d : decode cc pc = .ok (.putfield index, 3)) (h : hw_J K Wd kc ks g' a c' lv (pc + 3) st) : hw_J K Wd kc ks g a c lv pc (v :: .ref b :: st) := by
  obtain ⟨p, l, e, R, s, m, args, below, meth, cd, Q, D, A, nL⟩ := K
  obtain ⟨rfl, rfl, rfl, rfl, hx, hb, hml, hown, hts, hK, hD, hA, hlk, hok, hX⟩ := F
  intro H locs ls hP hS hl
  exact va_put hx hb hts hin ty0 hty hnm hown hK hP (hD g a c) hS q0 he hc k hk (hts _ hlink) (fun _ q => q) hfin hd hn hfit hl' d (fun H1 locs1 hP1 hD1 hS1 => h H1 locs1 ls (by rw [← hw]; exact hP1) hS1 hl)
theorem hj_iald (F : hw_F K l D Wd tys X cc own Ts rm nL) (q0 t0 : Nat) {b : Nat} {cA : ClassId} {n : Nat} {f : Nat → Int32} (he : (Wd g a c)[q0]? = some (b, .inl (cA, n, .inl f))) (ht : tys[t0]? = some (cA, .int)) {i : Int32} (hin : vp_in i n) (d : decode cc pc = .ok (.iaload, 1)) (h : hw_J K Wd kc ks g a c lv (pc + 1) (.int (f i.toNatClampNeg) :: st)) : hw_J K Wd kc ks g a c lv pc (.int i :: .ref b :: st) := by
  obtain ⟨p, l, e, R, s, m, args, below, meth, cd, Q, D, A, nL⟩ := K
  obtain ⟨rfl, rfl, rfl, rfl, hx, hb, hml, hown, hts, hK, hD, hA, hlk, hok, hX⟩ := F
  intro H locs ls hP hS hl
  exact va_iald hx hb hK hP q0 t0 he ht hin d (h H locs ls hP hS hl)
theorem hj_iast (F : hw_F K l D Wd tys X cc own Ts rm nL) (q0 t0 : Nat) {b : Nat} {cA : ClassId} {n : Nat} {f : Nat → Int32} (he : (Wd g a c)[q0]? = some (b, .inl (cA, n, .inl f))) (ht : tys[t0]? = some (cA, .int)) {i x : Int32} (hin : vp_in i n) {a' : hw_A} (hw : (Wd g a c).set q0 (b, .inl (cA, n, .inl (upd f i.toNatClampNeg (x)))) = Wd g a' c) (d : decode cc pc = .ok (.iastore, 1)) (h : hw_J K Wd kc ks g a' c lv (pc + 1) st) : hw_J K Wd kc ks g a c lv pc (.int x :: .int i :: .ref b :: st) := by
  obtain ⟨p, l, e, R, s, m, args, below, meth, cd, Q, D, A, nL⟩ := K
  obtain ⟨rfl, rfl, rfl, rfl, hx, hb, hml, hown, hts, hK, hD, hA, hlk, hok, hX⟩ := F
  intro H locs ls hP hS hl
  exact va_iast hx hb hK hP (hD g a c) hS q0 t0 he ht hin d (fun H1 locs1 hP1 hD1 hS1 => h H1 locs1 ls (by rw [← hw]; exact hP1) hS1 hl)
theorem hj_bald (F : hw_F K l D Wd tys X cc own Ts rm nL) (q0 t0 : Nat) {b : Nat} {cA : ClassId} {n : Nat} {f : Nat → Int32} (he : (Wd g a c)[q0]? = some (b, .inl (cA, n, .inl f))) (ht : tys[t0]? = some (cA, .byte)) {i : Int32} (hin : vp_in i n) (d : decode cc pc = .ok (.baload, 1)) (h : hw_J K Wd kc ks g a c lv (pc + 1) (.int (f i.toNatClampNeg) :: st)) : hw_J K Wd kc ks g a c lv pc (.int i :: .ref b :: st) := by
  obtain ⟨p, l, e, R, s, m, args, below, meth, cd, Q, D, A, nL⟩ := K
  obtain ⟨rfl, rfl, rfl, rfl, hx, hb, hml, hown, hts, hK, hD, hA, hlk, hok, hX⟩ := F
  intro H locs ls hP hS hl
  exact va_bald hx hb hK hP q0 t0 he ht hin d (h H locs ls hP hS hl)
theorem hj_bast (F : hw_F K l D Wd tys X cc own Ts rm nL) (q0 t0 : Nat) {b : Nat} {cA : ClassId} {n : Nat} {f : Nat → Int32} (he : (Wd g a c)[q0]? = some (b, .inl (cA, n, .inl f))) (ht : tys[t0]? = some (cA, .byte)) {i x : Int32} (hin : vp_in i n) {a' : hw_A} (hw : (Wd g a c).set q0 (b, .inl (cA, n, .inl (upd f i.toNatClampNeg (vp_nar .byte x)))) = Wd g a' c) (d : decode cc pc = .ok (.bastore, 1)) (h : hw_J K Wd kc ks g a' c lv (pc + 1) st) : hw_J K Wd kc ks g a c lv pc (.int x :: .int i :: .ref b :: st) := by
  obtain ⟨p, l, e, R, s, m, args, below, meth, cd, Q, D, A, nL⟩ := K
  obtain ⟨rfl, rfl, rfl, rfl, hx, hb, hml, hown, hts, hK, hD, hA, hlk, hok, hX⟩ := F
  intro H locs ls hP hS hl
  exact va_bast hx hb hK hP (hD g a c) hS q0 t0 he ht hin d (fun H1 locs1 hP1 hD1 hS1 => h H1 locs1 ls (by rw [← hw]; exact hP1) hS1 hl)
theorem hj_zald (F : hw_F K l D Wd tys X cc own Ts rm nL) (q0 t0 : Nat) {b : Nat} {cA : ClassId} {n : Nat} {f : Nat → Int32} (he : (Wd g a c)[q0]? = some (b, .inl (cA, n, .inl f))) (ht : tys[t0]? = some (cA, .boolean)) {i : Int32} (hin : vp_in i n) (d : decode cc pc = .ok (.baload, 1)) (h : hw_J K Wd kc ks g a c lv (pc + 1) (.int (f i.toNatClampNeg) :: st)) : hw_J K Wd kc ks g a c lv pc (.int i :: .ref b :: st) := by
  obtain ⟨p, l, e, R, s, m, args, below, meth, cd, Q, D, A, nL⟩ := K
  obtain ⟨rfl, rfl, rfl, rfl, hx, hb, hml, hown, hts, hK, hD, hA, hlk, hok, hX⟩ := F
  intro H locs ls hP hS hl
  exact va_zald hx hb hK hP q0 t0 he ht hin d (h H locs ls hP hS hl)
theorem hj_zast (F : hw_F K l D Wd tys X cc own Ts rm nL) (q0 t0 : Nat) {b : Nat} {cA : ClassId} {n : Nat} {f : Nat → Int32} (he : (Wd g a c)[q0]? = some (b, .inl (cA, n, .inl f))) (ht : tys[t0]? = some (cA, .boolean)) {i x : Int32} (hin : vp_in i n) {a' : hw_A} (hw : (Wd g a c).set q0 (b, .inl (cA, n, .inl (upd f i.toNatClampNeg (vp_nar .boolean x)))) = Wd g a' c) (d : decode cc pc = .ok (.bastore, 1)) (h : hw_J K Wd kc ks g a' c lv (pc + 1) st) : hw_J K Wd kc ks g a c lv pc (.int x :: .int i :: .ref b :: st) := by
  obtain ⟨p, l, e, R, s, m, args, below, meth, cd, Q, D, A, nL⟩ := K
  obtain ⟨rfl, rfl, rfl, rfl, hx, hb, hml, hown, hts, hK, hD, hA, hlk, hok, hX⟩ := F
  intro H locs ls hP hS hl
  exact va_zast hx hb hK hP (hD g a c) hS q0 t0 he ht hin d (fun H1 locs1 hP1 hD1 hS1 => h H1 locs1 ls (by rw [← hw]; exact hP1) hS1 hl)
theorem hj_aald (F : hw_F K l D Wd tys X cc own Ts rm nL) (q0 t0 : Nat) {b : Nat} {cA : ClassId} {ty : FieldType} {n : Nat} {f : Nat → Option Nat} (he : (Wd g a c)[q0]? = some (b, .inl (cA, n, .inr (.inr (.inr (.inr f)))))) (ht : tys[t0]? = some (cA, .array ty)) {i : Int32} (hin : vp_in i n) {r : Nat} (hr : f i.toNatClampNeg = some r) (d : decode cc pc = .ok (.aaload, 1)) (h : hw_J K Wd kc ks g a c lv (pc + 1) (.ref r :: st)) : hw_J K Wd kc ks g a c lv pc (.int i :: .ref b :: st) := by
  obtain ⟨p, l, e, R, s, m, args, below, meth, cd, Q, D, A, nL⟩ := K
  obtain ⟨rfl, rfl, rfl, rfl, hx, hb, hml, hown, hts, hK, hD, hA, hlk, hok, hX⟩ := F
  intro H locs ls hP hS hl
  have hlt : i.toNatClampNeg < n := Nat.not_le.mp fun q => hin (Or.inr q)
  exact W.aald (v := .ref r) (ty := .array ty) hx hb (hP q0 _ he) ((hK.2 t0 _ ht).1 n (fun j => va_rf (f j))) rfl (fun q => by cases q) (by show ¬ (i < 0 ∨ (arrV _ _ _).slots.size ≤ _); rw [arrV_size]; exact hin) (by show (arrV _ _ _).slots[_]? = _; rw [arrV_read _ _ hlt, hr]; rfl) rfl rfl d (h H locs ls hP hS hl)
theorem hj_mmax (F : hw_F K l D Wd tys X cc own Ts rm nL) {index : Nat} {x y : Int32} (h1 : Cond.methodLink own index Lib.Math.max.name ∈ Ts) (h2 : Cond.static Lib.Math.max.name ∈ Ts) (h3 : Cond.initialized "java/lang/Math" ∈ Ts) (h4 : Cond.code Lib.Math.max.name Lib.Math.max.code 2 (some .int) ∈ Ts) (hf : 1 ≤ rm.frames) (hlo : (st.map fun v => v.category).sum + 13 ≤ rm.locals) (hc : kc ≤ rm.cells) (hs : ks ≤ rm.slots) (d : decode cc pc = .ok (.invokestatic index, 3)) (h : hw_J K Wd kc ks g a c lv (pc + 3) (.int (if x < y then y else x) :: st)) : hw_J K Wd kc ks g a c lv pc (.int y :: .int x :: st) := by
  obtain ⟨p, l, e, R, s, m, args, below, meth, cd, Q, D, A, nL⟩ := K
  obtain ⟨rfl, rfl, rfl, rfl, hx, hb, hml, hown, hts, hK, hD, hA, hlk, hok, hX⟩ := F
  intro H locs ls hP hS hl
  exact va_mmax hx hb (hml.trans hl.1.symm) hown (hts _ h1) (hts _ h2) (hts _ h3) (hts _ h4) hf hlo hc hs d (h H locs ls hP hS hl)
theorem hj_mmin (F : hw_F K l D Wd tys X cc own Ts rm nL) {index : Nat} {x y : Int32} (h1 : Cond.methodLink own index Lib.Math.min.name ∈ Ts) (h2 : Cond.static Lib.Math.min.name ∈ Ts) (h3 : Cond.initialized "java/lang/Math" ∈ Ts) (h4 : Cond.code Lib.Math.min.name Lib.Math.min.code 2 (some .int) ∈ Ts) (hf : 1 ≤ rm.frames) (hlo : (st.map fun v => v.category).sum + 13 ≤ rm.locals) (hc : kc ≤ rm.cells) (hs : ks ≤ rm.slots) (d : decode cc pc = .ok (.invokestatic index, 3)) (h : hw_J K Wd kc ks g a c lv (pc + 3) (.int (if y < x then y else x) :: st)) : hw_J K Wd kc ks g a c lv pc (.int y :: .int x :: st) := by
  obtain ⟨p, l, e, R, s, m, args, below, meth, cd, Q, D, A, nL⟩ := K
  obtain ⟨rfl, rfl, rfl, rfl, hx, hb, hml, hown, hts, hK, hD, hA, hlk, hok, hX⟩ := F
  intro H locs ls hP hS hl
  exact va_mmin hx hb (hml.trans hl.1.symm) hown (hts _ h1) (hts _ h2) (hts _ h3) (hts _ h4) hf hlo hc hs d (h H locs ls hP hS hl)
theorem hj_w {kc1 ks1 : Nat} (h1 : kc ≤ kc1) (h2 : ks ≤ ks1) (h : hw_J K Wd kc1 ks1 g a c lv pc st) : hw_J K Wd kc ks g a c lv pc st := by
  obtain ⟨p, l, e, R, s, m, args, below, meth, cd, Q, D, A, nL⟩ := K
  intro H locs ls hP hS hl
  exact W.widen h1 h2 (h H locs ls hP hS hl)
theorem hj_lv {lv' : List (Nat × Value)} (ks' : List Nat) (hs : lv_pick lv ks' = lv') (h : hw_J K Wd kc ks g a c lv' pc st) : hw_J K Wd kc ks g a c lv pc st := by
  obtain ⟨p, l, e, R, s, m, args, below, meth, cd, Q, D, A, nL⟩ := K
  intro H locs ls hP hS hl
  exact h H locs ls hP hS (lv_sub hl ks' hs)
end HWR
