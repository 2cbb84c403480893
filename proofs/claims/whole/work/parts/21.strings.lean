/-! the four words, String.length and String.charAt of them; static tables -/
def sx_len : List Nat := [5, 4, 4, 4]
def sx_B : List (List Int32) := [[99, 114, 111, 119, 110], [98, 114, 105, 109], [98, 97, 110, 100], [102, 101, 108, 116]]
def tp_len (i : Nat) : Nat := sx_len.getD i 0
def tp_ch (i j : Nat) : Int32 := (sx_B.getD i []).getD j 0
/-- what is given of the JDK's statics and of the four words at τ 0 .. τ 3 -/
def sx (τ : Nat → Nat) (A : Nat → Prop) (U : State) (H : Heap) : Prop := vk_S 4 sx_len sx_B (fun i => τ i) (fun i => τ (10 + i)) A U H ∧ va_Z "java/lang/String" "COMPACT_STRINGS" "Z" (.int 1) A U H ∧ va_Zq "jdk/internal/util/Preconditions" "SIOOBE_FORMATTER" "Ljava/util/function/BiFunction;" A U H
section SXR
variable {K : hw_K} {l : Launch} {D : va_G} {Wd : hw_W} {tys : List (ClassId × FieldType)} {X : hw_XT} {cc : ByteArray} {own : String} {Ts : List Cond} {rm : Room} {nL : Nat} {kc ks : Nat} {g : hw_G} {a : hw_A} {c : Int64} {lv : List (Nat × Value)} {pc : Nat} {st : List Value}
theorem hj_gets (F : hw_F K l D Wd tys X cc own Ts rm nL) {C n d : String} {v : Value} {index : Nat} (hZ : ∀ (A : Nat → Prop) (U : State) (H : Heap), X A U H → va_Z C n d v A U H) (hlink : Cond.fieldLink own index C n d ∈ Ts) (dd : decode cc pc = .ok (.getstatic index, 3)) (h : hw_J K Wd kc ks g a c lv (pc + 3) (v :: st)) : hw_J K Wd kc ks g a c lv pc st := by
  obtain ⟨p, l, e, R, s, m, args, below, meth, cd, Q, D, A, nL⟩ := K
  obtain ⟨rfl, rfl, rfl, rfl, hx, hb, hml, hown, hts, hK, hD, hA, hlk, hok, hX⟩ := F
  intro H locs ls hP hS hl
  exact va_gets hx hb (hZ _ _ _ hX) hS hown (hts _ hlink) (fun _ q => q) dd (h H locs ls hP hS hl)
theorem hj_getq (F : hw_F K l D Wd tys X cc own Ts rm nL) {C n d : String} {index : Nat} (hZ : ∀ (A : Nat → Prop) (U : State) (H : Heap), X A U H → va_Zq C n d A U H) (hlink : Cond.fieldLink own index C n d ∈ Ts) (dd : decode cc pc = .ok (.getstatic index, 3)) (h : ∀ v : Value, (v = .null ∨ ∃ q, v = .ref q) → hw_J K Wd kc ks g a c lv (pc + 3) (v :: st)) : hw_J K Wd kc ks g a c lv pc st := by
  obtain ⟨p, l, e, R, s, m, args, below, meth, cd, Q, D, A, nL⟩ := K
  obtain ⟨rfl, rfl, rfl, rfl, hx, hb, hml, hown, hts, hK, hD, hA, hlk, hok, hX⟩ := F
  intro H locs ls hP hS hl
  rcases hZ _ _ _ hX with hz | ⟨q, hz⟩
  · exact va_gets hx hb hz hS hown (hts _ hlink) (fun _ q => q) dd (h _ (Or.inl rfl) H locs ls hP hS hl)
  · exact va_gets hx hb hz hS hown (hts _ hlink) (fun _ q => q) dd (h _ (Or.inr ⟨q, rfl⟩) H locs ls hP hS hl)
theorem hj_getf (F : hw_F K l D Wd tys X cc own Ts rm nL) {o n d : String} {v : Value} {index q : Nat} (hE : ∀ (A : Nat → Prop) (U : State) (H : Heap), X A U H → va_OF o n d v q A U H) (hlink : Cond.fieldLink own index o n d ∈ Ts) (dd : decode cc pc = .ok (.getfield index, 3)) (h : hw_J K Wd kc ks g a c lv (pc + 3) (v :: st)) : hw_J K Wd kc ks g a c lv pc (.ref q :: st) := by
  obtain ⟨p, l, e, R, s, m, args, below, meth, cd, Q, D, A, nL⟩ := K
  obtain ⟨rfl, rfl, rfl, rfl, hx, hb, hml, hown, hts, hK, hD, hA, hlk, hok, hX⟩ := F
  intro H locs ls hP hS hl
  exact vk_getf hx hb (hE _ _ _ hX) hS hown (hts _ hlink) (fun _ q => q) dd (h H locs ls hP hS hl)
theorem hj_tlen (F : hw_F K l D Wd tys X cc own Ts rm nL) {ty : FieldType} {t N : Nat} {f : Nat → Value} (hT : ∀ (A : Nat → Prop) (U : State) (H : Heap), X A U H → va_T ty t N f A U H) (dd : decode cc pc = .ok (.arraylength, 1)) (h : hw_J K Wd kc ks g a c lv (pc + 1) (.int (nI N) :: st)) : hw_J K Wd kc ks g a c lv pc (.ref t :: st) := by
  obtain ⟨p, l, e, R, s, m, args, below, meth, cd, Q, D, A, nL⟩ := K
  obtain ⟨rfl, rfl, rfl, rfl, hx, hb, hml, hown, hts, hK, hD, hA, hlk, hok, hX⟩ := F
  intro H locs ls hP hS hl
  exact va_tlen hx hb (hT _ _ _ hX) hS rfl dd (h H locs ls hP hS hl)
theorem hj_tb (F : hw_F K l D Wd tys X cc own Ts rm nL) {t N : Nat} {f : Nat → Value} (hT : ∀ (A : Nat → Prop) (U : State) (H : Heap), X A U H → va_T .byte t N f A U H) {i : Int32} (hin : vp_in i N) (dd : decode cc pc = .ok (.baload, 1)) (h : hw_J K Wd kc ks g a c lv (pc + 1) (f i.toNatClampNeg :: st)) : hw_J K Wd kc ks g a c lv pc (.int i :: .ref t :: st) := by
  obtain ⟨p, l, e, R, s, m, args, below, meth, cd, Q, D, A, nL⟩ := K
  obtain ⟨rfl, rfl, rfl, rfl, hx, hb, hml, hown, hts, hK, hD, hA, hlk, hok, hX⟩ := F
  intro H locs ls hP hS hl
  exact va_tb hx hb (hT _ _ _ hX) hS hin rfl dd (h H locs ls hP hS hl)
theorem hj_ti (F : hw_F K l D Wd tys X cc own Ts rm nL) {t N : Nat} {f : Nat → Value} (hT : ∀ (A : Nat → Prop) (U : State) (H : Heap), X A U H → va_T .int t N f A U H) {i : Int32} (hin : vp_in i N) (dd : decode cc pc = .ok (.iaload, 1)) (h : hw_J K Wd kc ks g a c lv (pc + 1) (f i.toNatClampNeg :: st)) : hw_J K Wd kc ks g a c lv pc (.int i :: .ref t :: st) := by
  obtain ⟨p, l, e, R, s, m, args, below, meth, cd, Q, D, A, nL⟩ := K
  obtain ⟨rfl, rfl, rfl, rfl, hx, hb, hml, hown, hts, hK, hD, hA, hlk, hok, hX⟩ := F
  intro H locs ls hP hS hl
  exact va_ti hx hb (hT _ _ _ hX) hS hin rfl dd (h H locs ls hP hS hl)
theorem hj_ldcS (F : hw_F K l D Wd tys X cc own Ts rm nL) {index q : Nat} {tx : String} (hR : ∀ (A : Nat → Prop) (U : State) (H : Heap), X A U H → vk_R own index tx q U) (dd : decode cc pc = .ok (.ldc index, 2)) (h : hw_J K Wd kc ks g a c lv (pc + 2) (.ref q :: st)) : hw_J K Wd kc ks g a c lv pc st := by
  obtain ⟨p, l, e, R, s, m, args, below, meth, cd, Q, D, A, nL⟩ := K
  obtain ⟨rfl, rfl, rfl, rfl, hx, hb, hml, hown, hts, hK, hD, hA, hlk, hok, hX⟩ := F
  intro H locs ls hP hS hl
  exact va_ldcS hx hb hown (hR _ _ _ hX) dd (h H locs ls hP hS hl)
theorem hj_i2c (F : hw_F K l D Wd tys X cc own Ts rm nL) {x : Int32} (dd : decode cc pc = .ok (.i2c, 1)) (h : hw_J K Wd kc ks g a c lv (pc + 1) (.int (x.toUInt32 % 65536).toInt32 :: st)) : hw_J K Wd kc ks g a c lv pc (.int x :: st) := by
  obtain ⟨p, l, e, R, s, m, args, below, meth, cd, Q, D, A, nL⟩ := K
  obtain ⟨rfl, rfl, rfl, rfl, hx, hb, hml, hown, hts, hK, hD, hA, hlk, hok, hX⟩ := F
  intro H locs ls hP hS hl
  exact lv_i2c hx hb dd rfl (h H locs ls hP hS hl)
variable {y : MethodName} {ws1 ws2 : List Cond} {rm1 : Room} {bytes : ByteArray} {maxL n index b : Nat} {ret : Option FieldType} {C : String} {As st0 : List Value}
/-- a call of a method of an object that lies outside the world -/
theorem hj_cXi (F : hw_F K l D Wd tys X cc own Ts rm nL) {P : Int32 → hw_G → hw_A → Int64 → Prop} (hC : hw_Ci l D Wd tys X y ws1 rm1 (.ref b :: As) g a c P) (hG : GoodIn Ts (wsV own index C y ws1)) (hw : ws1 = Cond.code y bytes maxL ret :: ws2) (hz : rm1.cells = 0 ∧ rm1.slots = 0) (hd : y.cls = C ∧ y.cls ≠ "java/lang/invoke/MethodHandle" ∧ y.cls ≠ "java/lang/invoke/VarHandle" ∧ (parseMethodDescriptor y.desc).map (fun d => d.parameters.length) = some n) (hR : rm1.frames + 1 ≤ rm.frames ∧ 8 + (maxL + 11) + rm1.locals ≤ rm.locals) (hO : ∀ (A : Nat → Prop) (U : State) (H : Heap), X A U H → va_O C b A U H) (hn : As.length = n) (hst : st0 = As.reverse ++ .ref b :: st) (hW8 : (st.map fun v => v.category).sum ≤ 8) (hcs : kc ≤ rm.cells ∧ ks ≤ rm.slots) (d : decode cc pc = .ok (.invokevirtual index, 3))
    (h : ∀ r g' a' c', P r g' a' c' → hw_J K Wd kc ks g' a' c' lv (pc + 3) (.int r :: st)) : hw_J K Wd kc ks g a c lv pc st0 := by
  obtain ⟨p, l, e, R, s, m, args, below, meth, cd, Q, D, A, nL⟩ := K
  obtain ⟨rfl, rfl, rfl, rfl, hx, hb, hml, hown, hts, hK, hD, hA, hlk, hok, hX⟩ := F
  intro H locs ls hP hS hl
  have hfree : ∀ q, va_A (Wd g a c) H.size q → A q := fun q hq => hq.elim (fun ⟨k, e, hk⟩ => (hD g a c).2 k _ hk) (fun h => hA q (Nat.le_trans hS.1 h))
  have hXf : ∀ U : State, s.WarmedH U.vm → X (va_A (Wd g a c) H.size) U H := fun U hW => hok.2.2.1 _ _ _ _ (hok.1 _ _ _ _ hW (hok.2.1 _ _ _ _ hX hS.2.1)) hfree
  subst hst
  have hrec : ∃ cell : Cell, H[b]? = some cell ∧ cell.vm.isStatics = false ∧ s.vm.findClass C = some cell.cls := by
    obtain ⟨cell, h1, h2, h3, -⟩ := (hO _ _ _ hX).kept hS.2.1
    exact ⟨cell, h1, h2, h3⟩
  exact va_calli (S := hw_S) (va_runV (As := As) (rest := st) ⟨hx, hb, hml, hown, hts⟩ (hC H.size) (cwV n hts hG hw hz.1 hz.2 hd hR) ⟨hw_blind hok, hrec, fun U hU hW => ⟨rfl, by rw [hU], by rw [hU]; exact hP, va_K.moved hW.alike hK, (hD g a c).weaken (fun _ _ _ _ => trivial), by rw [hU]; exact hXf U hW⟩⟩ rfl hn hl.1 rfl (lv_room hW8) d ⟨hcs.1, hcs.2⟩) hS (fun q _ hq => hfree q hq) hfree (fun r u t H1 locs1 ht hvm hw hB hz1 hk1 hS1 => h r u.1 u.2.1 u.2.2 hw H1 locs1 ls (by rw [← ht]; exact hB) hS1 hl)
end SXR
/-- a method that answers a reference, and changes nothing -/
def hw_Cr (l : Launch) (D : va_G) (Wd : hw_W) (tys : List (ClassId × FieldType)) (X : hw_XT) (y : MethodName) (ws : List Cond) (rm : Room) (av : List Value) (g : hw_G) (a : hw_A) (c : Int64) (q : Nat) : Prop :=
  ∀ sz : Nat, Met l y ws rm (va_Pc av (hw_Pre D Wd tys X g a c sz)) (va_Qr (S := Unit) (fun _ => True) (fun _ ra t => ra = q ∧ va_P D vwCl (Wd g a c) t.heap) (va_A (Wd g a c) sz)) 0 0 (va_A (Wd g a c) sz)
theorem hw_Cr.mk {l : Launch} {D : va_G} {Wd : hw_W} {tys : List (ClassId × FieldType)} {X : hw_XT} {y : MethodName} {ws ws' : List Cond} {rm : Room} {av : List Value} {g : hw_G} {a : hw_A} {c : Int64} {q : Nat} {cc : ByteArray} {nL : Nat} {cn : String} {lv0 : List (Nat × Value)}
    (hy : plainName y.cls = true) (hw : ws = Cond.code y cc nL (some (.object cn)) :: ws') (hav : (lg_sl av).length ≤ nL) (hlv : lv_args 0 av = lv0) (hWd : hw_ads Wd) (hok : hw_XOK X)
    (body : ∀ K : hw_K, hw_F K l D Wd tys X cc y.cls ws rm nL → (∀ {lv : List (Nat × Value)} {pc : Nat}, decode cc pc = .ok (.areturn, 1) → hw_J K Wd 0 0 g a c lv pc [.ref q]) → hw_J K Wd 0 0 g a c lv0 0 []) : hw_Cr l D Wd tys X y ws rm av g a c q := by
  intro sz
  refine Met.ofW (cc := cc) (maxL := nL) (ret := (some (.object cn))) hy hw ?_
  intro p e s m args below meth cd s₁ B hml hv
  obtain ⟨rfl, hsz, hP, hK, hD0, hX⟩ := hv
  have hx := B.exec
  have hb := B.bytes
  have hr := B.returns
  have hts := atoms_spec (ws := ws) B.pre
  have hown : s.vm.findClass y.cls = some m.cls := findClass_of_methodNamed B.named
  have hlocks := B.notSynchronized
  subst hsz
  have hD := hD0.self (sz := s.heap.size)
  rw [lg_entry_eq]
  have hl := lv_entry av (n := nL) hav
  rw [hlv] at hl
  exact body (p, l, e, rm, s, m, av.toArray, below, meth, cd, _, D, va_A (Wd g a c) s.heap.size, nL) ⟨rfl, rfl, rfl, rfl, hx, hb, hml, hown, hts, hK, fun g' a' c' => hw_D hD (hWd g a c g' a' c'), fun q h => Or.inr h, hlocks, hok, hX⟩
    (fun {lv pc} d H locs ls hP hS hl => W.aret hx hb hr (Or.inl ⟨_, rfl⟩) (Or.inr ⟨_, rfl⟩) (fun t ht hW => ⟨⟨(), q, rfl, trivial, rfl, by show va_P _ _ _ t.heap; rw [ht]; exact hP⟩, hS.F ht⟩) hS.2.2 d hlocks) s.heap [] _ hP va_S.rf hl
section SXQ
variable {K : hw_K} {l : Launch} {D : va_G} {Wd : hw_W} {tys : List (ClassId × FieldType)} {X : hw_XT} {cc : ByteArray} {own : String} {Ts : List Cond} {rm : Room} {nL : Nat} {kc ks : Nat} {g : hw_G} {a : hw_A} {c : Int64} {lv : List (Nat × Value)} {pc : Nat} {st : List Value}
variable {y : MethodName} {ws1 ws2 : List Cond} {rm1 : Room} {bytes : ByteArray} {maxL n index b : Nat} {ret : Option FieldType} {C : String} {As st0 : List Value}
theorem hj_cSr (F : hw_F K l D Wd tys X cc own Ts rm nL) {q : Nat} (hC : hw_Cr l D Wd tys X y ws1 rm1 As g a c q) (hG : GoodIn Ts (va_wsS own index y ws1)) (hw : ws1 = Cond.code y bytes maxL ret :: ws2) (hz : rm1.cells = 0 ∧ rm1.slots = 0) (hd : y.cls ≠ "java/lang/invoke/MethodHandle" ∧ y.cls ≠ "java/lang/invoke/VarHandle" ∧ (parseMethodDescriptor y.desc).map (fun d => d.parameters.length) = some n) (hR : rm1.frames + 1 ≤ rm.frames ∧ 8 + (maxL + 11) + rm1.locals ≤ rm.locals) (hn : As.length = n) (hst : st0 = As.reverse ++ st) (hW8 : (st.map fun v => v.category).sum ≤ 8) (hcs : kc ≤ rm.cells ∧ ks ≤ rm.slots) (d : decode cc pc = .ok (.invokestatic index, 3))
    (h : hw_J K Wd kc ks g a c lv (pc + 3) (.ref q :: st)) : hw_J K Wd kc ks g a c lv pc st0 := by
  obtain ⟨p, l, e, R, s, m, args, below, meth, cd, Q, D, A, nL⟩ := K
  obtain ⟨rfl, rfl, rfl, rfl, hx, hb, hml, hown, hts, hK, hD, hA, hlk, hok, hX⟩ := F
  intro H locs ls hP hS hl
  have hfree : ∀ q, va_A (Wd g a c) H.size q → A q := fun q hq => hq.elim (fun ⟨k, e, hk⟩ => (hD g a c).2 k _ hk) (fun h => hA q (Nat.le_trans hS.1 h))
  have hXf : ∀ U : State, s.WarmedH U.vm → X (va_A (Wd g a c) H.size) U H := fun U hW => hok.2.2.1 _ _ _ _ (hok.1 _ _ _ _ hW (hok.2.1 _ _ _ _ hX hS.2.1)) hfree
  subst hst
  exact va_callr (S := Unit) (va_runS (As := As) (rest := st) ⟨hx, hb, hml, hown, hts⟩ (hC H.size) (va_cwS n hts hG hw hz.1 hz.2 hd hR) ⟨hw_blind hok, fun U hU hW => ⟨rfl, by rw [hU], by rw [hU]; exact hP, va_K.moved hW.alike hK, (hD g a c).weaken (fun _ _ _ _ => trivial), by rw [hU]; exact hXf U hW⟩⟩ rfl hn hl.1 rfl (lv_room hW8) d ⟨hcs.1, hcs.2⟩) hS (fun q _ hq => hfree q hq) hfree (fun u ra t H1 locs1 ht hvm hw hB hz1 hk1 hS1 => by
    obtain ⟨rfl, hB⟩ := hB
    exact h H1 locs1 ls (by rw [← ht]; exact hB) hS1 hl)
end SXQ
section SXM
variable {l : Launch} {D : va_G} {Wd : hw_W} {tys : List (ClassId × FieldType)} {X : hw_XT} {g : hw_G} {a : hw_A} {c : Int64} {τ : Nat → Nat}
theorem sx_ok : ∀ i : Fin 4, ∀ j : Fin 5, ((tp_ch i j &&& 255).toUInt32 % 65536).toInt32 = tp_ch i j ∧ narrow .char (.int (tp_ch i j)) = .int (tp_ch i j) := by decide +kernel
theorem sx_l5 : ∀ i : Fin 4, tp_len i ≤ 5 := by decide +kernel
set_option maxHeartbeats 4000000 in
set_option maxRecDepth 100000 in
theorem k_S_coder (hok : hw_XOK X) (hWd : hw_ads Wd) (hs : ∀ A U H, X A U H → sx τ A U H) {i : Nat} (hi : i < 4) : hw_Ci l D Wd tys X yJ0_coder_7d493 wsJ0_coder_7d493 (hw_rm 1) [.ref (τ i)] g a c (fun r g' a' c' => r = 0 ∧ g' = g ∧ a' = a ∧ c' = c) := by
  refine hw_Ci.mk (lv0 := [(0, _)]) (by decide) rfl (Nat.le_of_ble_eq_true rfl) rfl hWd hok (fun K F ret => ?_)
  refine hj_gets F (fun A U H h => (hs A U H h).2.1) (List.mem_of_getElem? (i := 1) rfl) dJ0_coder_7d493_0 ?_
  refine hj_if_eq F 13 dJ0_coder_7d493_3 (by decide) (fun q => absurd q (by decide)) (fun q => ?_)
  refine hj_aload_n F 0 dJ0_coder_7d493_6 rfl rfl ?_
  refine hj_getf F (fun A U H h => ((hs A U H h).1.1 i hi).2.1) (List.mem_of_getElem? (i := 2) rfl) dJ0_coder_7d493_7 ?_
  refine hj_goto F 14 dJ0_coder_7d493_10 (by decide) ?_
  exact ret dJ0_coder_7d493_14 rfl ⟨rfl, rfl, rfl, rfl⟩
set_option maxHeartbeats 4000000 in
set_option maxRecDepth 100000 in
theorem k_S_isLatin1 (hok : hw_XOK X) (hWd : hw_ads Wd) (hs : ∀ A U H, X A U H → sx τ A U H) {i : Nat} (hi : i < 4) : hw_Ci l D Wd tys X yJ0_isLatin1_aae02 wsJ0_isLatin1_aae02 (hw_rm 1) [.ref (τ i)] g a c (fun r g' a' c' => r = 1 ∧ g' = g ∧ a' = a ∧ c' = c) := by
  refine hw_Ci.mk (lv0 := [(0, _)]) (by decide) rfl (Nat.le_of_ble_eq_true rfl) rfl hWd hok (fun K F ret => ?_)
  refine hj_gets F (fun A U H h => (hs A U H h).2.1) (List.mem_of_getElem? (i := 1) rfl) dJ0_isLatin1_aae02_0 ?_
  refine hj_if_eq F 17 dJ0_isLatin1_aae02_3 (by decide) (fun q => absurd q (by decide)) (fun q => ?_)
  refine hj_aload_n F 0 dJ0_isLatin1_aae02_6 rfl rfl ?_
  refine hj_getf F (fun A U H h => ((hs A U H h).1.1 i hi).2.1) (List.mem_of_getElem? (i := 2) rfl) dJ0_isLatin1_aae02_7 ?_
  refine hj_if_ne F 17 dJ0_isLatin1_aae02_10 (by decide) (fun q => absurd rfl q) (fun q => ?_)
  refine hj_iconst F (v := 1) dJ0_isLatin1_aae02_13 (by decide) ?_
  refine hj_goto F 18 dJ0_isLatin1_aae02_14 (by decide) ?_
  exact ret dJ0_isLatin1_aae02_18 rfl ⟨rfl, rfl, rfl, rfl⟩
set_option maxHeartbeats 4000000 in
set_option maxRecDepth 100000 in
theorem k_S_length (hok : hw_XOK X) (hWd : hw_ads Wd) (hs : ∀ A U H, X A U H → sx τ A U H) {i : Nat} (hi : i < 4) : hw_Ci l D Wd tys X yJ0_length_8abf5 wsJ0_length_8abf5 (hw_rm 2) [.ref (τ i)] g a c (fun r g' a' c' => r = nI (tp_len i) ∧ g' = g ∧ a' = a ∧ c' = c) := by
  refine hw_Ci.mk (lv0 := [(0, _)]) (by decide) rfl (Nat.le_of_ble_eq_true rfl) rfl hWd hok (fun K F ret => ?_)
  have F : hw_F K l D Wd tys X cJ0_length_8abf5 RJ0 wsJ0_length_8abf5 (hw_rm 2) 1 := F
  refine hj_aload_n F 0 dJ0_length_8abf5_0 rfl rfl ?_
  refine hj_getf F (fun A U H h => ((hs A U H h).1.1 i hi).2.2.1) (List.mem_of_getElem? (i := 1) rfl) dJ0_length_8abf5_1 ?_
  refine hj_tlen F (fun A U H h => ((hs A U H h).1.1 i hi).2.2.2) dJ0_length_8abf5_4 ?_
  refine hj_aload_n F 0 dJ0_length_8abf5_5 rfl rfl ?_
  refine hj_cXi F (n := 0) (k_S_coder hok hWd hs hi) gJ0_length_8abf5_J0_coder_7d493 rfl ⟨rfl, rfl⟩ (by decide +kernel) ⟨by decide, by decide⟩ (fun A U H h => ((hs A U H h).1.1 i hi).1) (As := []) rfl rfl (Nat.le_of_ble_eq_true rfl) ⟨Nat.zero_le _, Nat.zero_le _⟩ dJ0_length_8abf5_6 (hw_eq4 ?_)
  refine hj_ishr F dJ0_length_8abf5_9 ?_
  exact ret dJ0_length_8abf5_10 rfl ⟨sb_shr0 _, rfl, rfl, rfl⟩
set_option maxHeartbeats 4000000 in
set_option maxRecDepth 100000 in
theorem k_S_check3 (hok : hw_XOK X) (hWd : hw_ads Wd) {j N : Nat} (hj : j < N) (hN : N < 2 ^ 31) {v : Value} (hv : v = .null ∨ ∃ q, v = .ref q) : hw_Ci l D Wd tys X yJ3_checkIndex_8e157 wsJ3_checkIndex_8e157 (hw_rm 1) [.int (nI j), .int (nI N), v] g a c (fun r g' a' c' => r = nI j ∧ g' = g ∧ a' = a ∧ c' = c) := by
  refine hw_Ci.mk (lv0 := [(0, .int (nI j)), (1, .int (nI N)), (2, v)]) (by decide) rfl (by rcases hv with rfl | ⟨q, rfl⟩ <;> exact Nat.le_of_ble_eq_true rfl) (by rcases hv with rfl | ⟨q, rfl⟩ <;> rfl) hWd hok (fun K F ret => ?_)
  refine hj_iload_n F 0 dJ3_checkIndex_8e157_0 rfl rfl ?_
  refine hj_if_lt F 9 dJ3_checkIndex_8e157_1 (by decide) (fun q => absurd q (nI_pos (by omega))) (fun q => ?_)
  refine hj_iload_n F 0 dJ3_checkIndex_8e157_4 rfl rfl ?_
  refine hj_iload_n F 1 dJ3_checkIndex_8e157_5 rfl rfl ?_
  refine hj_icmp_lt F 16 dJ3_checkIndex_8e157_6 (by decide) (fun q => ?_) (fun q => absurd (nI_lt hj hN) q)
  refine hj_iload_n F 0 dJ3_checkIndex_8e157_16 rfl rfl ?_
  exact ret dJ3_checkIndex_8e157_17 rfl ⟨rfl, rfl, rfl, rfl⟩
set_option maxHeartbeats 4000000 in
set_option maxRecDepth 100000 in
theorem k_S_check0 (hok : hw_XOK X) (hWd : hw_ads Wd) (hs : ∀ A U H, X A U H → sx τ A U H) {j N : Nat} (hj : j < N) (hN : N < 2 ^ 31) : hw_Cv l D Wd tys X yJ0_checkIndex_df160 wsJ0_checkIndex_df160 (hw_rm 2) [.int (nI j), .int (nI N)] g a c (fun g' a' c' => g' = g ∧ a' = a ∧ c' = c) := by
  refine hw_Cv.mk (lv0 := [(0, _), (1, _)]) (by decide) rfl (Nat.le_of_ble_eq_true rfl) rfl hWd hok (fun K F ret => ?_)
  have F : hw_F K l D Wd tys X cJ0_checkIndex_df160 RJ0 wsJ0_checkIndex_df160 (hw_rm 2) 2 := F
  refine hj_iload_n F 0 dJ0_checkIndex_df160_0 rfl rfl ?_
  refine hj_iload_n F 1 dJ0_checkIndex_df160_1 rfl rfl ?_
  refine hj_getq F (fun A U H h => (hs A U H h).2.2) (List.mem_of_getElem? (i := 1) rfl) dJ0_checkIndex_df160_2 (fun v hv => ?_)
  refine hj_cSi F (n := 3) (k_S_check3 hok hWd hj hN hv) gJ0_checkIndex_df160_J3_checkIndex_8e157 rfl ⟨rfl, rfl⟩ (by decide +kernel) ⟨by decide, by decide⟩ (As := [_, _, _]) rfl rfl (Nat.le_of_ble_eq_true rfl) ⟨Nat.zero_le _, Nat.zero_le _⟩ dJ0_checkIndex_df160_5 (hw_eq4 ?_)
  refine hj_pop F dJ0_checkIndex_df160_8 rfl ?_
  exact ret dJ0_checkIndex_df160_9 ⟨rfl, rfl, rfl⟩
set_option maxHeartbeats 4000000 in
set_option maxRecDepth 100000 in
theorem k_S_charAt1 (hok : hw_XOK X) (hWd : hw_ads Wd) (hs : ∀ A U H, X A U H → sx τ A U H) {i j : Nat} (hi : i < 4) (hj : j < tp_len i) : hw_Ci l D Wd tys X yJ1_charAt_3b067 wsJ1_charAt_3b067 (hw_rm 3) [.ref (τ (10 + i)), .int (nI j)] g a c (fun r g' a' c' => r = tp_ch i j ∧ g' = g ∧ a' = a ∧ c' = c) := by
  refine hw_Ci.mk (lv0 := [(0, _), (1, _)]) (by decide) rfl (Nat.le_of_ble_eq_true rfl) rfl hWd hok (fun K F ret => ?_)
  have F : hw_F K l D Wd tys X cJ1_charAt_3b067 RJ1 wsJ1_charAt_3b067 (hw_rm 3) 2 := F
  have h5 := sx_l5 ⟨i, hi⟩
  have h5 : tp_len i ≤ 5 := h5
  obtain ⟨e1, e2⟩ := sx_ok ⟨i, hi⟩ ⟨j, by omega⟩
  have e1 : ((tp_ch i j &&& 255).toUInt32 % 65536).toInt32 = tp_ch i j := e1
  have e2 : narrow .char (.int (tp_ch i j)) = .int (tp_ch i j) := e2
  refine hj_iload_n F 1 dJ1_charAt_3b067_0 rfl rfl ?_
  refine hj_aload_n F 0 dJ1_charAt_3b067_1 rfl rfl ?_
  refine hj_tlen F (fun A U H h => ((hs A U H h).1.1 i hi).2.2.2) dJ1_charAt_3b067_2 ?_
  refine hj_cSv F (n := 2) (k_S_check0 hok hWd hs hj (by omega)) gJ1_charAt_3b067_J0_checkIndex_df160 rfl ⟨rfl, rfl⟩ (by decide +kernel) ⟨by decide, by decide⟩ (As := [_, _]) rfl rfl (Nat.le_of_ble_eq_true rfl) ⟨Nat.zero_le _, Nat.zero_le _⟩ dJ1_charAt_3b067_3 (hw_eq3 ?_)
  refine hj_aload_n F 0 dJ1_charAt_3b067_6 rfl rfl ?_
  refine hj_iload_n F 1 dJ1_charAt_3b067_7 rfl rfl ?_
  refine hj_tb F (fun A U H h => ((hs A U H h).1.1 i hi).2.2.2) (vp_in_nI hj (by show tp_len i < _; omega)) dJ1_charAt_3b067_8 ?_
  refine hj_sipush F (v := 255) dJ1_charAt_3b067_9 (by decide) ?_
  refine hj_iand F dJ1_charAt_3b067_12 ?_
  refine hj_i2c F dJ1_charAt_3b067_13 ?_
  have e3 : (sx_B.getD i []).getD (nI j).toNatClampNeg 0 = tp_ch i j := by rw [nI_clamp (by omega)]; rfl
  rw [e3, e1]
  exact ret dJ1_charAt_3b067_14 e2 ⟨rfl, rfl, rfl, rfl⟩
set_option maxHeartbeats 4000000 in
set_option maxRecDepth 100000 in
theorem k_S_charAt (hok : hw_XOK X) (hWd : hw_ads Wd) (hs : ∀ A U H, X A U H → sx τ A U H) {i j : Nat} (hi : i < 4) (hj : j < tp_len i) : hw_Ci l D Wd tys X yJ0_charAt_5068e wsJ0_charAt_5068e (hw_rm 4) [.ref (τ i), .int (nI j)] g a c (fun r g' a' c' => r = tp_ch i j ∧ g' = g ∧ a' = a ∧ c' = c) := by
  refine hw_Ci.mk (lv0 := [(0, _), (1, _)]) (by decide) rfl (Nat.le_of_ble_eq_true rfl) rfl hWd hok (fun K F ret => ?_)
  have F : hw_F K l D Wd tys X cJ0_charAt_5068e RJ0 wsJ0_charAt_5068e (hw_rm 4) 2 := F
  have h5 := sx_l5 ⟨i, hi⟩
  have h5 : tp_len i ≤ 5 := h5
  have e2 : narrow .char (.int (tp_ch i j)) = .int (tp_ch i j) := (sx_ok ⟨i, hi⟩ ⟨j, by omega⟩).2
  refine hj_aload_n F 0 dJ0_charAt_5068e_0 rfl rfl ?_
  refine hj_cXi F (n := 0) (k_S_isLatin1 hok hWd hs hi) gJ0_charAt_5068e_J0_isLatin1_aae02 rfl ⟨rfl, rfl⟩ (by decide +kernel) ⟨by decide, by decide⟩ (fun A U H h => ((hs A U H h).1.1 i hi).1) (As := []) rfl rfl (Nat.le_of_ble_eq_true rfl) ⟨Nat.zero_le _, Nat.zero_le _⟩ dJ0_charAt_5068e_1 (hw_eq4 ?_)
  refine hj_if_eq F 16 dJ0_charAt_5068e_4 (by decide) (fun q => absurd q (by decide)) (fun q => ?_)
  refine hj_aload_n F 0 dJ0_charAt_5068e_7 rfl rfl ?_
  refine hj_getf F (fun A U H h => ((hs A U H h).1.1 i hi).2.2.1) (List.mem_of_getElem? (i := 1) rfl) dJ0_charAt_5068e_8 ?_
  refine hj_iload_n F 1 dJ0_charAt_5068e_11 rfl rfl ?_
  refine hj_cSi F (n := 2) (k_S_charAt1 hok hWd hs hi hj) gJ0_charAt_5068e_J1_charAt_3b067 rfl ⟨rfl, rfl⟩ (by decide +kernel) ⟨by decide, by decide⟩ (As := [_, _]) rfl rfl (Nat.le_of_ble_eq_true rfl) ⟨Nat.zero_le _, Nat.zero_le _⟩ dJ0_charAt_5068e_12 (hw_eq4 ?_)
  exact ret dJ0_charAt_5068e_15 e2 ⟨rfl, rfl, rfl, rfl⟩
end SXM
