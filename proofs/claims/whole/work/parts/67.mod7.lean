section SMOD7
theorem hi_X4_readHat_M : ∀ w ∈ u_ws RX4 TX4 28, w ∈ wsX4_readHat := fun w h => by
  unfold wsX4_readHat
  simp only [List.mem_cons, List.mem_append]
  first | (simp only [h, or_true, true_or]; done) | (have h2 : w ∈ wsX40 := h; simp only [h2, or_true, true_or]; done)
theorem lk_X4_readHat_20 : Cond.fieldLink RX4 20 "HatWorksModel" "place" "I" ∈ wsX4_readHat := List.mem_of_getElem? (i := 3) rfl
theorem lk_X4_readHat_24 : Cond.fieldLink RX4 24 "HatWorksModel" "part" "[I" ∈ wsX4_readHat := List.mem_of_getElem? (i := 4) rfl
theorem lk_X4_readHat_27 : Cond.fieldLink RX4 27 "HatWorksModel" "has" "[Z" ∈ wsX4_readHat := List.mem_of_getElem? (i := 5) rfl
theorem lk_X4_readHat_85 : Cond.fieldLink RX4 85 "HatWorksModel" "size" "I" ∈ wsX4_readHat := List.mem_of_getElem? (i := 6) rfl
theorem lk_X4_readHat_88 : Cond.fieldLink RX4 88 "HatWorksModel" "at" "I" ∈ wsX4_readHat := List.mem_of_getElem? (i := 1) rfl
theorem lk_X4_readHat_95 : Cond.fieldLink RX4 95 "HatWorksModel" "fault" "I" ∈ wsX4_readHat := List.mem_of_getElem? (i := 2) rfl
variable {K : hw_K} {l : Launch} {D : va_G} {ad : Nat → Nat} {t : Nat → ClassId} {X : hw_XT} {rm : Room} {g : hw_G} {a : hw_A} {c : Int64}
variable {τ : Nat → Nat}
def md_G (g : hw_G) (x f p : Int32) : hw_G := upd (upd (upd g 5 x) 6 f) 7 p
def md_A (a : hw_A) (y4 y3 : Nat → Int32) : hw_A := va_up (va_up a 4 y4) 3 y3
theorem md_G4 (g : hw_G) (x f p : Int32) : md_G g x f p 4 = g 4 := by unfold md_G; rw [pk_un (by decide), pk_un (by decide), pk_un (by decide)]
theorem md_G5 (g : hw_G) (x f p : Int32) : md_G g x f p 5 = x := by unfold md_G; rw [pk_un (by decide), pk_un (by decide), pk_us]
theorem md_G6 (g : hw_G) (x f p : Int32) : md_G g x f p 6 = f := by unfold md_G; rw [pk_un (by decide), pk_us]
theorem md_G7 (g : hw_G) (x f p : Int32) : md_G g x f p 7 = p := by unfold md_G; rw [pk_us]
theorem md_Gu5 (g : hw_G) (x f p y : Int32) : upd (md_G g x f p) 5 y = md_G g y f p := by
  unfold md_G
  rw [upd_comm _ _ _ (show (7 : Nat) ≠ 5 by decide), upd_comm _ _ _ (show (6 : Nat) ≠ 5 by decide), upd_uu]
theorem md_Gu6 (g : hw_G) (x f p y : Int32) : upd (md_G g x f p) 6 y = md_G g x y p := by
  unfold md_G
  rw [upd_comm _ _ _ (show (7 : Nat) ≠ 6 by decide), upd_uu]
theorem md_Gu7 (g : hw_G) (x f p y : Int32) : upd (md_G g x f p) 7 y = md_G g x f y := by
  unfold md_G
  rw [upd_uu]
theorem md_Au3 (a : hw_A) (y z w : Nat → Int32) : va_up (md_A a y z) 3 w = md_A a y w := by
  unfold md_A; rw [bx_uu]
theorem md_Au4 (a : hw_A) (y z w : Nat → Int32) : va_up (md_A a y z) 4 w = md_A a w z := by
  unfold md_A; rw [vau_comm _ _ _ (show (3 : Nat) ≠ 4 by decide), bx_uu]
theorem md_Ar3 (a : hw_A) (y z : Nat → Int32) : md_A a y z 3 = z := vau_s _ _ _
theorem md_Ar4 (a : hw_A) (y z : Nat → Int32) : md_A a y z 4 = y := by unfold md_A; rw [va_up_ne _ _ (by decide), vau_s]
theorem md_Ar2 (a : hw_A) (y z : Nat → Int32) : md_A a y z 2 = a 2 := by unfold md_A; rw [va_up_ne _ _ (by decide), va_up_ne _ _ (by decide)]
theorem md_A0 (a : hw_A) : md_A a (a 4) (a 3) = a := by
  unfold md_A
  rw [vau_self a 4 rfl, vau_self a 3 rfl]
theorem md_G0 (g : hw_G) : md_G g (g 5) (g 6) (g 7) = g := by
  unfold md_G
  rw [upd_self g 5 rfl, upd_self g 6 rfl, upd_self g 7 rfl]
def md_R (ps y4 y3 : Nat → Int32) : Prop := ∀ p, p < 4 → (ps p = -1 ↔ y4 p = 0) ∧ y3 p = tp_v (ps p)
def md_fr1 (x : Int32) : Nat := if x = -1 then 1 else 0
def md_fr (ps : Nat → Int32) : Nat := md_fr1 (ps 0) + md_fr1 (ps 1) + md_fr1 (ps 2) + md_fr1 (ps 3)
theorem md_fru {ps : Nat → Int32} {p : Nat} {v : Int32} (hp : p < 4) (h : ps p = -1) (hv : ¬ v = -1) : md_fr (upd ps p v) + 1 = md_fr ps := by
  have e1 : md_fr1 (-1) = 1 := if_pos rfl
  have e0 : md_fr1 v = 0 := if_neg hv
  match p, hp with
  | 0, _ => simp [md_fr, upd, h, e1, e0]; omega
  | 1, _ => simp [md_fr, upd, h, e1, e0]; omega
  | 2, _ => simp [md_fr, upd, h, e1, e0]; omega
  | 3, _ => simp [md_fr, upd, h, e1, e0]
theorem md_vn {p : Nat} {v : Int32} (hp : p < 4) (h : ¬ (v < tp_least p ∨ tp_most p < v)) : ¬ v = -1 := by
  intro e
  subst e
  match p, hp with
  | 0, _ => exact h (Or.inl (by decide))
  | 1, _ => exact h (Or.inl (by decide))
  | 2, _ => exact h (Or.inl (by decide))
  | 3, _ => exact h (Or.inl (by decide))
theorem md_Ru {ps y4 y3 : Nat → Int32} {p : Nat} {v : Int32} (h : md_R ps y4 y3) (hv : ¬ v = -1) : md_R (upd ps p v) (upd y4 p 1) (upd y3 p v) := by
  intro q hq
  by_cases e : q = p
  · subst e
    rw [pk_us, pk_us, pk_us]
    exact ⟨⟨fun z => absurd z hv, fun z => absurd z (by decide)⟩, (if_neg hv).symm⟩
  · rw [pk_un e, pk_un e, pk_un e]
    exact h q hq
/-- behind readPart -/
def md_F (b : Nat → Int32) (L k : Nat) (h : Int32 × Int32 × (Nat → Int32)) (m : Nat) (f q : Int32) (z4 z3 : Nat → Int32) : Prop := m ≤ L ∧ ((0 < f ∧ f = h.1 ∧ q = h.2.1) ∨ (f = 0 ∧ q = -1 ∧ ∃ ps, md_R ps z4 z3 ∧ md_fr ps + 1 ≤ k ∧ h = (if L ≤ skp (tp_bl b) L m then (0, -1, ps) else if b (skp (tp_bl b) L m) = 44 then tp_hat b L k (skp (tp_bl b) L m + 1) ps else (1, nI (skp (tp_bl b) L m), ps))))
theorem md_S {g : hw_G} {a : hw_A} {c : Int64} {b : Nat → Int32} {L k n n1 n2 n3 n4 p : Nat} {v : Int32} {ps y4 y3 : Nat → Int32} {g' : hw_G} {a' : hw_A} {c' : Int64} (hn : n ≤ L) (e1 : skp (tp_bl b) L n = n1) (e2 : skp (tp_le b) L n1 = n2) (ep : tp_pn b n1 n2 = p) (e3 : skp (tp_bl b) L n2 = n3) (e4 : skp (tp_di b) L n3 = n4) (ev : tp_rv b L n3 0 = v) (hR : md_R ps y4 y3) (hf : md_fr ps ≤ k) (h : md_PP (md_G g (nI n) 0 (-1)) (md_A a y4 y3) c n1 n3 n4 p v g' a' c') : ∃ (m : Nat) (f q : Int32) (z4 z3 : Nat → Int32), c' = c ∧ g' = md_G g (nI m) f q ∧ a' = md_A a z4 z3 ∧ md_F b L k (tp_hat b L (k + 1) n ps) m f q z4 z3 := by
  have hp9 : p ≤ 4 := by rw [← ep]; exact tp_pn_le _ _ _
  have h1 : n ≤ n1 ∧ n1 ≤ L := by rw [← e1]; exact skp_ge _ hn
  have h2 : n1 ≤ n2 ∧ n2 ≤ L := by rw [← e2]; exact skp_ge _ h1.2
  have h3 : n2 ≤ n3 ∧ n3 ≤ L := by rw [← e3]; exact skp_ge _ h2.2
  have h4 : n3 ≤ n4 ∧ n4 ≤ L := by rw [← e4]; exact skp_ge _ h3.2
  rw [tp_hat_s e1 e2 ep e3 e4 ev rfl]
  unfold md_PP at h
  simp only [md_Gu5, md_Gu6, md_Gu7, md_Au3, md_Au4, md_Ar3, md_Ar4] at h
  obtain ⟨hc, h⟩ := h
  have hc1 : (p = 4 ∨ ¬ y4 p = 0) ↔ (p = 4 ∨ ¬ ps p = -1) := by
    by_cases e : p = 4
    · exact ⟨fun _ => Or.inl e, fun _ => Or.inl e⟩
    · have := (hR p (by omega)).1
      exact ⟨fun z => Or.inr (fun y => z.elim e (fun z => z (this.mp y))), fun z => Or.inr (fun y => z.elim e (fun z => z (this.mpr y)))⟩
  by_cases c1 : p = 4 ∨ ¬ ps p = -1
  · rw [if_pos (hc1.mpr c1)] at h
    rw [if_pos c1]
    exact ⟨n1, 1, nI n1, y4, y3, hc, h.1, h.2, h1.2, Or.inl ⟨by decide, rfl, rfl⟩⟩
  · rw [if_neg (fun z => c1 (hc1.mp z))] at h
    rw [if_neg c1]
    have hp : p < 4 := by
      have : ¬ p = 4 := fun z => c1 (Or.inl z)
      omega
    have hps : ps p = -1 := Classical.byContradiction (fun z => c1 (Or.inr z))
    by_cases c2 : n4 = n3
    · rw [if_pos c2] at h ⊢
      exact ⟨n3, 1, nI n3, _, y3, hc, h.1, h.2, h3.2, Or.inl ⟨by decide, rfl, rfl⟩⟩
    · rw [if_neg c2] at h ⊢
      by_cases c3 : v < tp_least p ∨ tp_most p < v
      · rw [if_pos c3] at h ⊢
        obtain ⟨hg, x, ha⟩ := h
        exact ⟨n4, 2, nI n3, _, _, hc, hg, ha, h4.2, Or.inl ⟨by decide, rfl, rfl⟩⟩
      · rw [if_neg c3] at h ⊢
        have hv := md_vn hp c3
        exact ⟨n4, 0, -1, _, _, hc, h.1, h.2, h4.2, Or.inr ⟨rfl, rfl, upd ps p v, md_Ru hR hv, by have := md_fru hp hps hv; omega, rfl⟩⟩
/-- where the loop has ended -/
def md_E (h : Int32 × Int32 × (Nat → Int32)) (L : Nat) (x f p : Int32) (z4 z3 : Nat → Int32) : Prop := (0 < f ∧ f = h.1 ∧ p = h.2.1 ∧ ∃ n, n ≤ L ∧ x = nI n) ∨ (f = 0 ∧ p = -1 ∧ h.1 = 0 ∧ h.2.1 = -1 ∧ x = nI L ∧ md_R h.2.2 z4 z3) ∨ (f = 0 ∧ p = -1 ∧ ∃ n, n < L ∧ x = nI n ∧ h.1 = 1 ∧ h.2.1 = nI n)
theorem mb_44 {b : Nat → Int32} (hb : by_ok b) {L n : Nat} : mb b L n = 44 ↔ (n < L ∧ b n = 44) := by
  unfold mb
  by_cases h : n < L
  · rw [if_pos h, (by_f (hb n)).2.1]
    exact ⟨fun z => ⟨h, z⟩, fun z => z.2⟩
  · rw [if_neg h]
    exact ⟨fun z => absurd z (by decide), fun z => absurd z.1 h⟩
set_option maxHeartbeats 4000000 in
set_option maxRecDepth 100000 in
theorem lp_M_readHat (F : hw_F K l D (WM ad t) (hw_T t) X cX4_readHat RX4 wsX4_readHat (hw_rm 7) 2) (hok : hw_XOK X) (hs : ∀ A U H, X A U H → sx τ A U H) (hs4 : ∀ A U H, X A U H → sx4 τ U) {L : Nat} {z1 : Int32} (h4 : g 4 = nI L) (hL : L ≤ 100) (hby : by_ok (a 2)) : ∀ (N k : Nat), k < N → ∀ (h : Int32 × Int32 × (Nat → Int32)) (m : Nat) (f q : Int32) (z4 z3 : Nat → Int32), md_F (a 2) L k h m f q z4 z3 → (∀ (x f q : Int32) (z4 z3 : Nat → Int32), md_E h L x f q z4 z3 → hw_J K (WM ad t) 0 0 (md_G g x f q) (md_A a z4 z3) c [(1, .int z1), (0, .ref (ad 0))] 91 []) → hw_J K (WM ad t) 0 0 (md_G g (nI (skp (tp_bl (a 2)) L m)) f q) (md_A a z4 z3) c [(1, .int z1), (0, .ref (ad 0))] 50 [] := by
  intro N
  induction N with
  | zero => intro k hk; exact absurd hk (Nat.not_lt_zero _)
  | succ N ih =>
    intro k hk h m f q z4 z3 hF h91
    have hs5 := skp_ge (tp_bl (a 2)) hF.1
    refine hj_aload_n F 1 dX4_readHat_50 rfl rfl ?_
    refine hg_M_fault F hi_X4_readHat_M lk_X4_readHat_95 dX4_readHat_51 ?_
    rw [md_G6]
    refine hj_if_ne F 91 dX4_readHat_54 (by decide) (fun q54 => ?_) (fun q54 => ?_)
    · refine h91 _ _ _ _ _ (Or.inl ?_)
      rcases hF.2 with z | z
      · exact ⟨z.1, z.2.1, z.2.2, _, hs5.2, rfl⟩
      · exact absurd z.1 q54
    · obtain ⟨hq, ps, hR, hfr, hh⟩ : q = -1 ∧ _ := by
        rcases hF.2 with z | z
        · rw [q54] at z; exact absurd z.1 (by decide)
        · exact z.2
      subst hq
      subst q54
      refine hj_aload_n F 1 dX4_readHat_57 rfl rfl ?_
      refine hj_aload_n F 1 dX4_readHat_58 rfl rfl ?_
      refine hg_M_at F hi_X4_readHat_M lk_X4_readHat_88 dX4_readHat_59 ?_
      rw [md_G5]
      refine hj_cVi F (n := 1) (k_M_byteAt hok (L := L) (n := skp (tp_bl (a 2)) L m) ((md_G4 _ _ _ _).trans h4) hL (by omega)) gX4_readHat_X4_byteAt rfl ⟨rfl, rfl⟩ (by decide +kernel) ⟨by decide, by decide⟩ 0 4 rfl rfl (As := [_]) rfl rfl (Nat.le_of_ble_eq_true rfl) ⟨Nat.zero_le _, Nat.zero_le _⟩ dX4_readHat_62 (hw_eq4 ?_)
      refine hj_bipush F (v := 44) dX4_readHat_65 (by decide) ?_
      refine hj_icmp_ne F 91 dX4_readHat_67 (by decide) (fun q67 => ?_) (fun q67 => ?_)
      · rw [md_Ar2, mb_44 hby] at q67
        by_cases c1 : L ≤ skp (tp_bl (a 2)) L m
        · rw [if_pos c1] at hh
          subst hh
          exact h91 _ _ _ _ _ (Or.inr (Or.inl ⟨rfl, rfl, rfl, rfl, by congr 1; omega, hR⟩))
        · rw [if_neg c1, if_neg (fun z => q67 ⟨by omega, z⟩)] at hh
          subst hh
          exact h91 _ _ _ _ _ (Or.inr (Or.inr ⟨rfl, rfl, _, by omega, rfl, rfl, rfl⟩))
      · rw [md_Ar2, mb_44 hby] at q67
        rw [if_neg (by omega), if_pos q67.2] at hh
        obtain ⟨k, rfl⟩ : ∃ k9, k = k9 + 1 := ⟨k - 1, by omega⟩
        subst hh
        refine hj_aload_n F 1 dX4_readHat_70 rfl rfl ?_
        refine hj_dup F dX4_readHat_71 rfl ?_
        refine hg_M_at F hi_X4_readHat_M lk_X4_readHat_88 dX4_readHat_72 ?_
        rw [md_G5]
        refine hj_iconst F (v := 1) dX4_readHat_75 (by decide) ?_
        refine hj_iadd F dX4_readHat_76 ?_
        refine hp_M_at F hi_X4_readHat_M lk_X4_readHat_88 dX4_readHat_77 ?_
        rw [nI_1, md_Gu5]
        refine hj_aload_n F 1 dX4_readHat_80 rfl rfl ?_
        refine hj_cVv F (n := 0) (k_M_readPart hok hs hs4 (g := md_G g (nI (skp (tp_bl (a 2)) L m + 1)) 0 (-1)) (n := (skp (tp_bl (a 2)) L m + 1)) (L := L) ((md_G4 _ _ _ _).trans h4) hL (md_G5 _ _ _ _) (md_G6 _ _ _ _) (by omega) (by rw [md_Ar2]; exact hby) rfl rfl rfl rfl rfl rfl) gX4_readHat_X4_readPart rfl ⟨rfl, rfl⟩ (by decide +kernel) ⟨by decide, by decide⟩ 0 4 rfl rfl (As := []) rfl rfl (Nat.le_of_ble_eq_true rfl) ⟨Nat.zero_le _, Nat.zero_le _⟩ dX4_readHat_81 ?_
        intro g1 a1 c1 hpp
        simp only [md_Ar2] at hpp
        obtain ⟨m1, f1, q1, w4, w3, rfl, rfl, rfl, hF1⟩ := md_S (b := a 2) (k := k) (n := skp (tp_bl (a 2)) L m + 1) (by omega) rfl rfl rfl rfl rfl rfl hR (by omega) hpp
        refine hj_aload_n F 1 dX4_readHat_84 rfl rfl ?_
        refine hj_cVv F (n := 0) (k_M_blanks hok (L := L) (n := m1) ((md_G4 _ _ _ _).trans h4) hL (by rw [md_Ar2]; exact hby) (md_G5 _ _ _ _) hF1.1) gX4_readHat_X4_blanks rfl ⟨rfl, rfl⟩ (by decide +kernel) ⟨by decide, by decide⟩ 0 4 rfl rfl (As := []) rfl rfl (Nat.le_of_ble_eq_true rfl) ⟨Nat.zero_le _, Nat.zero_le _⟩ dX4_readHat_85 (hw_eq3 ?_)
        refine hj_goto F 50 dX4_readHat_88 (by decide) ?_
        rw [md_Gu5, md_Ar2]
        exact ih k (by omega) _ m1 f1 q1 w4 w3 hF1 h91
set_option maxHeartbeats 4000000 in
set_option maxRecDepth 100000 in
theorem l1_M_readHat (F : hw_F K l D (WM ad t) (hw_T t) X cX4_readHat RX4 wsX4_readHat (hw_rm 7) 2) (hok : hw_XOK X) {L : Nat} {h : Int32 × Int32 × (Nat → Int32)} {z1 x f p : Int32} {z4 z3 : Nat → Int32} (h4 : g 4 = nI L) (hL : L ≤ 100) (hf : 0 < f) (hf1 : f = h.1) (hp1 : p = h.2.1) (ret : ∀ {g' : hw_G} {a' : hw_A} {c' : Int64} {lv : List (Nat × Value)} {pc : Nat}, decode cX4_readHat pc = .ok (.return_, 1) → (fun g' a' c' => c' = c ∧ ∃ (x : Int32) (z4 z3 : Nat → Int32), g' = md_G g x (tp_end h L).1 (tp_end h L).2 ∧ a' = md_A a z4 z3 ∧ ((tp_end h L).1 = 0 → ∀ p, p < 4 → z3 p = tp_v (h.2.2 p))) g' a' c' → hw_J K (WM ad t) 0 0 g' a' c' lv pc []) : hw_J K (WM ad t) 0 0 (md_G g x f p) (md_A a z4 z3) c [(1, .int z1), (0, .ref (ad 0))] 91 [] := by
  subst hf1; subst hp1
  have hf0 : ¬ h.1 = 0 := fun z => by rw [z] at hf; exact absurd hf (by decide)
  refine hj_aload_n F 1 dX4_readHat_91 rfl rfl ?_
  refine hg_M_at F hi_X4_readHat_M lk_X4_readHat_88 dX4_readHat_92 ?_
  refine hj_aload_n F 1 dX4_readHat_95 rfl rfl ?_
  refine hg_M_size F hi_X4_readHat_M lk_X4_readHat_85 dX4_readHat_96 ?_
  refine hj_icmp_ge F 111 dX4_readHat_99 (by decide) (fun q99 => ?_) (fun q99 => ?_)
  · refine hj_aload_n F 1 dX4_readHat_111 rfl rfl ?_
    refine hg_M_has F hi_X4_readHat_M lk_X4_readHat_27 dX4_readHat_112 ?_
    refine hj_iconst F (v := 0) dX4_readHat_115 (by decide) ?_
    refine hl_M_has F (by first | assumption | exact hw_inc (by decide)) dX4_readHat_116 ?_
    refine hj_if_eq F 129 dX4_readHat_117 (by decide) (fun q117 => ?_) (fun q117 => ?_)
    · refine hj_aload_n F 1 dX4_readHat_129 rfl rfl ?_
      refine hj_iconst F (v := 3) dX4_readHat_130 (by decide) ?_
      refine hj_aload_n F 1 dX4_readHat_131 rfl rfl ?_
      refine hg_M_size F hi_X4_readHat_M lk_X4_readHat_85 dX4_readHat_132 ?_
      refine hj_cVv F (n := 2) (k_M_wrong hok) gX4_readHat_X4_wrong rfl ⟨rfl, rfl⟩ (by decide +kernel) ⟨by decide, by decide⟩ 0 4 rfl rfl (As := [_, _]) rfl rfl (Nat.le_of_ble_eq_true rfl) ⟨Nat.zero_le _, Nat.zero_le _⟩ dX4_readHat_135 ?_
      rintro _ _ _ ⟨rfl, rfl, rfl⟩
      rw [md_G6, if_pos hf]
      exact ret dX4_readHat_138 ⟨rfl, x, z4, z3, by rw [show tp_end h L = (h.1, h.2.1) from if_neg (fun z => hf0 z.1)], rfl, fun z => absurd z (by rw [show tp_end h L = (h.1, h.2.1) from if_neg (fun z => hf0 z.1)]; exact hf0)⟩
    · refine hj_aload_n F 1 dX4_readHat_120 rfl rfl ?_
      refine hg_M_has F hi_X4_readHat_M lk_X4_readHat_27 dX4_readHat_121 ?_
      refine hj_iconst F (v := 3) dX4_readHat_124 (by decide) ?_
      refine hl_M_has F (by first | assumption | exact hw_inc (by decide)) dX4_readHat_125 ?_
      refine hj_if_ne F 138 dX4_readHat_126 (by decide) (fun q126 => ?_) (fun q126 => ?_)
      · exact ret dX4_readHat_138 ⟨rfl, x, z4, z3, by rw [show tp_end h L = (h.1, h.2.1) from if_neg (fun z => hf0 z.1)], rfl, fun z => absurd z (by rw [show tp_end h L = (h.1, h.2.1) from if_neg (fun z => hf0 z.1)]; exact hf0)⟩
      · refine hj_aload_n F 1 dX4_readHat_129 rfl rfl ?_
        refine hj_iconst F (v := 3) dX4_readHat_130 (by decide) ?_
        refine hj_aload_n F 1 dX4_readHat_131 rfl rfl ?_
        refine hg_M_size F hi_X4_readHat_M lk_X4_readHat_85 dX4_readHat_132 ?_
        refine hj_cVv F (n := 2) (k_M_wrong hok) gX4_readHat_X4_wrong rfl ⟨rfl, rfl⟩ (by decide +kernel) ⟨by decide, by decide⟩ 0 4 rfl rfl (As := [_, _]) rfl rfl (Nat.le_of_ble_eq_true rfl) ⟨Nat.zero_le _, Nat.zero_le _⟩ dX4_readHat_135 ?_
        rintro _ _ _ ⟨rfl, rfl, rfl⟩
        rw [md_G6, if_pos hf]
        exact ret dX4_readHat_138 ⟨rfl, x, z4, z3, by rw [show tp_end h L = (h.1, h.2.1) from if_neg (fun z => hf0 z.1)], rfl, fun z => absurd z (by rw [show tp_end h L = (h.1, h.2.1) from if_neg (fun z => hf0 z.1)]; exact hf0)⟩
  · refine hj_aload_n F 1 dX4_readHat_102 rfl rfl ?_
    refine hj_iconst F (v := 1) dX4_readHat_103 (by decide) ?_
    refine hj_aload_n F 1 dX4_readHat_104 rfl rfl ?_
    refine hg_M_at F hi_X4_readHat_M lk_X4_readHat_88 dX4_readHat_105 ?_
    refine hj_cVv F (n := 2) (k_M_wrong hok) gX4_readHat_X4_wrong rfl ⟨rfl, rfl⟩ (by decide +kernel) ⟨by decide, by decide⟩ 0 4 rfl rfl (As := [_, _]) rfl rfl (Nat.le_of_ble_eq_true rfl) ⟨Nat.zero_le _, Nat.zero_le _⟩ dX4_readHat_108 ?_
    rintro _ _ _ ⟨rfl, rfl, rfl⟩
    rw [md_G6, if_pos hf]
    refine hj_aload_n F 1 dX4_readHat_111 rfl rfl ?_
    refine hg_M_has F hi_X4_readHat_M lk_X4_readHat_27 dX4_readHat_112 ?_
    refine hj_iconst F (v := 0) dX4_readHat_115 (by decide) ?_
    refine hl_M_has F (by first | assumption | exact hw_inc (by decide)) dX4_readHat_116 ?_
    refine hj_if_eq F 129 dX4_readHat_117 (by decide) (fun q117_2 => ?_) (fun q117_2 => ?_)
    · refine hj_aload_n F 1 dX4_readHat_129 rfl rfl ?_
      refine hj_iconst F (v := 3) dX4_readHat_130 (by decide) ?_
      refine hj_aload_n F 1 dX4_readHat_131 rfl rfl ?_
      refine hg_M_size F hi_X4_readHat_M lk_X4_readHat_85 dX4_readHat_132 ?_
      refine hj_cVv F (n := 2) (k_M_wrong hok) gX4_readHat_X4_wrong rfl ⟨rfl, rfl⟩ (by decide +kernel) ⟨by decide, by decide⟩ 0 4 rfl rfl (As := [_, _]) rfl rfl (Nat.le_of_ble_eq_true rfl) ⟨Nat.zero_le _, Nat.zero_le _⟩ dX4_readHat_135 ?_
      rintro _ _ _ ⟨rfl, rfl, rfl⟩
      rw [md_G6, if_pos hf]
      exact ret dX4_readHat_138 ⟨rfl, x, z4, z3, by rw [show tp_end h L = (h.1, h.2.1) from if_neg (fun z => hf0 z.1)], rfl, fun z => absurd z (by rw [show tp_end h L = (h.1, h.2.1) from if_neg (fun z => hf0 z.1)]; exact hf0)⟩
    · refine hj_aload_n F 1 dX4_readHat_120 rfl rfl ?_
      refine hg_M_has F hi_X4_readHat_M lk_X4_readHat_27 dX4_readHat_121 ?_
      refine hj_iconst F (v := 3) dX4_readHat_124 (by decide) ?_
      refine hl_M_has F (by first | assumption | exact hw_inc (by decide)) dX4_readHat_125 ?_
      refine hj_if_ne F 138 dX4_readHat_126 (by decide) (fun q126_2 => ?_) (fun q126_2 => ?_)
      · exact ret dX4_readHat_138 ⟨rfl, x, z4, z3, by rw [show tp_end h L = (h.1, h.2.1) from if_neg (fun z => hf0 z.1)], rfl, fun z => absurd z (by rw [show tp_end h L = (h.1, h.2.1) from if_neg (fun z => hf0 z.1)]; exact hf0)⟩
      · refine hj_aload_n F 1 dX4_readHat_129 rfl rfl ?_
        refine hj_iconst F (v := 3) dX4_readHat_130 (by decide) ?_
        refine hj_aload_n F 1 dX4_readHat_131 rfl rfl ?_
        refine hg_M_size F hi_X4_readHat_M lk_X4_readHat_85 dX4_readHat_132 ?_
        refine hj_cVv F (n := 2) (k_M_wrong hok) gX4_readHat_X4_wrong rfl ⟨rfl, rfl⟩ (by decide +kernel) ⟨by decide, by decide⟩ 0 4 rfl rfl (As := [_, _]) rfl rfl (Nat.le_of_ble_eq_true rfl) ⟨Nat.zero_le _, Nat.zero_le _⟩ dX4_readHat_135 ?_
        rintro _ _ _ ⟨rfl, rfl, rfl⟩
        rw [md_G6, if_pos hf]
        exact ret dX4_readHat_138 ⟨rfl, x, z4, z3, by rw [show tp_end h L = (h.1, h.2.1) from if_neg (fun z => hf0 z.1)], rfl, fun z => absurd z (by rw [show tp_end h L = (h.1, h.2.1) from if_neg (fun z => hf0 z.1)]; exact hf0)⟩
set_option maxHeartbeats 4000000 in
set_option maxRecDepth 100000 in
theorem l2_M_readHat (F : hw_F K l D (WM ad t) (hw_T t) X cX4_readHat RX4 wsX4_readHat (hw_rm 7) 2) (hok : hw_XOK X) {L : Nat} {h : Int32 × Int32 × (Nat → Int32)} {z1 x f p : Int32} {z4 z3 : Nat → Int32} (h4 : g 4 = nI L) (hL : L ≤ 100) (hf : f = 0) (hp : p = -1) (h1 : h.1 = 0) (h2 : h.2.1 = -1) (hx : x = nI L) (hR : md_R h.2.2 z4 z3) (ret : ∀ {g' : hw_G} {a' : hw_A} {c' : Int64} {lv : List (Nat × Value)} {pc : Nat}, decode cX4_readHat pc = .ok (.return_, 1) → (fun g' a' c' => c' = c ∧ ∃ (x : Int32) (z4 z3 : Nat → Int32), g' = md_G g x (tp_end h L).1 (tp_end h L).2 ∧ a' = md_A a z4 z3 ∧ ((tp_end h L).1 = 0 → ∀ p, p < 4 → z3 p = tp_v (h.2.2 p))) g' a' c' → hw_J K (WM ad t) 0 0 g' a' c' lv pc []) : hw_J K (WM ad t) 0 0 (md_G g x f p) (md_A a z4 z3) c [(1, .int z1), (0, .ref (ad 0))] 91 [] := by
  subst hf; subst hp; subst hx
  refine hj_aload_n F 1 dX4_readHat_91 rfl rfl ?_
  refine hg_M_at F hi_X4_readHat_M lk_X4_readHat_88 dX4_readHat_92 ?_
  refine hj_aload_n F 1 dX4_readHat_95 rfl rfl ?_
  refine hg_M_size F hi_X4_readHat_M lk_X4_readHat_85 dX4_readHat_96 ?_
  rw [md_G5, md_G4, h4]
  refine hj_icmp_ge F 111 dX4_readHat_99 (by decide) (fun q99 => ?_) (fun q99 => ?_)
  · refine hj_aload_n F 1 dX4_readHat_111 rfl rfl ?_
    refine hg_M_has F hi_X4_readHat_M lk_X4_readHat_27 dX4_readHat_112 ?_
    refine hj_iconst F (v := 0) dX4_readHat_115 (by decide) ?_
    refine hl_M_has F (by first | assumption | exact hw_inc (by decide)) dX4_readHat_116 ?_
    rw [md_Ar4]
    refine hj_if_eq F 129 dX4_readHat_117 (by decide) (fun q117 => ?_) (fun q117 => ?_)
    · have q117 : z4 0 = 0 := q117
      refine hj_aload_n F 1 dX4_readHat_129 rfl rfl ?_
      refine hj_iconst F (v := 3) dX4_readHat_130 (by decide) ?_
      refine hj_aload_n F 1 dX4_readHat_131 rfl rfl ?_
      refine hg_M_size F hi_X4_readHat_M lk_X4_readHat_85 dX4_readHat_132 ?_
      rw [md_G4, h4]
      refine hj_cVv F (n := 2) (k_M_wrong hok) gX4_readHat_X4_wrong rfl ⟨rfl, rfl⟩ (by decide +kernel) ⟨by decide, by decide⟩ 0 4 rfl rfl (As := [_, _]) rfl rfl (Nat.le_of_ble_eq_true rfl) ⟨Nat.zero_le _, Nat.zero_le _⟩ dX4_readHat_135 ?_
      rintro _ _ _ ⟨rfl, rfl, rfl⟩
      rw [md_G6, if_neg (by decide), md_Gu6, md_Gu7]
      exact ret dX4_readHat_138 ⟨rfl, _, z4, z3, by rw [show tp_end h L = (3, nI L) from if_pos ⟨h1, Or.inl ((hR 0 (by decide)).1.mpr q117)⟩], rfl, fun z => absurd z (by rw [show tp_end h L = (3, nI L) from if_pos ⟨h1, Or.inl ((hR 0 (by decide)).1.mpr q117)⟩]; exact (by decide : ¬ (3 : Int32) = 0))⟩
    · have q117 : ¬ z4 0 = 0 := q117
      refine hj_aload_n F 1 dX4_readHat_120 rfl rfl ?_
      refine hg_M_has F hi_X4_readHat_M lk_X4_readHat_27 dX4_readHat_121 ?_
      refine hj_iconst F (v := 3) dX4_readHat_124 (by decide) ?_
      refine hl_M_has F (by first | assumption | exact hw_inc (by decide)) dX4_readHat_125 ?_
      rw [md_Ar4]
      refine hj_if_ne F 138 dX4_readHat_126 (by decide) (fun q126 => ?_) (fun q126 => ?_)
      · have q126 : ¬ z4 3 = 0 := q126
        exact ret dX4_readHat_138 ⟨rfl, _, z4, z3, by rw [show tp_end h L = (h.1, h.2.1) from if_neg (fun z => z.2.elim (fun z => q117 ((hR 0 (by decide)).1.mp z)) (fun z => q126 ((hR 3 (by decide)).1.mp z))), h1, h2], rfl, fun _ p hp => (hR p hp).2⟩
      · have q126 : z4 3 = 0 := q126
        refine hj_aload_n F 1 dX4_readHat_129 rfl rfl ?_
        refine hj_iconst F (v := 3) dX4_readHat_130 (by decide) ?_
        refine hj_aload_n F 1 dX4_readHat_131 rfl rfl ?_
        refine hg_M_size F hi_X4_readHat_M lk_X4_readHat_85 dX4_readHat_132 ?_
        rw [md_G4, h4]
        refine hj_cVv F (n := 2) (k_M_wrong hok) gX4_readHat_X4_wrong rfl ⟨rfl, rfl⟩ (by decide +kernel) ⟨by decide, by decide⟩ 0 4 rfl rfl (As := [_, _]) rfl rfl (Nat.le_of_ble_eq_true rfl) ⟨Nat.zero_le _, Nat.zero_le _⟩ dX4_readHat_135 ?_
        rintro _ _ _ ⟨rfl, rfl, rfl⟩
        rw [md_G6, if_neg (by decide), md_Gu6, md_Gu7]
        exact ret dX4_readHat_138 ⟨rfl, _, z4, z3, by rw [show tp_end h L = (3, nI L) from if_pos ⟨h1, Or.inr ((hR 3 (by decide)).1.mpr q126)⟩], rfl, fun z => absurd z (by rw [show tp_end h L = (3, nI L) from if_pos ⟨h1, Or.inr ((hR 3 (by decide)).1.mpr q126)⟩]; exact (by decide : ¬ (3 : Int32) = 0))⟩
  · exact absurd (Int32.le_refl _) q99
set_option maxHeartbeats 4000000 in
set_option maxRecDepth 100000 in
theorem l3_M_readHat (F : hw_F K l D (WM ad t) (hw_T t) X cX4_readHat RX4 wsX4_readHat (hw_rm 7) 2) (hok : hw_XOK X) {L : Nat} {h : Int32 × Int32 × (Nat → Int32)} {z1 x f p : Int32} {z4 z3 : Nat → Int32} (h4 : g 4 = nI L) (hL : L ≤ 100) {n : Nat} (hf : f = 0) (hp : p = -1) (hn : n < L) (hx : x = nI n) (h1 : h.1 = 1) (h2 : h.2.1 = nI n) (ret : ∀ {g' : hw_G} {a' : hw_A} {c' : Int64} {lv : List (Nat × Value)} {pc : Nat}, decode cX4_readHat pc = .ok (.return_, 1) → (fun g' a' c' => c' = c ∧ ∃ (x : Int32) (z4 z3 : Nat → Int32), g' = md_G g x (tp_end h L).1 (tp_end h L).2 ∧ a' = md_A a z4 z3 ∧ ((tp_end h L).1 = 0 → ∀ p, p < 4 → z3 p = tp_v (h.2.2 p))) g' a' c' → hw_J K (WM ad t) 0 0 g' a' c' lv pc []) : hw_J K (WM ad t) 0 0 (md_G g x f p) (md_A a z4 z3) c [(1, .int z1), (0, .ref (ad 0))] 91 [] := by
  subst hf; subst hp; subst hx
  have hf0 : ¬ h.1 = 0 := fun z => by rw [h1] at z; exact absurd z (by decide)
  refine hj_aload_n F 1 dX4_readHat_91 rfl rfl ?_
  refine hg_M_at F hi_X4_readHat_M lk_X4_readHat_88 dX4_readHat_92 ?_
  refine hj_aload_n F 1 dX4_readHat_95 rfl rfl ?_
  refine hg_M_size F hi_X4_readHat_M lk_X4_readHat_85 dX4_readHat_96 ?_
  rw [md_G5, md_G4, h4]
  refine hj_icmp_ge F 111 dX4_readHat_99 (by decide) (fun q99 => ?_) (fun q99 => ?_)
  · rw [nI_leI (by omega) (by omega)] at q99
    omega
  · refine hj_aload_n F 1 dX4_readHat_102 rfl rfl ?_
    refine hj_iconst F (v := 1) dX4_readHat_103 (by decide) ?_
    refine hj_aload_n F 1 dX4_readHat_104 rfl rfl ?_
    refine hg_M_at F hi_X4_readHat_M lk_X4_readHat_88 dX4_readHat_105 ?_
    rw [md_G5]
    refine hj_cVv F (n := 2) (k_M_wrong hok) gX4_readHat_X4_wrong rfl ⟨rfl, rfl⟩ (by decide +kernel) ⟨by decide, by decide⟩ 0 4 rfl rfl (As := [_, _]) rfl rfl (Nat.le_of_ble_eq_true rfl) ⟨Nat.zero_le _, Nat.zero_le _⟩ dX4_readHat_108 ?_
    rintro _ _ _ ⟨rfl, rfl, rfl⟩
    rw [md_G6, if_neg (by decide), md_Gu6, md_Gu7]
    refine hj_aload_n F 1 dX4_readHat_111 rfl rfl ?_
    refine hg_M_has F hi_X4_readHat_M lk_X4_readHat_27 dX4_readHat_112 ?_
    refine hj_iconst F (v := 0) dX4_readHat_115 (by decide) ?_
    refine hl_M_has F (by first | assumption | exact hw_inc (by decide)) dX4_readHat_116 ?_
    refine hj_if_eq F 129 dX4_readHat_117 (by decide) (fun q117 => ?_) (fun q117 => ?_)
    · refine hj_aload_n F 1 dX4_readHat_129 rfl rfl ?_
      refine hj_iconst F (v := 3) dX4_readHat_130 (by decide) ?_
      refine hj_aload_n F 1 dX4_readHat_131 rfl rfl ?_
      refine hg_M_size F hi_X4_readHat_M lk_X4_readHat_85 dX4_readHat_132 ?_
      refine hj_cVv F (n := 2) (k_M_wrong hok) gX4_readHat_X4_wrong rfl ⟨rfl, rfl⟩ (by decide +kernel) ⟨by decide, by decide⟩ 0 4 rfl rfl (As := [_, _]) rfl rfl (Nat.le_of_ble_eq_true rfl) ⟨Nat.zero_le _, Nat.zero_le _⟩ dX4_readHat_135 ?_
      rintro _ _ _ ⟨rfl, rfl, rfl⟩
      rw [md_G6, if_pos (by decide)]
      exact ret dX4_readHat_138 ⟨rfl, _, z4, z3, by rw [show tp_end h L = (h.1, h.2.1) from if_neg (fun z => hf0 z.1), h1, h2], rfl, fun z => absurd z (by rw [show tp_end h L = (h.1, h.2.1) from if_neg (fun z => hf0 z.1)]; exact hf0)⟩
    · refine hj_aload_n F 1 dX4_readHat_120 rfl rfl ?_
      refine hg_M_has F hi_X4_readHat_M lk_X4_readHat_27 dX4_readHat_121 ?_
      refine hj_iconst F (v := 3) dX4_readHat_124 (by decide) ?_
      refine hl_M_has F (by first | assumption | exact hw_inc (by decide)) dX4_readHat_125 ?_
      refine hj_if_ne F 138 dX4_readHat_126 (by decide) (fun q126 => ?_) (fun q126 => ?_)
      · exact ret dX4_readHat_138 ⟨rfl, _, z4, z3, by rw [show tp_end h L = (h.1, h.2.1) from if_neg (fun z => hf0 z.1), h1, h2], rfl, fun z => absurd z (by rw [show tp_end h L = (h.1, h.2.1) from if_neg (fun z => hf0 z.1)]; exact hf0)⟩
      · refine hj_aload_n F 1 dX4_readHat_129 rfl rfl ?_
        refine hj_iconst F (v := 3) dX4_readHat_130 (by decide) ?_
        refine hj_aload_n F 1 dX4_readHat_131 rfl rfl ?_
        refine hg_M_size F hi_X4_readHat_M lk_X4_readHat_85 dX4_readHat_132 ?_
        refine hj_cVv F (n := 2) (k_M_wrong hok) gX4_readHat_X4_wrong rfl ⟨rfl, rfl⟩ (by decide +kernel) ⟨by decide, by decide⟩ 0 4 rfl rfl (As := [_, _]) rfl rfl (Nat.le_of_ble_eq_true rfl) ⟨Nat.zero_le _, Nat.zero_le _⟩ dX4_readHat_135 ?_
        rintro _ _ _ ⟨rfl, rfl, rfl⟩
        rw [md_G6, if_pos (by decide)]
        exact ret dX4_readHat_138 ⟨rfl, _, z4, z3, by rw [show tp_end h L = (h.1, h.2.1) from if_neg (fun z => hf0 z.1), h1, h2], rfl, fun z => absurd z (by rw [show tp_end h L = (h.1, h.2.1) from if_neg (fun z => hf0 z.1)]; exact hf0)⟩
set_option maxHeartbeats 4000000 in
set_option maxRecDepth 100000 in
theorem l91_M_readHat (F : hw_F K l D (WM ad t) (hw_T t) X cX4_readHat RX4 wsX4_readHat (hw_rm 7) 2) (hok : hw_XOK X) {L : Nat} {h : Int32 × Int32 × (Nat → Int32)} {z1 x f p : Int32} {z4 z3 : Nat → Int32} (h4 : g 4 = nI L) (hL : L ≤ 100) (hE : md_E h L x f p z4 z3) (ret : ∀ {g' : hw_G} {a' : hw_A} {c' : Int64} {lv : List (Nat × Value)} {pc : Nat}, decode cX4_readHat pc = .ok (.return_, 1) → (fun g' a' c' => c' = c ∧ ∃ (x : Int32) (z4 z3 : Nat → Int32), g' = md_G g x (tp_end h L).1 (tp_end h L).2 ∧ a' = md_A a z4 z3 ∧ ((tp_end h L).1 = 0 → ∀ p, p < 4 → z3 p = tp_v (h.2.2 p))) g' a' c' → hw_J K (WM ad t) 0 0 g' a' c' lv pc []) : hw_J K (WM ad t) 0 0 (md_G g x f p) (md_A a z4 z3) c [(1, .int z1), (0, .ref (ad 0))] 91 [] := by
  rcases hE with ⟨h1, h2, h3, _⟩ | ⟨h1, h2, h3, h5, h6, h7⟩ | ⟨h1, h2, n, h3, h5, h6, h7⟩
  · exact l1_M_readHat F hok h4 hL h1 h2 h3 ret
  · exact l2_M_readHat F hok h4 hL h1 h2 h3 h5 h6 h7 ret
  · exact l3_M_readHat F hok h4 hL h1 h2 h3 h5 h6 h7 ret
set_option maxHeartbeats 4000000 in
set_option maxRecDepth 100000 in
theorem k_M_readHat (hok : hw_XOK X) (hs : ∀ A U H, X A U H → sx τ A U H) (hs4 : ∀ A U H, X A U H → sx4 τ U) {L : Nat} (h4 : g 4 = nI L) (hL : L ≤ 100) (hby : by_ok (a 2)) {ps : Nat → Int32} (hps : ∀ p, p < 4 → ps p = -1) {h : Int32 × Int32 × (Nat → Int32)} (hh : tp_hat (a 2) L 5 0 ps = h) : hw_Cv l D (WM ad t) (hw_T t) X yX4_readHat wsX4_readHat (hw_rm 7) [.ref (ad 0)] g a c (fun g' a' c' => c' = c ∧ ∃ (x : Int32) (z4 z3 : Nat → Int32), g' = md_G g x (tp_end h L).1 (tp_end h L).2 ∧ a' = md_A a z4 z3 ∧ ((tp_end h L).1 = 0 → ∀ p, p < 4 → z3 p = tp_v (h.2.2 p))) := by
  refine hw_Cv.mk (lv0 := [(0, _)]) (by decide) rfl (Nat.le_of_ble_eq_true rfl) rfl (WM_ads ad t) hok (fun K F ret => ?_)
  have F : hw_F K l D (WM ad t) (hw_T t) X cX4_readHat RX4 wsX4_readHat (hw_rm 7) 2 := F
  have hfr : md_fr ps = 4 := by unfold md_fr; rw [hps 0 (by decide), hps 1 (by decide), hps 2 (by decide), hps 3 (by decide)]; rfl
  have go : ∀ (z1 : Int32) (y4 y3 : Nat → Int32), md_R ps y4 y3 → hw_J K (WM ad t) 0 0 (md_G g (nI 0) 0 (-1)) (md_A a y4 y3) c [(1, .int z1), (0, .ref (ad 0))] 42 [] := by
    intro z1 y4 y3 hR
    refine hj_aload_n F 1 dX4_readHat_42 rfl rfl ?_
    refine hj_cVv F (n := 0) (k_M_readPart hok hs hs4 (g := md_G g (nI 0) 0 (-1)) (n := 0) (L := L) ((md_G4 _ _ _ _).trans h4) hL (md_G5 _ _ _ _) (md_G6 _ _ _ _) (Nat.zero_le _) (by rw [md_Ar2]; exact hby) rfl rfl rfl rfl rfl rfl) gX4_readHat_X4_readPart rfl ⟨rfl, rfl⟩ (by decide +kernel) ⟨by decide, by decide⟩ 0 4 rfl rfl (As := []) rfl rfl (Nat.le_of_ble_eq_true rfl) ⟨Nat.zero_le _, Nat.zero_le _⟩ dX4_readHat_43 ?_
    intro g1 a1 c1 hpp
    simp only [md_Ar2] at hpp
    obtain ⟨m1, f1, q1, w4, w3, rfl, rfl, rfl, hF1⟩ := md_S (b := a 2) (k := 4) (n := 0) (Nat.zero_le _) rfl rfl rfl rfl rfl rfl hR (by rw [hfr]; decide) hpp
    refine hj_aload_n F 1 dX4_readHat_46 rfl rfl ?_
    refine hj_cVv F (n := 0) (k_M_blanks hok (L := L) (n := m1) ((md_G4 _ _ _ _).trans h4) hL (by rw [md_Ar2]; exact hby) (md_G5 _ _ _ _) hF1.1) gX4_readHat_X4_blanks rfl ⟨rfl, rfl⟩ (by decide +kernel) ⟨by decide, by decide⟩ 0 4 rfl rfl (As := []) rfl rfl (Nat.le_of_ble_eq_true rfl) ⟨Nat.zero_le _, Nat.zero_le _⟩ dX4_readHat_47 (hw_eq3 ?_)
    rw [md_Gu5, md_Ar2]
    refine lp_M_readHat F hok hs hs4 h4 hL hby 5 4 (by decide) _ m1 f1 q1 w4 w3 hF1 (fun x f q z4 z3 hE => ?_)
    rw [hh] at hE
    exact l91_M_readHat F hok h4 hL hE ret
  rw [← md_G0 g, ← md_A0 a]
  have h0 : nI 0 = 0 := rfl
  refine hj_aload_n F 0 dX4_readHat_0 rfl rfl ?_
  refine hj_iconst F (v := 0) dX4_readHat_1 (by decide) ?_
  refine hp_M_at F hi_X4_readHat_M lk_X4_readHat_88 dX4_readHat_2 ?_
  rw [md_Gu5]
  refine hj_aload_n F 0 dX4_readHat_5 rfl rfl ?_
  refine hj_iconst F (v := 0) dX4_readHat_6 (by decide) ?_
  refine hp_M_fault F hi_X4_readHat_M lk_X4_readHat_95 dX4_readHat_7 ?_
  rw [md_Gu6]
  refine hj_aload_n F 0 dX4_readHat_10 rfl rfl ?_
  refine hj_iconst F (v := -1) dX4_readHat_11 (by decide) ?_
  refine hp_M_place F hi_X4_readHat_M lk_X4_readHat_20 dX4_readHat_12 ?_
  rw [md_Gu7]
  refine hj_iconst F (v := 0) dX4_readHat_15 (by decide) ?_
  refine hj_istore_n F (lv' := [(1, _), (0, _)]) dX4_readHat_16 rfl (by decide) rfl ?_
  refine hj_iload_n F 0 dX4_readHat_17 rfl rfl ?_
  refine hj_iconst F (v := 4) dX4_readHat_18 (by decide) ?_
  refine hj_icmp_ge F 42 dX4_readHat_19 (by decide) (fun q19 => ?_) (fun q19 => ?_)
  · exact absurd q19 (by decide)
  · refine hj_aload_n F 1 dX4_readHat_22 rfl rfl ?_
    refine hg_M_part F hi_X4_readHat_M lk_X4_readHat_24 dX4_readHat_23 ?_
    refine hj_iload_n F 0 dX4_readHat_26 rfl rfl ?_
    refine hj_iconst F (v := 0) dX4_readHat_27 (by decide) ?_
    refine hs_M_part F (by first | assumption | exact hw_inc (by decide)) dX4_readHat_28 ?_
    rw [md_Ar3, md_Au3]
    refine hj_aload_n F 1 dX4_readHat_29 rfl rfl ?_
    refine hg_M_has F hi_X4_readHat_M lk_X4_readHat_27 dX4_readHat_30 ?_
    refine hj_iload_n F 0 dX4_readHat_33 rfl rfl ?_
    refine hj_iconst F (v := 0) dX4_readHat_34 (by decide) ?_
    refine hs_M_has F (by first | assumption | exact hw_inc (by decide)) dX4_readHat_35 ?_
    rw [md_Ar4, md_Au4]
    refine hj_iinc F 0 (v := _ + 1) (lv' := [(1, _), (0, _)]) dX4_readHat_36 rfl rfl (by decide) rfl ?_
    refine hj_goto F 17 dX4_readHat_39 (by decide) ?_
    refine hj_iload_n F 0 dX4_readHat_17 rfl rfl ?_
    refine hj_iconst F (v := 4) dX4_readHat_18 (by decide) ?_
    refine hj_icmp_ge F 42 dX4_readHat_19 (by decide) (fun q19_2 => ?_) (fun q19_2 => ?_)
    · exact absurd q19_2 (by decide)
    · refine hj_aload_n F 1 dX4_readHat_22 rfl rfl ?_
      refine hg_M_part F hi_X4_readHat_M lk_X4_readHat_24 dX4_readHat_23 ?_
      refine hj_iload_n F 0 dX4_readHat_26 rfl rfl ?_
      refine hj_iconst F (v := 0) dX4_readHat_27 (by decide) ?_
      refine hs_M_part F (by first | assumption | exact hw_inc (by decide)) dX4_readHat_28 ?_
      rw [md_Ar3, md_Au3]
      refine hj_aload_n F 1 dX4_readHat_29 rfl rfl ?_
      refine hg_M_has F hi_X4_readHat_M lk_X4_readHat_27 dX4_readHat_30 ?_
      refine hj_iload_n F 0 dX4_readHat_33 rfl rfl ?_
      refine hj_iconst F (v := 0) dX4_readHat_34 (by decide) ?_
      refine hs_M_has F (by first | assumption | exact hw_inc (by decide)) dX4_readHat_35 ?_
      rw [md_Ar4, md_Au4]
      refine hj_iinc F 0 (v := _ + 1) (lv' := [(1, _), (0, _)]) dX4_readHat_36 rfl rfl (by decide) rfl ?_
      refine hj_goto F 17 dX4_readHat_39 (by decide) ?_
      refine hj_iload_n F 0 dX4_readHat_17 rfl rfl ?_
      refine hj_iconst F (v := 4) dX4_readHat_18 (by decide) ?_
      refine hj_icmp_ge F 42 dX4_readHat_19 (by decide) (fun q19_3 => ?_) (fun q19_3 => ?_)
      · exact absurd q19_3 (by decide)
      · refine hj_aload_n F 1 dX4_readHat_22 rfl rfl ?_
        refine hg_M_part F hi_X4_readHat_M lk_X4_readHat_24 dX4_readHat_23 ?_
        refine hj_iload_n F 0 dX4_readHat_26 rfl rfl ?_
        refine hj_iconst F (v := 0) dX4_readHat_27 (by decide) ?_
        refine hs_M_part F (by first | assumption | exact hw_inc (by decide)) dX4_readHat_28 ?_
        rw [md_Ar3, md_Au3]
        refine hj_aload_n F 1 dX4_readHat_29 rfl rfl ?_
        refine hg_M_has F hi_X4_readHat_M lk_X4_readHat_27 dX4_readHat_30 ?_
        refine hj_iload_n F 0 dX4_readHat_33 rfl rfl ?_
        refine hj_iconst F (v := 0) dX4_readHat_34 (by decide) ?_
        refine hs_M_has F (by first | assumption | exact hw_inc (by decide)) dX4_readHat_35 ?_
        rw [md_Ar4, md_Au4]
        refine hj_iinc F 0 (v := _ + 1) (lv' := [(1, _), (0, _)]) dX4_readHat_36 rfl rfl (by decide) rfl ?_
        refine hj_goto F 17 dX4_readHat_39 (by decide) ?_
        refine hj_iload_n F 0 dX4_readHat_17 rfl rfl ?_
        refine hj_iconst F (v := 4) dX4_readHat_18 (by decide) ?_
        refine hj_icmp_ge F 42 dX4_readHat_19 (by decide) (fun q19_4 => ?_) (fun q19_4 => ?_)
        · exact absurd q19_4 (by decide)
        · refine hj_aload_n F 1 dX4_readHat_22 rfl rfl ?_
          refine hg_M_part F hi_X4_readHat_M lk_X4_readHat_24 dX4_readHat_23 ?_
          refine hj_iload_n F 0 dX4_readHat_26 rfl rfl ?_
          refine hj_iconst F (v := 0) dX4_readHat_27 (by decide) ?_
          refine hs_M_part F (by first | assumption | exact hw_inc (by decide)) dX4_readHat_28 ?_
          rw [md_Ar3, md_Au3]
          refine hj_aload_n F 1 dX4_readHat_29 rfl rfl ?_
          refine hg_M_has F hi_X4_readHat_M lk_X4_readHat_27 dX4_readHat_30 ?_
          refine hj_iload_n F 0 dX4_readHat_33 rfl rfl ?_
          refine hj_iconst F (v := 0) dX4_readHat_34 (by decide) ?_
          refine hs_M_has F (by first | assumption | exact hw_inc (by decide)) dX4_readHat_35 ?_
          rw [md_Ar4, md_Au4]
          refine hj_iinc F 0 (v := _ + 1) (lv' := [(1, _), (0, _)]) dX4_readHat_36 rfl rfl (by decide) rfl ?_
          refine hj_goto F 17 dX4_readHat_39 (by decide) ?_
          refine hj_iload_n F 0 dX4_readHat_17 rfl rfl ?_
          refine hj_iconst F (v := 4) dX4_readHat_18 (by decide) ?_
          refine hj_icmp_ge F 42 dX4_readHat_19 (by decide) (fun q19_5 => ?_) (fun q19_5 => ?_)
          · refine hj_lv [0, 1] rfl ?_
            exact go _ _ _ (fun p hp => by
              match p, hp with
              | 0, _ => exact ⟨⟨fun _ => rfl, fun _ => hps 0 (by decide)⟩, by rw [hps 0 (by decide)]; rfl⟩
              | 1, _ => exact ⟨⟨fun _ => rfl, fun _ => hps 1 (by decide)⟩, by rw [hps 1 (by decide)]; rfl⟩
              | 2, _ => exact ⟨⟨fun _ => rfl, fun _ => hps 2 (by decide)⟩, by rw [hps 2 (by decide)]; rfl⟩
              | 3, _ => exact ⟨⟨fun _ => rfl, fun _ => hps 3 (by decide)⟩, by rw [hps 3 (by decide)]; rfl⟩)
          · exact absurd (by decide) q19_5
end SMOD7
