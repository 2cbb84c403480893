/-! the reading of a hat, purely: what the reference needs -/
theorem skp_stop (p : Nat → Bool) {L : Nat} : ∀ m n, L - n < m → n ≤ L → ¬ (skp p L n < L ∧ p (skp p L n) = true)
  | 0, n, h, _ => absurd h (Nat.not_lt_zero _)
  | m + 1, n, h, hn => by
    by_cases c : n < L ∧ p n = true
    · rw [skp_t c.1 c.2]
      exact skp_stop p m (n + 1) (by omega) (by omega)
    · rw [skp_f c]; exact c
theorem skp_at {p : Nat → Bool} {L : Nat} : ∀ m n, (∀ k, k < m → n + k < L ∧ p (n + k) = true) → ¬ (n + m < L ∧ p (n + m) = true) → skp p L n = n + m
  | 0, n, _, h => skp_f h
  | m + 1, n, h, h2 => by
    have h0 : n < L ∧ p n = true := h 0 (by omega)
    rw [skp_t h0.1 h0.2, skp_at m (n + 1) (fun k hk => by have := h (k + 1) (by omega); rw [show n + 1 + k = n + (k + 1) by omega]; exact this) (by rw [show n + 1 + m = n + (m + 1) by omega]; exact h2)]
    omega
theorem tp_chl : ∀ i : Fin 4, ∀ k : Fin 5, k.val < tp_len i → 97 ≤ tp_ch i k ∧ tp_ch i k ≤ 122 ∧ tp_ch i k &&& 255 = tp_ch i k := by decide +kernel
theorem tp_lenpos : ∀ i : Fin 4, 0 < tp_len i := by decide +kernel
theorem mb_le {b : Nat → Int32} (hb : by_ok b) {L n : Nat} : (97 ≤ mb b L n ∧ mb b L n ≤ 122) ↔ (n < L ∧ tp_le b n = true) := by
  unfold mb tp_le
  by_cases h : n < L
  · rw [if_pos h, (by_f (hb n)).2.2.1]
    simp [h]
  · rw [if_neg h]
    exact ⟨fun z => absurd z.1 (by decide), fun z => absurd z.1 h⟩
theorem mb_di {b : Nat → Int32} (hb : by_ok b) {L n : Nat} : (48 ≤ mb b L n ∧ mb b L n ≤ 57) ↔ (n < L ∧ tp_di b n = true) := by
  unfold mb tp_di
  by_cases h : n < L
  · rw [if_pos h, (by_f (hb n)).2.2.2.1]
    simp [h]
  · rw [if_neg h]
    exact ⟨fun z => absurd z.1 (by decide), fun z => absurd z.1 h⟩
theorem i32_0 {x y : Int32} (h : x ≤ y) (hx : 0 ≤ x) : 0 ≤ y := Int32.le_trans hx h
theorem mb_ch {b : Nat → Int32} (hb : by_ok b) {L n : Nat} {z : Int32} (h1 : 97 ≤ z) (h2 : z ≤ 122) (h3 : z &&& 255 = z) : mb b L n = z ↔ (n < L ∧ b n = z) := by
  constructor
  · intro h
    have hl := (mb_le hb (L := L) (n := n)).mp (by rw [h]; exact ⟨h1, h2⟩)
    refine ⟨hl.1, ?_⟩
    unfold mb at h
    rw [if_pos hl.1] at h
    have h4 : 97 ≤ b n := by
      have := hl.2
      simp only [tp_le, Bool.and_eq_true, decide_eq_true_eq] at this
      exact this.1
    rw [← h, (by_f (hb n)).2.2.2.2.1 (i32_0 h4 (by decide))]
  · intro h
    unfold mb
    rw [if_pos h.1, h.2, h3]
theorem mw_iff {b : Nat → Int32} (hb : by_ok b) {L n i : Nat} (hi : i < 4) (hn : n ≤ L) : ((∀ k, k < tp_len i → mb b L (n + k) = tp_ch i k) ∧ ¬ (97 ≤ mb b L (n + tp_len i) ∧ mb b L (n + tp_len i) ≤ 122)) ↔ tp_isb b i n (skp (tp_le b) L n) = true := by
  have h5 : tp_len i ≤ 5 := sx_l5 ⟨i, hi⟩
  have hc : ∀ k, k < tp_len i → 97 ≤ tp_ch i k ∧ tp_ch i k ≤ 122 ∧ tp_ch i k &&& 255 = tp_ch i k := fun k hk => tp_chl ⟨i, hi⟩ ⟨k, by omega⟩ hk
  rw [tp_isb_iff, mb_le hb]
  constructor
  · intro h
    have ha : ∀ k, k < tp_len i → n + k < L ∧ b (n + k) = tp_ch i k := fun k hk => (mb_ch hb (hc k hk).1 (hc k hk).2.1 (hc k hk).2.2).mp (h.1 k hk)
    have hs := skp_at (p := tp_le b) (tp_len i) n (fun k hk => ⟨(ha k hk).1, by
      simp only [tp_le, Bool.and_eq_true, decide_eq_true_eq]
      rw [(ha k hk).2]
      exact ⟨(hc k hk).1, (hc k hk).2.1⟩⟩) h.2
    exact ⟨hs, fun k hk => (ha k hk).2⟩
  · intro h
    have hle := (skp_ge (tp_le b) hn).2
    have hst := skp_stop (tp_le b) (L := L) (L - n + 1) n (by omega) hn
    rw [h.1] at hle hst
    exact ⟨fun k hk => (mb_ch hb (hc k hk).1 (hc k hk).2.1 (hc k hk).2.2).mpr ⟨by omega, h.2 k hk⟩, hst⟩
theorem skp_eq_iff {p : Nat → Bool} {L n : Nat} (hn : n ≤ L) : skp p L n = n ↔ ¬ (n < L ∧ p n = true) := by
  constructor
  · intro h c
    have := skp_ge p (L := L) (n := n + 1) (by omega)
    rw [skp_t c.1 c.2] at h
    omega
  · exact skp_f
/-- the reference's number -/
def md_nx (v d : Int32) : Int32 := if 1000 < v then v else 10 * v + d - 48
def md_rn (b : Nat → Int32) : Nat → Nat → Int32 → Int32
  | 0, _, v => v
  | k + 1, n, v => if tp_di b n then md_rn b k (n + 1) (md_nx v (b n)) else v
def md_rv (b : Nat → Int32) (L n : Nat) (v : Int32) : Int32 := md_rn b (L - n) n v
theorem md_rv_t {b : Nat → Int32} {L n : Nat} {v : Int32} (h : n < L) (hp : tp_di b n = true) : md_rv b L n v = md_rv b L (n + 1) (md_nx v (b n)) := by
  unfold md_rv
  rw [show L - n = (L - (n + 1)) + 1 by omega]
  show (if tp_di b n then _ else _) = _
  rw [if_pos hp]
theorem md_rv_f {b : Nat → Int32} {L n : Nat} {v : Int32} (h : ¬ (n < L ∧ tp_di b n = true)) : md_rv b L n v = v := by
  unfold md_rv
  by_cases hn : n < L
  · rw [show L - n = (L - (n + 1)) + 1 by omega]
    show (if tp_di b n then _ else _) = _
    rw [if_neg (fun q => h ⟨hn, q⟩)]
  · rw [show L - n = 0 by omega]
    rfl
def mn_v (v : Int32) : Int32 := if 1000 < v then 1000 else v
theorem di_nat {b : Nat → Int32} {n : Nat} (h : tp_di b n = true) : ∃ d : Nat, d ≤ 9 ∧ b n = nI (48 + d) := by
  simp only [tp_di, Bool.and_eq_true, decide_eq_true_eq] at h
  rcases pk_ix (b n) (n := 58) (by decide) with z | z | ⟨j, hj, e⟩
  · have h1 := Int32.le_iff_toInt_le.mp h.1
    have h2 := Int32.lt_iff_toInt_lt.mp z
    have e1 : (48 : Int32).toInt = 48 := by decide
    have e0 : (0 : Int32).toInt = 0 := by decide
    omega
  · have h1 := Int32.le_iff_toInt_le.mp h.2
    have h2 := Int32.le_iff_toInt_le.mp z
    rw [nI_toInt (by decide)] at h2
    have e1 : (57 : Int32).toInt = 57 := by decide
    omega
  · have h1 : nI 48 ≤ nI j := by rw [← e]; exact h.1
    rw [nI_leI (by omega) (by omega)] at h1
    exact ⟨j - 48, by omega, by rw [e]; congr 1; omega⟩
theorem md_nx_n {v d : Nat} (hv : v ≤ 10009) (hd : d ≤ 9) : ∃ w : Nat, w ≤ 10009 ∧ md_nx (nI v) (nI (48 + d)) = nI w ∧ tp_nx (mn_v (nI v)) (nI (48 + d)) = mn_v (nI w) := by
  have e48 : nI (48 + d) - 48 = nI d := by rw [show (48 : Int32) = nI 48 from rfl, pk_sub (by omega)]; congr 1; omega
  by_cases h : 1000 < v
  · refine ⟨v, hv, if_pos ((nI_ltI (a := 1000) (by omega) (by omega)).mpr h), ?_⟩
    have em : mn_v (nI v) = 1000 := if_pos ((nI_ltI (a := 1000) (by omega) (by omega)).mpr h)
    rw [em]
    unfold tp_nx
    rw [e48, show (1000 : Int32) * 10 + nI d = nI (10000 + d) from nI_add 10000 d, if_pos (show (1000 : Int32) < nI (10000 + d) from (nI_ltI (a := 1000) (by omega) (by omega)).mpr (by omega))]
  · refine ⟨10 * v + d, by omega, ?_, ?_⟩
    · unfold md_nx
      rw [if_neg (show ¬ (1000 : Int32) < nI v from fun z => h ((nI_ltI (a := 1000) (by omega) (by omega)).mp z)), show (10 : Int32) * nI v = nI (10 * v) from pk_mul 10 v, nI_add, show (48 : Int32) = nI 48 from rfl, pk_sub (by omega)]
      congr 1; omega
    · have em : mn_v (nI v) = nI v := if_neg (fun z => h ((nI_ltI (a := 1000) (by omega) (by omega)).mp z))
      rw [em]
      unfold tp_nx
      rw [e48, show nI v * 10 = nI (v * 10) from pk_mul v 10, nI_add, show v * 10 + d = 10 * v + d by omega]
      rfl
theorem md_tp {b : Nat → Int32} {L : Nat} : ∀ (m n v : Nat), L - n < m → v ≤ 10009 → ∃ w : Nat, w ≤ 10009 ∧ md_rv b L n (nI v) = nI w ∧ tp_rv b L n (mn_v (nI v)) = mn_v (nI w)
  | 0, n, v, h, _ => absurd h (Nat.not_lt_zero _)
  | m + 1, n, v, h, hv => by
    by_cases c : n < L ∧ tp_di b n = true
    · obtain ⟨d, hd, e⟩ := di_nat c.2
      obtain ⟨w, hw, e1, e2⟩ := md_nx_n hv hd
      obtain ⟨z, hz, e3, e4⟩ := md_tp (b := b) (L := L) m (n + 1) w (by omega) hw
      exact ⟨z, hz, by rw [md_rv_t c.1 c.2, e, e1, e3], by rw [tp_rv_t c.1 c.2, e, e2, e4]⟩
    · exact ⟨v, hv, md_rv_f c, tp_rv_f c⟩
/-- both numbers are bad together, and the same where they aren't -/
theorem md_same {b : Nat → Int32} {L n : Nat} {lo hi : Nat} (hhi : hi ≤ 30) (hlo : lo ≤ 30) : ((md_rv b L n 0 < nI lo ∨ nI hi < md_rv b L n 0) ↔ (tp_rv b L n 0 < nI lo ∨ nI hi < tp_rv b L n 0)) ∧ (¬ (tp_rv b L n 0 < nI lo ∨ nI hi < tp_rv b L n 0) → md_rv b L n 0 = tp_rv b L n 0) := by
  obtain ⟨w, hw, e1, e2⟩ := md_tp (b := b) (L := L) (L - n + 1) n 0 (by omega) (by omega)
  rw [show nI 0 = 0 from rfl] at e1 e2
  rw [show mn_v 0 = 0 from rfl] at e2
  by_cases h : 1000 < w
  · have em : mn_v (nI w) = nI 1000 := if_pos ((nI_ltI (a := 1000) (by omega) (by omega)).mpr h)
    rw [e1, e2, em]
    have h1 : nI hi < nI w := nI_lt (by omega) (by omega)
    have h2 : nI hi < nI 1000 := nI_lt (by omega) (by omega)
    exact ⟨⟨fun _ => Or.inr h2, fun _ => Or.inr h1⟩, fun z => absurd (Or.inr h2) z⟩
  · have em : mn_v (nI w) = nI w := if_neg (fun z => h ((nI_ltI (a := 1000) (by omega) (by omega)).mp z))
    rw [e1, e2, em]
    exact ⟨Iff.rfl, fun _ => rfl⟩
