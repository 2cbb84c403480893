section SMOD8
theorem lc_X4_order_140 : Cond.constant RX4 140 1000000 ∈ wsX4_order := by decide +kernel
theorem hi_X4_order_M : ∀ w ∈ u_ws RX4 TX4 28, w ∈ wsX4_order := fun w h => by
  unfold wsX4_order
  simp only [List.mem_cons, List.mem_append]
  first | (simp only [h, or_true, true_or]; done) | (have h2 : w ∈ wsX40 := h; simp only [h2, or_true, true_or]; done)
theorem lk_X4_order_141 : Cond.fieldLink RX4 141 "HatWorksModel" "orders" "I" ∈ wsX4_order := List.mem_of_getElem? (i := 6) rfl
theorem lk_X4_order_24 : Cond.fieldLink RX4 24 "HatWorksModel" "part" "[I" ∈ wsX4_order := List.mem_of_getElem? (i := 10) rfl
theorem lk_X4_order_40 : Cond.fieldLink RX4 40 "HatWorksModel" "order" "[I" ∈ wsX4_order := List.mem_of_getElem? (i := 9) rfl
theorem lk_X4_order_61 : Cond.fieldLink RX4 61 "HatWorksModel" "thrown" "I" ∈ wsX4_order := List.mem_of_getElem? (i := 1) rfl
theorem lk_X4_order_68 : Cond.fieldLink RX4 68 "HatWorksModel" "handMany" "I" ∈ wsX4_order := List.mem_of_getElem? (i := 4) rfl
theorem lk_X4_order_71 : Cond.fieldLink RX4 71 "HatWorksModel" "blocks" "I" ∈ wsX4_order := List.mem_of_getElem? (i := 5) rfl
theorem lk_X4_order_82 : Cond.fieldLink RX4 82 "HatWorksModel" "taped" "I" ∈ wsX4_order := List.mem_of_getElem? (i := 2) rfl
theorem lk_X4_order_85 : Cond.fieldLink RX4 85 "HatWorksModel" "size" "I" ∈ wsX4_order := List.mem_of_getElem? (i := 7) rfl
theorem lk_X4_order_95 : Cond.fieldLink RX4 95 "HatWorksModel" "fault" "I" ∈ wsX4_order := List.mem_of_getElem? (i := 8) rfl
variable {K : hw_K} {l : Launch} {D : va_G} {ad : Nat → Nat} {t : Nat → ClassId} {X : hw_XT} {rm : Room} {g : hw_G} {a : hw_A} {c : Int64}
variable {τ : Nat → Nat}
def mm (a : hw_A) (t9 b : Nat) : Int32 := ms (a 0) (fun j => a 1 (12 * b + j)) t9 12
def mo_s (a : hw_A) (o t9 b : Nat) (s : Int32 × (Nat → Int32)) : Int32 × (Nat → Int32) := if s.1 < 0 ∨ mm a t9 b < s.1 then (mm a t9 b, upd (upd s.2 (12 * o) (nI b)) (12 * o + 1) (nI t9)) else s
def mo_b (a : hw_A) (o t9 : Nat) : Nat → Int32 × (Nat → Int32) → Int32 × (Nat → Int32)
  | 0, s => s
  | b + 1, s => mo_s a o t9 b (mo_b a o t9 b s)
def mo_t (a : hw_A) (o N : Nat) : Nat → Int32 × (Nat → Int32) → Int32 × (Nat → Int32)
  | 0, s => s
  | t9 + 1, s => mo_b a o t9 N (mo_t a o N t9 s)
theorem mo_sc {a a' : hw_A} (h0 : a 0 = a' 0) (h1 : a 1 = a' 1) (o t9 b : Nat) (s : Int32 × (Nat → Int32)) : mo_s a o t9 b s = mo_s a' o t9 b s := by
  unfold mo_s mm
  rw [h0, h1]
theorem mo_bc {a a' : hw_A} (h0 : a 0 = a' 0) (h1 : a 1 = a' 1) (o t9 : Nat) (s : Int32 × (Nat → Int32)) : ∀ b, mo_b a o t9 b s = mo_b a' o t9 b s
  | 0 => rfl
  | b + 1 => by
    show mo_s a o t9 b (mo_b a o t9 b s) = mo_s a' o t9 b (mo_b a' o t9 b s)
    rw [mo_bc h0 h1 o t9 s b, mo_sc h0 h1]
theorem mo_tc {a a' : hw_A} (h0 : a 0 = a' 0) (h1 : a 1 = a' 1) (o N : Nat) (s : Int32 × (Nat → Int32)) : ∀ k, mo_t a o N k s = mo_t a' o N k s
  | 0 => rfl
  | k + 1 => by
    show mo_b a o k N (mo_t a o N k s) = mo_b a' o k N (mo_t a' o N k s)
    rw [mo_tc h0 h1 o N s k, mo_bc h0 h1]
def mo_row (F : Nat → Int32) (o : Nat) (best due wt : Int32) (z : Nat → Int32) : Nat → Int32 := upd (upd (upd (upd (upd (upd (upd (upd (upd (upd F (12 * o + 2) best) (12 * o + 3) (4 * z 0 * z 3 + 3 * z 1 * z 3 + 10 * z 2)) (12 * o + 4) (6 * z 3 + z 1)) (12 * o + 5) (10 + z 0 + 20 * z 3)) (12 * o + 6) due) (12 * o + 7) wt) (12 * o + 8) 0) (12 * o + 9) (-1)) (12 * o + 10) (-1)) (12 * o + 11) (-1)
set_option maxHeartbeats 4000000 in
set_option maxRecDepth 100000 in
theorem lb_M_order (F : hw_F K l D (WM ad t) (hw_T t) X cX4_order RX4 wsX4_order (hw_rm 8) 9) (hok : hw_XOK X) {B o t9 : Nat} {x y z : Int32} {s : Int32 × (Nat → Int32)} (h2 : g 2 = nI B) (hB : B ≤ 10) (ho : o < 60) (ht : t9 < 12) (hx : hw_J K (WM ad t) 0 0 g (va_up a 7 (mo_b a o t9 B s).2) c [(6, .int (nI t9)), (5, .int (mo_b a o t9 B s).1), (4, .int (nI (12 * o))), (0, .ref (ad 0)), (1, .int x), (2, .int y), (3, .int z)] 209 []) : ∀ m b : Nat, B - b < m → b ≤ B → hw_J K (WM ad t) 0 0 g (va_up a 7 (mo_b a o t9 b s).2) c [(7, .int (nI b)), (6, .int (nI t9)), (5, .int (mo_b a o t9 b s).1), (4, .int (nI (12 * o))), (0, .ref (ad 0)), (1, .int x), (2, .int y), (3, .int z)] 145 [] := by
  have hmm : ∀ (F : Nat → Int32) (b : Nat), ms (va_up a 7 F 0) (fun j => va_up a 7 F 1 (12 * b + j)) t9 12 = mm a t9 b := fun F b => rfl
  intro m
  induction m with
  | zero => intro b hm; exact absurd hm (Nat.not_lt_zero _)
  | succ m ih =>
    intro b hm hb
    refine hj_iload F 0 dX4_order_145 rfl ?_
    refine hj_aload_n F 4 dX4_order_147 rfl rfl ?_
    refine hg_M_blocks F hi_X4_order_M lk_X4_order_71 dX4_order_148 ?_
    rw [h2]
    refine hj_icmp_ge F 209 dX4_order_151 (by decide) (fun q151 => ?_) (fun q151 => ?_)
    · rw [nI_leI (by omega) (by omega)] at q151
      obtain rfl : b = B := by omega
      exact hj_lv [1, 2, 3, 4, 5, 6, 7] rfl hx
    · rw [nI_leI (by omega) (by omega)] at q151
      refine hj_aload_n F 4 dX4_order_154 rfl rfl ?_
      refine hj_iload F 0 dX4_order_155 rfl ?_
      refine hj_iload F 1 dX4_order_157 rfl ?_
      refine hj_cVi F (n := 2) (k_M_misfitOf hok (b := b) (t9 := t9) (by omega) ht) gX4_order_X4_misfitOf rfl ⟨rfl, rfl⟩ (by decide +kernel) ⟨by decide, by decide⟩ 0 4 rfl rfl (As := [_, _]) rfl rfl (Nat.le_of_ble_eq_true rfl) ⟨Nat.zero_le _, Nat.zero_le _⟩ dX4_order_159 (hw_eq4 ?_)
      rw [hmm]
      refine hj_istore F (lv' := [(8, _), (7, _), (6, _), (5, _), (4, _), (0, _), (1, _), (2, _), (3, _)]) dX4_order_162 (by decide) rfl ?_
      refine hj_iload F 3 dX4_order_164 rfl ?_
      refine hj_if_lt F 179 dX4_order_166 (by decide) (fun q166 => ?_) (fun q166 => ?_)
      · refine hj_iload F 0 dX4_order_179 rfl ?_
        refine hj_istore F (lv' := [(5, _), (8, _), (7, _), (6, _), (4, _), (0, _), (1, _), (2, _), (3, _)]) dX4_order_181 (by decide) rfl ?_
        refine hj_aload_n F 5 dX4_order_183 rfl rfl ?_
        refine hg_M_order F hi_X4_order_M lk_X4_order_40 dX4_order_184 ?_
        refine hj_iload F 4 dX4_order_187 rfl ?_
        refine hj_iload F 2 dX4_order_189 rfl ?_
        refine hs_M_order F (vp_in_nI (show 12 * o < 720 by omega) (by decide)) dX4_order_191 ?_
        refine hj_aload_n F 5 dX4_order_192 rfl rfl ?_
        refine hg_M_order F hi_X4_order_M lk_X4_order_40 dX4_order_193 ?_
        refine hj_iload F 4 dX4_order_196 rfl ?_
        refine hj_iconst F (v := 1) dX4_order_198 (by decide) ?_
        refine hj_iadd F dX4_order_199 ?_
        refine hj_iload F 3 dX4_order_200 rfl ?_
        rw [show nI (12 * o) + 1 = nI (12 * o + 1) from nI_add _ 1]
        refine hs_M_order F (vp_in_nI (show 12 * o + 1 < 720 by omega) (by decide)) dX4_order_202 ?_
        simp (disch := omega) only [nI_clamp, bx_uu, vau_s]
        refine hj_iinc F 2 (v := _ + 1) (lv' := [(7, _), (5, _), (8, _), (6, _), (4, _), (0, _), (1, _), (2, _), (3, _)]) dX4_order_203 rfl rfl (by decide) rfl ?_
        refine hj_goto F 145 dX4_order_206 (by decide) ?_
        refine hj_lv [0, 3, 1, 4, 5, 6, 7, 8] rfl ?_
        have e9 := ih (b + 1) (by omega) (by omega)
        rw [show mo_b a o t9 (b + 1) s = _ from if_pos (Or.inl q166)] at e9
        rw [nI_1]
        exact e9
      · refine hj_iload F 0 dX4_order_169 rfl ?_
        refine hj_iload F 3 dX4_order_171 rfl ?_
        refine hj_icmp_lt F 179 dX4_order_173 (by decide) (fun q173 => ?_) (fun q173 => ?_)
        · refine hj_iload F 0 dX4_order_179 rfl ?_
          refine hj_istore F (lv' := [(5, _), (8, _), (7, _), (6, _), (4, _), (0, _), (1, _), (2, _), (3, _)]) dX4_order_181 (by decide) rfl ?_
          refine hj_aload_n F 5 dX4_order_183 rfl rfl ?_
          refine hg_M_order F hi_X4_order_M lk_X4_order_40 dX4_order_184 ?_
          refine hj_iload F 4 dX4_order_187 rfl ?_
          refine hj_iload F 2 dX4_order_189 rfl ?_
          refine hs_M_order F (vp_in_nI (show 12 * o < 720 by omega) (by decide)) dX4_order_191 ?_
          refine hj_aload_n F 5 dX4_order_192 rfl rfl ?_
          refine hg_M_order F hi_X4_order_M lk_X4_order_40 dX4_order_193 ?_
          refine hj_iload F 4 dX4_order_196 rfl ?_
          refine hj_iconst F (v := 1) dX4_order_198 (by decide) ?_
          refine hj_iadd F dX4_order_199 ?_
          refine hj_iload F 3 dX4_order_200 rfl ?_
          rw [show nI (12 * o) + 1 = nI (12 * o + 1) from nI_add _ 1]
          refine hs_M_order F (vp_in_nI (show 12 * o + 1 < 720 by omega) (by decide)) dX4_order_202 ?_
          simp (disch := omega) only [nI_clamp, bx_uu, vau_s]
          refine hj_iinc F 2 (v := _ + 1) (lv' := [(7, _), (5, _), (8, _), (6, _), (4, _), (0, _), (1, _), (2, _), (3, _)]) dX4_order_203 rfl rfl (by decide) rfl ?_
          refine hj_goto F 145 dX4_order_206 (by decide) ?_
          refine hj_lv [0, 3, 1, 4, 5, 6, 7, 8] rfl ?_
          have e9 := ih (b + 1) (by omega) (by omega)
          rw [show mo_b a o t9 (b + 1) s = _ from if_pos (Or.inr q173)] at e9
          rw [nI_1]
          exact e9
        · refine hj_goto F 203 dX4_order_176 (by decide) ?_
          refine hj_iinc F 1 (v := _ + 1) (lv' := [(7, _), (8, _), (6, _), (5, _), (4, _), (0, _), (1, _), (2, _), (3, _)]) dX4_order_203 rfl rfl (by decide) rfl ?_
          refine hj_goto F 145 dX4_order_206 (by decide) ?_
          refine hj_lv [0, 2, 3, 4, 5, 6, 7, 8] rfl ?_
          have e9 := ih (b + 1) (by omega) (by omega)
          rw [show mo_b a o t9 (b + 1) s = _ from if_neg (fun z => z.elim q166 q173)] at e9
          rw [nI_1]
          exact e9
set_option maxHeartbeats 4000000 in
set_option maxRecDepth 100000 in
theorem lt_M_order (F : hw_F K l D (WM ad t) (hw_T t) X cX4_order RX4 wsX4_order (hw_rm 8) 9) (hok : hw_XOK X) {B o : Nat} {x y z : Int32} {s : Int32 × (Nat → Int32)} (h2 : g 2 = nI B) (hB : B ≤ 10) (ho : o < 60) (hx : hw_J K (WM ad t) 0 0 g (va_up a 7 (mo_t a o B 12 s).2) c [(6, .int (nI 12)), (5, .int (mo_t a o B 12 s).1), (4, .int (nI (12 * o))), (0, .ref (ad 0)), (1, .int x), (2, .int y), (3, .int z)] 215 []) : ∀ m t9 : Nat, 12 - t9 < m → t9 ≤ 12 → hw_J K (WM ad t) 0 0 g (va_up a 7 (mo_t a o B t9 s).2) c [(6, .int (nI t9)), (5, .int (mo_t a o B t9 s).1), (4, .int (nI (12 * o))), (0, .ref (ad 0)), (1, .int x), (2, .int y), (3, .int z)] 135 [] := by
  intro m
  induction m with
  | zero => intro b hm; exact absurd hm (Nat.not_lt_zero _)
  | succ m ih =>
    intro t9 hm hb
    refine hj_iload F 0 dX4_order_135 rfl ?_
    refine hj_bipush F (v := 12) dX4_order_137 (by decide) ?_
    refine hj_icmp_ge F 215 dX4_order_139 (by decide) (fun q139 => ?_) (fun q139 => ?_)
    · have q139 : nI 12 ≤ nI t9 := q139
      rw [nI_leI (by omega) (by omega)] at q139
      obtain rfl : t9 = 12 := by omega
      exact hx
    · have q139 : ¬ nI 12 ≤ nI t9 := q139
      rw [nI_leI (by omega) (by omega)] at q139
      refine hj_iconst F (v := 0) dX4_order_142 (by decide) ?_
      refine hj_istore F (lv' := [(7, _), (6, _), (5, _), (4, _), (0, _), (1, _), (2, _), (3, _)]) dX4_order_143 (by decide) rfl ?_
      refine lb_M_order F hok (s := mo_t a o B t9 s) h2 hB ho (show t9 < 12 by omega) ?_ (B + 1) 0 (by omega) (Nat.zero_le _)
      refine hj_iinc F 0 (v := _ + 1) (lv' := [(6, _), (5, _), (4, _), (0, _), (1, _), (2, _), (3, _)]) dX4_order_209 rfl rfl (by decide) rfl ?_
      refine hj_goto F 135 dX4_order_212 (by decide) ?_
      refine hj_lv [0, 1, 2, 3, 4, 5, 6] rfl ?_
      rw [nI_1]
      exact ih (t9 + 1) (by omega) (by omega)
set_option maxHeartbeats 4000000 in
set_option maxRecDepth 100000 in
theorem le_M_order (F : hw_F K l D (WM ad t) (hw_T t) X cX4_order RX4 wsX4_order (hw_rm 8) 9) {o : Nat} {best x y z : Int32} {T : Int32} {Fz : Nat → Int32} (h9 : g 9 = nI o) (ho : o < 60) (ret : ∀ {lv : List (Nat × Value)} {pc : Nat} {v : Int32}, decode cX4_order pc = .ok (.ireturn, 1) → v = nI o → hw_J K (WM ad t) 0 0 (upd g 9 (nI (o + 1))) (va_up a 7 (mo_row Fz o best y z (a 3))) c lv pc [.int v]) : hw_J K (WM ad t) 0 0 g (va_up a 7 Fz) c [(6, .int T), (5, .int best), (4, .int (nI (12 * o))), (0, .ref (ad 0)), (1, .int x), (2, .int y), (3, .int z)] 215 [] := by
  refine hj_aload_n F 3 dX4_order_215 rfl rfl ?_
  refine hg_M_order F hi_X4_order_M lk_X4_order_40 dX4_order_216 ?_
  refine hj_iload F 2 dX4_order_219 rfl ?_
  refine hj_iconst F (v := 2) dX4_order_221 (by decide) ?_
  refine hj_iadd F dX4_order_222 ?_
  rw [show nI (12 * o) + 2 = nI (12 * o + 2) from nI_add _ 2]
  refine hj_iload F 1 dX4_order_223 rfl ?_
  refine hs_M_order F (vp_in_nI (show 12 * o + 2 < 720 by omega) (by decide)) dX4_order_225 ?_
  simp (disch := omega) only [nI_clamp, bx_uu, vau_s]
  refine hj_aload_n F 3 dX4_order_226 rfl rfl ?_
  refine hg_M_order F hi_X4_order_M lk_X4_order_40 dX4_order_227 ?_
  refine hj_iload F 2 dX4_order_230 rfl ?_
  refine hj_iconst F (v := 3) dX4_order_232 (by decide) ?_
  refine hj_iadd F dX4_order_233 ?_
  rw [show nI (12 * o) + 3 = nI (12 * o + 3) from nI_add _ 3]
  refine hj_iconst F (v := 4) dX4_order_234 (by decide) ?_
  refine hj_aload_n F 3 dX4_order_235 rfl rfl ?_
  refine hg_M_part F hi_X4_order_M lk_X4_order_24 dX4_order_236 ?_
  refine hj_iconst F (v := 0) dX4_order_239 (by decide) ?_
  refine hl_M_part F (by first | assumption | exact hw_inc (by decide)) dX4_order_240 ?_
  try simp (disch := omega) only [va_up_ne, cl0, cl1, cl2, cl3]
  refine hj_imul F dX4_order_241 ?_
  refine hj_aload_n F 3 dX4_order_242 rfl rfl ?_
  refine hg_M_part F hi_X4_order_M lk_X4_order_24 dX4_order_243 ?_
  refine hj_iconst F (v := 3) dX4_order_246 (by decide) ?_
  refine hl_M_part F (by first | assumption | exact hw_inc (by decide)) dX4_order_247 ?_
  try simp (disch := omega) only [va_up_ne, cl0, cl1, cl2, cl3]
  refine hj_imul F dX4_order_248 ?_
  refine hj_iconst F (v := 3) dX4_order_249 (by decide) ?_
  refine hj_aload_n F 3 dX4_order_250 rfl rfl ?_
  refine hg_M_part F hi_X4_order_M lk_X4_order_24 dX4_order_251 ?_
  refine hj_iconst F (v := 1) dX4_order_254 (by decide) ?_
  refine hl_M_part F (by first | assumption | exact hw_inc (by decide)) dX4_order_255 ?_
  try simp (disch := omega) only [va_up_ne, cl0, cl1, cl2, cl3]
  refine hj_imul F dX4_order_256 ?_
  refine hj_aload_n F 3 dX4_order_257 rfl rfl ?_
  refine hg_M_part F hi_X4_order_M lk_X4_order_24 dX4_order_258 ?_
  refine hj_iconst F (v := 3) dX4_order_261 (by decide) ?_
  refine hl_M_part F (by first | assumption | exact hw_inc (by decide)) dX4_order_262 ?_
  try simp (disch := omega) only [va_up_ne, cl0, cl1, cl2, cl3]
  refine hj_imul F dX4_order_263 ?_
  refine hj_iadd F dX4_order_264 ?_
  refine hj_bipush F (v := 10) dX4_order_265 (by decide) ?_
  refine hj_aload_n F 3 dX4_order_267 rfl rfl ?_
  refine hg_M_part F hi_X4_order_M lk_X4_order_24 dX4_order_268 ?_
  refine hj_iconst F (v := 2) dX4_order_271 (by decide) ?_
  refine hl_M_part F (by first | assumption | exact hw_inc (by decide)) dX4_order_272 ?_
  try simp (disch := omega) only [va_up_ne, cl0, cl1, cl2, cl3]
  refine hj_imul F dX4_order_273 ?_
  refine hj_iadd F dX4_order_274 ?_
  refine hs_M_order F (vp_in_nI (show 12 * o + 3 < 720 by omega) (by decide)) dX4_order_275 ?_
  simp (disch := omega) only [nI_clamp, bx_uu, vau_s]
  refine hj_aload_n F 3 dX4_order_276 rfl rfl ?_
  refine hg_M_order F hi_X4_order_M lk_X4_order_40 dX4_order_277 ?_
  refine hj_iload F 2 dX4_order_280 rfl ?_
  refine hj_iconst F (v := 4) dX4_order_282 (by decide) ?_
  refine hj_iadd F dX4_order_283 ?_
  rw [show nI (12 * o) + 4 = nI (12 * o + 4) from nI_add _ 4]
  refine hj_bipush F (v := 6) dX4_order_284 (by decide) ?_
  refine hj_aload_n F 3 dX4_order_286 rfl rfl ?_
  refine hg_M_part F hi_X4_order_M lk_X4_order_24 dX4_order_287 ?_
  refine hj_iconst F (v := 3) dX4_order_290 (by decide) ?_
  refine hl_M_part F (by first | assumption | exact hw_inc (by decide)) dX4_order_291 ?_
  try simp (disch := omega) only [va_up_ne, cl0, cl1, cl2, cl3]
  refine hj_imul F dX4_order_292 ?_
  refine hj_aload_n F 3 dX4_order_293 rfl rfl ?_
  refine hg_M_part F hi_X4_order_M lk_X4_order_24 dX4_order_294 ?_
  refine hj_iconst F (v := 1) dX4_order_297 (by decide) ?_
  refine hl_M_part F (by first | assumption | exact hw_inc (by decide)) dX4_order_298 ?_
  try simp (disch := omega) only [va_up_ne, cl0, cl1, cl2, cl3]
  refine hj_iadd F dX4_order_299 ?_
  refine hs_M_order F (vp_in_nI (show 12 * o + 4 < 720 by omega) (by decide)) dX4_order_300 ?_
  simp (disch := omega) only [nI_clamp, bx_uu, vau_s]
  refine hj_aload_n F 3 dX4_order_301 rfl rfl ?_
  refine hg_M_order F hi_X4_order_M lk_X4_order_40 dX4_order_302 ?_
  refine hj_iload F 2 dX4_order_305 rfl ?_
  refine hj_iconst F (v := 5) dX4_order_307 (by decide) ?_
  refine hj_iadd F dX4_order_308 ?_
  rw [show nI (12 * o) + 5 = nI (12 * o + 5) from nI_add _ 5]
  refine hj_bipush F (v := 10) dX4_order_309 (by decide) ?_
  refine hj_aload_n F 3 dX4_order_311 rfl rfl ?_
  refine hg_M_part F hi_X4_order_M lk_X4_order_24 dX4_order_312 ?_
  refine hj_iconst F (v := 0) dX4_order_315 (by decide) ?_
  refine hl_M_part F (by first | assumption | exact hw_inc (by decide)) dX4_order_316 ?_
  try simp (disch := omega) only [va_up_ne, cl0, cl1, cl2, cl3]
  refine hj_iadd F dX4_order_317 ?_
  refine hj_bipush F (v := 20) dX4_order_318 (by decide) ?_
  refine hj_aload_n F 3 dX4_order_320 rfl rfl ?_
  refine hg_M_part F hi_X4_order_M lk_X4_order_24 dX4_order_321 ?_
  refine hj_iconst F (v := 3) dX4_order_324 (by decide) ?_
  refine hl_M_part F (by first | assumption | exact hw_inc (by decide)) dX4_order_325 ?_
  refine hj_imul F dX4_order_326 ?_
  try simp (disch := omega) only [va_up_ne, cl0, cl1, cl2, cl3]
  refine hj_iadd F dX4_order_327 ?_
  refine hs_M_order F (vp_in_nI (show 12 * o + 5 < 720 by omega) (by decide)) dX4_order_328 ?_
  simp (disch := omega) only [nI_clamp, bx_uu, vau_s]
  refine hj_aload_n F 3 dX4_order_329 rfl rfl ?_
  refine hg_M_order F hi_X4_order_M lk_X4_order_40 dX4_order_330 ?_
  refine hj_iload F 2 dX4_order_333 rfl ?_
  refine hj_bipush F (v := 6) dX4_order_335 (by decide) ?_
  refine hj_iadd F dX4_order_337 ?_
  rw [show nI (12 * o) + 6 = nI (12 * o + 6) from nI_add _ 6]
  refine hj_iload_n F 5 dX4_order_338 rfl rfl ?_
  refine hs_M_order F (vp_in_nI (show 12 * o + 6 < 720 by omega) (by decide)) dX4_order_339 ?_
  simp (disch := omega) only [nI_clamp, bx_uu, vau_s]
  refine hj_aload_n F 3 dX4_order_340 rfl rfl ?_
  refine hg_M_order F hi_X4_order_M lk_X4_order_40 dX4_order_341 ?_
  refine hj_iload F 2 dX4_order_344 rfl ?_
  refine hj_bipush F (v := 7) dX4_order_346 (by decide) ?_
  refine hj_iadd F dX4_order_348 ?_
  rw [show nI (12 * o) + 7 = nI (12 * o + 7) from nI_add _ 7]
  refine hj_iload_n F 6 dX4_order_349 rfl rfl ?_
  refine hs_M_order F (vp_in_nI (show 12 * o + 7 < 720 by omega) (by decide)) dX4_order_350 ?_
  simp (disch := omega) only [nI_clamp, bx_uu, vau_s]
  refine hj_aload_n F 3 dX4_order_351 rfl rfl ?_
  refine hg_M_order F hi_X4_order_M lk_X4_order_40 dX4_order_352 ?_
  refine hj_iload F 2 dX4_order_355 rfl ?_
  refine hj_bipush F (v := 8) dX4_order_357 (by decide) ?_
  refine hj_iadd F dX4_order_359 ?_
  rw [show nI (12 * o) + 8 = nI (12 * o + 8) from nI_add _ 8]
  refine hj_iconst F (v := 0) dX4_order_360 (by decide) ?_
  refine hs_M_order F (vp_in_nI (show 12 * o + 8 < 720 by omega) (by decide)) dX4_order_361 ?_
  simp (disch := omega) only [nI_clamp, bx_uu, vau_s]
  refine hj_bipush F (v := 9) dX4_order_362 (by decide) ?_
  refine hj_istore F (lv' := [(6, _), (5, _), (4, _), (0, _), (1, _), (2, _), (3, _)]) dX4_order_364 (by decide) rfl ?_
  refine hj_iload F 0 dX4_order_366 rfl ?_
  refine hj_bipush F (v := 12) dX4_order_368 (by decide) ?_
  refine hj_icmp_ge F 390 dX4_order_370 (by decide) (fun q370 => ?_) (fun q370 => ?_)
  · exact absurd q370 (by decide)
  · refine hj_aload_n F 3 dX4_order_373 rfl rfl ?_
    refine hg_M_order F hi_X4_order_M lk_X4_order_40 dX4_order_374 ?_
    refine hj_iload F 2 dX4_order_377 rfl ?_
    refine hj_iload F 0 dX4_order_379 rfl ?_
    refine hj_iadd F dX4_order_381 ?_
    rw [show nI (12 * o) + (9) = nI (12 * o + 9) from nI_add _ 9]
    refine hj_iconst F (v := -1) dX4_order_382 (by decide) ?_
    refine hs_M_order F (vp_in_nI (show 12 * o + 9 < 720 by omega) (by decide)) dX4_order_383 ?_
    simp (disch := omega) only [nI_clamp, bx_uu, vau_s]
    refine hj_iinc F 0 (v := _ + 1) (lv' := [(6, _), (5, _), (4, _), (0, _), (1, _), (2, _), (3, _)]) dX4_order_384 rfl rfl (by decide) rfl ?_
    refine hj_goto F 366 dX4_order_387 (by decide) ?_
    refine hj_iload F 0 dX4_order_366 rfl ?_
    refine hj_bipush F (v := 12) dX4_order_368 (by decide) ?_
    refine hj_icmp_ge F 390 dX4_order_370 (by decide) (fun q370_2 => ?_) (fun q370_2 => ?_)
    · exact absurd q370_2 (by decide)
    · refine hj_aload_n F 3 dX4_order_373 rfl rfl ?_
      refine hg_M_order F hi_X4_order_M lk_X4_order_40 dX4_order_374 ?_
      refine hj_iload F 2 dX4_order_377 rfl ?_
      refine hj_iload F 0 dX4_order_379 rfl ?_
      refine hj_iadd F dX4_order_381 ?_
      rw [show nI (12 * o) + (9 + 1) = nI (12 * o + 10) from nI_add _ 10]
      refine hj_iconst F (v := -1) dX4_order_382 (by decide) ?_
      refine hs_M_order F (vp_in_nI (show 12 * o + 10 < 720 by omega) (by decide)) dX4_order_383 ?_
      simp (disch := omega) only [nI_clamp, bx_uu, vau_s]
      refine hj_iinc F 0 (v := _ + 1) (lv' := [(6, _), (5, _), (4, _), (0, _), (1, _), (2, _), (3, _)]) dX4_order_384 rfl rfl (by decide) rfl ?_
      refine hj_goto F 366 dX4_order_387 (by decide) ?_
      refine hj_iload F 0 dX4_order_366 rfl ?_
      refine hj_bipush F (v := 12) dX4_order_368 (by decide) ?_
      refine hj_icmp_ge F 390 dX4_order_370 (by decide) (fun q370_3 => ?_) (fun q370_3 => ?_)
      · exact absurd q370_3 (by decide)
      · refine hj_aload_n F 3 dX4_order_373 rfl rfl ?_
        refine hg_M_order F hi_X4_order_M lk_X4_order_40 dX4_order_374 ?_
        refine hj_iload F 2 dX4_order_377 rfl ?_
        refine hj_iload F 0 dX4_order_379 rfl ?_
        refine hj_iadd F dX4_order_381 ?_
        rw [show nI (12 * o) + (9 + 1 + 1) = nI (12 * o + 11) from nI_add _ 11]
        refine hj_iconst F (v := -1) dX4_order_382 (by decide) ?_
        refine hs_M_order F (vp_in_nI (show 12 * o + 11 < 720 by omega) (by decide)) dX4_order_383 ?_
        simp (disch := omega) only [nI_clamp, bx_uu, vau_s]
        refine hj_iinc F 0 (v := _ + 1) (lv' := [(6, _), (5, _), (4, _), (0, _), (1, _), (2, _), (3, _)]) dX4_order_384 rfl rfl (by decide) rfl ?_
        refine hj_goto F 366 dX4_order_387 (by decide) ?_
        refine hj_iload F 0 dX4_order_366 rfl ?_
        refine hj_bipush F (v := 12) dX4_order_368 (by decide) ?_
        refine hj_icmp_ge F 390 dX4_order_370 (by decide) (fun q370_4 => ?_) (fun q370_4 => ?_)
        · refine hj_aload_n F 3 dX4_order_390 rfl rfl ?_
          refine hj_dup F dX4_order_391 rfl ?_
          refine hg_M_orders F hi_X4_order_M lk_X4_order_141 dX4_order_392 ?_
          rw [h9]
          refine hj_iconst F (v := 1) dX4_order_395 (by decide) ?_
          refine hj_iadd F dX4_order_396 ?_
          rw [nI_1]
          refine hp_M_orders F hi_X4_order_M lk_X4_order_141 dX4_order_397 ?_
          refine hj_aload_n F 3 dX4_order_400 rfl rfl ?_
          refine hg_M_orders F hi_X4_order_M lk_X4_order_141 dX4_order_401 ?_
          rw [pk_us]
          refine hj_iconst F (v := 1) dX4_order_404 (by decide) ?_
          refine hj_isub F dX4_order_405 ?_
          exact ret dX4_order_406 (by rw [show (1 : Int32) = nI 1 from rfl, pk_sub (by omega)]; rfl)
        · exact absurd (by decide) q370_4
abbrev om_bad (g : hw_G) (x y z : Int32) : Prop := x < 0 ∨ g 3 < x ∨ y < 0 ∨ 1000000 < y ∨ z < 1 ∨ 9 < z
theorem tp_end0 {h : Int32 × Int32 × (Nat → Int32)} {L : Nat} (hh : 0 ≤ h.1) : 0 ≤ (tp_end h L).1 := by
  unfold tp_end
  by_cases z : h.1 = 0 ∧ (h.2.2 0 = -1 ∨ h.2.2 3 = -1)
  · rw [if_pos z]; exact (by decide : (0 : Int32) ≤ 3)
  · rw [if_neg z]; exact hh
theorem tp_hat0 {b : Nat → Int32} {L : Nat} : ∀ (k n : Nat) (ps : Nat → Int32), 0 ≤ (tp_hat b L k n ps).1
  | 0, _, _ => (by decide : (0 : Int32) ≤ 0)
  | k + 1, n, ps => by
    rw [tp_hat_s rfl rfl rfl rfl rfl rfl rfl]
    repeat' split
    all_goals first | exact (by decide : (0 : Int32) ≤ 0) | exact (by decide : (0 : Int32) ≤ 1) | exact (by decide : (0 : Int32) ≤ 2) | exact tp_hat0 _ _ _
set_option maxHeartbeats 4000000 in
set_option maxRecDepth 100000 in
theorem k_M_order (hok : hw_XOK X) (hs : ∀ A U H, X A U H → sx τ A U H) (hs4 : ∀ A U H, X A U H → sx4 τ U) {n B N ts : Nat} (h1 : g 1 = nI n) (hn : n ≤ 12) (h2 : g 2 = nI B) (hB : B ≤ 10) (h9 : g 9 = nI N) (hN : N ≤ 60) (h3 : g 3 = nI ts) (hts : ts ≤ 100) (hby : by_ok (a 2)) {ps : Nat → Int32} (hps : ∀ p, p < 4 → ps p = -1) {x y z : Int32} : hw_Ci l D (WM ad t) (hw_T t) X yX4_order wsX4_order (hw_rm 8) [.ref (ad 0), .int x, .int y, .int z] g a c (fun r g' a' c' => c' = c ∧ (if om_bad g x y z then g' = upd g 0 1 ∧ a' = a else ∃ L, L ≤ ts ∧ x = nI L ∧ (if n < 12 then r = -1 ∧ g' = upd g 0 0 ∧ a' = a else if B = 0 then r = -2 ∧ g' = upd g 0 0 ∧ a' = a else if N = 60 then r = -3 ∧ g' = upd g 0 0 ∧ a' = a else ∃ (x9 : Int32) (z4 z3 : Nat → Int32), (if (tp_end (tp_hat (a 2) L 5 0 ps) L).1 = 0 then (∀ p, p < 4 → z3 p = tp_v ((tp_hat (a 2) L 5 0 ps).2.2 p)) ∧ r = nI N ∧ g' = upd (md_G (upd (upd (upd (upd g 0 0) 4 (nI L)) 3 0) 1 0) x9 (tp_end (tp_hat (a 2) L 5 0 ps) L).1 (tp_end (tp_hat (a 2) L 5 0 ps) L).2) 9 (nI (N + 1)) ∧ a' = va_up (md_A a z4 z3) 7 (mo_row (mo_t a N B 12 (-1, a 7)).2 N (mo_t a N B 12 (-1, a 7)).1 y z z3) else r = (tp_end (tp_hat (a 2) L 5 0 ps) L).1 - 10 ∧ g' = md_G (upd (upd (upd (upd g 0 0) 4 (nI L)) 3 0) 1 0) x9 (tp_end (tp_hat (a 2) L 5 0 ps) L).1 (tp_end (tp_hat (a 2) L 5 0 ps) L).2 ∧ a' = md_A a z4 z3)))) := by
  refine hw_Ci.mk (lv0 := [(0, _), (1, _), (2, _), (3, _)]) (by decide) rfl (Nat.le_of_ble_eq_true rfl) rfl (WM_ads ad t) hok (fun K F ret => ?_)
  have F : hw_F K l D (WM ad t) (hw_T t) X cX4_order RX4 wsX4_order (hw_rm 8) 9 := F
  refine hj_aload_n F 0 dX4_order_0 rfl rfl ?_
  refine hj_iconst F (v := 0) dX4_order_1 (by decide) ?_
  refine hp_M_thrown F hi_X4_order_M lk_X4_order_61 dX4_order_2 ?_
  refine hj_aload_n F 0 dX4_order_5 rfl rfl ?_
  refine hj_iload_n F 1 dX4_order_6 rfl rfl ?_
  refine hj_if_lt F 39 dX4_order_7 (by decide) (fun q7 => ?_) (fun q7 => ?_)
  · refine hj_iconst F (v := 1) dX4_order_39 (by decide) ?_
    refine hj_goto F 44 dX4_order_40 (by decide) ?_
    refine hj_iconst F (v := 1) dX4_order_44 (by decide) ?_
    refine hj_cVi F (n := 2) (k_M_bad hok (by decide)) gX4_order_X4_bad rfl ⟨rfl, rfl⟩ (by decide +kernel) ⟨by decide, by decide⟩ 0 4 rfl rfl (As := [_, _]) rfl rfl (Nat.le_of_ble_eq_true rfl) ⟨Nat.zero_le _, Nat.zero_le _⟩ dX4_order_45 (hw_eq4 ?_)
    rw [if_neg (by decide)]
    refine hj_if_eq F 53 dX4_order_48 (by decide) (fun q48 => ?_) (fun q48 => ?_)
    · exact absurd q48 (by decide)
    · refine hj_iconst F (v := 0) dX4_order_51 (by decide) ?_
      exact ret dX4_order_52 rfl ⟨rfl, by rw [if_pos (show om_bad g x y z from Or.inl q7), upd_uu]; exact ⟨rfl, rfl⟩⟩
  · refine hj_iload_n F 1 dX4_order_10 rfl rfl ?_
    refine hj_aload_n F 0 dX4_order_11 rfl rfl ?_
    refine hg_M_taped F hi_X4_order_M lk_X4_order_82 dX4_order_12 ?_
    rw [pk_un (by decide)]
    refine hj_icmp_gt F 39 dX4_order_15 (by decide) (fun q15 => ?_) (fun q15 => ?_)
    · refine hj_iconst F (v := 1) dX4_order_39 (by decide) ?_
      refine hj_goto F 44 dX4_order_40 (by decide) ?_
      refine hj_iconst F (v := 1) dX4_order_44 (by decide) ?_
      refine hj_cVi F (n := 2) (k_M_bad hok (by decide)) gX4_order_X4_bad rfl ⟨rfl, rfl⟩ (by decide +kernel) ⟨by decide, by decide⟩ 0 4 rfl rfl (As := [_, _]) rfl rfl (Nat.le_of_ble_eq_true rfl) ⟨Nat.zero_le _, Nat.zero_le _⟩ dX4_order_45 (hw_eq4 ?_)
      rw [if_neg (by decide)]
      refine hj_if_eq F 53 dX4_order_48 (by decide) (fun q48_2 => ?_) (fun q48_2 => ?_)
      · exact absurd q48_2 (by decide)
      · refine hj_iconst F (v := 0) dX4_order_51 (by decide) ?_
        exact ret dX4_order_52 rfl ⟨rfl, by rw [if_pos (show om_bad g x y z from Or.inr (Or.inl q15)), upd_uu]; exact ⟨rfl, rfl⟩⟩
    · refine hj_iload_n F 2 dX4_order_18 rfl rfl ?_
      refine hj_if_lt F 39 dX4_order_19 (by decide) (fun q19 => ?_) (fun q19 => ?_)
      · refine hj_iconst F (v := 1) dX4_order_39 (by decide) ?_
        refine hj_goto F 44 dX4_order_40 (by decide) ?_
        refine hj_iconst F (v := 1) dX4_order_44 (by decide) ?_
        refine hj_cVi F (n := 2) (k_M_bad hok (by decide)) gX4_order_X4_bad rfl ⟨rfl, rfl⟩ (by decide +kernel) ⟨by decide, by decide⟩ 0 4 rfl rfl (As := [_, _]) rfl rfl (Nat.le_of_ble_eq_true rfl) ⟨Nat.zero_le _, Nat.zero_le _⟩ dX4_order_45 (hw_eq4 ?_)
        rw [if_neg (by decide)]
        refine hj_if_eq F 53 dX4_order_48 (by decide) (fun q48_3 => ?_) (fun q48_3 => ?_)
        · exact absurd q48_3 (by decide)
        · refine hj_iconst F (v := 0) dX4_order_51 (by decide) ?_
          exact ret dX4_order_52 rfl ⟨rfl, by rw [if_pos (show om_bad g x y z from Or.inr (Or.inr (Or.inl q19))), upd_uu]; exact ⟨rfl, rfl⟩⟩
      · refine hj_iload_n F 2 dX4_order_22 rfl rfl ?_
        refine hj_ldc F lc_X4_order_140 dX4_order_23 ?_
        refine hj_icmp_gt F 39 dX4_order_25 (by decide) (fun q25 => ?_) (fun q25 => ?_)
        · refine hj_iconst F (v := 1) dX4_order_39 (by decide) ?_
          refine hj_goto F 44 dX4_order_40 (by decide) ?_
          refine hj_iconst F (v := 1) dX4_order_44 (by decide) ?_
          refine hj_cVi F (n := 2) (k_M_bad hok (by decide)) gX4_order_X4_bad rfl ⟨rfl, rfl⟩ (by decide +kernel) ⟨by decide, by decide⟩ 0 4 rfl rfl (As := [_, _]) rfl rfl (Nat.le_of_ble_eq_true rfl) ⟨Nat.zero_le _, Nat.zero_le _⟩ dX4_order_45 (hw_eq4 ?_)
          rw [if_neg (by decide)]
          refine hj_if_eq F 53 dX4_order_48 (by decide) (fun q48_4 => ?_) (fun q48_4 => ?_)
          · exact absurd q48_4 (by decide)
          · refine hj_iconst F (v := 0) dX4_order_51 (by decide) ?_
            exact ret dX4_order_52 rfl ⟨rfl, by rw [if_pos (show om_bad g x y z from Or.inr (Or.inr (Or.inr (Or.inl q25)))), upd_uu]; exact ⟨rfl, rfl⟩⟩
        · refine hj_iload_n F 3 dX4_order_28 rfl rfl ?_
          refine hj_iconst F (v := 1) dX4_order_29 (by decide) ?_
          refine hj_icmp_lt F 39 dX4_order_30 (by decide) (fun q30 => ?_) (fun q30 => ?_)
          · refine hj_iconst F (v := 1) dX4_order_39 (by decide) ?_
            refine hj_goto F 44 dX4_order_40 (by decide) ?_
            refine hj_iconst F (v := 1) dX4_order_44 (by decide) ?_
            refine hj_cVi F (n := 2) (k_M_bad hok (by decide)) gX4_order_X4_bad rfl ⟨rfl, rfl⟩ (by decide +kernel) ⟨by decide, by decide⟩ 0 4 rfl rfl (As := [_, _]) rfl rfl (Nat.le_of_ble_eq_true rfl) ⟨Nat.zero_le _, Nat.zero_le _⟩ dX4_order_45 (hw_eq4 ?_)
            rw [if_neg (by decide)]
            refine hj_if_eq F 53 dX4_order_48 (by decide) (fun q48_5 => ?_) (fun q48_5 => ?_)
            · exact absurd q48_5 (by decide)
            · refine hj_iconst F (v := 0) dX4_order_51 (by decide) ?_
              exact ret dX4_order_52 rfl ⟨rfl, by rw [if_pos (show om_bad g x y z from Or.inr (Or.inr (Or.inr (Or.inr (Or.inl q30))))), upd_uu]; exact ⟨rfl, rfl⟩⟩
          · refine hj_iload_n F 3 dX4_order_33 rfl rfl ?_
            refine hj_bipush F (v := 9) dX4_order_34 (by decide) ?_
            refine hj_icmp_le F 43 dX4_order_36 (by decide) (fun q36 => ?_) (fun q36 => ?_)
            · refine hj_iconst F (v := 0) dX4_order_43 (by decide) ?_
              refine hj_iconst F (v := 1) dX4_order_44 (by decide) ?_
              refine hj_cVi F (n := 2) (k_M_bad hok (by decide)) gX4_order_X4_bad rfl ⟨rfl, rfl⟩ (by decide +kernel) ⟨by decide, by decide⟩ 0 4 rfl rfl (As := [_, _]) rfl rfl (Nat.le_of_ble_eq_true rfl) ⟨Nat.zero_le _, Nat.zero_le _⟩ dX4_order_45 (hw_eq4 ?_)
              rw [if_pos rfl]
              refine hj_if_eq F 53 dX4_order_48 (by decide) (fun q48_6 => ?_) (fun q48_6 => ?_)
              · have hg : ¬ om_bad g x y z := (fun z => z.elim q7 (fun z => z.elim q15 (fun z => z.elim q19 (fun z => z.elim q25 (fun z => z.elim q30 (fun z => absurd q36 (Int32.not_le.mpr z)))))))
                obtain ⟨L, hLt, rfl⟩ : ∃ L, L < ts + 1 ∧ x = nI L := by
                  rcases pk_ix x (n := ts + 1) (by omega) with z9 | z9 | z9
                  · exact absurd z9 q7
                  · exact absurd (show g 3 < x by rw [h3]; exact Int32.lt_of_lt_of_le (nI_lt (Nat.lt_succ_self ts) (by omega)) z9) q15
                  · exact z9
                refine hj_aload_n F 0 dX4_order_53 rfl rfl ?_
                refine hg_M_handMany F hi_X4_order_M lk_X4_order_68 dX4_order_54 ?_
                rw [pk_un (by decide), h1]
                refine hj_bipush F (v := 12) dX4_order_57 (by decide) ?_
                refine hj_icmp_ge F 64 dX4_order_59 (by decide) (fun q59 => ?_) (fun q59 => ?_)
                · have q59 : nI 12 ≤ nI n := q59
                  rw [nI_leI (by omega) (by omega)] at q59
                  refine hj_aload_n F 0 dX4_order_64 rfl rfl ?_
                  refine hg_M_blocks F hi_X4_order_M lk_X4_order_71 dX4_order_65 ?_
                  rw [pk_un (by decide), h2]
                  refine hj_if_ne F 74 dX4_order_68 (by decide) (fun q68 => ?_) (fun q68 => ?_)
                  · have q68 : ¬ nI B = nI 0 := q68
                    rw [nI_eq (by omega) (by omega)] at q68
                    refine hj_aload_n F 0 dX4_order_74 rfl rfl ?_
                    refine hg_M_orders F hi_X4_order_M lk_X4_order_141 dX4_order_75 ?_
                    rw [pk_un (by decide), h9]
                    refine hj_bipush F (v := 60) dX4_order_78 (by decide) ?_
                    refine hj_icmp_ne F 86 dX4_order_80 (by decide) (fun q80 => ?_) (fun q80 => ?_)
                    · have q80 : ¬ nI N = nI 60 := q80
                      rw [nI_eq (by omega) (by omega)] at q80
                      refine hj_aload_n F 0 dX4_order_86 rfl rfl ?_
                      refine hj_iload_n F 1 dX4_order_87 rfl rfl ?_
                      refine hp_M_size F hi_X4_order_M lk_X4_order_85 dX4_order_88 ?_
                      refine hj_aload_n F 0 dX4_order_91 rfl rfl ?_
                      refine hj_iconst F (v := 0) dX4_order_92 (by decide) ?_
                      refine hp_M_taped F hi_X4_order_M lk_X4_order_82 dX4_order_93 ?_
                      refine hj_aload_n F 0 dX4_order_96 rfl rfl ?_
                      refine hj_iconst F (v := 0) dX4_order_97 (by decide) ?_
                      refine hp_M_handMany F hi_X4_order_M lk_X4_order_68 dX4_order_98 ?_
                      refine hj_aload_n F 0 dX4_order_101 rfl rfl ?_
                      refine hj_cVv F (n := 0) (k_M_readHat hok hs hs4 (L := L) (g := (upd (upd (upd (upd g 0 0) 4 (nI L)) 3 0) 1 0)) rfl (by omega) hby hps rfl) gX4_order_X4_readHat rfl ⟨rfl, rfl⟩ (by decide +kernel) ⟨by decide, by decide⟩ 0 4 rfl rfl (As := []) rfl rfl (Nat.le_of_ble_eq_true rfl) ⟨Nat.zero_le _, Nat.zero_le _⟩ dX4_order_102 ?_
                      intro g9 a9 c9 hq
                      obtain ⟨rfl, x9, z4, z3, rfl, rfl, hz⟩ := hq
                      refine hj_aload_n F 0 dX4_order_105 rfl rfl ?_
                      refine hg_M_fault F hi_X4_order_M lk_X4_order_95 dX4_order_106 ?_
                      rw [md_G6]
                      have hf0 := tp_end0 (L := L) (tp_hat0 (b := a 2) (L := L) 5 0 ps)
                      refine hj_if_le F 120 dX4_order_109 (by decide) (fun q109 => ?_) (fun q109 => ?_)
                      · have hf : (tp_end (tp_hat (a 2) L 5 0 ps) L).1 = 0 := Int32.le_antisymm q109 hf0
                        have hb2 : (md_G (upd (upd (upd (upd g 0 0) 4 (nI L)) 3 0) 1 0) x9 (tp_end (tp_hat (a 2) L 5 0 ps) L).1 (tp_end (tp_hat (a 2) L 5 0 ps) L).2) 2 = nI B := h2
                        refine hj_bipush F (v := 12) dX4_order_120 (by decide) ?_
                        refine hj_aload_n F 0 dX4_order_122 rfl rfl ?_
                        refine hg_M_orders F hi_X4_order_M lk_X4_order_141 dX4_order_123 ?_
                        rw [show (md_G (upd (upd (upd (upd g 0 0) 4 (nI L)) 3 0) 1 0) x9 (tp_end (tp_hat (a 2) L 5 0 ps) L).1 (tp_end (tp_hat (a 2) L 5 0 ps) L).2) 9 = nI N from h9]
                        refine hj_imul F dX4_order_126 ?_
                        rw [show (12 : Int32) * nI N = nI (12 * N) from pk_mul 12 N]
                        refine hj_istore F (lv' := [(4, _), (0, _), (1, _), (2, _), (3, _)]) dX4_order_127 (by decide) rfl ?_
                        refine hj_iconst F (v := -1) dX4_order_129 (by decide) ?_
                        refine hj_istore F (lv' := [(5, _), (4, _), (0, _), (1, _), (2, _), (3, _)]) dX4_order_130 (by decide) rfl ?_
                        refine hj_iconst F (v := 0) dX4_order_132 (by decide) ?_
                        refine hj_istore F (lv' := [(6, _), (5, _), (4, _), (0, _), (1, _), (2, _), (3, _)]) dX4_order_133 (by decide) rfl ?_
                        refine hj_lv [0, 1, 2, 3, 4, 5, 6] rfl ?_
                        rw [← vau_self (md_A a z4 z3) 7 (x := a 7) rfl]
                        refine lt_M_order F hok (a := md_A a z4 z3) (s := (-1, a 7)) (B := B) (o := N) hb2 hB (by omega) ?_ 13 0 (by decide) (by decide)
                        refine le_M_order F (a := md_A a z4 z3) (o := N) h9 (by omega) (fun {lv pc v} d hv => ret d rfl ⟨rfl, ?_⟩)
                        rw [if_neg hg]
                        refine ⟨L, by omega, rfl, ?_⟩
                        rw [if_neg (by omega), if_neg q68, if_neg q80]
                        refine ⟨x9, z4, z3, ?_⟩
                        rw [if_pos hf]
                        exact ⟨hz hf, hv, rfl, by rw [md_Ar3, mo_tc (a := md_A a z4 z3) (a' := a) rfl rfl]⟩
                      · have hf : ¬ (tp_end (tp_hat (a 2) L 5 0 ps) L).1 = 0 := fun z => q109 (by rw [z]; decide)
                        refine hj_aload_n F 0 dX4_order_112 rfl rfl ?_
                        refine hg_M_fault F hi_X4_order_M lk_X4_order_95 dX4_order_113 ?_
                        rw [md_G6]
                        refine hj_bipush F (v := 10) dX4_order_116 (by decide) ?_
                        refine hj_isub F dX4_order_118 ?_
                        exact ret dX4_order_119 rfl ⟨rfl, by rw [if_neg hg]; exact ⟨L, by omega, rfl, by rw [if_neg (by omega), if_neg q68, if_neg q80]; exact ⟨x9, z4, z3, by rw [if_neg hf]; exact ⟨rfl, rfl, rfl⟩⟩⟩⟩
                    · have q80 : nI N = nI 60 := q80
                      rw [nI_eq (by omega) (by omega)] at q80
                      refine hj_bipush F (v := -3) dX4_order_83 (by decide) ?_
                      exact ret dX4_order_85 rfl ⟨rfl, by rw [if_neg hg]; exact ⟨L, by omega, rfl, by rw [if_neg (by omega), if_neg q68, if_pos q80]; exact ⟨rfl, rfl, rfl⟩⟩⟩
                  · have q68 : nI B = nI 0 := q68
                    rw [nI_eq (by omega) (by omega)] at q68
                    refine hj_bipush F (v := -2) dX4_order_71 (by decide) ?_
                    exact ret dX4_order_73 rfl ⟨rfl, by rw [if_neg hg]; exact ⟨L, by omega, rfl, by rw [if_neg (by omega), if_pos q68]; exact ⟨rfl, rfl, rfl⟩⟩⟩
                · have q59 : ¬ nI 12 ≤ nI n := q59
                  rw [nI_leI (by omega) (by omega)] at q59
                  refine hj_iconst F (v := -1) dX4_order_62 (by decide) ?_
                  exact ret dX4_order_63 rfl ⟨rfl, by rw [if_neg hg]; exact ⟨L, by omega, rfl, by rw [if_pos (by omega)]; exact ⟨rfl, rfl, rfl⟩⟩⟩
              · exact absurd rfl q48_6
            · refine hj_iconst F (v := 1) dX4_order_39 (by decide) ?_
              refine hj_goto F 44 dX4_order_40 (by decide) ?_
              refine hj_iconst F (v := 1) dX4_order_44 (by decide) ?_
              refine hj_cVi F (n := 2) (k_M_bad hok (by decide)) gX4_order_X4_bad rfl ⟨rfl, rfl⟩ (by decide +kernel) ⟨by decide, by decide⟩ 0 4 rfl rfl (As := [_, _]) rfl rfl (Nat.le_of_ble_eq_true rfl) ⟨Nat.zero_le _, Nat.zero_le _⟩ dX4_order_45 (hw_eq4 ?_)
              rw [if_neg (by decide)]
              refine hj_if_eq F 53 dX4_order_48 (by decide) (fun q48_7 => ?_) (fun q48_7 => ?_)
              · exact absurd q48_7 (by decide)
              · refine hj_iconst F (v := 0) dX4_order_51 (by decide) ?_
                exact ret dX4_order_52 rfl ⟨rfl, by rw [if_pos (show om_bad g x y z from Or.inr (Or.inr (Or.inr (Or.inr (Or.inr (Int32.not_le.mp q36)))))), upd_uu]; exact ⟨rfl, rfl⟩⟩
end SMOD8
