/-! class and reference, function by function: the same state comes -/
theorem fe {σ : St} {a : Int32} (ha : vp_in a 4096) : x4_fetch σ a = g_cells σ (Int32.toNatClampNeg a) := by unfold x4_fetch; rw [ad_id ha]
theorem fw {B : Nat} {σ : St} (h : IV B σ) (a : Int32) : Wd (x4_fetch σ a) := h.i_cells _
theorem se {σ : St} {a w : Int32} (ha : vp_in a 4096) : x4_store σ a w = s_cells σ (upd (g_cells σ) (Int32.toNatClampNeg a) w) := by unfold x4_store; rw [ad_id ha]
theorem PF.store {B : Nat} {σ τ : St} (h : PF B σ τ) (a : Int32) {w : Int32} (hw : Wd w) : PF B σ (x4_store τ a w) := h.s_cells (upd_w h.1.i_cells hw)
theorem E_place {B : Nat} {σ : St} (h : IV B σ) (u v e : Int32) : m_place (dec σ u v e) = x4_place σ := pl_e h.i_pc h.i_ov
theorem w_place {B : Nat} {σ : St} (h : IV B σ) : Wd (x4_place σ) := pl_w h.i_pc h.i_ov
theorem E_skip (σ : St) (u v e b : Int32) : m_skips (dec σ u v e) b = dec (x4_skipIf σ b) u v e := by
  unfold m_skips x4_skipIf x4_advance
  by_cases h : b = (0 : Int32)
  · rw [if_pos h, if_pos h]
  · rw [if_neg h, if_neg h]; rfl
theorem PF.skip {B : Nat} {σ τ : St} (h : PF B σ τ) (b : Int32) : PF B σ (x4_skipIf τ b) := by
  unfold x4_skipIf x4_advance
  split
  · exact h
  · exact (h.s_pc (ad_in _)).s_t4 _
theorem E_ovf (σ : St) (u v e : Int32) {x y : Int32} (hx : Wd x) (hy : Wd y) : m_overflows (dec σ u v e) x y = dec (x4_noteOverflow σ x y (x4_sum x y)) u v e := by
  unfold m_overflows x4_noteOverflow
  rw [sg hx, sg hy, show m_sum x y = x4_sum x y from rfl, sg (sm_w hx hy)]
  by_cases h : x4_signOf x = x4_signOf y
  · rw [if_pos h, if_pos h]
    by_cases k : x4_signOf (x4_sum x y) = x4_signOf x
    · rw [if_pos k, if_pos k]
    · rw [if_neg k, if_neg k]; rfl
  · rw [if_neg h, if_neg h]
theorem PF.ovf {B : Nat} {σ τ : St} (h : PF B σ τ) (x y z : Int32) : PF B σ (x4_noteOverflow τ x y z) := by
  unfold x4_noteOverflow
  split
  · split
    · exact h
    · exact (h.s_ov (by unfold vp_in; decide)).s_t5 _
  · exact h
theorem E_index {B : Nat} {σ : St} (h : IV B σ) (u v e : Int32) {a : Int32} (ha : vp_in a 4096) : m_index (dec σ u v e) a = dec (x4_index σ a) u v e := by
  unfold m_index x4_index m_index_31 x4_index_23 x4_store
  rw [fe ha, ad_id ha]
  simp only [dg_ac, dg_io, dg_pc, dg_ov, dg_flags, dg_on, dg_asked, dg_under, dg_sw, dg_test, dg_cells, dg_row, dg_out, dg_px, dg_py, dg_cnt, dg_taken, dg_outs, dg_lost, dg_pts, dg_t1, dg_t2, dg_t3, dg_t4, dg_t5, dg_t6, dg_ended, ds_ac, ds_io, ds_pc, ds_ov, ds_flags, ds_on, ds_asked, ds_under, ds_sw, ds_test, ds_cells, ds_row, ds_out, ds_px, ds_py, ds_cnt, ds_taken, ds_outs, ds_lost, ds_pts, ds_t1, ds_t2, ds_t3, ds_t4, ds_t5, ds_t6, ds_ended]
  obtain ⟨n, hn, e1⟩ := wd_of (h.i_cells (Int32.toNatClampNeg a))
  rw [e1, nI_1, show (262143 : Int32) = nI 262143 from rfl]
  rcases Nat.lt_trichotomy (n + 1) 262143 with q | q | q
  · rw [if_neg (nI_ne (by omega) (by decide) (by omega)), if_pos (nI_le (by omega) (by decide)), if_pos (nI_lt q (by decide))]; rfl
  · rw [q, if_pos rfl, if_neg (nI_nlt (Nat.le_refl _) (by decide)), pk_sub (Nat.le_refl _)]; rfl
  · rw [if_neg (nI_ne (by omega) (by decide) (by omega)), if_neg (nI_ge q (by omega)), if_neg (nI_nlt (by omega) (by omega)), pk_sub (by omega), show n + 1 - 262143 = 1 by omega]; rfl
theorem w_index {w : Int32} (h : Wd w) : Wd (if (w + (1 : Int32)) < (262143 : Int32) then w + (1 : Int32) else (w + (1 : Int32)) - (262143 : Int32)) := by
  obtain ⟨n, hn, rfl⟩ := wd_of h
  rw [nI_1, show (262143 : Int32) = nI 262143 from rfl]
  split
  · rename_i q
    have := (nI_ltI (by omega) (by decide)).mp q
    exact wd_nI (by omega)
  · rename_i q
    have h1 : ¬ (n + 1) < 262143 := fun z => q ((nI_ltI (by omega) (by decide)).mpr z)
    rw [pk_sub (by omega)]
    exact wd_nI (by omega)
theorem PF.index {B : Nat} {σ τ : St} (h : PF B σ τ) (a : Int32) : PF B σ (x4_index τ a) := by
  have w := w_index (fw h.1 a)
  unfold x4_index x4_index_23
  split
  · rename_i q; rw [if_pos q] at w; exact (h.s_ac w).store a w
  · rename_i q; rw [if_neg q] at w; exact (h.s_ac w).store a w
/-- both words as one -/
theorem bo {a b : Nat} (ha : a < 262144) (hb : b < 262144) : ((Int32.toInt64 (nI a)) <<< (Int32.toInt64 (18 : Int32) &&& 63)) ||| (Int32.toInt64 (nI b)) = lN (a * 262144 + b) := by
  rw [nI_l (by omega), nI_l (by omega), g_shl (k := 18) (p := 262144) (by decide) (by decide) (by decide) (by omega), g_or (k := 18) (by decide) hb (by omega)]
theorem m18 (x : Nat) (h : x < 2 ^ 62) : Int64.toInt32 (lN x &&& (262143 : Int64)) = nI (x % 262144) := by
  rw [show (262143 : Int64) = lN (262144 - 1) from rfl, g_mask (s := 18) (by decide) (by decide) (by omega), lN_i]
theorem h18 (x : Nat) (h : x < 2 ^ 62) : Int64.toInt32 ((lN x >>> (Int32.toInt64 (18 : Int32) &&& 63)) &&& (262143 : Int64)) = nI (x / 262144 % 262144) := by
  rw [pf_shr (d := 18) (by decide) h, m18 _ (by omega)]
theorem E_mul25 {σ : St} (u v e : Int32) (ha : Wd (g_ac σ)) (hb : Wd (g_io σ)) : m_multiplies_25 (dec σ u v e) = dec (x4_multiplyStep_25 σ) u v e ∧ Wd (g_ac (x4_multiplyStep_25 σ)) ∧ Wd (g_io (x4_multiplyStep_25 σ)) := by
  obtain ⟨a, ha, ea⟩ := wd_of ha
  obtain ⟨b, hb, eb⟩ := wd_of hb
  unfold m_multiplies_25 x4_multiplyStep_25 x4_setBoth x4_both
  simp only [dg_ac, dg_io, dg_pc, dg_ov, dg_flags, dg_on, dg_asked, dg_under, dg_sw, dg_test, dg_cells, dg_row, dg_out, dg_px, dg_py, dg_cnt, dg_taken, dg_outs, dg_lost, dg_pts, dg_t1, dg_t2, dg_t3, dg_t4, dg_t5, dg_t6, dg_ended, ds_ac, ds_io, ds_pc, ds_ov, ds_flags, ds_on, ds_asked, ds_under, ds_sw, ds_test, ds_cells, ds_row, ds_out, ds_px, ds_py, ds_cnt, ds_taken, ds_outs, ds_lost, ds_pts, ds_t1, ds_t2, ds_t3, ds_t4, ds_t5, ds_t6, ds_ended]
  rw [ea, eb, bo ha hb, pf_shr (d := 1) (by decide) (by omega), h18 _ (by omega), m18 _ (by omega), pk_shrN (by omega) _ 1 (by decide), pk_shrN (by omega) _ 1 (by decide), n_and (k := 1) (by omega) (by decide), pk_shlN _ 17 (by decide) (by omega), n_or' (k := 17) (by decide) (by omega)]
  rw [show (a * 262144 + b) / 2 ^ 1 / 262144 % 262144 = a / 2 ^ 1 by omega, show (a * 262144 + b) / 2 ^ 1 % 262144 = a % 2 ^ 1 * 2 ^ 17 + b / 2 ^ 1 by omega]
  refine ⟨rfl, ?_, ?_⟩
  · show Wd (nI _); exact wd_nI (by omega)
  · show Wd (nI _); exact wd_nI (by omega)
theorem E_mul {B : Nat} {σ : St} (h : IV B σ) (u v e : Int32) {c : Int32} (hc : Wd c) : m_multiplies (dec σ u v e) c = dec (x4_multiplyStep σ c) u v e ∧ PF B σ (x4_multiplyStep σ c) := by
  unfold m_multiplies x4_multiplyStep
  simp only [dg_ac, dg_io, dg_pc, dg_ov, dg_flags, dg_on, dg_asked, dg_under, dg_sw, dg_test, dg_cells, dg_row, dg_out, dg_px, dg_py, dg_cnt, dg_taken, dg_outs, dg_lost, dg_pts, dg_t1, dg_t2, dg_t3, dg_t4, dg_t5, dg_t6, dg_ended, ds_ac, ds_io, ds_pc, ds_ov, ds_flags, ds_on, ds_asked, ds_under, ds_sw, ds_test, ds_cells, ds_row, ds_out, ds_px, ds_py, ds_cnt, ds_taken, ds_outs, ds_lost, ds_pts, ds_t1, ds_t2, ds_t3, ds_t4, ds_t5, ds_t6, ds_ended]
  rw [show m_plain (m_sum (g_ac σ) c) = x4_withoutMinusZero (x4_sum (g_ac σ) c) from rfl]
  have w := mz_w (sm_w h.i_ac hc)
  by_cases q : (g_io σ) &&& (1 : Int32) = (1 : Int32)
  · rw [if_pos q, if_pos q]
    obtain ⟨h1, h2, h3⟩ := E_mul25 (σ := s_ac σ (x4_withoutMinusZero (x4_sum (g_ac σ) c))) u v e w h.i_io
    exact ⟨h1, ((PF.rf (h.s_ac w)).s_ac h2).s_io h3⟩
  · rw [if_neg q, if_neg q]
    obtain ⟨h1, h2, h3⟩ := E_mul25 (σ := σ) u v e h.i_ac h.i_io
    exact ⟨h1, ((PF.rf h).s_ac h2).s_io h3⟩
theorem E_div {B : Nat} {σ : St} (h : IV B σ) (u v e : Int32) {c : Int32} (hc : Wd c) : m_divides (dec σ u v e) c = dec (x4_divideStep σ c) u v e ∧ PF B σ (x4_divideStep σ c) := by
  obtain ⟨a, ha, ea⟩ := wd_of h.i_ac
  obtain ⟨b, hb, eb⟩ := wd_of h.i_io
  unfold m_divides x4_divideStep m_divides_78 x4_divideStep_54 x4_setBoth x4_both
  simp only [dg_ac, dg_io, dg_pc, dg_ov, dg_flags, dg_on, dg_asked, dg_under, dg_sw, dg_test, dg_cells, dg_row, dg_out, dg_px, dg_py, dg_cnt, dg_taken, dg_outs, dg_lost, dg_pts, dg_t1, dg_t2, dg_t3, dg_t4, dg_t5, dg_t6, dg_ended, ds_ac, ds_io, ds_pc, ds_ov, ds_flags, ds_on, ds_asked, ds_under, ds_sw, ds_test, ds_cells, ds_row, ds_out, ds_px, ds_py, ds_cnt, ds_taken, ds_outs, ds_lost, ds_pts, ds_t1, ds_t2, ds_t3, ds_t4, ds_t5, ds_t6, ds_ended]
  rw [sg h.i_ac, sg h.i_io, ea, eb, bo ha hb, sg_x ha, sg_x hb, show (1 : Int32) - nI (a / 131072) = nI (1 - a / 131072) from pk_sub (a := 1) (by omega), nI_l (n := 1 - a / 131072) (by omega), g_shl (k := 1) (p := 2) (by decide) (by decide) (by decide) (by omega), g_or (k := 1) (p := 2) (by decide) (by omega) (by omega), h18 _ (by omega), m18 _ (by omega)]
  rw [pk_shlN _ 1 (by decide) (by omega), pk_shlN _ 1 (by decide) (by omega), n_and (k := 18) (by omega) (by decide), n_and (k := 18) (by omega) (by decide)]
  rw [show a * 2 ^ 1 % 2 ^ 18 = (a % 131072) * 2 by omega, show b * 2 ^ 1 % 2 ^ 18 = (b % 131072) * 2 by omega, n_or (k := 1) (p := 2) (by decide) (by omega), n_or (k := 1) (p := 2) (by decide) (by omega)]
  have t0 : 1 - a / 131072 ≤ 1 := by omega
  have t1 : ((a * 262144 + b) * 2 + (1 - a / 131072)) / 262144 = 2 * a + b / 131072 := by
    generalize 1 - a / 131072 = i at t0
    omega
  have t2 : (2 * a + b / 131072) % 262144 = a % 131072 * 2 + b / 131072 := by omega
  have t3 : ((a * 262144 + b) * 2 + (1 - a / 131072)) % 262144 = b % 131072 * 2 + (1 - a / 131072) := by
    generalize 1 - a / 131072 = i at t0
    omega
  rw [t1, t2, t3]
  have w1 : Wd (nI (a % 131072 * 2 + b / 131072)) := wd_nI (by omega)
  have w2 : Wd (nI (b % 131072 * 2 + (1 - a / 131072))) := wd_nI (by omega)
  have p1 := ((PF.rf h).s_ac w1).s_io w2
  by_cases q : nI (1 - a / 131072) = (1 : Int32)
  · rw [if_pos q, if_pos q]
    exact ⟨rfl, p1.s_ac (mz_w (sm_w w1 (nt_w hc)))⟩
  · rw [if_neg q, if_neg q]
    exact ⟨rfl, p1.s_ac (mz_w (sm_w (sm_w w1 hc) (wd_nI (n := 1) (by decide))))⟩
theorem E_calls {B : Nat} {σ : St} (h : IV B σ) (u v e : Int32) {a : Int32} (ha : vp_in a 4096) : m_calls (dec σ u v e) a = dec (x4_callAt σ a) u v e ∧ PF B σ (x4_callAt σ a) := by
  unfold m_calls x4_callAt
  simp only [dg_ac, dg_io, dg_pc, dg_ov, dg_flags, dg_on, dg_asked, dg_under, dg_sw, dg_test, dg_cells, dg_row, dg_out, dg_px, dg_py, dg_cnt, dg_taken, dg_outs, dg_lost, dg_pts, dg_t1, dg_t2, dg_t3, dg_t4, dg_t5, dg_t6, dg_ended, ds_ac, ds_io, ds_pc, ds_ov, ds_flags, ds_on, ds_asked, ds_under, ds_sw, ds_test, ds_cells, ds_row, ds_out, ds_px, ds_py, ds_cnt, ds_taken, ds_outs, ds_lost, ds_pts, ds_t1, ds_t2, ds_t3, ds_t4, ds_t5, ds_t6, ds_ended]
  have p1 := (PF.rf h).store a h.i_ac
  rw [← se ha, E_place p1.1]
  exact ⟨rfl, (p1.s_ac (w_place p1.1)).s_pc (ad_in _)⟩
