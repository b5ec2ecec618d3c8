theorem y_bit (w : Int32) {m : Int32} (hm : (4095 : Int32) &&& m = m) : (w &&& (4095 : Int32)) &&& m = w &&& m := by rw [Int32.and_assoc, hm]
theorem E_oper {B : Nat} {σ : St} (h : IV B σ) (u v : Int32) (w : Int32) : m_operates (dec σ u v 0) w = dec (x4_operate σ (w &&& (4095 : Int32))).2 u v (x4_operate σ (w &&& (4095 : Int32))).1 ∧ PF B σ (x4_operate σ (w &&& (4095 : Int32))).2 := by
  have b128 := ab_0 w (m := 128) (k := 7) (by decide) (by decide)
  have b2048 := ab_0 w (m := 2048) (k := 11) (by decide) (by decide)
  have b1024 := ab_0 w (m := 1024) (k := 10) (by decide) (by decide)
  have b64 := ab_0 w (m := 64) (k := 6) (by decide) (by decide)
  have b512 := ab_0 w (m := 512) (k := 9) (by decide) (by decide)
  have b8 := ab_0 w (m := 8) (k := 3) (by decide) (by decide)
  have b256 := ab_0 w (m := 256) (k := 8) (by decide) (by decide)
  have y128 := y_bit w (m := 128) (by decide)
  have y2048 := y_bit w (m := 2048) (by decide)
  have y1024 := y_bit w (m := 1024) (by decide)
  have y64 := y_bit w (m := 64) (by decide)
  have y512 := y_bit w (m := 512) (by decide)
  have y8 := y_bit w (m := 8) (by decide)
  have y256 := y_bit w (m := 256) (by decide)
  have y7 := y_bit w (m := 7) (by decide)
  generalize hy : w &&& (4095 : Int32) = y at *
  have L150 : ∀ (σ : St) (z bits : Int32), z = y &&& (7 : Int32) → (bits = (if z = (0 : Int32) then (0 : Int32) else if z = (7 : Int32) then (63 : Int32) else ((1 : Int32) <<< ((z - (1 : Int32)) &&& 31)))) → IV B σ → m_operates_150 (dec σ u v 0) w bits = dec (x4_operate_86 σ y).2 u v (x4_operate_86 σ y).1 ∧ PF B σ (x4_operate_86 σ y).2 := by
    intro σ z bits hz hb h
    have hfl : ∀ f : Int32, PF B σ (s_flags σ f) := fun f => (PF.rf h).s_flags f
    have e0 : ∀ f : Int32, f &&& ((0 : Int32) ^^^ (-1 : Int32)) = f := fun f => by rw [show (0 : Int32) ^^^ (-1 : Int32) = -1 by decide]; exact Int32.and_neg_one
    have e1 : ∀ f : Int32, f ||| (0 : Int32) = f := fun f => Int32.or_zero
    have S : ∀ on : Int32, (if on = (0 : Int32) then s_flags σ ((g_flags σ) &&& (bits ^^^ (-1 : Int32))) else s_flags σ ((g_flags σ) ||| bits)) = x4_setFlags σ (y &&& (7 : Int32)) on := by
      intro on
      unfold x4_setFlags x4_setFlags_21 x4_setFlags_44
      rw [← hz]
      by_cases c0 : z = (0 : Int32)
      · rw [if_pos c0] at hb
        rw [if_pos c0, hb, e0, e1]
        exact ite_self _
      · rw [if_neg c0] at hb
        rw [if_neg c0]
        by_cases c7 : z = (7 : Int32)
        · rw [if_pos c7] at hb
          rw [if_pos c7, hb]
        · rw [if_neg c7] at hb
          rw [if_neg c7, hb]
    have S0 := S 0
    have S1 := S 1
    rw [if_pos rfl] at S0
    rw [if_neg (by decide)] at S1
    unfold m_operates_150 m_operates_176 m_operates_196 x4_operate_86 x4_operate_103
    simp only [dg_ac, dg_io, dg_pc, dg_ov, dg_flags, dg_on, dg_asked, dg_under, dg_sw, dg_test, dg_cells, dg_row, dg_out, dg_px, dg_py, dg_cnt, dg_taken, dg_outs, dg_lost, dg_pts, dg_t1, dg_t2, dg_t3, dg_t4, dg_t5, dg_t6, dg_ended, ds_ac, ds_io, ds_pc, ds_ov, ds_flags, ds_on, ds_asked, ds_under, ds_sw, ds_test, ds_cells, ds_row, ds_out, ds_px, ds_py, ds_cnt, ds_taken, ds_outs, ds_lost, ds_pts, ds_t1, ds_t2, ds_t3, ds_t4, ds_t5, ds_t6, ds_ended]
    rw [y8, y256, ← S0, ← S1]
    by_cases c8 : w &&& (8 : Int32) = (0 : Int32)
    · rw [if_pos (b8.mpr c8), if_pos c8]
      by_cases c256 : w &&& (256 : Int32) = (0 : Int32)
      · rw [if_pos (b256.mpr c256), if_pos c256]; exact ⟨rfl, hfl _⟩
      · rw [if_neg (fun q => c256 (b256.mp q)), if_neg c256]; exact ⟨rfl, hfl _⟩
    · rw [if_neg (fun q => c8 (b8.mp q)), if_neg c8]
      by_cases c256 : w &&& (256 : Int32) = (0 : Int32)
      · rw [if_pos (b256.mpr c256), if_pos c256]; exact ⟨rfl, hfl _⟩
      · rw [if_neg (fun q => c256 (b256.mp q)), if_neg c256]; exact ⟨rfl, hfl _⟩
  have L118 : ∀ (σ : St) (z : Int32), IV B σ → Wd z → m_operates_118 (dec σ u v 0) w z = dec (x4_operate_86 (s_ac σ z) y).2 u v (x4_operate_86 (s_ac σ z) y).1 ∧ PF B σ (x4_operate_86 (s_ac σ z) y).2 := by
    intro σ z h hz
    have P := (PF.rf h).s_ac hz
    unfold m_operates_118
    simp only [dg_ac, dg_io, dg_pc, dg_ov, dg_flags, dg_on, dg_asked, dg_under, dg_sw, dg_test, dg_cells, dg_row, dg_out, dg_px, dg_py, dg_cnt, dg_taken, dg_outs, dg_lost, dg_pts, dg_t1, dg_t2, dg_t3, dg_t4, dg_t5, dg_t6, dg_ended, ds_ac, ds_io, ds_pc, ds_ov, ds_flags, ds_on, ds_asked, ds_under, ds_sw, ds_test, ds_cells, ds_row, ds_out, ds_px, ds_py, ds_cnt, ds_taken, ds_outs, ds_lost, ds_pts, ds_t1, ds_t2, ds_t3, ds_t4, ds_t5, ds_t6, ds_ended]
    by_cases c0 : w &&& (7 : Int32) = (0 : Int32)
    · rw [if_pos c0]
      have q := L150 (s_ac σ z) (w &&& (7 : Int32)) 0 y7.symm (by rw [if_pos c0]) P.1
      exact ⟨q.1, P.tr q.2⟩
    · rw [if_neg c0]
      by_cases c7 : w &&& (7 : Int32) = (7 : Int32)
      · rw [if_pos c7]
        have q := L150 (s_ac σ z) (w &&& (7 : Int32)) 63 y7.symm (by rw [if_neg c0, if_pos c7]) P.1
        exact ⟨q.1, P.tr q.2⟩
      · rw [if_neg c7]
        have q := L150 (s_ac σ z) (w &&& (7 : Int32)) _ y7.symm (by rw [if_neg c0, if_neg c7]) P.1
        exact ⟨q.1, P.tr q.2⟩
  have L92 : ∀ (σ : St) (z : Int32), IV B σ → Wd z → m_operates_92 (dec σ u v 0) w z = dec (x4_operate_67 (s_ac σ z) y).2 u v (x4_operate_67 (s_ac σ z) y).1 ∧ PF B σ (x4_operate_67 (s_ac σ z) y).2 := by
    intro σ z h hz
    have P := (PF.rf h).s_ac hz
    unfold m_operates_92 x4_operate_67
    simp only [dg_ac, dg_io, dg_pc, dg_ov, dg_flags, dg_on, dg_asked, dg_under, dg_sw, dg_test, dg_cells, dg_row, dg_out, dg_px, dg_py, dg_cnt, dg_taken, dg_outs, dg_lost, dg_pts, dg_t1, dg_t2, dg_t3, dg_t4, dg_t5, dg_t6, dg_ended, ds_ac, ds_io, ds_pc, ds_ov, ds_flags, ds_on, ds_asked, ds_under, ds_sw, ds_test, ds_cells, ds_row, ds_out, ds_px, ds_py, ds_cnt, ds_taken, ds_outs, ds_lost, ds_pts, ds_t1, ds_t2, ds_t3, ds_t4, ds_t5, ds_t6, ds_ended]
    rw [y512]
    by_cases c : w &&& (512 : Int32) = (0 : Int32)
    · rw [if_pos (b512.mpr c), if_pos c]
      have q := L118 (s_ac σ z) z P.1 hz
      exact ⟨q.1, P.tr q.2⟩
    · rw [if_neg (fun q => c (b512.mp q)), if_neg c]
      have q := L118 (s_ac σ z) (x4_not z) P.1 (nt_w hz)
      exact ⟨q.1, P.tr q.2⟩
  have L65 : ∀ (σ : St) (z : Int32), IV B σ → Wd z → m_operates_65 (dec σ u v 0) w z = dec (x4_operate_47 (s_ac σ z) y).2 u v (x4_operate_47 (s_ac σ z) y).1 ∧ PF B σ (x4_operate_47 (s_ac σ z) y).2 := by
    intro σ z h hz
    have P := (PF.rf h).s_ac hz
    unfold m_operates_65 x4_operate_47
    simp only [dg_ac, dg_io, dg_pc, dg_ov, dg_flags, dg_on, dg_asked, dg_under, dg_sw, dg_test, dg_cells, dg_row, dg_out, dg_px, dg_py, dg_cnt, dg_taken, dg_outs, dg_lost, dg_pts, dg_t1, dg_t2, dg_t3, dg_t4, dg_t5, dg_t6, dg_ended, ds_ac, ds_io, ds_pc, ds_ov, ds_flags, ds_on, ds_asked, ds_under, ds_sw, ds_test, ds_cells, ds_row, ds_out, ds_px, ds_py, ds_cnt, ds_taken, ds_outs, ds_lost, ds_pts, ds_t1, ds_t2, ds_t3, ds_t4, ds_t5, ds_t6, ds_ended]
    rw [y64, E_place P.1]
    by_cases c : w &&& (64 : Int32) = (0 : Int32)
    · rw [if_pos (b64.mpr c), if_pos c]
      have q := L92 (s_ac σ z) z P.1 hz
      exact ⟨q.1, P.tr q.2⟩
    · rw [if_neg (fun q => c (b64.mp q)), if_neg c]
      have q := L92 (s_ac σ z) (z ||| x4_place (s_ac σ z)) P.1 (or_w hz (w_place P.1))
      exact ⟨q.1, P.tr q.2⟩
  have L37 : ∀ (σ : St) (z : Int32), IV B σ → Wd z → m_operates_37 (dec σ u v 0) w z = dec (x4_operate_26 (s_io σ z) y).2 u v (x4_operate_26 (s_io σ z) y).1 ∧ PF B σ (x4_operate_26 (s_io σ z) y).2 := by
    intro σ z h hz
    have P := (PF.rf h).s_io hz
    unfold m_operates_37 x4_operate_26
    simp only [dg_ac, dg_io, dg_pc, dg_ov, dg_flags, dg_on, dg_asked, dg_under, dg_sw, dg_test, dg_cells, dg_row, dg_out, dg_px, dg_py, dg_cnt, dg_taken, dg_outs, dg_lost, dg_pts, dg_t1, dg_t2, dg_t3, dg_t4, dg_t5, dg_t6, dg_ended, ds_ac, ds_io, ds_pc, ds_ov, ds_flags, ds_on, ds_asked, ds_under, ds_sw, ds_test, ds_cells, ds_row, ds_out, ds_px, ds_py, ds_cnt, ds_taken, ds_outs, ds_lost, ds_pts, ds_t1, ds_t2, ds_t3, ds_t4, ds_t5, ds_t6, ds_ended]
    rw [y1024]
    by_cases c : w &&& (1024 : Int32) = (0 : Int32)
    · rw [if_pos (b1024.mpr c), if_pos c]
      have q := L65 (s_io σ z) (g_ac σ) P.1 h.i_ac
      exact ⟨q.1, P.tr q.2⟩
    · rw [if_neg (fun q => c (b1024.mp q)), if_neg c]
      have q := L65 (s_io σ z) (g_ac σ ||| g_test σ) P.1 (or_w h.i_ac h.i_test)
      exact ⟨q.1, P.tr q.2⟩
  have L17 : ∀ (σ : St) (z : Int32), IV B σ → Wd z → m_operates_17 (dec σ u v 0) w z = dec (x4_operate_13 (s_ac σ z) y).2 u v (x4_operate_13 (s_ac σ z) y).1 ∧ PF B σ (x4_operate_13 (s_ac σ z) y).2 := by
    intro σ z h hz
    have P := (PF.rf h).s_ac hz
    unfold m_operates_17 x4_operate_13
    simp only [dg_ac, dg_io, dg_pc, dg_ov, dg_flags, dg_on, dg_asked, dg_under, dg_sw, dg_test, dg_cells, dg_row, dg_out, dg_px, dg_py, dg_cnt, dg_taken, dg_outs, dg_lost, dg_pts, dg_t1, dg_t2, dg_t3, dg_t4, dg_t5, dg_t6, dg_ended, ds_ac, ds_io, ds_pc, ds_ov, ds_flags, ds_on, ds_asked, ds_under, ds_sw, ds_test, ds_cells, ds_row, ds_out, ds_px, ds_py, ds_cnt, ds_taken, ds_outs, ds_lost, ds_pts, ds_t1, ds_t2, ds_t3, ds_t4, ds_t5, ds_t6, ds_ended]
    rw [y2048]
    by_cases c : w &&& (2048 : Int32) = (0 : Int32)
    · rw [if_pos (b2048.mpr c), if_pos c]
      have q := L37 (s_ac σ z) (g_io σ) P.1 h.i_io
      exact ⟨q.1, P.tr q.2⟩
    · rw [if_neg (fun q => c (b2048.mp q)), if_neg c]
      have q := L37 (s_ac σ z) 0 P.1 (wd_nI (n := 0) (by decide))
      exact ⟨q.1, P.tr q.2⟩
  unfold m_operates x4_operate
  simp only [dg_ac, dg_io, dg_pc, dg_ov, dg_flags, dg_on, dg_asked, dg_under, dg_sw, dg_test, dg_cells, dg_row, dg_out, dg_px, dg_py, dg_cnt, dg_taken, dg_outs, dg_lost, dg_pts, dg_t1, dg_t2, dg_t3, dg_t4, dg_t5, dg_t6, dg_ended, ds_ac, ds_io, ds_pc, ds_ov, ds_flags, ds_on, ds_asked, ds_under, ds_sw, ds_test, ds_cells, ds_row, ds_out, ds_px, ds_py, ds_cnt, ds_taken, ds_outs, ds_lost, ds_pts, ds_t1, ds_t2, ds_t3, ds_t4, ds_t5, ds_t6, ds_ended]
  rw [y128]
  by_cases c : w &&& (128 : Int32) = (0 : Int32)
  · rw [if_pos (b128.mpr c), if_pos c]
    exact L17 σ (g_ac σ) h h.i_ac
  · rw [if_neg (fun q => c (b128.mp q)), if_neg c]
    exact L17 σ 0 h (wd_nI (n := 0) (by decide))
