/-- what goes out, comes in, is shown -/
theorem E_tra {B : Nat} {σ : St} (h : IV B σ) (hB : B + 1 < 2147483648) (u v e : Int32) (w : Int32) : m_transfers (dec σ u v e) w = dec (x4_transfer σ (w &&& (63 : Int32))) u v e ∧ PF (B + 1) σ (x4_transfer σ (w &&& (63 : Int32))) := by
  have P : PF (B + 1) σ σ := PF.rf (h.mono (by omega) (by omega))
  unfold m_transfers x4_transfer
  generalize w &&& (63 : Int32) = a
  simp only [dg_ac, dg_io, dg_pc, dg_ov, dg_flags, dg_on, dg_asked, dg_under, dg_sw, dg_test, dg_cells, dg_row, dg_out, dg_px, dg_py, dg_cnt, dg_taken, dg_outs, dg_lost, dg_pts, dg_t1, dg_t2, dg_t3, dg_t4, dg_t5, dg_t6, dg_ended, ds_ac, ds_io, ds_pc, ds_ov, ds_flags, ds_on, ds_asked, ds_under, ds_sw, ds_test, ds_cells, ds_row, ds_out, ds_px, ds_py, ds_cnt, ds_taken, ds_outs, ds_lost, ds_pts, ds_t1, ds_t2, ds_t3, ds_t4, ds_t5, ds_t6, ds_ended]
  obtain ⟨o, ho, eo⟩ := vp_in_of h.i_outs (by decide)
  obtain ⟨c, hc, ec⟩ := vp_in_of h.i_cnt (by decide)
  obtain ⟨t, ht, et⟩ := vp_in_of h.i_taken (by decide)
  obtain ⟨p, hp, ep⟩ := vp_in_of h.i_pts (by omega)
  by_cases c3 : a = (3 : Int32)
  · rw [if_pos c3, if_pos c3]
    unfold x1_append x1_append_16
    by_cases q : o = 64
    · subst q
      rw [eo, if_pos (show nI 64 = (64 : Int32) from rfl), if_neg (show ¬ nI 64 < (0 : Int32) by decide), if_neg (show ¬ nI 64 < (64 : Int32) by decide)]
      exact ⟨rfl, P.s_lost _⟩
    · rw [eo, if_neg (show ¬ nI o = (64 : Int32) from nI_ne (b := 64) (by omega) (by decide) q), if_neg (show ¬ nI o < (0 : Int32) from nI_pos (by omega)), if_pos (show nI o < (64 : Int32) from nI_lt (b := 64) (by omega) (by decide))]
      refine ⟨rfl, (P.s_out _).s_outs ?_⟩
      rw [nI_1]; exact vp_in_nI (by omega) (by decide)
  rw [if_neg c3, if_neg c3]
  by_cases c4 : a = (4 : Int32)
  · rw [if_pos c4, if_pos c4]
    unfold m_transfers_201 m_transfers_225 x3_take
    simp only [dg_ac, dg_io, dg_pc, dg_ov, dg_flags, dg_on, dg_asked, dg_under, dg_sw, dg_test, dg_cells, dg_row, dg_out, dg_px, dg_py, dg_cnt, dg_taken, dg_outs, dg_lost, dg_pts, dg_t1, dg_t2, dg_t3, dg_t4, dg_t5, dg_t6, dg_ended, ds_ac, ds_io, ds_pc, ds_ov, ds_flags, ds_on, ds_asked, ds_under, ds_sw, ds_test, ds_cells, ds_row, ds_out, ds_px, ds_py, ds_cnt, ds_taken, ds_outs, ds_lost, ds_pts, ds_t1, ds_t2, ds_t3, ds_t4, ds_t5, ds_t6, ds_ended]
    by_cases q : c ≤ t
    · have L : nI c ≤ nI t := nI_le q (by omega)
      rw [ec, et, if_pos L, if_pos L, if_neg (show ¬ nI t < (0 : Int32) from nI_pos (by omega)), if_pos L, Int32.add_zero]
      refine ⟨?_, P.s_io (wd_nI (n := 0) (by decide))⟩
      rw [← et]; rfl
    · have n1 : ¬ nI c ≤ nI t := fun z => q ((nI_leI (by omega) (by omega)).mp z)
      rw [ec, et, if_neg n1, if_neg n1, if_neg (show ¬ nI t < (0 : Int32) from nI_pos (by omega)), if_neg n1, if_pos (show nI t < (100 : Int32) from nI_lt (b := 100) (by omega) (by decide))]
      refine ⟨rfl, (P.s_taken ?_).s_io (h.i_row _)⟩
      rw [nI_1]; exact vp_in_nI (by omega) (by decide)
  rw [if_neg c4, if_neg c4]
  by_cases c7 : a = (7 : Int32)
  · rw [if_pos c7, if_pos c7]
    unfold x0_show
    have e1 : nI p &&& (63 : Int32) = nI p - nI p / (64 : Int32) * (64 : Int32) := by
      rw [show (64 : Int32) = nI 64 from rfl, pk_rem (by omega) (by decide) (by decide), n_and (k := 6) (by omega) (by decide)]
    rw [ep, e1]
    refine ⟨rfl, (((P.s_px _).s_py _).s_pts ?_).s_t3 _⟩
    rw [nI_1]; exact vp_in_nI (by omega) (by omega)
  rw [if_neg c7, if_neg c7]
  by_cases d1 : a = (44 : Int32)
  · rw [if_pos d1, if_pos d1]; exact ⟨rfl, P.s_on (by unfold vp_in; decide)⟩
  rw [if_neg d1, if_neg d1]
  by_cases d2 : a = (45 : Int32)
  · rw [if_pos d2, if_pos d2]; exact ⟨rfl, P.s_on (by unfold vp_in; decide)⟩
  rw [if_neg d2, if_neg d2]
  by_cases d3 : a = (46 : Int32)
  · rw [if_pos d3, if_pos d3]; exact ⟨rfl, P.s_asked (by unfold vp_in; decide)⟩
  rw [if_neg d3, if_neg d3]
  exact ⟨rfl, P⟩
