/-- a skip's second half -/
theorem of_e (bits : Int32) {k : Nat} (hk : k < 8) : x4_isOff bits (nI k) = (if (nI k) = (7 : Int32) ∧ bits = (0 : Int32) then (1 : Int32) else (if (nI k) ≤ (0 : Int32) then (0 : Int32) else (if (7 : Int32) ≤ (nI k) then (0 : Int32) else (if ((bits >>> (((nI k) - (1 : Int32)) &&& 31)) &&& (1 : Int32)) = (0 : Int32) then (1 : Int32) else (0 : Int32))))) := by
  unfold x4_isOff
  by_cases c0 : k = 0
  · subst c0
    rw [if_pos (show nI 0 = (0 : Int32) from rfl), if_neg (show ¬ (nI 0 = (7 : Int32) ∧ bits = (0 : Int32)) from fun q => absurd q.1 (by decide)), if_pos (show nI 0 ≤ (0 : Int32) by decide)]
  · rw [if_neg (show ¬ nI k = (0 : Int32) from nI_ne (b := 0) (by omega) (by decide) c0)]
    by_cases c7 : k = 7
    · subst c7
      rw [if_pos (show nI 7 = (7 : Int32) from rfl), if_neg (show ¬ nI 7 ≤ (0 : Int32) by decide), if_pos (show (7 : Int32) ≤ nI 7 by decide)]
      by_cases cb : bits = (0 : Int32)
      · rw [if_pos cb, if_pos (show nI 7 = (7 : Int32) ∧ bits = (0 : Int32) from ⟨rfl, cb⟩)]
      · rw [if_neg cb, if_neg (show ¬ (nI 7 = (7 : Int32) ∧ bits = (0 : Int32)) from fun q => cb q.2)]
    · have n7 : ¬ nI k = (7 : Int32) := nI_ne (b := 7) (by omega) (by decide) c7
      rw [if_neg n7, if_neg (show ¬ (nI k = (7 : Int32) ∧ bits = (0 : Int32)) from fun q => n7 q.1), if_neg (show ¬ nI k ≤ (0 : Int32) from nI_nle (by omega) (by omega)), if_neg (show ¬ (7 : Int32) ≤ nI k from nI_ge (b := 7) (by omega) (by decide))]
theorem E_ask {B : Nat} {σ : St} (h : IV B σ) (u v e : Int32) {w : Int32} (hw : Wd w) : m_asksSkip (dec σ u v e) w = dec (if (x4_someHolds σ (x4_yOf w)).1 = (x4_hasI w) then x4_performWithoutAddress_107 (x4_someHolds σ (x4_yOf w)).2 (0 : Int32) else x4_performWithoutAddress_107 (x4_someHolds σ (x4_yOf w)).2 (1 : Int32)).2 u v e ∧ PF B σ (if (x4_someHolds σ (x4_yOf w)).1 = (x4_hasI w) then x4_performWithoutAddress_107 (x4_someHolds σ (x4_yOf w)).2 (0 : Int32) else x4_performWithoutAddress_107 (x4_someHolds σ (x4_yOf w)).2 (1 : Int32)).2 := by
  have b64 := ab_0 w (m := 64) (k := 6) (by decide) (by decide)
  have b128 := ab_0 w (m := 128) (k := 7) (by decide) (by decide)
  have b256 := ab_0 w (m := 256) (k := 8) (by decide) (by decide)
  have b512 := ab_0 w (m := 512) (k := 9) (by decide) (by decide)
  have b1024 := ab_0 w (m := 1024) (k := 10) (by decide) (by decide)
  have y64 := y_bit w (m := 64) (by decide)
  have y128 := y_bit w (m := 128) (by decide)
  have y256 := y_bit w (m := 256) (by decide)
  have y512 := y_bit w (m := 512) (by decide)
  have y1024 := y_bit w (m := 1024) (by decide)
  have y7 := y_bit w (m := 7) (by decide)
  have hI := hi hw
  have hn : ∃ k, k < 8 ∧ (w >>> ((3 : Int32) &&& 31)) &&& (7 : Int32) = nI k ∧ ((w &&& (4095 : Int32)) >>> ((3 : Int32) &&& 31)) &&& (7 : Int32) = nI k := by
    obtain ⟨n, hn, rfl⟩ := wd_of hw
    refine ⟨n / 8 % 8, by omega, ?_, ?_⟩
    · rw [pk_shrN (by omega) _ 3 (by decide), n_and (k := 3) (by omega) (by decide)]
    · rw [n_and (k := 12) (by omega) (by decide), pk_shrN (by omega) _ 3 (by decide), n_and (k := 3) (by omega) (by decide)]
      congr 1; omega
  have hm : ∃ k, k < 8 ∧ w &&& (7 : Int32) = nI k := pk_andE w 3 (by decide)
  obtain ⟨kn, hkn, en, en2⟩ := hn
  obtain ⟨km, hkm, em⟩ := hm
  unfold x4_yOf
  generalize hy : w &&& (4095 : Int32) = y at *
  -- what someHolds answers, and the state it leaves
  obtain ⟨fs, hfs⟩ : ∃ fs : St, (if w &&& (512 : Int32) = (0 : Int32) then σ else s_ov σ (0 : Int32)) = fs := ⟨_, rfl⟩
  have F1 : ∀ z : Int32, m_asksSkip_197 (dec σ u v e) w z = dec (x4_skipIf fs (if z = x4_hasI w then (0 : Int32) else (1 : Int32))) u v e := by
    intro z
    unfold m_asksSkip_197 m_asksSkip_216 m_asksSkip_237 m_asksSkip_245
    simp only [dg_ac, dg_io, dg_pc, dg_ov, dg_flags, dg_on, dg_asked, dg_under, dg_sw, dg_test, dg_cells, dg_row, dg_out, dg_px, dg_py, dg_cnt, dg_taken, dg_outs, dg_lost, dg_pts, dg_t1, dg_t2, dg_t3, dg_t4, dg_t5, dg_t6, dg_ended, ds_ac, ds_io, ds_pc, ds_ov, ds_flags, ds_on, ds_asked, ds_under, ds_sw, ds_test, ds_cells, ds_row, ds_out, ds_px, ds_py, ds_cnt, ds_taken, ds_outs, ds_lost, ds_pts, ds_t1, ds_t2, ds_t3, ds_t4, ds_t5, ds_t6, ds_ended]
    rw [hI, E_skip, E_skip, E_skip, E_skip]
    have e1 : ∀ τ : St, (if x4_hasI w = (1 : Int32) then (if z = (1 : Int32) then dec (x4_skipIf τ (0 : Int32)) u v e else dec (x4_skipIf τ (1 : Int32)) u v e) else (if z = (0 : Int32) then dec (x4_skipIf τ (0 : Int32)) u v e else dec (x4_skipIf τ (1 : Int32)) u v e)) = dec (x4_skipIf τ (if z = x4_hasI w then (0 : Int32) else (1 : Int32))) u v e := by
      intro τ
      rcases hi2 w with q | q
      · rw [q, if_neg (by decide)]; split <;> rfl
      · rw [q, if_pos rfl]; split <;> rfl
    rw [e1, e1, ← hfs]
    by_cases c : w &&& (512 : Int32) = (0 : Int32)
    · rw [if_pos (b512.mpr c), if_pos c]; rfl
    · rw [if_neg (fun q => c (b512.mp q)), if_neg c]
  have S114 : x4_someHolds_114 σ y = ((1 : Int32), fs) := by
    unfold x4_someHolds_114; rw [y512, ← hfs]; split <;> rfl
  have M96 : m_asksSkip_96 (dec σ u v e) w (nI kn) (nI km) = m_asksSkip_197 (dec σ u v e) w (1 : Int32) := by
    unfold m_asksSkip_96 m_asksSkip_101 m_asksSkip_144 m_asksSkip_149 m_asksSkip_192
    rw [if_neg (by decide), if_neg (by decide)]
  have S84 : x4_someHolds_84 σ y = ((if (x4_isOff (g_sw σ) (nI kn)) = (0 : Int32) then (if (x4_isOff (g_flags σ) (nI km)) = (0 : Int32) then (0 : Int32) else (1 : Int32)) else (1 : Int32)), fs) := by
    unfold x4_someHolds_84; rw [en2, y7, em, S114, y512]
    by_cases d1 : (x4_isOff (g_sw σ) (nI kn)) = (0 : Int32)
    · rw [if_pos d1, if_pos d1]
      by_cases d2 : (x4_isOff (g_flags σ) (nI km)) = (0 : Int32)
      · rw [if_pos d2, if_pos d2, ← hfs]; split <;> rfl
      · rw [if_neg d2, if_neg d2]
    · rw [if_neg d1, if_neg d1]
  have M148 : m_asksSkip_148 (dec σ u v e) w (nI km) = m_asksSkip_197 (dec σ u v e) w (if (x4_isOff (g_flags σ) (nI km)) = (0 : Int32) then (0 : Int32) else (1 : Int32)) := by
    unfold m_asksSkip_148 m_asksSkip_149 m_asksSkip_169 m_asksSkip_192 m_asksSkip_196
    simp only [dg_ac, dg_io, dg_pc, dg_ov, dg_flags, dg_on, dg_asked, dg_under, dg_sw, dg_test, dg_cells, dg_row, dg_out, dg_px, dg_py, dg_cnt, dg_taken, dg_outs, dg_lost, dg_pts, dg_t1, dg_t2, dg_t3, dg_t4, dg_t5, dg_t6, dg_ended, ds_ac, ds_io, ds_pc, ds_ov, ds_flags, ds_on, ds_asked, ds_under, ds_sw, ds_test, ds_cells, ds_row, ds_out, ds_px, ds_py, ds_cnt, ds_taken, ds_outs, ds_lost, ds_pts, ds_t1, ds_t2, ds_t3, ds_t4, ds_t5, ds_t6, ds_ended]
    rw [if_pos trivial, of_e (g_flags σ) hkm]
    by_cases c7 : nI km = (7 : Int32)
    · rw [if_pos c7]
      by_cases cf : g_flags σ = (0 : Int32)
      · rw [if_pos cf, if_pos (show nI km = (7 : Int32) ∧ g_flags σ = (0 : Int32) from ⟨c7, cf⟩), if_neg (show ¬ (1 : Int32) = 0 by decide)]
      · rw [if_neg cf, if_neg (show ¬ (nI km = (7 : Int32) ∧ g_flags σ = (0 : Int32)) from fun q => cf q.2), c7, if_neg (show ¬ (7 : Int32) ≤ 0 by decide), if_pos (show (7 : Int32) ≤ 7 by decide), if_neg (show ¬ (7 : Int32) ≤ 0 by decide), if_pos (show (7 : Int32) ≤ 7 by decide), if_pos rfl]
    · rw [if_neg c7, if_neg (show ¬ (nI km = (7 : Int32) ∧ g_flags σ = (0 : Int32)) from fun q => c7 q.1)]
      by_cases d1 : nI km ≤ (0 : Int32)
      · rw [if_pos d1, if_pos d1, if_pos rfl]
      · rw [if_neg d1, if_neg d1]
        by_cases d2 : (7 : Int32) ≤ nI km
        · rw [if_pos d2, if_pos d2, if_pos rfl]
        · rw [if_neg d2, if_neg d2]
          by_cases d3 : ((g_flags σ >>> (((nI km) - (1 : Int32)) &&& 31)) &&& (1 : Int32)) = (0 : Int32)
          · rw [if_pos d3, if_pos d3, if_neg (show ¬ (1 : Int32) = 0 by decide)]
          · rw [if_neg d3, if_neg d3, if_pos rfl]
  have M144 : m_asksSkip_144 (dec σ u v e) w (nI km) = m_asksSkip_197 (dec σ u v e) w (1 : Int32) := by
    unfold m_asksSkip_144 m_asksSkip_149 m_asksSkip_192
    rw [if_neg (by decide)]
  have M100 : m_asksSkip_100 (dec σ u v e) w (nI kn) (nI km) = m_asksSkip_197 (dec σ u v e) w (x4_someHolds_84 σ y).1 := by
    rw [S84]
    unfold m_asksSkip_100 m_asksSkip_101 m_asksSkip_121
    simp only [dg_ac, dg_io, dg_pc, dg_ov, dg_flags, dg_on, dg_asked, dg_under, dg_sw, dg_test, dg_cells, dg_row, dg_out, dg_px, dg_py, dg_cnt, dg_taken, dg_outs, dg_lost, dg_pts, dg_t1, dg_t2, dg_t3, dg_t4, dg_t5, dg_t6, dg_ended, ds_ac, ds_io, ds_pc, ds_ov, ds_flags, ds_on, ds_asked, ds_under, ds_sw, ds_test, ds_cells, ds_row, ds_out, ds_px, ds_py, ds_cnt, ds_taken, ds_outs, ds_lost, ds_pts, ds_t1, ds_t2, ds_t3, ds_t4, ds_t5, ds_t6, ds_ended]
    rw [M144, M148, if_pos trivial, of_e (g_sw σ) hkn]
    by_cases c7 : nI kn = (7 : Int32)
    · rw [if_pos c7]
      by_cases cf : g_sw σ = (0 : Int32)
      · rw [if_pos cf, if_pos (show nI kn = (7 : Int32) ∧ g_sw σ = (0 : Int32) from ⟨c7, cf⟩), if_neg (show ¬ (1 : Int32) = 0 by decide)]
      · rw [if_neg cf, if_neg (show ¬ (nI kn = (7 : Int32) ∧ g_sw σ = (0 : Int32)) from fun q => cf q.2), c7, if_neg (show ¬ (7 : Int32) ≤ 0 by decide), if_pos (show (7 : Int32) ≤ 7 by decide), if_neg (show ¬ (7 : Int32) ≤ 0 by decide), if_pos (show (7 : Int32) ≤ 7 by decide), if_pos rfl]
    · rw [if_neg c7, if_neg (show ¬ (nI kn = (7 : Int32) ∧ g_sw σ = (0 : Int32)) from fun q => c7 q.1)]
      by_cases d1 : nI kn ≤ (0 : Int32)
      · rw [if_pos d1, if_pos d1, if_pos rfl]
      · rw [if_neg d1, if_neg d1]
        by_cases d2 : (7 : Int32) ≤ nI kn
        · rw [if_pos d2, if_pos d2, if_pos rfl]
        · rw [if_neg d2, if_neg d2]
          by_cases d3 : ((g_sw σ >>> (((nI kn) - (1 : Int32)) &&& 31)) &&& (1 : Int32)) = (0 : Int32)
          · rw [if_pos d3, if_pos d3, if_neg (show ¬ (1 : Int32) = 0 by decide)]
          · rw [if_neg d3, if_neg d3, if_pos rfl]
  -- the chain of five
  have R84 : (x4_someHolds_84 σ y).2 = fs := by rw [S84]
  have C66 : m_asksSkip_78 (dec σ u v e) w (nI kn) (nI km) = m_asksSkip_197 (dec σ u v e) w (x4_someHolds_66 σ y).1 ∧ (x4_someHolds_66 σ y).2 = fs := by
    unfold m_asksSkip_78 x4_someHolds_66
    simp only [dg_ac, dg_io, dg_pc, dg_ov, dg_flags, dg_on, dg_asked, dg_under, dg_sw, dg_test, dg_cells, dg_row, dg_out, dg_px, dg_py, dg_cnt, dg_taken, dg_outs, dg_lost, dg_pts, dg_t1, dg_t2, dg_t3, dg_t4, dg_t5, dg_t6, dg_ended, ds_ac, ds_io, ds_pc, ds_ov, ds_flags, ds_on, ds_asked, ds_under, ds_sw, ds_test, ds_cells, ds_row, ds_out, ds_px, ds_py, ds_cnt, ds_taken, ds_outs, ds_lost, ds_pts, ds_t1, ds_t2, ds_t3, ds_t4, ds_t5, ds_t6, ds_ended]
    rw [y1024, sg h.i_io, S114]
    by_cases c : w &&& (1024 : Int32) = (0 : Int32)
    · rw [if_pos (b1024.mpr c), if_pos c]; exact ⟨M100, R84⟩
    · rw [if_neg (fun q => c (b1024.mp q)), if_neg c]
      split
      · exact ⟨M96, rfl⟩
      · exact ⟨M100, R84⟩
  have C51 : m_asksSkip_63 (dec σ u v e) w (nI kn) (nI km) = m_asksSkip_197 (dec σ u v e) w (x4_someHolds_51 σ y).1 ∧ (x4_someHolds_51 σ y).2 = fs := by
    unfold m_asksSkip_63 x4_someHolds_51
    simp only [dg_ac, dg_io, dg_pc, dg_ov, dg_flags, dg_on, dg_asked, dg_under, dg_sw, dg_test, dg_cells, dg_row, dg_out, dg_px, dg_py, dg_cnt, dg_taken, dg_outs, dg_lost, dg_pts, dg_t1, dg_t2, dg_t3, dg_t4, dg_t5, dg_t6, dg_ended, ds_ac, ds_io, ds_pc, ds_ov, ds_flags, ds_on, ds_asked, ds_under, ds_sw, ds_test, ds_cells, ds_row, ds_out, ds_px, ds_py, ds_cnt, ds_taken, ds_outs, ds_lost, ds_pts, ds_t1, ds_t2, ds_t3, ds_t4, ds_t5, ds_t6, ds_ended]
    rw [y512, S114]
    by_cases c : w &&& (512 : Int32) = (0 : Int32)
    · rw [if_pos (b512.mpr c), if_pos c]; exact C66
    · rw [if_neg (fun q => c (b512.mp q)), if_neg c]
      split
      · exact ⟨M96, rfl⟩
      · exact C66
  have C32 : m_asksSkip_44 (dec σ u v e) w (nI kn) (nI km) = m_asksSkip_197 (dec σ u v e) w (x4_someHolds_32 σ y).1 ∧ (x4_someHolds_32 σ y).2 = fs := by
    unfold m_asksSkip_44 x4_someHolds_32
    simp only [dg_ac, dg_io, dg_pc, dg_ov, dg_flags, dg_on, dg_asked, dg_under, dg_sw, dg_test, dg_cells, dg_row, dg_out, dg_px, dg_py, dg_cnt, dg_taken, dg_outs, dg_lost, dg_pts, dg_t1, dg_t2, dg_t3, dg_t4, dg_t5, dg_t6, dg_ended, ds_ac, ds_io, ds_pc, ds_ov, ds_flags, ds_on, ds_asked, ds_under, ds_sw, ds_test, ds_cells, ds_row, ds_out, ds_px, ds_py, ds_cnt, ds_taken, ds_outs, ds_lost, ds_pts, ds_t1, ds_t2, ds_t3, ds_t4, ds_t5, ds_t6, ds_ended]
    rw [y256, sg h.i_ac, S114]
    by_cases c : w &&& (256 : Int32) = (0 : Int32)
    · rw [if_pos (b256.mpr c), if_pos c]; exact C51
    · rw [if_neg (fun q => c (b256.mp q)), if_neg c]
      split
      · exact ⟨M96, rfl⟩
      · exact C51
  have C14 : m_asksSkip_26 (dec σ u v e) w (nI kn) (nI km) = m_asksSkip_197 (dec σ u v e) w (x4_someHolds_14 σ y).1 ∧ (x4_someHolds_14 σ y).2 = fs := by
    unfold m_asksSkip_26 x4_someHolds_14
    simp only [dg_ac, dg_io, dg_pc, dg_ov, dg_flags, dg_on, dg_asked, dg_under, dg_sw, dg_test, dg_cells, dg_row, dg_out, dg_px, dg_py, dg_cnt, dg_taken, dg_outs, dg_lost, dg_pts, dg_t1, dg_t2, dg_t3, dg_t4, dg_t5, dg_t6, dg_ended, ds_ac, ds_io, ds_pc, ds_ov, ds_flags, ds_on, ds_asked, ds_under, ds_sw, ds_test, ds_cells, ds_row, ds_out, ds_px, ds_py, ds_cnt, ds_taken, ds_outs, ds_lost, ds_pts, ds_t1, ds_t2, ds_t3, ds_t4, ds_t5, ds_t6, ds_ended]
    rw [y128, sg h.i_ac, S114]
    by_cases c : w &&& (128 : Int32) = (0 : Int32)
    · rw [if_pos (b128.mpr c), if_pos c]; exact C32
    · rw [if_neg (fun q => c (b128.mp q)), if_neg c]
      split
      · exact ⟨M96, rfl⟩
      · exact C32
  have C0 : m_asksSkip (dec σ u v e) w = m_asksSkip_197 (dec σ u v e) w (x4_someHolds σ y).1 ∧ (x4_someHolds σ y).2 = fs := by
    unfold m_asksSkip x4_someHolds
    simp only [dg_ac, dg_io, dg_pc, dg_ov, dg_flags, dg_on, dg_asked, dg_under, dg_sw, dg_test, dg_cells, dg_row, dg_out, dg_px, dg_py, dg_cnt, dg_taken, dg_outs, dg_lost, dg_pts, dg_t1, dg_t2, dg_t3, dg_t4, dg_t5, dg_t6, dg_ended, ds_ac, ds_io, ds_pc, ds_ov, ds_flags, ds_on, ds_asked, ds_under, ds_sw, ds_test, ds_cells, ds_row, ds_out, ds_px, ds_py, ds_cnt, ds_taken, ds_outs, ds_lost, ds_pts, ds_t1, ds_t2, ds_t3, ds_t4, ds_t5, ds_t6, ds_ended]
    rw [y64, en, em, S114]
    by_cases c : w &&& (64 : Int32) = (0 : Int32)
    · rw [if_pos (b64.mpr c), if_pos c]; exact C14
    · rw [if_neg (fun q => c (b64.mp q)), if_neg c]
      split
      · exact ⟨M96, rfl⟩
      · exact C14
  have P : PF B σ fs := by
    rw [← hfs]
    split
    · exact PF.rf h
    · exact (PF.rf h).s_ov (by unfold vp_in; decide)
  rw [C0.1, F1, C0.2]
  unfold x4_performWithoutAddress_107
  by_cases c : (x4_someHolds σ y).1 = x4_hasI w
  · rw [if_pos c, if_pos c]; exact ⟨rfl, P.skip _⟩
  · rw [if_neg c, if_neg c]; exact ⟨rfl, P.skip _⟩
