/-! a step and a run -/
theorem PF.mono {B C : Nat} {σ τ : St} (h : PF B σ τ) (hBC : B ≤ C) (hC : C < 2 ^ 31) : PF C σ τ := ⟨h.1.mono hBC hC, h.2⟩
theorem cnv_in {r : Int32} (h : vp_in r 4096) : cnv r = r := by
  unfold cnv
  rw [if_neg (fun q => by rw [q] at h; exact absurd h (by unfold vp_in; decide))]
theorem in_ge {r : Int32} (h : vp_in r 4096) : (0 : Int32) ≤ r := by
  obtain ⟨n, hn, rfl⟩ := vp_in_of h (by decide)
  exact nI_pos' (by omega)
theorem in_n9 {r : Int32} (h : vp_in r 4096) : ¬ r = (-9 : Int32) := fun q => by rw [q] at h; exact absurd h (by unfold vp_in; decide)
theorem in_nlt {r : Int32} (h : vp_in r 4096) : ¬ r < (0 : Int32) := fun q => h (Or.inl q)
theorem wd_n9 {r : Int32} (h : Wd r) : ¬ r = (-9 : Int32) := fun q => by unfold Wd at h; rw [q] at h; exact absurd h (by unfold vp_in; decide)
theorem co_memL : ∀ k, k < 32 → (m_hasAddress (nI k) = (0 : Int32) ∨ nI k = (4 : Int32) ∨ nI k ∈ ([1, 2, 3, 8, 9, 10, 11, 12, 13, 14, 16, 17, 18, 19, 20, 21, 22, 23, 24, 25] : List Int32)) := by decide +kernel
theorem co_mem (k : Nat) (hk : k < 32) (h1 : ¬ m_hasAddress (nI k) = (0 : Int32)) (h2 : ¬ nI k = (4 : Int32)) : (nI k = 1 ∨ nI k = 2 ∨ nI k = 3 ∨ nI k = 8 ∨ nI k = 9 ∨ nI k = 10 ∨ nI k = 11 ∨ nI k = 12 ∨ nI k = 13 ∨ nI k = 14 ∨ nI k = 16 ∨ nI k = 17 ∨ nI k = 18 ∨ nI k = 19 ∨ nI k = 20 ∨ nI k = 21 ∨ nI k = 22 ∨ nI k = 23 ∨ nI k = 24 ∨ nI k = 25) := by
  rcases co_memL k hk with q | q | q
  · exact absurd q h1
  · exact absurd q h2
  · simpa only [List.mem_cons, List.not_mem_nil, or_false] using q
theorem co_nonL : ∀ k, k < 32 → (¬ m_hasAddress (nI k) = (0 : Int32) ∨ nI k ∈ ([0, 5, 6, 15, 30, 7, 26, 27, 28, 29] : List Int32) ∨ nI k = (31 : Int32)) := by decide +kernel
theorem co_non (k : Nat) (hk : k < 32) (h : m_hasAddress (nI k) = (0 : Int32)) (a0 : ¬ nI k = (0 : Int32)) (a5 : ¬ nI k = (5 : Int32)) (a6 : ¬ nI k = (6 : Int32)) (a15 : ¬ nI k = (15 : Int32)) (a30 : ¬ nI k = (30 : Int32)) (a7 : ¬ nI k = (7 : Int32)) (a26 : ¬ nI k = (26 : Int32)) (a27 : ¬ nI k = (27 : Int32)) (a28 : ¬ nI k = (28 : Int32)) (a29 : ¬ nI k = (29 : Int32)) : nI k = (31 : Int32) := by
  rcases co_nonL k hk with q | q | q
  · exact absurd h q
  · simp only [List.mem_cons, List.not_mem_nil, or_false] at q
    rcases q with q | q | q | q | q | q | q | q | q | q
    · exact absurd q a0
    · exact absurd q a5
    · exact absurd q a6
    · exact absurd q a15
    · exact absurd q a30
    · exact absurd q a7
    · exact absurd q a26
    · exact absurd q a27
    · exact absurd q a28
    · exact absurd q a29
  · exact q
theorem il_no {w : Int32} (h : x4_isIllegal w = (0 : Int32)) : ¬ x4_codeOf w = (0 : Int32) ∧ ¬ x4_codeOf w = (5 : Int32) ∧ ¬ x4_codeOf w = (6 : Int32) ∧ ¬ x4_codeOf w = (15 : Int32) ∧ ¬ x4_codeOf w = (30 : Int32) := by
  unfold x4_isIllegal at h
  by_cases c0 : x4_codeOf w = (0 : Int32)
  · rw [if_pos c0] at h; exact absurd h (by decide)
  rw [if_neg c0] at h
  by_cases c5 : x4_codeOf w = (5 : Int32)
  · rw [if_pos c5] at h; exact absurd h (by decide)
  rw [if_neg c5] at h
  by_cases c6 : x4_codeOf w = (6 : Int32)
  · rw [if_pos c6] at h; exact absurd h (by decide)
  rw [if_neg c6] at h
  by_cases c15 : x4_codeOf w = (15 : Int32)
  · rw [if_pos c15] at h; exact absurd h (by decide)
  rw [if_neg c15] at h
  refine ⟨c0, c5, c6, c15, fun c30 => ?_⟩
  rw [c30, if_neg (by decide), if_pos rfl] at h
  exact absurd h (by decide)
def xRest (σ : St) (w : Int32) : Int32 × St := if x4_hasAddress w = (0 : Int32) then x4_performWithoutAddress σ w else (if (x4_addressOf σ w).1 = (-9 : Int32) then ((2 : Int32), (x4_addressOf σ w).2) else ((0 : Int32), (x4_performAt (x4_addressOf σ w).2 (x4_codeOf w) (x4_addressOf σ w).1)))
theorem E_127 {B : Nat} {σ : St} (h : IV B σ) (hB : B + 1 < 2147483648) (u v : Int32) {w : Int32} (hw : Wd w) (hil : x4_isIllegal w = (0 : Int32)) (h4 : ¬ x4_codeOf w = (4 : Int32)) : m_does_127 (dec σ u v 0) w (w >>> ((13 : Int32) &&& 31)) = dec (xRest σ w).2 u v (xRest σ w).1 ∧ PF (B + 1) σ (xRest σ w).2 := by
  obtain ⟨i0, i5, i6, i15, i30⟩ := il_no hil
  obtain ⟨k, hk, ek⟩ := cd hw
  have up : ∀ {τ : St}, PF B σ τ → PF (B + 1) σ τ := fun q => q.mono (by omega) (by omega)
  have hm : m_hasAddress (x4_codeOf w) = x4_hasAddress w := ha_e hw
  have ek : x4_codeOf w = nI k := ek
  unfold m_does_127 xRest
  rw [show w >>> ((13 : Int32) &&& 31) = x4_codeOf w from rfl, hm, hi hw]
  by_cases cA : x4_hasAddress w = (0 : Int32)
  · rw [if_pos cA, if_pos cA]
    unfold x4_performWithoutAddress
    by_cases c7 : x4_codeOf w = (7 : Int32)
    · rw [if_pos c7, if_pos c7]
      unfold m_does_236 x4_performWithoutAddress_81
      by_cases cI : x4_hasI w = (0 : Int32)
      · rw [if_pos cI, if_pos cI]
        have q := E_calls h u v 0 (a := 64) (by unfold vp_in; decide)
        exact ⟨q.1, up q.2⟩
      · rw [if_neg cI, if_neg cI]
        have q := E_calls h u v 0 (a := w &&& (4095 : Int32)) (ad_in w)
        exact ⟨q.1, up q.2⟩
    rw [if_neg c7, if_neg c7]
    by_cases c26 : x4_codeOf w = (26 : Int32)
    · rw [if_pos c26, if_pos c26]
      have q := E_ask h u v 0 hw
      have r1 : (if (x4_someHolds σ (x4_yOf w)).1 = (x4_hasI w) then x4_performWithoutAddress_107 (x4_someHolds σ (x4_yOf w)).2 (0 : Int32) else x4_performWithoutAddress_107 (x4_someHolds σ (x4_yOf w)).2 (1 : Int32)).1 = (0 : Int32) := by split <;> rfl
      rw [r1]
      exact ⟨q.1, up q.2⟩
    rw [if_neg c26, if_neg c26]
    by_cases c27 : x4_codeOf w = (27 : Int32)
    · rw [if_pos c27, if_pos c27]
      have q := E_shift h u v 0 hw
      exact ⟨q.1, up q.2⟩
    rw [if_neg c27, if_neg c27]
    by_cases c28 : x4_codeOf w = (28 : Int32)
    · rw [if_pos c28, if_pos c28]
      unfold m_does_285 x4_performWithoutAddress_148
      rcases hi2 w with z | z
      · rw [z, if_neg (show ¬ (0 : Int32) = 1 by decide), if_pos rfl]
        exact ⟨rfl, up ((PF.rf h).s_ac (and_w _ hw))⟩
      · rw [z, if_pos rfl, if_neg (show ¬ (1 : Int32) = 0 by decide)]
        exact ⟨rfl, up ((PF.rf h).s_ac (nt_w (and_w _ hw)))⟩
    rw [if_neg c28, if_neg c28]
    by_cases c29 : x4_codeOf w = (29 : Int32)
    · rw [if_pos c29, if_pos c29]
      exact E_tra h hB u v 0 w
    rw [if_neg c29, if_neg c29]
    have c31 : x4_codeOf w = (31 : Int32) := by
      rw [ek] at i0 i5 i6 i15 i30 c7 c26 c27 c28 c29 hm ⊢
      exact co_non k hk (hm.trans cA) i0 i5 i6 i15 i30 c7 c26 c27 c28 c29
    rw [if_pos c31]
    have q := E_oper h u v w
    exact ⟨q.1, up q.2⟩
  · rw [if_neg cA, if_neg cA]
    have EA := E_addr h u v 0 hw
    rw [EA.1]
    show (if (0 : Int32) ≤ cnv (x4_addressOf σ w).1 then m_ofMemory (dec (x4_addressOf σ w).2 u v 0) (x4_codeOf w) (cnv (x4_addressOf σ w).1) else s_ended (dec (x4_addressOf σ w).2 u v 0) (2 : Int32)) = _ ∧ _
    rcases EA.2.1 with q | q
    · rw [q, if_pos rfl, if_neg (by decide)]
      exact ⟨rfl, up EA.2.2⟩
    · rw [cnv_in q, if_pos (in_ge q), if_neg (in_n9 q)]
      have hmem := co_mem k hk (by rw [← ek, hm]; exact cA) (by rw [← ek]; exact h4)
      have z := E_mem EA.2.2.1 u v 0 q (k := x4_codeOf w) (by rw [ek]; exact hmem)
      exact ⟨z.1, up (EA.2.2.tr z.2)⟩
theorem bk_e {w : Int32} (hw : Wd w) : (w &&& (8191 : Int32)) = (4097 : Int32) ↔ (¬ x4_hasI w = (0 : Int32) ∧ x4_yOf w = (1 : Int32)) := by
  obtain ⟨n, hn, rfl⟩ := wd_of hw
  unfold x4_yOf
  rw [hi_x, n_and (k := 13) (by omega) (by decide), n_and (k := 12) (by omega) (by decide), show (4097 : Int32) = nI 4097 from rfl, show (0 : Int32) = nI 0 from rfl, show (1 : Int32) = nI 1 from rfl, nI_eq (by omega) (by decide), nI_eq (by omega) (by decide), nI_eq (by omega) (by decide)]
  omega
theorem E_perf {B : Nat} {σ : St} (h : IV B σ) (hB : B + 1 < 2147483648) (u v : Int32) {w : Int32} (hw : Wd w) (h4 : ¬ x4_codeOf w = (4 : Int32)) : (if (m_isIllegal w) = (0 : Int32) then (if (w >>> ((13 : Int32) &&& 31)) = (24 : Int32) then (if (g_under (dec σ u v 0)) = (0 : Int32) then m_does_127 (dec σ u v 0) w (w >>> ((13 : Int32) &&& 31)) else (if (w &&& (8191 : Int32)) = (4097 : Int32) then (s_under (s_ov (s_pc (dec σ u v 0) (((g_cells (dec σ u v 0)) (Int32.toNatClampNeg (1 : Int32))) &&& (4095 : Int32))) (m_sign ((g_cells (dec σ u v 0)) (Int32.toNatClampNeg (1 : Int32))))) (0 : Int32)) else m_does_127 (dec σ u v 0) w (w >>> ((13 : Int32) &&& 31)))) else m_does_127 (dec σ u v 0) w (w >>> ((13 : Int32) &&& 31))) else (s_ended (dec σ u v 0) (3 : Int32))) = dec (x4_perform σ w).2 u v (x4_perform σ w).1 ∧ PF (B + 1) σ (x4_perform σ w).2 := by
  have hP : x4_perform σ w = (if (x4_isIllegal w) = (0 : Int32) then (if (x4_endsBreak σ w) = (0 : Int32) then xRest σ w else ((0 : Int32), (x4_endBreak σ))) else ((3 : Int32), σ)) := rfl
  have up : ∀ {τ : St}, PF B σ τ → PF (B + 1) σ τ := fun q => q.mono (by omega) (by omega)
  rw [hP, il_e, dg_under, show w >>> ((13 : Int32) &&& 31) = x4_codeOf w from rfl]
  by_cases il : x4_isIllegal w = (0 : Int32)
  · rw [if_pos il, if_pos il]
    have R := E_127 h hB u v hw il h4
    rw [show w >>> ((13 : Int32) &&& 31) = x4_codeOf w from rfl] at R
    unfold x4_endsBreak
    obtain ⟨j, hj, ej⟩ := vp_in_of h.i_under (by decide)
    rcases (show j = 0 ∨ j = 1 by omega) with z | z
    · subst z
      rw [ej, if_pos (show nI 0 = (0 : Int32) from rfl), if_neg (show ¬ nI 0 = (1 : Int32) by decide), if_pos rfl, ite_self]
      exact R
    · subst z
      rw [ej, if_neg (show ¬ nI 1 = (0 : Int32) by decide), if_pos (show nI 1 = (1 : Int32) from rfl)]
      by_cases c24 : x4_codeOf w = (24 : Int32)
      · rw [if_pos c24, if_pos c24]
        by_cases cb : (w &&& (8191 : Int32)) = (4097 : Int32)
        · have cb2 := (bk_e hw).mp cb
          rw [if_pos cb, if_neg cb2.1, if_pos cb2.2, if_neg (show ¬ (1 : Int32) = 0 by decide)]
          have hc : x4_fetch σ (1 : Int32) = g_cells σ (Int32.toNatClampNeg (1 : Int32)) := fe (by unfold vp_in; decide)
          unfold x4_endBreak x4_yOf
          rw [hc, dg_cells, sg (h.i_cells _)]
          refine ⟨rfl, up ((((PF.rf h).s_pc (ad_in _)).s_ov ?_).s_under (by unfold vp_in; decide))⟩
          rcases sg2 (g_cells σ (Int32.toNatClampNeg (1 : Int32))) with y | y
          · rw [y]; unfold vp_in; decide
          · rw [y]; unfold vp_in; decide
        · rw [if_neg cb]
          by_cases d1 : x4_hasI w = (0 : Int32)
          · rw [if_pos d1, if_pos rfl]; exact R
          · rw [if_neg d1]
            by_cases d2 : x4_yOf w = (1 : Int32)
            · exact absurd ((bk_e hw).mpr ⟨d1, d2⟩) cb
            · rw [if_neg d2, if_pos rfl]; exact R
      · rw [if_neg c24, if_neg c24, if_pos rfl]; exact R
  · rw [if_neg il, if_neg il]
    exact ⟨rfl, up (PF.rf h)⟩
def doX (r : Int32 × St) : Int32 × St := if r.1 = (-9 : Int32) then ((2 : Int32), r.2) else x4_perform r.2 r.1
theorem E_do4 {B : Nat} (hB : B + 1 < 2147483648) (u v : Int32) : ∀ (n k : Nat) (σ : St) (w : Int32), IV B σ → Wd w → k + n = 33 → k ≤ 32 →
    m_does_4 n (dec σ u v 0) w (nI k) = dec (doX (x4_followXct_4 (n + 1) σ w (nI k))).2 u v (doX (x4_followXct_4 (n + 1) σ w (nI k))).1 ∧ PF (B + 1) σ (doX (x4_followXct_4 (n + 1) σ w (nI k))).2 := by
  intro n
  induction n with
  | zero => intro k σ w _ _ h1 h2; omega
  | succ n ih =>
    intro k σ w h hw h1 h2
    have up : ∀ {τ : St}, PF B σ τ → PF (B + 1) σ τ := fun q => q.mono (by omega) (by omega)
    rw [m_does_4, x4_followXct_4, if_neg (show ¬ (32 : Int32) < nI k from nI_nlt (a := 32) (by omega) (by decide))]
    rw [show w >>> ((13 : Int32) &&& 31) = x4_codeOf w from rfl]
    by_cases c4 : x4_codeOf w = (4 : Int32)
    · rw [if_pos c4, if_pos c4]
      have EA := E_addr h u v 0 hw
      rw [EA.1]
      show (if cnv (x4_addressOf σ w).1 < (0 : Int32) then m_does_30 (dec (x4_addressOf σ w).2 u v 0) else (if nI k = (32 : Int32) then m_does_30 (dec (x4_addressOf σ w).2 u v 0) else m_does_4 n (dec (x4_addressOf σ w).2 u v 0) ((g_cells (dec (x4_addressOf σ w).2 u v 0)) (Int32.toNatClampNeg (cnv (x4_addressOf σ w).1))) (nI k + (1 : Int32)))) = _ ∧ _
      rcases EA.2.1 with q | q
      · rw [q, if_pos rfl, if_pos (by decide)]
        exact ⟨rfl, up EA.2.2⟩
      · rw [cnv_in q, if_neg (in_nlt q), if_neg (in_n9 q), dg_cells, ← fe q, nI_1]
        by_cases c32 : k = 32
        · subst c32
          have n0 : n = 0 := by omega
          subst n0
          rw [if_pos (show nI 32 = (32 : Int32) from rfl), x4_followXct_4, if_pos (show (32 : Int32) < nI (32 + 1) by decide)]
          exact ⟨rfl, up EA.2.2⟩
        · rw [if_neg (show ¬ nI k = (32 : Int32) from nI_ne (b := 32) (by omega) (by decide) c32)]
          have z := ih (k + 1) (x4_addressOf σ w).2 _ EA.2.2.1 (fw EA.2.2.1 (x4_addressOf σ w).1) (by omega) (by omega)
          exact ⟨z.1, EA.2.2.tr z.2⟩
    · rw [if_neg c4, if_neg c4]
      have e1 : doX (w, σ) = x4_perform σ w := by unfold doX; rw [if_neg (wd_n9 hw)]
      rw [e1]
      exact E_perf h hB u v hw c4
theorem E_does {B : Nat} {σ : St} (h : IV B σ) (hB : B + 1 < 2147483648) (u v : Int32) {w : Int32} (hw : Wd w) : m_does (dec σ u v 0) w = dec (doX (x4_followXct σ w)).2 u v (doX (x4_followXct σ w)).1 ∧ PF (B + 1) σ (doX (x4_followXct σ w)).2 := E_do4 hB u v 33 0 σ w h hw rfl (by decide)
