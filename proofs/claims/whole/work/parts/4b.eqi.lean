/-! the other calls -/
theorem MI_s {B : Nat} {σ : St} (h : IV B σ) (hB : B < 2147483648) : MI σ := (MI_of h hB (g_ended σ)).1
theorem T_put {B : Nat} {σ : St} (h : IV B σ) (a w : Int32) : m_put σ a w = x4_put σ a w ∧ IV B (x4_put σ a w).2 := by
  unfold m_put x4_put
  rw [show m_in a (0 : Int32) (4095 : Int32) = x4_isAddress a from rfl, show m_in w (0 : Int32) (262143 : Int32) = x4_isWord w from rfl]
  by_cases c1 : x4_isAddress a = (0 : Int32)
  · rw [if_pos c1, if_pos c1]; exact ⟨rfl, h⟩
  rw [if_neg c1, if_neg c1]
  by_cases c2 : x4_isWord w = (0 : Int32)
  · rw [if_pos c2, if_pos c2]; exact ⟨rfl, h⟩
  rw [if_neg c2, if_neg c2]
  have ha : vp_in a 4096 := m_in_vp c1 (by decide)
  have hw : Wd w := m_in_vp c2 (by decide)
  rw [fe ha]
  refine ⟨by rw [se ha], ((PF.rf h).store a hw).1⟩
theorem T_core (σ : St) (a : Int32) : m_core σ a = x4_core σ a := by
  unfold m_core x4_core
  rw [show m_in a (0 : Int32) (4095 : Int32) = x4_isAddress a from rfl]
  by_cases c1 : x4_isAddress a = (0 : Int32)
  · rw [if_pos c1, if_pos c1]
  · rw [if_neg c1, if_neg c1, fe (m_in_vp c1 (by decide))]
theorem b_01 {x : Int32} (h : vp_in x 2) : (if x = (0 : Int32) then (0 : Int32) else (1 : Int32)) = x := by
  obtain ⟨j, hj, rfl⟩ := vp_in_of h (by decide)
  rcases (show j = 0 ∨ j = 1 by omega) with z | z
  · subst z; rfl
  · subst z; rfl
theorem T_told {B : Nat} {σ : St} (h : IV B σ) (a : Int32) : m_told σ a = x4_told σ a := by
  unfold m_told x4_told
  rw [b_01 h.i_on, b_01 h.i_asked, b_01 h.i_under]
theorem T_switches {B : Nat} {σ : St} (h : IV B σ) (a w : Int32) : m_switches σ a w = x4_switches σ a w ∧ IV B (x4_switches σ a w).2 := by
  unfold m_switches x4_switches
  rw [show m_in w (0 : Int32) (262143 : Int32) = x4_isWord w from rfl]
  unfold m_in
  by_cases c1 : a < (0 : Int32)
  · rw [if_pos c1, if_pos rfl, if_pos c1]; exact ⟨rfl, h⟩
  rw [if_neg c1, if_neg c1]
  by_cases c2 : (63 : Int32) < a
  · rw [if_pos c2, if_pos rfl, if_pos c2]; exact ⟨rfl, h⟩
  rw [if_neg c2, if_neg (show ¬ (1 : Int32) = 0 by decide), if_neg c2]
  by_cases c3 : x4_isWord w = (0 : Int32)
  · rw [if_pos c3]; exact ⟨rfl, h⟩
  rw [if_neg c3]
  exact ⟨rfl, (h.s_sw a).s_test (m_in_vp c3 (by decide))⟩
theorem T_type {B : Nat} {σ : St} (h : IV B σ) (a : Int32) : m_type σ a = x4_type σ a ∧ IV B (x4_type σ a).2 := by
  obtain ⟨c, hc, ec⟩ := vp_in_of h.i_cnt (by decide)
  unfold m_type x4_type x3_waiting x3_append m_in
  by_cases c1 : a < (0 : Int32)
  · rw [if_pos c1, if_pos rfl, if_pos c1]; exact ⟨rfl, h⟩
  rw [if_neg c1, if_neg c1]
  by_cases c2 : (63 : Int32) < a
  · rw [if_pos c2, if_pos rfl, if_neg (Int32.not_le.mpr c2)]; exact ⟨rfl, h⟩
  have c3 : a ≤ (63 : Int32) := Int32.not_lt.mp c2
  rw [if_neg c2, if_neg (show ¬ (1 : Int32) = 0 by decide), if_pos c3, if_neg (show ¬ g_cnt σ < (0 : Int32) by rw [ec]; exact nI_pos (by omega))]
  by_cases q : c = 100
  · subst q
    rw [if_pos (show g_cnt σ = (100 : Int32) from ec), if_neg (show ¬ g_cnt σ < (100 : Int32) by rw [ec]; decide), if_pos rfl]
    exact ⟨rfl, h⟩
  · rw [if_neg (show ¬ g_cnt σ = (100 : Int32) by rw [ec]; exact nI_ne (b := 100) (by omega) (by decide) q), if_pos (show g_cnt σ < (100 : Int32) by rw [ec]; exact nI_lt (b := 100) (by omega) (by decide)), if_neg (show ¬ (1 : Int32) = 0 by decide)]
    have wa : Wd a := by
      unfold Wd
      rw [vp_in_iff]
      have b : ¬ a.toInt < (0 : Int32).toInt := fun z => c1 (Int32.lt_iff_toInt_lt.mpr z)
      have d := Int32.le_iff_toInt_le.mp c3
      have e0 : (0 : Int32).toInt = 0 := by decide
      have e1 : (63 : Int32).toInt = 63 := by decide
      omega
    refine ⟨rfl, (h.s_row (upd_w h.i_row wa)).s_cnt ?_⟩
    rw [ec, nI_1]; exact vp_in_nI (by omega) (by decide)
theorem T_ask {B : Nat} {σ : St} (h : IV B σ) : m_ask σ = x4_ask σ ∧ IV B (x4_ask σ).2 := by
  obtain ⟨j, hj, ej⟩ := vp_in_of h.i_asked (by decide)
  unfold m_ask x4_ask m_ask_12
  rw [ej]
  refine ⟨?_, h.s_asked (by unfold vp_in; decide)⟩
  rcases (show j = 0 ∨ j = 1 by omega) with z | z
  · subst z; rw [if_pos (show nI 0 = (0 : Int32) from rfl)]; rfl
  · subst z; rw [if_neg (show ¬ nI 1 = (0 : Int32) by decide)]; rfl
theorem in5 {a : Int32} {K : Nat} (hK : K < 2147483647) (h : ¬ m_in a (0 : Int32) (nI K) = (0 : Int32)) : ∃ j, j ≤ K ∧ a = nI j := by
  have q : vp_in a (K + 1) := m_in_vp h (by rw [nI_toInt (by omega)]; rfl)
  obtain ⟨j, hj, e⟩ := vp_in_of q (by omega)
  exact ⟨j, by omega, e⟩
theorem in0 {a K : Int32} : m_in a (0 : Int32) K = (0 : Int32) ∨ (¬ a < (0 : Int32) ∧ a ≤ K ∧ ¬ m_in a (0 : Int32) K = (0 : Int32)) := by
  unfold m_in
  by_cases c1 : a < (0 : Int32)
  · rw [if_pos c1]; exact Or.inl rfl
  · rw [if_neg c1]
    by_cases c2 : K < a
    · rw [if_pos c2]; exact Or.inl rfl
    · rw [if_neg c2]; exact Or.inr ⟨c1, Int32.not_lt.mp c2, by decide⟩
theorem in0n {a K : Int32} (h : m_in a (0 : Int32) K = (0 : Int32)) : a < (0 : Int32) ∨ K < a := by
  unfold m_in at h
  by_cases c1 : a < (0 : Int32)
  · exact Or.inl c1
  · rw [if_neg c1] at h
    by_cases c2 : K < a
    · exact Or.inr c2
    · rw [if_neg c2] at h; exact absurd h (by decide)
theorem setA {B : Nat} {σ : St} (h : IV B σ) (j : Nat) (K w : Int32) (hj : j < 6) (hm : x4_mostOf (nI j) = K) (hq : ∀ z, m_set σ (nI j) z = m_set_32 σ (nI j) z K) (F : St → Int32 → St)
    (hF : ¬ m_in w (0 : Int32) K = (0 : Int32) → (m_set_32 σ (nI j) w K = (m_told σ (nI j), F σ w)) ∧ (x4_set σ (nI j) w = (x4_told σ (nI j), F σ w)) ∧ IV B (F σ w)) : m_set σ (nI j) w = x4_set σ (nI j) w ∧ IV B (x4_set σ (nI j) w).2 := by
  rw [hq]
  rcases in0 (a := w) (K := K) with c | ⟨c1, c2, c3⟩
  · have e1 : m_set_32 σ (nI j) w K = ((-1 : Int32), σ) := by unfold m_set_32; rw [if_pos c, ite_self]
    have e2 : x4_set σ (nI j) w = ((-1 : Int32), σ) := by
      unfold x4_set
      rw [hm]
      rcases in0n c with d | d
      · rw [if_pos d, ite_self, ite_self]
      · rw [if_neg (Int32.not_le.mpr d), ite_self, ite_self, ite_self]
    rw [e1, e2]; exact ⟨rfl, h⟩
  · obtain ⟨f1, f2, f3⟩ := hF c3
    rw [f1, f2, T_told h]; exact ⟨rfl, f3⟩
theorem T_set {B : Nat} {σ : St} (h : IV B σ) (a w : Int32) : m_set σ a w = x4_set σ a w ∧ IV B (x4_set σ a w).2 := by
  rcases in0 (a := a) (K := 5) with c | ⟨-, -, c3⟩
  · have e1 : m_set σ a w = ((-1 : Int32), σ) := by
      have e : ∀ z, m_set_32 σ a w z = ((-1 : Int32), σ) := fun z => by unfold m_set_32; rw [if_pos c]
      unfold m_set
      rw [e, e, e, e, ite_self, ite_self, ite_self]
    have e2 : x4_set σ a w = ((-1 : Int32), σ) := by
      unfold x4_set
      rcases in0n c with d | d
      · rw [if_pos d]
      · rw [if_pos d, ite_self]
    rw [e1, e2]; exact ⟨rfl, h⟩
  obtain ⟨j, hj, rfl⟩ := in5 (K := 5) (by decide) c3
  have rng : ∀ {K : Int32}, ¬ m_in w (0 : Int32) K = (0 : Int32) → ¬ w < (0 : Int32) ∧ w ≤ K := fun {K} q => by
    rcases in0 (a := w) (K := K) with z | z
    · exact absurd z q
    · exact ⟨z.1, z.2.1⟩
  rcases (show j = 0 ∨ j = 1 ∨ j = 2 ∨ j = 3 ∨ j = 4 ∨ j = 5 by omega) with z | z | z | z | z | z
  · subst z
    refine setA h 0 262143 w (by decide) (by decide) (fun z => by unfold m_set; rw [if_neg (by decide)]) s_ac (fun q => ⟨?_, ?_, h.s_ac (m_in_vp q (by decide))⟩)
    · unfold m_set_32; rw [if_neg c3, if_neg q, if_pos (show nI 0 = (0 : Int32) from rfl)]
    · unfold x4_set; rw [if_neg (by decide), if_neg (by decide), if_neg (rng q).1, show x4_mostOf (nI 0) = 262143 by decide, if_pos (rng q).2, if_pos (show nI 0 = (0 : Int32) from rfl)]
  · subst z
    refine setA h 1 262143 w (by decide) (by decide) (fun z => by unfold m_set; rw [if_neg (by decide)]) s_io (fun q => ⟨?_, ?_, h.s_io (m_in_vp q (by decide))⟩)
    · unfold m_set_32; rw [if_neg c3, if_neg q, if_neg (by decide), if_pos (show nI 1 = (1 : Int32) from rfl)]
    · unfold x4_set; rw [if_neg (by decide), if_neg (by decide), if_neg (rng q).1, show x4_mostOf (nI 1) = 262143 by decide, if_pos (rng q).2, if_neg (by decide), if_pos (show nI 1 = (1 : Int32) from rfl)]
  · subst z
    refine setA h 2 4095 w (by decide) (by decide) (fun z => by unfold m_set; rw [if_pos (by decide), if_pos (show nI 2 = (2 : Int32) from rfl)]) s_pc (fun q => ⟨?_, ?_, h.s_pc (m_in_vp q (by decide))⟩)
    · unfold m_set_32; rw [if_neg c3, if_neg q, if_neg (by decide), if_neg (by decide), if_pos (show nI 2 = (2 : Int32) from rfl)]
    · unfold x4_set; rw [if_neg (by decide), if_neg (by decide), if_neg (rng q).1, show x4_mostOf (nI 2) = 4095 by decide, if_pos (rng q).2, if_neg (by decide), if_neg (by decide), if_pos (show nI 2 = (2 : Int32) from rfl)]
  · subst z
    refine setA h 3 1 w (by decide) (by decide) (fun z => by unfold m_set; rw [if_pos (by decide), if_neg (by decide), if_neg (by decide)]) s_ov (fun q => ⟨?_, ?_, h.s_ov (m_in_vp q (by decide))⟩)
    · unfold m_set_32; rw [if_neg c3, if_neg q, if_neg (by decide), if_neg (by decide), if_neg (by decide), if_pos (show nI 3 = (3 : Int32) from rfl)]
    · unfold x4_set; rw [if_neg (by decide), if_neg (by decide), if_neg (rng q).1, show x4_mostOf (nI 3) = 1 by decide, if_pos (rng q).2, if_neg (by decide), if_neg (by decide), if_neg (by decide), if_pos (show nI 3 = (3 : Int32) from rfl)]
  · subst z
    refine setA h 4 63 w (by decide) (by decide) (fun z => by unfold m_set; rw [if_pos (by decide), if_neg (by decide), if_pos (show nI 4 = (4 : Int32) from rfl)]) s_flags (fun q => ⟨?_, ?_, h.s_flags w⟩)
    · unfold m_set_32; rw [if_neg c3, if_neg q, if_neg (by decide), if_neg (by decide), if_neg (by decide), if_neg (by decide), if_pos (show nI 4 = (4 : Int32) from rfl)]
    · unfold x4_set; rw [if_neg (by decide), if_neg (by decide), if_neg (rng q).1, show x4_mostOf (nI 4) = 63 by decide, if_pos (rng q).2, if_neg (by decide), if_neg (by decide), if_neg (by decide), if_neg (by decide), if_pos (show nI 4 = (4 : Int32) from rfl)]
  · subst z
    refine setA h 5 1 w (by decide) (by decide) (fun z => by unfold m_set; rw [if_pos (by decide), if_neg (by decide), if_neg (by decide)]) s_on (fun q => ⟨?_, ?_, h.s_on (m_in_vp q (by decide))⟩)
    · unfold m_set_32
      rw [if_neg c3, if_neg q, if_neg (by decide), if_neg (by decide), if_neg (by decide), if_neg (by decide), if_neg (by decide)]
      obtain ⟨i, hi, rfl⟩ := in5 (K := 1) (by decide) q
      rcases (show i = 0 ∨ i = 1 by omega) with y | y
      · subst y; rw [if_neg (by decide)]; rfl
      · subst y; rw [if_pos (show nI 1 = (1 : Int32) from rfl)]; rfl
    · unfold x4_set; rw [if_neg (by decide), if_neg (by decide), if_neg (rng q).1, show x4_mostOf (nI 5) = 1 by decide, if_pos (rng q).2, if_neg (by decide), if_neg (by decide), if_neg (by decide), if_neg (by decide), if_neg (by decide)]
theorem T_ran (σ : St) (a : Int32) : m_ran σ a = x4_ran σ a := by
  unfold m_ran x4_ran
  by_cases c : m_in a (0 : Int32) (7 : Int32) = (0 : Int32)
  · rw [if_pos c]
    have n : ∀ j : Int32, ¬ m_in j (0 : Int32) (7 : Int32) = (0 : Int32) → ¬ a = j := fun j hj q => hj (by rw [← q]; exact c)
    rw [if_neg (n 0 (by decide)), if_neg (n 1 (by decide)), if_neg (n 2 (by decide)), if_neg (n 3 (by decide)), if_neg (n 4 (by decide)), if_neg (n 5 (by decide)), if_neg (n 6 (by decide)), if_neg (n 7 (by decide))]
  · rw [if_neg c]
    obtain ⟨j, hj, rfl⟩ := in5 (K := 7) (by decide) c
    rcases (show j = 0 ∨ j = 1 ∨ j = 2 ∨ j = 3 ∨ j = 4 ∨ j = 5 ∨ j = 6 ∨ j = 7 by omega) with z | z | z | z | z | z | z | z <;> subst z <;> rfl
theorem T_point {B : Nat} {σ : St} (h : IV B σ) (hB : B < 2147483648) (a b : Int32) : m_point σ a b = x4_point σ a b := by
  obtain ⟨p, hp, ep⟩ := vp_in_of h.i_pts (by omega)
  unfold m_point x4_point
  rcases in0 (a := b) (K := 1) with c | ⟨c1, c2, c3⟩
  · rw [if_pos c]
    rcases in0n c with d | d
    · rw [if_pos d]
    · rw [if_neg (Int32.not_le.mpr d), ite_self]
  · rw [if_neg c3, if_neg c1, if_pos c2]
    unfold x0_keeps
    rcases in0 (a := a) (K := 63) with d | ⟨d1, d2, d3⟩
    · rw [if_pos d]
      rcases in0n d with e | e
      · rw [if_pos e, if_pos rfl]
      · have e2 : (64 : Int32) ≤ a := by
          apply Int32.le_iff_toInt_le.mpr
          have := Int32.lt_iff_toInt_lt.mp e
          have e0 : (64 : Int32).toInt = 64 := by decide
          have e1 : (63 : Int32).toInt = 63 := by decide
          omega
        rw [if_pos e2, ite_self, if_pos rfl]
    · rw [if_neg d3]
      obtain ⟨j, hj, rfl⟩ := in5 (K := 63) (by decide) d3
      rw [if_neg d1, if_neg (show ¬ (64 : Int32) ≤ nI j from nI_ge (b := 64) (by omega) (by decide)), ep]
      by_cases q : j < p
      · rw [if_pos (nI_lt q (by omega)), if_neg (show ¬ nI p ≤ nI j from nI_ge q (by omega)), if_neg (show ¬ (1 : Int32) = 0 by decide)]
        have e1 : x0_slotOf σ (nI j) = (((nI p - (1 : Int32)) - nI j) - ((nI p - (1 : Int32)) - nI j) / (64 : Int32) * (64 : Int32)) := by
          unfold x0_slotOf
          rw [ep, show (1 : Int32) = nI 1 from rfl, show (64 : Int32) = nI 64 from rfl, pk_sub (by omega), pk_sub (by omega), pk_rem (by omega) (by decide) (by decide), n_and (k := 6) (by omega) (by decide)]
        unfold x0_xOf x0_yOf
        rw [e1]
      · rw [if_neg (nI_nlt (by omega) (by omega)), if_pos (show nI p ≤ nI j from nI_le (by omega) (by omega)), if_pos rfl]
theorem T_points (σ : St) : m_points σ = x4_points σ := rfl
theorem T_out {B : Nat} {σ : St} (h : IV B σ) (a : Int32) : m_out σ a = x4_out σ a := by
  obtain ⟨o, ho, eo⟩ := vp_in_of h.i_outs (by decide)
  have t0 : (0 : Int32).toInt = 0 := by decide
  have t1 : (-1 : Int32).toInt = -1 := by decide
  have t2 : (-2 : Int32).toInt = -2 := by decide
  unfold m_out x4_out x1_signAt
  by_cases c : (0 : Int32) ≤ a
  · have ci := Int32.le_iff_toInt_le.mp c
    have n2 : (-2 : Int32) ≤ a := Int32.le_iff_toInt_le.mpr (by omega)
    have n3 : ¬ a = (-2 : Int32) := fun q => by rw [q] at c; exact absurd c (by decide)
    have n4 : ¬ a = (-1 : Int32) := fun q => by rw [q] at c; exact absurd c (by decide)
    rw [if_pos c, if_pos n2, if_neg n3, if_neg n4, if_neg (Int32.not_lt.mpr c)]
    by_cases d : g_outs σ ≤ a
    · rw [if_pos d, if_pos d]
    · rw [if_neg d, if_neg d]
      have l64 : a < (64 : Int32) := by
        rw [eo] at d
        have d2 : ¬ (nI o).toInt ≤ a.toInt := fun q => d (Int32.le_iff_toInt_le.mpr q)
        rw [nI_toInt (by omega)] at d2
        apply Int32.lt_iff_toInt_lt.mpr
        have e0 : (64 : Int32).toInt = 64 := by decide
        omega
      rw [if_pos l64]
  · rw [if_neg c]
    have ci : ¬ (0 : Int32).toInt ≤ a.toInt := fun q => c (Int32.le_iff_toInt_le.mpr q)
    by_cases d1 : a = (-1 : Int32)
    · subst d1; rw [if_pos rfl, if_pos (by decide), if_neg (by decide), if_pos rfl]
    · rw [if_neg d1]
      by_cases d2 : a = (-2 : Int32)
      · subst d2; rw [if_pos rfl, if_pos (by decide), if_pos rfl]
      · have e1 : a.toInt ≠ (-1 : Int32).toInt := fun q => d1 (Int32.toInt_inj.mp q)
        have e2 : a.toInt ≠ (-2 : Int32).toInt := fun q => d2 (Int32.toInt_inj.mp q)
        rw [if_neg d2, if_neg (show ¬ (-2 : Int32) ≤ a from fun q => by have := Int32.le_iff_toInt_le.mp q; omega)]
theorem T_value (σ : St) (a : Int32) : m_value σ a = x4_value σ a := by
  unfold m_value x4_value
  rw [show m_in a (0 : Int32) (262143 : Int32) = x4_isWord a from rfl]
  by_cases c : x4_isWord a = (0 : Int32)
  · rw [if_pos c, if_pos c]
  · rw [if_neg c, if_neg c, sg (m_in_vp c (by decide))]
theorem T_word (σ : St) (a : Int32) : m_word σ a = x4_word σ a := by
  unfold m_word x4_word m_in
  by_cases c1 : a < (-131071 : Int32)
  · rw [if_pos c1, if_pos rfl, if_pos c1]
  rw [if_neg c1, if_neg c1]
  by_cases c2 : (131071 : Int32) < a
  · rw [if_pos c2, if_pos rfl, if_neg (Int32.not_le.mpr c2)]
  · rw [if_neg c2, if_neg (show ¬ (1 : Int32) = 0 by decide), if_pos (Int32.not_lt.mp c2)]
theorem b_1 (x : Int32) (h : x = 0 ∨ x = 1) : (if x = (0 : Int32) then (0 : Int32) else (1 : Int32)) = x := by
  rcases h with q | q
  · subst q; rfl
  · subst q; rfl
theorem T_reads (σ : St) (a b : Int32) : m_reads σ a b = x4_reads σ a b := by
  unfold m_reads x4_reads
  rw [show m_in a (0 : Int32) (262143 : Int32) = x4_isWord a from rfl]
  by_cases c : x4_isWord a = (0 : Int32)
  · rw [if_pos c, if_pos c]
  · rw [if_neg c, if_neg c]
    have ha : Wd a := m_in_vp c (by decide)
    rw [hi ha, b_1 _ (hi2 a), on_e, ha_e ha, il_e]
    by_cases d : m_in b (0 : Int32) (5 : Int32) = (0 : Int32)
    · rw [if_pos d]
      have n : ∀ j : Int32, ¬ m_in j (0 : Int32) (5 : Int32) = (0 : Int32) → ¬ b = j := fun j hj q => hj (by rw [← q]; exact d)
      rw [if_neg (n 0 (by decide)), if_neg (n 1 (by decide)), if_neg (n 2 (by decide)), if_neg (n 3 (by decide)), if_neg (n 4 (by decide)), if_neg (n 5 (by decide))]
    · rw [if_neg d]
      obtain ⟨j, hj, rfl⟩ := in5 (K := 5) (by decide) d
      rcases (show j = 0 ∨ j = 1 ∨ j = 2 ∨ j = 3 ∨ j = 4 ∨ j = 5 by omega) with z | z | z | z | z | z <;> subst z <;> rfl
theorem T_dig4 (σ : St) : ∀ (n k : Nat) (c : Int32), k + n = 4097 → k ≤ 4096 → m_digest_4 n σ c (nI k) = x4_digest_4 n σ c (nI k) := by
  intro n
  induction n with
  | zero => intro k c h1 h2; omega
  | succ n ih =>
    intro k c h1 h2
    rw [m_digest_4, x4_digest_4]
    by_cases q : k = 4096
    · subst q; rw [if_pos (by decide), if_pos (by decide)]
    · rw [if_neg (show ¬ (4096 : Int32) ≤ nI k from nI_ge (b := 4096) (by omega) (by decide)), if_neg (show ¬ (4096 : Int32) ≤ nI k from nI_ge (b := 4096) (by omega) (by decide)), fe (vp_in_nI (by omega) (by decide)), nI_1]
      exact ih (k + 1) _ (by omega) (by omega)
theorem T_digest (σ : St) : m_digest σ = x4_digest σ := T_dig4 σ 4097 0 0 rfl (by decide)
