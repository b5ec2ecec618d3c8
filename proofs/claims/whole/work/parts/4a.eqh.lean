/-! a step, a run -/
theorem E_98 {B : Nat} {σ : St} (h : IV B σ) (hB : B + 1 < 2147483648) (u v : Int32) : m_step_98 (dec σ u v 0) = (if (x4_step_29 σ).1 = (0 : Int32) then dec (x4_step_29 σ).2 u v (x4_step_29 σ).1 else s_t6 (dec (x4_step_29 σ).2 u v (x4_step_29 σ).1) (g_pc σ)) ∧ PF (B + 1) σ (x4_step_29 σ).2 := by
  have hR : x4_step_29 σ = doX (x4_followXct (x4_advance σ) (x4_fetch σ (g_pc σ))) := rfl
  have ha : PF B σ (x4_advance σ) := (PF.rf h).s_pc (ad_in _)
  have E := E_does ha.1 hB u v (fw h (g_pc σ))
  rw [← hR] at E
  have e1 : m_does (s_pc (dec σ u v 0) (((g_pc (dec σ u v 0)) + (1 : Int32)) &&& (4095 : Int32))) ((g_cells (dec σ u v 0)) (Int32.toNatClampNeg (g_pc (dec σ u v 0)))) = dec (x4_step_29 σ).2 u v (x4_step_29 σ).1 := by
    rw [← E.1, fe h.i_pc]; rfl
  unfold m_step_98
  rw [e1, dg_ended]
  refine ⟨?_, ha.tr E.2⟩
  split
  · rfl
  · rfl
def stX (σ : St) : St := if (x4_step σ).1 = (0 : Int32) then x2_countStep (x4_step σ).2 else s_t6 (x2_countStep (x4_step σ).2) (g_pc σ)
theorem E_step {B : Nat} {σ : St} (h : IV B σ) (hB : B + 1 < 2147483648) : m_step (s_ended σ 0) = s_ended (stX σ) (x4_step σ).1 ∧ IV (B + 1) (stX σ) := by
  have hb : s_t7 (s_t0 (s_ended σ 0) ((g_t0 (s_ended σ 0)) + (1 : Int32))) ((g_t7 (s_ended σ 0)) + (1 : Int32)) = dec σ (g_t0 σ + 1) (g_t7 σ + 1) 0 := rfl
  have A := E_98 h hB (g_t0 σ + 1) (g_t7 σ + 1)
  have fin : ∀ R : Int32 × St, PF (B + 1) σ R.2 → (if R.1 = (0 : Int32) then dec R.2 (g_t0 σ + 1) (g_t7 σ + 1) R.1 else s_t6 (dec R.2 (g_t0 σ + 1) (g_t7 σ + 1) R.1) (g_pc σ)) = s_ended (if R.1 = (0 : Int32) then x2_countStep R.2 else s_t6 (x2_countStep R.2) (g_pc σ)) R.1 ∧ IV (B + 1) (if R.1 = (0 : Int32) then x2_countStep R.2 else s_t6 (x2_countStep R.2) (g_pc σ)) := by
    intro R hP
    unfold x2_countStep
    rw [hP.2.1, hP.2.2]
    by_cases c : R.1 = (0 : Int32)
    · rw [if_pos c, if_pos c]; exact ⟨rfl, (hP.1.s_t0 _).s_t7 _⟩
    · rw [if_neg c, if_neg c]; exact ⟨rfl, ((hP.1.s_t0 _).s_t7 _).s_t6 _⟩
  have go : x4_step σ = x4_step_29 σ → m_step_98 (dec σ (g_t0 σ + 1) (g_t7 σ + 1) 0) = s_ended (stX σ) (x4_step σ).1 ∧ IV (B + 1) (stX σ) := by
    intro e
    unfold stX
    rw [e, A.1]
    exact fin _ A.2
  obtain ⟨ja, hja, eja⟩ := vp_in_of h.i_asked (by decide)
  obtain ⟨jo, hjo, ejo⟩ := vp_in_of h.i_on (by decide)
  obtain ⟨ju, hju, eju⟩ := vp_in_of h.i_under (by decide)
  unfold m_step
  rw [hb, show g_asked (s_ended σ 0) = nI ja from eja, show g_on (s_ended σ 0) = nI jo from ejo, show g_under (s_ended σ 0) = nI ju from eju]
  rcases (show ja = 0 ∨ ja = 1 by omega) with z | z
  · subst z
    rw [if_pos (show nI 0 = (0 : Int32) from rfl)]
    exact go (by unfold x4_step; rw [eja, if_neg (show ¬ nI 0 = (1 : Int32) by decide)])
  · subst z
    rw [if_neg (show ¬ nI 1 = (0 : Int32) by decide)]
    rcases (show jo = 0 ∨ jo = 1 by omega) with y | y
    · subst y
      rw [if_pos (show nI 0 = (0 : Int32) from rfl)]
      exact go (by unfold x4_step; rw [eja, ejo, if_pos (show nI 1 = (1 : Int32) from rfl), if_neg (show ¬ nI 0 = (1 : Int32) by decide)])
    · subst y
      rw [if_neg (show ¬ nI 1 = (0 : Int32) by decide)]
      rcases (show ju = 0 ∨ ju = 1 by omega) with x | x
      · subst x
        rw [if_pos (show nI 0 = (0 : Int32) from rfl)]
        have e0 : x4_step σ = ((0 : Int32), x4_beginBreak σ) := by
          unfold x4_step
          rw [eja, ejo, eju, if_pos (show nI 1 = (1 : Int32) from rfl), if_pos (show nI 1 = (1 : Int32) from rfl), if_pos (show nI 0 = (0 : Int32) from rfl)]
        have i0 : vp_in (0 : Int32) 4096 := by unfold vp_in; decide
        have i1 : vp_in (1 : Int32) 4096 := by unfold vp_in; decide
        have i2 : vp_in (2 : Int32) 4096 := by unfold vp_in; decide
        have P1 := (PF.rf h).store 0 h.i_ac
        have P2 := P1.store 1 (w_place P1.1)
        have P3 := P2.store 2 h.i_io
        have P4 := (((P3.s_pc (show vp_in (3 : Int32) 4096 by unfold vp_in; decide)).s_under (show vp_in (1 : Int32) 2 by unfold vp_in; decide)).s_asked (show vp_in (0 : Int32) 2 by unfold vp_in; decide)).s_t1 (g_t1 σ + 1)
        have ep : m_place (s_cells (dec σ (g_t0 σ + 1) (g_t7 σ + 1) 0) (upd (g_cells σ) (Int32.toNatClampNeg (0 : Int32)) (g_ac σ))) = x4_place (x4_store σ (0 : Int32) (g_ac σ)) := by
          rw [ds_cells, ← se i0]; exact E_place P1.1 _ _ _
        have eb : x4_beginBreak σ = (s_t1 (s_asked (s_under (s_pc (x4_store (x4_store (x4_store σ (0 : Int32) (g_ac σ)) (1 : Int32) (x4_place (x4_store σ (0 : Int32) (g_ac σ)))) (2 : Int32) (g_io σ)) (3 : Int32)) (1 : Int32)) (0 : Int32)) ((g_t1 σ) + (1 : Int32))) := rfl
        have f := fin ((0 : Int32), x4_beginBreak σ) (by rw [eb]; exact P4.mono (by omega) (by omega))
        unfold stX
        rw [e0]
        refine ⟨?_, f.2⟩
        refine Eq.trans ?_ f.1
        rw [if_pos rfl, eb, se i0, se i1, se i2]
        show s_t1 (s_asked (s_under (s_pc (s_cells (s_cells (s_cells (dec σ (g_t0 σ + 1) (g_t7 σ + 1) 0) (upd (g_cells σ) (Int32.toNatClampNeg (0 : Int32)) (g_ac σ))) (upd (upd (g_cells σ) (Int32.toNatClampNeg (0 : Int32)) (g_ac σ)) (Int32.toNatClampNeg (1 : Int32)) (m_place (s_cells (dec σ (g_t0 σ + 1) (g_t7 σ + 1) 0) (upd (g_cells σ) (Int32.toNatClampNeg (0 : Int32)) (g_ac σ)))))) (upd (upd (upd (g_cells σ) (Int32.toNatClampNeg (0 : Int32)) (g_ac σ)) (Int32.toNatClampNeg (1 : Int32)) (m_place (s_cells (dec σ (g_t0 σ + 1) (g_t7 σ + 1) 0) (upd (g_cells σ) (Int32.toNatClampNeg (0 : Int32)) (g_ac σ))))) (Int32.toNatClampNeg (2 : Int32)) (g_io σ))) (3 : Int32)) (1 : Int32)) (0 : Int32)) ((g_t1 σ) + (1 : Int32)) = _
        rw [ep, se i0]
        rfl
      · subst x
        rw [if_neg (show ¬ nI 1 = (0 : Int32) by decide)]
        exact go (by unfold x4_step; rw [eja, ejo, eju, if_pos (show nI 1 = (1 : Int32) from rfl), if_pos (show nI 1 = (1 : Int32) from rfl), if_neg (show ¬ nI 1 = (0 : Int32) by decide)])
theorem MI_of {B : Nat} {σ : St} (h : IV B σ) (hB : B < 2147483648) (r : Int32) : MI (s_ended σ r) ∧ vp_in (g_pc (s_ended σ r)) 4096 := by
  refine ⟨⟨h.i_cnt, h.i_taken, h.i_outs, ?_⟩, h.i_pc⟩
  have q := h.i_pts
  show vp_in (g_pts σ) 2147483647
  rw [vp_in_iff] at q ⊢
  omega
theorem MOK_of : ∀ (n B : Nat) (σ : St) (r : Int32), IV B σ → B + n < 2147483648 → MOK n (s_ended σ r) := by
  intro n
  induction n with
  | zero => intro B σ r _ _; exact trivial
  | succ n ih =>
    intro B σ r h hB
    refine ⟨MI_of h (by omega) r, fun hr => ?_⟩
    have hr : r = 0 := hr
    subst hr
    have E := E_step h (by omega)
    rw [E.1]
    exact ih (B + 1) (stX σ) _ E.2 (by omega)
theorem E_loop (T : Nat) (hT : T < 10000) : ∀ (n k B : Nat) (σ : St) (r : Int32), k + n = T + 1 → k ≤ T → IV B σ → B + n < 2147483648 →
    m_run_52 n (s_ended σ r) (nI T) (nI k) = ((x4_run_25 n σ (nI T) r (nI k)).1, s_ended (x4_run_25 n σ (nI T) r (nI k)).2 (x4_run_25 n σ (nI T) r (nI k)).1) ∧ IV (B + n) (x4_run_25 n σ (nI T) r (nI k)).2 := by
  intro n
  induction n with
  | zero => intro k B σ r h1 h2; omega
  | succ n ih =>
    intro k B σ r h1 h2 h hB
    have up : IV (B + (n + 1)) σ := h.mono (by omega) (by omega)
    rw [m_run_52, x4_run_25]
    show (if nI T ≤ nI k then (r, s_ended σ r) else (if r = (0 : Int32) then m_run_52 n (m_step (s_ended σ r)) (nI T) (nI k + (1 : Int32)) else (r, s_ended σ r))) = _ ∧ _
    by_cases q : T ≤ k
    · rw [if_pos (nI_le q (by omega)), if_pos (nI_le q (by omega))]
      exact ⟨rfl, up⟩
    · rw [if_neg (nI_ge (by omega) (by omega)), if_neg (nI_ge (by omega) (by omega))]
      by_cases c : r = (0 : Int32)
      · subst c
        have E := E_step h (by omega)
        have e1 : (if (x4_step σ).1 = (0 : Int32) then x4_run_25 n (x2_countStep (x4_step σ).2) (nI T) (x4_step σ).1 (nI k + (1 : Int32)) else x4_run_25 n (s_t6 (x2_countStep (x4_step σ).2) (g_pc σ)) (nI T) (x4_step σ).1 (nI k + (1 : Int32))) = x4_run_25 n (stX σ) (nI T) (x4_step σ).1 (nI (k + 1)) := by
          unfold stX
          rw [nI_1]
          by_cases d : (x4_step σ).1 = (0 : Int32)
          · rw [if_pos d, if_pos d]
          · rw [if_neg d, if_neg d]
        rw [if_pos rfl, if_pos rfl, e1, E.1, nI_1]
        have z := ih (k + 1) (B + 1) (stX σ) (x4_step σ).1 (by omega) (by omega) E.2 (by omega)
        rw [show B + (n + 1) = B + 1 + n by omega]
        exact z
      · rw [if_neg c, if_neg c]
        exact ⟨rfl, up⟩
theorem in_e {a : Int32} : (m_in a (1 : Int32) (5000 : Int32)) = (0 : Int32) ↔ ¬ (¬ a < (1 : Int32) ∧ a ≤ (5000 : Int32)) := by
  unfold m_in
  by_cases c1 : a < (1 : Int32)
  · rw [if_pos c1]; exact ⟨fun _ q => q.1 c1, fun _ => rfl⟩
  · rw [if_neg c1]
    by_cases c2 : (5000 : Int32) < a
    · rw [if_pos c2]
      exact ⟨fun _ q => absurd c2 (Int32.not_lt.mpr q.2), fun _ => rfl⟩
    · rw [if_neg c2]
      exact ⟨fun q => absurd q (by decide), fun q => absurd ⟨c1, Int32.not_lt.mp c2⟩ q⟩
theorem E_run {B : Nat} {σ : St} (h : IV B σ) (hB : B + 5001 < 2147483648) (a : Int32) : (∃ r, m_run σ a = ((x4_run σ a).1, s_ended (x4_run σ a).2 r)) ∧ IV (B + 5001) (x4_run σ a).2 ∧ (¬ m_in a (1 : Int32) (5000 : Int32) = (0 : Int32) → MOK (Int32.toNatClampNeg a + 1) (m_reset σ)) := by
  have hb : IV B (x2_begin σ) := h
  unfold m_run x4_run
  by_cases c1 : a < (1 : Int32)
  · have z : m_in a (1 : Int32) (5000 : Int32) = (0 : Int32) := in_e.mpr (fun q => q.1 c1)
    rw [if_pos z, if_pos c1]
    exact ⟨⟨g_ended σ, rfl⟩, h.mono (by omega) (by omega), fun q => absurd z q⟩
  · by_cases c2 : a ≤ (5000 : Int32)
    · have z : ¬ m_in a (1 : Int32) (5000 : Int32) = (0 : Int32) := fun q => in_e.mp q ⟨c1, c2⟩
      rw [if_neg z, if_neg c1, if_pos c2]
      have c0 : ¬ a < (0 : Int32) := fun q => c1 (by
        have := Int32.lt_iff_toInt_lt.mp q
        apply Int32.lt_iff_toInt_lt.mpr
        have e0 : (0 : Int32).toInt = 0 := by decide
        have e1 : (1 : Int32).toInt = 1 := by decide
        omega)
      obtain ⟨T, hT, rfl⟩ := nI_of2 (M := 5000) (n := 5000) (by decide) c0 c2
      rw [nI_clamp (by omega)]
      have L := E_loop T (by omega) (T + 1) 0 B (x2_begin σ) 0 (by omega) (by omega) hb (by omega)
      refine ⟨⟨_, L.1⟩, L.2.mono (by omega) (by omega), fun _ => ?_⟩
      exact MOK_of (T + 1) B (x2_begin σ) 0 hb (by omega)
    · have z : m_in a (1 : Int32) (5000 : Int32) = (0 : Int32) := in_e.mpr (fun q => c2 q.2)
      rw [if_pos z, if_neg c1, if_neg c2]
      exact ⟨⟨g_ended σ, rfl⟩, h.mono (by omega) (by omega), fun q => absurd z q⟩
