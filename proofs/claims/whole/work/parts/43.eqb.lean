theorem or5 {B : Nat} {σ : St} (h : IV B σ) (a : Int32) (m : Int32) {w : Int32} (hw : Wd w) (m2 : Int32) : Wd (((x4_fetch σ a) &&& m) ||| (w &&& m2)) := or_w (and_w _ (fw h a)) (and_w _ hw)
theorem E_mem {B : Nat} {σ : St} (h : IV B σ) (u v e : Int32) {a : Int32} (ha : vp_in a 4096) {k : Int32} (hk : k = 1 ∨ k = 2 ∨ k = 3 ∨ k = 8 ∨ k = 9 ∨ k = 10 ∨ k = 11 ∨ k = 12 ∨ k = 13 ∨ k = 14 ∨ k = 16 ∨ k = 17 ∨ k = 18 ∨ k = 19 ∨ k = 20 ∨ k = 21 ∨ k = 22 ∨ k = 23 ∨ k = 24 ∨ k = 25) : m_ofMemory (dec σ u v e) k a = dec (x4_performAt σ k a) u v e ∧ PF B σ (x4_performAt σ k a) := by
  have P := PF.rf h
  have hf := fw h a
  have hc : g_cells σ (Int32.toNatClampNeg a) = x4_fetch σ a := (fe ha).symm
  rcases hk with rfl | rfl | rfl | rfl | rfl | rfl | rfl | rfl | rfl | rfl | rfl | rfl | rfl | rfl | rfl | rfl | rfl | rfl | rfl | rfl
  · refine ⟨?_, P.s_ac (and_w _ h.i_ac)⟩
    show s_ac (dec σ u v e) (g_ac σ &&& g_cells σ (Int32.toNatClampNeg a)) = dec (s_ac σ (g_ac σ &&& x4_fetch σ a)) u v e
    rw [hc]; rfl
  · refine ⟨?_, P.s_ac (or_w h.i_ac hf)⟩
    show s_ac (dec σ u v e) (g_ac σ ||| g_cells σ (Int32.toNatClampNeg a)) = dec (s_ac σ (g_ac σ ||| x4_fetch σ a)) u v e
    rw [hc]; rfl
  · refine ⟨?_, P.s_ac (xor_w h.i_ac hf)⟩
    show s_ac (dec σ u v e) (g_ac σ ^^^ g_cells σ (Int32.toNatClampNeg a)) = dec (s_ac σ (g_ac σ ^^^ x4_fetch σ a)) u v e
    rw [hc]; rfl
  · refine ⟨?_, P.s_ac hf⟩
    show s_ac (dec σ u v e) (g_cells σ (Int32.toNatClampNeg a)) = dec (s_ac σ (x4_fetch σ a)) u v e
    rw [hc]; rfl
  · refine ⟨?_, P.s_io hf⟩
    show s_io (dec σ u v e) (g_cells σ (Int32.toNatClampNeg a)) = dec (s_io σ (x4_fetch σ a)) u v e
    rw [hc]; rfl
  · refine ⟨?_, P.store a h.i_ac⟩
    show s_cells (dec σ u v e) (upd (g_cells σ) (Int32.toNatClampNeg a) (g_ac σ)) = dec (x4_store σ a (g_ac σ)) u v e
    rw [se ha]; rfl
  · refine ⟨?_, P.store a (or5 h a (-4096) h.i_ac 4095)⟩
    show s_cells (dec σ u v e) (upd (g_cells σ) (Int32.toNatClampNeg a) (((g_cells σ (Int32.toNatClampNeg a)) &&& (-4096 : Int32)) ||| ((g_ac σ) &&& (4095 : Int32)))) = dec (x4_store σ a (((x4_fetch σ a) &&& (-4096 : Int32)) ||| ((g_ac σ) &&& (4095 : Int32)))) u v e
    rw [se ha, hc]; rfl
  · refine ⟨?_, P.store a (or5 h a 4095 h.i_ac (-4096))⟩
    show s_cells (dec σ u v e) (upd (g_cells σ) (Int32.toNatClampNeg a) (((g_cells σ (Int32.toNatClampNeg a)) &&& (4095 : Int32)) ||| ((g_ac σ) &&& (-4096 : Int32)))) = dec (x4_store σ a (((x4_fetch σ a) &&& (4095 : Int32)) ||| ((g_ac σ) &&& (-4096 : Int32)))) u v e
    rw [se ha, hc]; rfl
  · refine ⟨?_, P.store a h.i_io⟩
    show s_cells (dec σ u v e) (upd (g_cells σ) (Int32.toNatClampNeg a) (g_io σ)) = dec (x4_store σ a (g_io σ)) u v e
    rw [se ha]; rfl
  · refine ⟨?_, P.store a (wd_nI (n := 0) (by decide))⟩
    show s_cells (dec σ u v e) (upd (g_cells σ) (Int32.toNatClampNeg a) (0 : Int32)) = dec (x4_store σ a (0 : Int32)) u v e
    rw [se ha]; rfl
  · refine ⟨?_, (P.ovf _ _ _).s_ac (mz_w (sm_w h.i_ac hf))⟩
    show s_ac (m_overflows (dec σ u v e) (g_ac σ) (g_cells σ (Int32.toNatClampNeg a))) (m_plain (m_sum (g_ac (m_overflows (dec σ u v e) (g_ac σ) (g_cells σ (Int32.toNatClampNeg a)))) (g_cells σ (Int32.toNatClampNeg a)))) = dec (x4_add σ (x4_fetch σ a)) u v e
    rw [hc, E_ovf σ u v e h.i_ac hf]
    unfold x4_add x4_noteOverflow
    split
    · split <;> rfl
    · rfl
  · refine ⟨?_, (P.ovf _ _ _).s_ac (nt_w (sm_w (nt_w h.i_ac) hf))⟩
    show s_ac (m_overflows (dec σ u v e) (m_not (g_ac σ)) (g_cells σ (Int32.toNatClampNeg a))) (m_not (m_sum (m_not (g_ac (m_overflows (dec σ u v e) (m_not (g_ac σ)) (g_cells σ (Int32.toNatClampNeg a))))) (g_cells σ (Int32.toNatClampNeg a)))) = dec (x4_subtract σ (x4_fetch σ a)) u v e
    rw [hc, show m_not (g_ac σ) = x4_not (g_ac σ) from rfl, E_ovf σ u v e (nt_w h.i_ac) hf]
    unfold x4_subtract x4_noteOverflow
    split
    · split <;> rfl
    · rfl
  · exact ⟨E_index h u v e ha, P.index a⟩
  · refine ⟨?_, ?_⟩
    · show (if (m_sign (g_ac (m_index (dec σ u v e) a))) = (0 : Int32) then m_ofMemory_346 (m_index (dec σ u v e) a) (1 : Int32) else m_ofMemory_346 (m_index (dec σ u v e) a) (0 : Int32)) = dec (if (x4_signOf (g_ac (x4_index σ a))) = (0 : Int32) then x4_performAt_297 (x4_index σ a) (1 : Int32) else x4_performAt_297 (x4_index σ a) (0 : Int32)) u v e
      rw [E_index h u v e ha, dg_ac, sg (P.index a).1.i_ac]
      unfold m_ofMemory_346 x4_performAt_297
      rw [E_skip, E_skip]
      split <;> rfl
    · show PF B σ (if (x4_signOf (g_ac (x4_index σ a))) = (0 : Int32) then x4_performAt_297 (x4_index σ a) (1 : Int32) else x4_performAt_297 (x4_index σ a) (0 : Int32))
      split
      · exact (P.index a).skip _
      · exact (P.index a).skip _
  · refine ⟨?_, ?_⟩
    · show (if (g_ac σ) = (g_cells σ (Int32.toNatClampNeg a)) then m_ofMemory_366 (dec σ u v e) (0 : Int32) else m_ofMemory_366 (dec σ u v e) (1 : Int32)) = dec (if (g_ac σ) = (x4_fetch σ a) then x4_performAt_317 σ (0 : Int32) else x4_performAt_317 σ (1 : Int32)) u v e
      rw [hc]
      unfold m_ofMemory_366 x4_performAt_317
      rw [E_skip, E_skip]
      split <;> rfl
    · show PF B σ (if (g_ac σ) = (x4_fetch σ a) then x4_performAt_317 σ (0 : Int32) else x4_performAt_317 σ (1 : Int32))
      split
      · exact P.skip _
      · exact P.skip _
  · refine ⟨?_, ?_⟩
    · show (if (g_ac σ) = (g_cells σ (Int32.toNatClampNeg a)) then m_ofMemory_386 (dec σ u v e) (1 : Int32) else m_ofMemory_386 (dec σ u v e) (0 : Int32)) = dec (if (g_ac σ) = (x4_fetch σ a) then x4_performAt_337 σ (1 : Int32) else x4_performAt_337 σ (0 : Int32)) u v e
      rw [hc]
      unfold m_ofMemory_386 x4_performAt_337
      rw [E_skip, E_skip]
      split <;> rfl
    · show PF B σ (if (g_ac σ) = (x4_fetch σ a) then x4_performAt_337 σ (1 : Int32) else x4_performAt_337 σ (0 : Int32))
      split
      · exact P.skip _
      · exact P.skip _
  · have q := E_mul h u v e hf
    refine ⟨?_, q.2⟩
    show m_multiplies (dec σ u v e) (g_cells σ (Int32.toNatClampNeg a)) = dec (x4_multiplyStep σ (x4_fetch σ a)) u v e
    rw [hc]; exact q.1
  · have q := E_div h u v e hf
    refine ⟨?_, q.2⟩
    show m_divides (dec σ u v e) (g_cells σ (Int32.toNatClampNeg a)) = dec (x4_divideStep σ (x4_fetch σ a)) u v e
    rw [hc]; exact q.1
  · exact ⟨rfl, P.s_pc ha⟩
  · refine ⟨?_, (P.s_ac (w_place h)).s_pc ha⟩
    show s_pc (s_ac (dec σ u v e) (m_place (dec σ u v e))) a = dec (s_pc (s_ac σ (x4_place σ)) a) u v e
    rw [E_place h]; rfl
/-- chains -/
def cnv (r : Int32) : Int32 := if r = (-9 : Int32) then (-1 : Int32) else r
theorem E_chain {B : Nat} (u v e : Int32) : ∀ (n k : Nat) (σ : St) (w : Int32), IV B σ → Wd w → k + n = 33 → k ≤ 32 →
    m_addressOf_25 n (dec σ u v e) (w &&& (4095 : Int32)) (x4_hasI w) (nI k) = (cnv (x4_addressOf_4 n σ w (nI k)).1, dec (x4_addressOf_4 n σ w (nI k)).2 u v e) ∧ ((x4_addressOf_4 n σ w (nI k)).1 = (-9 : Int32) ∨ vp_in (x4_addressOf_4 n σ w (nI k)).1 4096) ∧ PF B σ (x4_addressOf_4 n σ w (nI k)).2 := by
  intro n
  induction n with
  | zero => intro k σ w _ _ h1 h2; omega
  | succ n ih =>
    intro k σ w h hw h1 h2
    rw [m_addressOf_25, x4_addressOf_4]
    unfold x4_addressOf_45
    have hy : vp_in (x4_yOf w) 4096 := ad_in w
    have hny : ¬ (x4_yOf w) = (-9 : Int32) := fun q => by rw [q] at hy; exact absurd hy (by unfold vp_in; decide)
    by_cases c1 : x4_hasI w = (0 : Int32)
    · rw [if_pos c1, if_pos c1, if_pos c1, ite_self]
      exact ⟨by unfold cnv; rw [if_neg hny]; rfl, Or.inr hy, PF.rf h⟩
    · rw [if_neg c1, if_neg c1, if_neg c1]
      by_cases c2 : k = 32
      · subst c2
        rw [if_pos (show nI 32 = (32 : Int32) from rfl), if_pos (show (32 : Int32) ≤ nI 32 by decide)]
        exact ⟨rfl, Or.inl rfl, PF.rf h⟩
      · rw [if_neg (show ¬ nI k = (32 : Int32) from nI_ne (b := 32) (by omega) (by decide) c2), if_neg (show ¬ (32 : Int32) ≤ nI k from nI_ge (b := 32) (by omega) (by decide))]
        have hc : x4_fetch σ (x4_yOf w) = g_cells σ (Int32.toNatClampNeg (w &&& (4095 : Int32))) := fe hy
        have wc := h.i_cells (Int32.toNatClampNeg (w &&& (4095 : Int32)))
        simp only [dg_ac, dg_io, dg_pc, dg_ov, dg_flags, dg_on, dg_asked, dg_under, dg_sw, dg_test, dg_cells, dg_row, dg_out, dg_px, dg_py, dg_cnt, dg_taken, dg_outs, dg_lost, dg_pts, dg_t1, dg_t2, dg_t3, dg_t4, dg_t5, dg_t6, dg_ended, ds_ac, ds_io, ds_pc, ds_ov, ds_flags, ds_on, ds_asked, ds_under, ds_sw, ds_test, ds_cells, ds_row, ds_out, ds_px, ds_py, ds_cnt, ds_taken, ds_outs, ds_lost, ds_pts, ds_t1, ds_t2, ds_t3, ds_t4, ds_t5, ds_t6, ds_ended]
        rw [hc, hi wc, nI_1]
        have q := ih (k + 1) (s_t2 σ (g_t2 σ + (1 : Int32))) _ (h.s_t2 _) wc (by omega) (by omega)
        have e1 : (if x4_hasI (g_cells σ (Int32.toNatClampNeg (w &&& (4095 : Int32)))) = (1 : Int32) then m_addressOf_25 n (dec (s_t2 σ (g_t2 σ + (1 : Int32))) u v e) (g_cells σ (Int32.toNatClampNeg (w &&& (4095 : Int32))) &&& (4095 : Int32)) (1 : Int32) (nI (k + 1)) else m_addressOf_25 n (dec (s_t2 σ (g_t2 σ + (1 : Int32))) u v e) (g_cells σ (Int32.toNatClampNeg (w &&& (4095 : Int32))) &&& (4095 : Int32)) (0 : Int32) (nI (k + 1))) = m_addressOf_25 n (dec (s_t2 σ (g_t2 σ + (1 : Int32))) u v e) (g_cells σ (Int32.toNatClampNeg (w &&& (4095 : Int32))) &&& (4095 : Int32)) (x4_hasI (g_cells σ (Int32.toNatClampNeg (w &&& (4095 : Int32))))) (nI (k + 1)) := by
          rcases hi2 (g_cells σ (Int32.toNatClampNeg (w &&& (4095 : Int32)))) with z | z
          · rw [z, if_neg (by decide)]
          · rw [z, if_pos rfl]
        rw [e1]
        exact ⟨q.1, q.2.1, ((PF.rf h).s_t2 _).tr q.2.2⟩
theorem E_addr {B : Nat} {σ : St} (h : IV B σ) (u v e : Int32) {w : Int32} (hw : Wd w) : m_addressOf (dec σ u v e) w = (cnv (x4_addressOf σ w).1, dec (x4_addressOf σ w).2 u v e) ∧ ((x4_addressOf σ w).1 = (-9 : Int32) ∨ vp_in (x4_addressOf σ w).1 4096) ∧ PF B σ (x4_addressOf σ w).2 := by
  have q := E_chain (B := B) u v e 33 0 σ w h hw rfl (by decide)
  unfold m_addressOf x4_addressOf
  rw [hi hw]
  have e1 : (if x4_hasI w = (1 : Int32) then m_addressOf_25 33 (dec σ u v e) (w &&& (4095 : Int32)) (1 : Int32) (0 : Int32) else m_addressOf_25 33 (dec σ u v e) (w &&& (4095 : Int32)) (0 : Int32) (0 : Int32)) = m_addressOf_25 33 (dec σ u v e) (w &&& (4095 : Int32)) (x4_hasI w) (nI 0) := by
    rcases hi2 w with z | z
    · rw [z, if_neg (by decide)]; rfl
    · rw [z, if_pos rfl]; rfl
  rw [e1]
  exact q
