def m_transfers_225 (σ : St) (z1_225 : Int32) (z2_225 : Int32) : St := (s_taken σ (z1_225 + z2_225))
def m_transfers_201 (σ : St) (z1_201 : Int32) : St := (if (g_cnt σ) ≤ (g_taken σ) then m_transfers_225 (s_io σ z1_201) (g_taken σ) (0 : Int32) else m_transfers_225 (s_io σ z1_201) (g_taken σ) (1 : Int32))
def m_transfers (σ : St) (a1 : Int32) : St := (if (a1 &&& (63 : Int32)) = (3 : Int32) then (if (g_outs σ) = (64 : Int32) then (s_lost σ ((g_lost σ) + (1 : Int32))) else (s_outs (s_out σ (upd (g_out σ) (Int32.toNatClampNeg (g_outs σ)) ((g_io σ) &&& (63 : Int32)))) ((g_outs σ) + (1 : Int32)))) else (if (a1 &&& (63 : Int32)) = (4 : Int32) then (if (g_cnt σ) ≤ (g_taken σ) then m_transfers_201 σ (0 : Int32) else m_transfers_201 σ ((g_row σ) (Int32.toNatClampNeg (g_taken σ)))) else (if (a1 &&& (63 : Int32)) = (7 : Int32) then (s_t3 (s_pts (s_py (s_px σ (upd (g_px σ) (Int32.toNatClampNeg ((g_pts σ) - (g_pts σ) / (64 : Int32) * (64 : Int32))) ((g_ac σ) >>> ((8 : Int32) &&& 31)))) (upd (g_py σ) (Int32.toNatClampNeg ((g_pts σ) - (g_pts σ) / (64 : Int32) * (64 : Int32))) ((g_io σ) >>> ((8 : Int32) &&& 31)))) ((g_pts σ) + (1 : Int32))) ((g_t3 σ) + (1 : Int32))) else (if (a1 &&& (63 : Int32)) = (44 : Int32) then (s_on σ (0 : Int32)) else (if (a1 &&& (63 : Int32)) = (45 : Int32) then (s_on σ (1 : Int32)) else (if (a1 &&& (63 : Int32)) = (46 : Int32) then (s_asked σ (0 : Int32)) else σ))))))
set_option maxRecDepth 100000 in
set_option maxHeartbeats 8000000 in
theorem kX5_transfers (l : Launch) (D : va_G) (cI : ClassId) (h : Nat → Nat) (σ : St) (a1 : Int32) (hM : MI σ) : MetV l yX5_transfers (wsU yX5_transfers cX5_transfers 2 none) { frames := 0, cells := 0, slots := 0, locals := 0 } D cI [.ref (h 0), .int a1] (wM h cI σ) (fun u : St => wM h cI u) (fun u => (m_transfers σ a1) = u) := by
  refine MetV.of (by decide) (Nat.le_of_ble_eq_true rfl) ?_
  intro p e s m below meth c A Q ls hx hb hml hown hts hK hN hA hret hP hD hS hl
  have hown : s.vm.findClass RX5 = some m.cls := hown
  have hl : lv_has ls 2 [(0, .ref (h 0)), (1, .int a1)] := hl
  have J_225 : ∀ (σ' : St) (z1_225 : Int32) (z2_225 : Int32) (H : Heap) (locs : List Loc) (ls : Array Slot), m_transfers σ a1 = m_transfers_225 σ' z1_225 z2_225 → lv_has ls 2 [(0, .ref (h 0))] → va_P D vwCl (wM h cI σ') H → va_D A (wM h cI σ') → va_S A s.heap H locs → W p l e ({ frames := 0, cells := 0, slots := 0, locals := 0 } : Room) s m (([.ref (h 0), .int a1] : List Value).toArray) below meth c H locs 0 0 Q (F0 m 225 ls [.int z2_225, .int z1_225, .ref (h 0)]) := by
    intro σ' z1_225 z2_225 H locs ls E hl hP hD hS
    refine lv_iadd hx hb dX5_transfers_225 ?_
    refine pM_taken hx hb hts hown hK hP hD hS kw_464 dX5_transfers_226 (fun H locs hP hD hS => ?_)
    refine lv_goto (tgt := 256) hx hb dX5_transfers_229 (by decide) ?_
    have hE : m_transfers σ a1 = (s_taken σ' (z1_225 + z2_225)) := (E.trans (by unfold m_transfers_225; rfl))
    exact hret (s_taken σ' (z1_225 + z2_225)) _ _ _ _ hE hP hD hS dX5_transfers_256
  have J_201 : ∀ (σ' : St) (z1_201 : Int32) (H : Heap) (locs : List Loc) (ls : Array Slot), m_transfers σ a1 = m_transfers_201 σ' z1_201 → lv_has ls 2 [(0, .ref (h 0))] → va_P D vwCl (wM h cI σ') H → va_D A (wM h cI σ') → va_S A s.heap H locs → W p l e ({ frames := 0, cells := 0, slots := 0, locals := 0 } : Room) s m (([.ref (h 0), .int a1] : List Value).toArray) below meth c H locs 0 0 Q (F0 m 201 ls [.int z1_201, .ref (h 0)]) := by
    intro σ' z1_201 H locs ls E hl hP hD hS
    refine pM_io hx hb hts hown hK hP hD hS kw_453 dX5_transfers_201 (fun H locs hP hD hS => ?_)
    refine lv_aload_n hx hb dX5_transfers_204 rfl (lv_at hl 0 rfl) ?_
    refine lv_dup hx hb dX5_transfers_205 rfl ?_
    refine gM_taken (v := (g_taken σ')) hx hb hts hown hK hP kw_464 rfl dX5_transfers_206 ?_
    refine lv_aload_n hx hb dX5_transfers_209 rfl (lv_at hl 0 rfl) ?_
    refine gM_taken (v := (g_taken σ')) hx hb hts hown hK hP kw_464 rfl dX5_transfers_210 ?_
    refine lv_aload_n hx hb dX5_transfers_213 rfl (lv_at hl 0 rfl) ?_
    refine gM_cnt (v := (g_cnt σ')) hx hb hts hown hK hP kw_463 rfl dX5_transfers_214 ?_
    refine lv_icmp_ge (tgt := 224) hx hb dX5_transfers_217 (by decide) (fun c_217_4 => ?_) (fun c_217_4 => ?_)
    · have c_217_4 : (g_cnt σ') ≤ (g_taken σ') := c_217_4
      refine lv_iconst (v := (0 : Int32)) hx hb dX5_transfers_224 (by decide) ?_
      exact J_225 (s_io σ' z1_201) (g_taken σ') (0 : Int32) _ _ _ (E.trans (by unfold m_transfers_201; rw [if_pos c_217_4])) (lv_sub hl [0] rfl) hP hD hS
    · have c_217_4 : ¬ ((g_cnt σ') ≤ (g_taken σ')) := c_217_4
      refine lv_iconst (v := (1 : Int32)) hx hb dX5_transfers_220 (by decide) ?_
      refine lv_goto (tgt := 225) hx hb dX5_transfers_221 (by decide) ?_
      exact J_225 (s_io σ' z1_201) (g_taken σ') (1 : Int32) _ _ _ (E.trans (by unfold m_transfers_201; rw [if_neg c_217_4])) (lv_sub hl [0] rfl) hP hD hS
  suffices go : ∀ (H : Heap) (locs : List Loc), va_P D vwCl (wM h cI σ) H → va_D A (wM h cI σ) → va_S A s.heap H locs → W p l e ({ frames := 0, cells := 0, slots := 0, locals := 0 } : Room) s m (([.ref (h 0), .int a1] : List Value).toArray) below meth c H locs 0 0 Q (F0 m 0 ls []) from go _ _ hP hD hS
  intro H locs hP hD hS
  refine lv_iload_n hx hb dX5_transfers_0 rfl (lv_at hl 1 rfl) ?_
  refine lv_bipush (v := (63 : Int32)) hx hb dX5_transfers_1 (by decide) ?_
  refine lv_iand hx hb dX5_transfers_3 ?_
  by_cases s_4_1_0 : (a1 &&& (63 : Int32)) = (3 : Int32)
  · refine lv_lookup (off := 121) (tgt := 125) hx hb dX5_transfers_4 (by decide) (by rw [s_4_1_0]; rfl) (by decide) ?_
    refine lv_aload_n hx hb dX5_transfers_125 rfl (lv_at hl 0 rfl) ?_
    refine gM_outs (v := (g_outs σ)) hx hb hts hown hK hP kw_466 rfl dX5_transfers_126 ?_
    refine lv_bipush (v := (64 : Int32)) hx hb dX5_transfers_129 (by decide) ?_
    refine lv_icmp_ne (tgt := 147) hx hb dX5_transfers_131 (by decide) (fun c_131_2 => ?_) (fun c_131_2 => ?_)
    · have c_131_2 : ¬ ((g_outs σ) = (64 : Int32)) := c_131_2
      refine lv_aload_n hx hb dX5_transfers_147 rfl (lv_at hl 0 rfl) ?_
      refine gM_ref3 hx hb hts hown hK hP kw_465 dX5_transfers_148 ?_
      refine lv_aload_n hx hb dX5_transfers_151 rfl (lv_at hl 0 rfl) ?_
      refine gM_outs (v := (g_outs σ)) hx hb hts hown hK hP kw_466 rfl dX5_transfers_152 ?_
      refine lv_aload_n hx hb dX5_transfers_155 rfl (lv_at hl 0 rfl) ?_
      refine gM_io (v := (g_io σ)) hx hb hts hown hK hP kw_453 rfl dX5_transfers_156 ?_
      refine lv_bipush (v := (63 : Int32)) hx hb dX5_transfers_159 (by decide) ?_
      refine lv_iand hx hb dX5_transfers_161 ?_
      refine bM_out (f := (g_out σ)) hx hb hK hP hD hS (vp_ne hM.2.2.1 (by assumption) (by decide)) rfl dX5_transfers_162 (fun H locs hP hD hS => ?_)
      refine lv_aload_n hx hb dX5_transfers_163 rfl (lv_at hl 0 rfl) ?_
      refine lv_dup hx hb dX5_transfers_164 rfl ?_
      refine gM_outs (v := (g_outs σ)) hx hb hts hown hK hP kw_466 rfl dX5_transfers_165 ?_
      refine lv_iconst (v := (1 : Int32)) hx hb dX5_transfers_168 (by decide) ?_
      refine lv_iadd hx hb dX5_transfers_169 ?_
      refine pM_outs hx hb hts hown hK hP hD hS kw_466 dX5_transfers_170 (fun H locs hP hD hS => ?_)
      refine lv_goto (tgt := 256) hx hb dX5_transfers_173 (by decide) ?_
      have hE : m_transfers σ a1 = (s_outs (s_out σ (upd (g_out σ) (Int32.toNatClampNeg (g_outs σ)) ((g_io σ) &&& (63 : Int32)))) ((g_outs σ) + (1 : Int32))) := (by unfold m_transfers; rw [if_pos s_4_1_0, if_neg c_131_2])
      exact hret (s_outs (s_out σ (upd (g_out σ) (Int32.toNatClampNeg (g_outs σ)) ((g_io σ) &&& (63 : Int32)))) ((g_outs σ) + (1 : Int32))) _ _ _ _ hE hP hD hS dX5_transfers_256
    · have c_131_2 : (g_outs σ) = (64 : Int32) := c_131_2
      refine lv_aload_n hx hb dX5_transfers_134 rfl (lv_at hl 0 rfl) ?_
      refine lv_dup hx hb dX5_transfers_135 rfl ?_
      refine gM_lost (v := (g_lost σ)) hx hb hts hown hK hP kw_467 rfl dX5_transfers_136 ?_
      refine lv_iconst (v := (1 : Int32)) hx hb dX5_transfers_139 (by decide) ?_
      refine lv_iadd hx hb dX5_transfers_140 ?_
      refine pM_lost hx hb hts hown hK hP hD hS kw_467 dX5_transfers_141 (fun H locs hP hD hS => ?_)
      refine lv_goto (tgt := 256) hx hb dX5_transfers_144 (by decide) ?_
      have hE : m_transfers σ a1 = (s_lost σ ((g_lost σ) + (1 : Int32))) := (by unfold m_transfers; rw [if_pos s_4_1_0, if_pos c_131_2])
      exact hret (s_lost σ ((g_lost σ) + (1 : Int32))) _ _ _ _ hE hP hD hS dX5_transfers_256
  by_cases s_4_1_1 : (a1 &&& (63 : Int32)) = (4 : Int32)
  · refine lv_lookup (off := 172) (tgt := 176) hx hb dX5_transfers_4 (by decide) (by rw [s_4_1_1]; rfl) (by decide) ?_
    refine lv_aload_n hx hb dX5_transfers_176 rfl (lv_at hl 0 rfl) ?_
    refine lv_aload_n hx hb dX5_transfers_177 rfl (lv_at hl 0 rfl) ?_
    refine gM_taken (v := (g_taken σ)) hx hb hts hown hK hP kw_464 rfl dX5_transfers_178 ?_
    refine lv_aload_n hx hb dX5_transfers_181 rfl (lv_at hl 0 rfl) ?_
    refine gM_cnt (v := (g_cnt σ)) hx hb hts hown hK hP kw_463 rfl dX5_transfers_182 ?_
    refine lv_icmp_ge (tgt := 200) hx hb dX5_transfers_185 (by decide) (fun c_185_3 => ?_) (fun c_185_3 => ?_)
    · have c_185_3 : (g_cnt σ) ≤ (g_taken σ) := c_185_3
      refine lv_iconst (v := (0 : Int32)) hx hb dX5_transfers_200 (by decide) ?_
      exact J_201 σ (0 : Int32) _ _ _ (by unfold m_transfers; rw [if_neg s_4_1_0, if_pos s_4_1_1, if_pos c_185_3]) (lv_sub hl [0] rfl) hP hD hS
    · have c_185_3 : ¬ ((g_cnt σ) ≤ (g_taken σ)) := c_185_3
      refine lv_aload_n hx hb dX5_transfers_188 rfl (lv_at hl 0 rfl) ?_
      refine gM_ref2 hx hb hts hown hK hP kw_462 dX5_transfers_189 ?_
      refine lv_aload_n hx hb dX5_transfers_192 rfl (lv_at hl 0 rfl) ?_
      refine gM_taken (v := (g_taken σ)) hx hb hts hown hK hP kw_464 rfl dX5_transfers_193 ?_
      refine aM_row (v := ((g_row σ) (Int32.toNatClampNeg (g_taken σ)))) hx hb hK hP (vp_belowN hM.2.1 hM.1 (by assumption)) rfl dX5_transfers_196 ?_
      refine lv_goto (tgt := 201) hx hb dX5_transfers_197 (by decide) ?_
      exact J_201 σ ((g_row σ) (Int32.toNatClampNeg (g_taken σ))) _ _ _ (by unfold m_transfers; rw [if_neg s_4_1_0, if_pos s_4_1_1, if_neg c_185_3]) (lv_sub hl [0] rfl) hP hD hS
  by_cases s_4_1_2 : (a1 &&& (63 : Int32)) = (7 : Int32)
  · refine lv_lookup (off := 60) (tgt := 64) hx hb dX5_transfers_4 (by decide) (by rw [s_4_1_2]; rfl) (by decide) ?_
    refine lv_aload_n hx hb dX5_transfers_64 rfl (lv_at hl 0 rfl) ?_
    refine gM_ref4 hx hb hts hown hK hP kw_468 dX5_transfers_65 ?_
    refine lv_aload_n hx hb dX5_transfers_68 rfl (lv_at hl 0 rfl) ?_
    refine gM_pts (v := (g_pts σ)) hx hb hts hown hK hP kw_470 rfl dX5_transfers_69 ?_
    refine lv_bipush (v := (64 : Int32)) hx hb dX5_transfers_72 (by decide) ?_
    refine lv_irem hx hb dX5_transfers_74 (by decide) ?_
    refine lv_aload_n hx hb dX5_transfers_75 rfl (lv_at hl 0 rfl) ?_
    refine gM_ac (v := (g_ac σ)) hx hb hts hown hK hP kw_452 rfl dX5_transfers_76 ?_
    refine lv_bipush (v := (8 : Int32)) hx hb dX5_transfers_79 (by decide) ?_
    refine lv_ishr hx hb dX5_transfers_81 ?_
    refine bM_px (f := (g_px σ)) hx hb hK hP hD hS (vp_rem hM.2.2.2) rfl dX5_transfers_82 (fun H locs hP hD hS => ?_)
    refine lv_aload_n hx hb dX5_transfers_83 rfl (lv_at hl 0 rfl) ?_
    refine gM_ref5 hx hb hts hown hK hP kw_469 dX5_transfers_84 ?_
    refine lv_aload_n hx hb dX5_transfers_87 rfl (lv_at hl 0 rfl) ?_
    refine gM_pts (v := (g_pts σ)) hx hb hts hown hK hP kw_470 rfl dX5_transfers_88 ?_
    refine lv_bipush (v := (64 : Int32)) hx hb dX5_transfers_91 (by decide) ?_
    refine lv_irem hx hb dX5_transfers_93 (by decide) ?_
    refine lv_aload_n hx hb dX5_transfers_94 rfl (lv_at hl 0 rfl) ?_
    refine gM_io (v := (g_io σ)) hx hb hts hown hK hP kw_453 rfl dX5_transfers_95 ?_
    refine lv_bipush (v := (8 : Int32)) hx hb dX5_transfers_98 (by decide) ?_
    refine lv_ishr hx hb dX5_transfers_100 ?_
    refine bM_py (f := (g_py σ)) hx hb hK hP hD hS (vp_rem hM.2.2.2) rfl dX5_transfers_101 (fun H locs hP hD hS => ?_)
    refine lv_aload_n hx hb dX5_transfers_102 rfl (lv_at hl 0 rfl) ?_
    refine lv_dup hx hb dX5_transfers_103 rfl ?_
    refine gM_pts (v := (g_pts σ)) hx hb hts hown hK hP kw_470 rfl dX5_transfers_104 ?_
    refine lv_iconst (v := (1 : Int32)) hx hb dX5_transfers_107 (by decide) ?_
    refine lv_iadd hx hb dX5_transfers_108 ?_
    refine pM_pts hx hb hts hown hK hP hD hS kw_470 dX5_transfers_109 (fun H locs hP hD hS => ?_)
    refine lv_aload_n hx hb dX5_transfers_112 rfl (lv_at hl 0 rfl) ?_
    refine gM_ref6 hx hb hts hown hK hP kw_471 dX5_transfers_113 ?_
    refine lv_iconst (v := (3 : Int32)) hx hb dX5_transfers_116 (by decide) ?_
    refine lv_dup2_11 hx hb dX5_transfers_117 rfl rfl ?_
    refine aM_ran3 (v := (g_t3 σ)) hx hb hK hP rfl dX5_transfers_118 ?_
    refine lv_iconst (v := (1 : Int32)) hx hb dX5_transfers_119 (by decide) ?_
    refine lv_iadd hx hb dX5_transfers_120 ?_
    refine bM_ran3 hx hb hK hP hD hS dX5_transfers_121 (fun H locs hP hD hS => ?_)
    refine lv_goto (tgt := 256) hx hb dX5_transfers_122 (by decide) ?_
    have hE : m_transfers σ a1 = (s_t3 (s_pts (s_py (s_px σ (upd (g_px σ) (Int32.toNatClampNeg ((g_pts σ) - (g_pts σ) / (64 : Int32) * (64 : Int32))) ((g_ac σ) >>> ((8 : Int32) &&& 31)))) (upd (g_py σ) (Int32.toNatClampNeg ((g_pts σ) - (g_pts σ) / (64 : Int32) * (64 : Int32))) ((g_io σ) >>> ((8 : Int32) &&& 31)))) ((g_pts σ) + (1 : Int32))) ((g_t3 σ) + (1 : Int32))) := (by unfold m_transfers; rw [if_neg s_4_1_0, if_neg s_4_1_1, if_pos s_4_1_2])
    exact hret (s_t3 (s_pts (s_py (s_px σ (upd (g_px σ) (Int32.toNatClampNeg ((g_pts σ) - (g_pts σ) / (64 : Int32) * (64 : Int32))) ((g_ac σ) >>> ((8 : Int32) &&& 31)))) (upd (g_py σ) (Int32.toNatClampNeg ((g_pts σ) - (g_pts σ) / (64 : Int32) * (64 : Int32))) ((g_io σ) >>> ((8 : Int32) &&& 31)))) ((g_pts σ) + (1 : Int32))) ((g_t3 σ) + (1 : Int32))) _ _ _ _ hE hP hD hS dX5_transfers_256
  by_cases s_4_1_3 : (a1 &&& (63 : Int32)) = (44 : Int32)
  · refine lv_lookup (off := 228) (tgt := 232) hx hb dX5_transfers_4 (by decide) (by rw [s_4_1_3]; rfl) (by decide) ?_
    refine lv_aload_n hx hb dX5_transfers_232 rfl (lv_at hl 0 rfl) ?_
    refine lv_iconst (v := (0 : Int32)) hx hb dX5_transfers_233 (by decide) ?_
    refine pM_on hx hb hts hown hK hP hD hS kw_457 ⟨rfl, rfl⟩ dX5_transfers_234 (fun H locs hP hD hS => ?_)
    refine lv_goto (tgt := 256) hx hb dX5_transfers_237 (by decide) ?_
    have hE : m_transfers σ a1 = (s_on σ (0 : Int32)) := (by unfold m_transfers; rw [if_neg s_4_1_0, if_neg s_4_1_1, if_neg s_4_1_2, if_pos s_4_1_3])
    exact hret (s_on σ (0 : Int32)) _ _ _ _ hE hP hD hS dX5_transfers_256
  by_cases s_4_1_4 : (a1 &&& (63 : Int32)) = (45 : Int32)
  · refine lv_lookup (off := 236) (tgt := 240) hx hb dX5_transfers_4 (by decide) (by rw [s_4_1_4]; rfl) (by decide) ?_
    refine lv_aload_n hx hb dX5_transfers_240 rfl (lv_at hl 0 rfl) ?_
    refine lv_iconst (v := (1 : Int32)) hx hb dX5_transfers_241 (by decide) ?_
    refine pM_on hx hb hts hown hK hP hD hS kw_457 ⟨rfl, rfl⟩ dX5_transfers_242 (fun H locs hP hD hS => ?_)
    refine lv_goto (tgt := 256) hx hb dX5_transfers_245 (by decide) ?_
    have hE : m_transfers σ a1 = (s_on σ (1 : Int32)) := (by unfold m_transfers; rw [if_neg s_4_1_0, if_neg s_4_1_1, if_neg s_4_1_2, if_neg s_4_1_3, if_pos s_4_1_4])
    exact hret (s_on σ (1 : Int32)) _ _ _ _ hE hP hD hS dX5_transfers_256
  by_cases s_4_1_5 : (a1 &&& (63 : Int32)) = (46 : Int32)
  · refine lv_lookup (off := 244) (tgt := 248) hx hb dX5_transfers_4 (by decide) (by rw [s_4_1_5]; rfl) (by decide) ?_
    refine lv_aload_n hx hb dX5_transfers_248 rfl (lv_at hl 0 rfl) ?_
    refine lv_iconst (v := (0 : Int32)) hx hb dX5_transfers_249 (by decide) ?_
    refine pM_asked hx hb hts hown hK hP hD hS kw_458 ⟨rfl, rfl⟩ dX5_transfers_250 (fun H locs hP hD hS => ?_)
    refine lv_goto (tgt := 256) hx hb dX5_transfers_253 (by decide) ?_
    have hE : m_transfers σ a1 = (s_asked σ (0 : Int32)) := (by unfold m_transfers; rw [if_neg s_4_1_0, if_neg s_4_1_1, if_neg s_4_1_2, if_neg s_4_1_3, if_neg s_4_1_4, if_pos s_4_1_5])
    exact hret (s_asked σ (0 : Int32)) _ _ _ _ hE hP hD hS dX5_transfers_256
  refine lv_lookup (off := 252) (tgt := 256) hx hb dX5_transfers_4 (by decide) (by simp only []; exact (lv_osw s_4_1_0 (by decide)).trans ((lv_osw s_4_1_1 (by decide)).trans ((lv_osw s_4_1_2 (by decide)).trans ((lv_osw s_4_1_3 (by decide)).trans ((lv_osw s_4_1_4 (by decide)).trans ((lv_osw s_4_1_5 (by decide)).trans (rfl))))))) (by decide) ?_
  have hE : m_transfers σ a1 = σ := (by unfold m_transfers; rw [if_neg s_4_1_0, if_neg s_4_1_1, if_neg s_4_1_2, if_neg s_4_1_3, if_neg s_4_1_4, if_neg s_4_1_5])
  exact hret σ _ _ _ _ hE hP hD hS dX5_transfers_256
