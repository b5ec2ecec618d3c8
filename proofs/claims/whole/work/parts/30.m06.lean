def m_calls (σ : St) (a1 : Int32) : St := (s_pc (s_ac (s_cells σ (upd (g_cells σ) (Int32.toNatClampNeg a1) (g_ac σ))) (m_place (s_cells σ (upd (g_cells σ) (Int32.toNatClampNeg a1) (g_ac σ))))) ((a1 + (1 : Int32)) &&& (4095 : Int32)))
set_option maxRecDepth 100000 in
set_option maxHeartbeats 8000000 in
theorem kX5_calls (l : Launch) (D : va_G) (cI : ClassId) (h : Nat → Nat) (σ : St) (a1 : Int32) (ha : vp_in a1 4096) : MetV l yX5_calls (wsU yX5_calls cX5_calls 2 none) { frames := 1, cells := 0, slots := 0, locals := 20 } D cI [.ref (h 0), .int a1] (wM h cI σ) (fun u : St => wM h cI u) (fun u => (m_calls σ a1) = u) := by
  refine MetV.of (by decide) (Nat.le_of_ble_eq_true rfl) ?_
  intro p e s m below meth c A Q ls hx hb hml hown hts hK hN hA hret hP hD hS hl
  have hown : s.vm.findClass RX5 = some m.cls := hown
  have hl : lv_has ls 2 [(0, .ref (h 0)), (1, .int a1)] := hl
  suffices go : ∀ (H : Heap) (locs : List Loc), va_P D vwCl (wM h cI σ) H → va_D A (wM h cI σ) → va_S A s.heap H locs → W p l e ({ frames := 1, cells := 0, slots := 0, locals := 20 } : Room) s m (([.ref (h 0), .int a1] : List Value).toArray) below meth c H locs 0 0 Q (F0 m 0 ls []) from go _ _ hP hD hS
  intro H locs hP hD hS
  refine lv_aload_n hx hb dX5_calls_0 rfl (lv_at hl 0 rfl) ?_
  refine gM_ref1 hx hb hts hown hK hP kw_451 dX5_calls_1 ?_
  refine lv_iload_n hx hb dX5_calls_4 rfl (lv_at hl 1 rfl) ?_
  refine lv_aload_n hx hb dX5_calls_5 rfl (lv_at hl 0 rfl) ?_
  refine gM_ac (v := (g_ac σ)) hx hb hts hown hK hP kw_452 rfl dX5_calls_6 ?_
  refine bM_cells (f := (g_cells σ)) hx hb hK hP hD hS (by exact ha) rfl dX5_calls_9 (fun H locs hP hD hS => ?_)
  refine lv_aload_n hx hb dX5_calls_10 rfl (lv_at hl 0 rfl) ?_
  refine lv_aload_n hx hb dX5_calls_11 rfl (lv_at hl 0 rfl) ?_
  refine call_Vi 0 (kX5_place l D cI h _) ⟨hx, hb, hml, hown, hts, hK, hN, hA⟩ ⟨kw_563, kw_565, ks_yX5_place, kw_6, kw_566, by decide +kernel, rfl, rfl, Nat.le_of_ble_eq_true rfl, Nat.le_of_ble_eq_true rfl⟩ rfl (va_recv hK hP (ci := 5) (q0 := 0) rfl rfl) hP hD hS hl.1 rfl (Nat.le_of_ble_eq_true rfl) dX5_calls_12 ⟨Nat.zero_le _, Nat.zero_le _⟩ (fun r12 u H locs hw hP hD hS => ?_)
  have hw : (m_place (s_cells σ (upd (g_cells σ) (Int32.toNatClampNeg a1) (g_ac σ)))) = r12 := hw
  subst hw
  refine pM_ac hx hb hts hown hK hP hD hS kw_452 dX5_calls_15 (fun H locs hP hD hS => ?_)
  refine lv_aload_n hx hb dX5_calls_18 rfl (lv_at hl 0 rfl) ?_
  refine lv_iload_n hx hb dX5_calls_19 rfl (lv_at hl 1 rfl) ?_
  refine lv_iconst (v := (1 : Int32)) hx hb dX5_calls_20 (by decide) ?_
  refine lv_iadd hx hb dX5_calls_21 ?_
  refine lv_sipush (v := (4095 : Int32)) hx hb dX5_calls_22 (by decide) ?_
  refine lv_iand hx hb dX5_calls_25 ?_
  refine pM_pc hx hb hts hown hK hP hD hS kw_454 dX5_calls_26 (fun H locs hP hD hS => ?_)
  have hE : m_calls σ a1 = (s_pc (s_ac (s_cells σ (upd (g_cells σ) (Int32.toNatClampNeg a1) (g_ac σ))) (m_place (s_cells σ (upd (g_cells σ) (Int32.toNatClampNeg a1) (g_ac σ))))) ((a1 + (1 : Int32)) &&& (4095 : Int32))) := (by unfold m_calls; rfl)
  exact hret (s_pc (s_ac (s_cells σ (upd (g_cells σ) (Int32.toNatClampNeg a1) (g_ac σ))) (m_place (s_cells σ (upd (g_cells σ) (Int32.toNatClampNeg a1) (g_ac σ))))) ((a1 + (1 : Int32)) &&& (4095 : Int32))) _ _ _ _ hE hP hD hS dX5_calls_29
def m_asksSkip_245 (σ : St) (z1_245 : Int32) : St := (m_skips σ z1_245)
def m_asksSkip_237 (σ : St) (z1_237 : Int32) (z2_237 : Int32) : St := (if z1_237 = z2_237 then m_asksSkip_245 σ (0 : Int32) else m_asksSkip_245 σ (1 : Int32))
def m_asksSkip_216 (σ : St) (x1_216 : Int32) (x4_216 : Int32) (z1_216 : Int32) : St := (if ((x1_216 >>> ((12 : Int32) &&& 31)) &&& (1 : Int32)) = (1 : Int32) then m_asksSkip_237 (s_ov σ z1_216) x4_216 (1 : Int32) else m_asksSkip_237 (s_ov σ z1_216) x4_216 (0 : Int32))
def m_asksSkip_197 (σ : St) (x1_197 : Int32) (z0_197 : Int32) : St := (if (x1_197 &&& (512 : Int32)) ≤ (0 : Int32) then m_asksSkip_216 σ x1_197 z0_197 (g_ov σ) else m_asksSkip_216 σ x1_197 z0_197 (0 : Int32))
def m_asksSkip_192 (σ : St) (x1_192 : Int32) : St := m_asksSkip_197 σ x1_192 (1 : Int32)
def m_asksSkip_196 (σ : St) (x1_196 : Int32) : St := m_asksSkip_197 σ x1_196 (0 : Int32)
def m_asksSkip_169 (σ : St) (x1_169 : Int32) (x3_169 : Int32) : St := (if x3_169 ≤ (0 : Int32) then m_asksSkip_196 σ x1_169 else (if (7 : Int32) ≤ x3_169 then m_asksSkip_196 σ x1_169 else (if (((g_flags σ) >>> ((x3_169 - (1 : Int32)) &&& 31)) &&& (1 : Int32)) = (0 : Int32) then m_asksSkip_192 σ x1_169 else m_asksSkip_196 σ x1_169)))
def m_asksSkip_149 (σ : St) (x1_149 : Int32) (x3_149 : Int32) (z0_149 : Int32) : St := (if z0_149 = (0 : Int32) then (if x3_149 = (7 : Int32) then (if (g_flags σ) = (0 : Int32) then m_asksSkip_192 σ x1_149 else m_asksSkip_169 σ x1_149 x3_149) else m_asksSkip_169 σ x1_149 x3_149) else m_asksSkip_192 σ x1_149)
def m_asksSkip_144 (σ : St) (x1_144 : Int32) (x3_144 : Int32) : St := m_asksSkip_149 σ x1_144 x3_144 (1 : Int32)
def m_asksSkip_148 (σ : St) (x1_148 : Int32) (x3_148 : Int32) : St := m_asksSkip_149 σ x1_148 x3_148 (0 : Int32)
def m_asksSkip_121 (σ : St) (x1_121 : Int32) (x2_121 : Int32) (x3_121 : Int32) : St := (if x2_121 ≤ (0 : Int32) then m_asksSkip_148 σ x1_121 x3_121 else (if (7 : Int32) ≤ x2_121 then m_asksSkip_148 σ x1_121 x3_121 else (if (((g_sw σ) >>> ((x2_121 - (1 : Int32)) &&& 31)) &&& (1 : Int32)) = (0 : Int32) then m_asksSkip_144 σ x1_121 x3_121 else m_asksSkip_148 σ x1_121 x3_121)))
def m_asksSkip_101 (σ : St) (x1_101 : Int32) (x2_101 : Int32) (x3_101 : Int32) (z0_101 : Int32) : St := (if z0_101 = (0 : Int32) then (if x2_101 = (7 : Int32) then (if (g_sw σ) = (0 : Int32) then m_asksSkip_144 σ x1_101 x3_101 else m_asksSkip_121 σ x1_101 x2_101 x3_101) else m_asksSkip_121 σ x1_101 x2_101 x3_101) else m_asksSkip_144 σ x1_101 x3_101)
def m_asksSkip_100 (σ : St) (x1_100 : Int32) (x2_100 : Int32) (x3_100 : Int32) : St := m_asksSkip_101 σ x1_100 x2_100 x3_100 (0 : Int32)
def m_asksSkip_96 (σ : St) (x1_96 : Int32) (x2_96 : Int32) (x3_96 : Int32) : St := m_asksSkip_101 σ x1_96 x2_96 x3_96 (1 : Int32)
def m_asksSkip_78 (σ : St) (x1_78 : Int32) (x2_78 : Int32) (x3_78 : Int32) : St := (if (x1_78 &&& (1024 : Int32)) ≤ (0 : Int32) then m_asksSkip_100 σ x1_78 x2_78 x3_78 else (if (m_sign (g_io σ)) = (0 : Int32) then m_asksSkip_96 σ x1_78 x2_78 x3_78 else m_asksSkip_100 σ x1_78 x2_78 x3_78))
def m_asksSkip_63 (σ : St) (x1_63 : Int32) (x2_63 : Int32) (x3_63 : Int32) : St := (if (x1_63 &&& (512 : Int32)) ≤ (0 : Int32) then m_asksSkip_78 σ x1_63 x2_63 x3_63 else (if (g_ov σ) = (0 : Int32) then m_asksSkip_96 σ x1_63 x2_63 x3_63 else m_asksSkip_78 σ x1_63 x2_63 x3_63))
def m_asksSkip_44 (σ : St) (x1_44 : Int32) (x2_44 : Int32) (x3_44 : Int32) : St := (if (x1_44 &&& (256 : Int32)) ≤ (0 : Int32) then m_asksSkip_63 σ x1_44 x2_44 x3_44 else (if (m_sign (g_ac σ)) = (1 : Int32) then m_asksSkip_96 σ x1_44 x2_44 x3_44 else m_asksSkip_63 σ x1_44 x2_44 x3_44))
def m_asksSkip_26 (σ : St) (x1_26 : Int32) (x2_26 : Int32) (x3_26 : Int32) : St := (if (x1_26 &&& (128 : Int32)) ≤ (0 : Int32) then m_asksSkip_44 σ x1_26 x2_26 x3_26 else (if (m_sign (g_ac σ)) = (0 : Int32) then m_asksSkip_96 σ x1_26 x2_26 x3_26 else m_asksSkip_44 σ x1_26 x2_26 x3_26))
def m_asksSkip (σ : St) (a1 : Int32) : St := (if (a1 &&& (64 : Int32)) ≤ (0 : Int32) then m_asksSkip_26 σ a1 ((a1 >>> ((3 : Int32) &&& 31)) &&& (7 : Int32)) (a1 &&& (7 : Int32)) else (if (g_ac σ) = (0 : Int32) then m_asksSkip_96 σ a1 ((a1 >>> ((3 : Int32) &&& 31)) &&& (7 : Int32)) (a1 &&& (7 : Int32)) else m_asksSkip_26 σ a1 ((a1 >>> ((3 : Int32) &&& 31)) &&& (7 : Int32)) (a1 &&& (7 : Int32))))
set_option maxRecDepth 100000 in
set_option maxHeartbeats 8000000 in
theorem kX5_asksSkip (l : Launch) (D : va_G) (cI : ClassId) (h : Nat → Nat) (σ : St) (a1 : Int32) : MetV l yX5_asksSkip (wsU yX5_asksSkip cX5_asksSkip 5 none) { frames := 1, cells := 0, slots := 0, locals := 21 } D cI [.ref (h 0), .int a1] (wM h cI σ) (fun u : St => wM h cI u) (fun u => (m_asksSkip σ a1) = u) := by
  refine MetV.of (by decide) (Nat.le_of_ble_eq_true rfl) ?_
  intro p e s m below meth c A Q ls hx hb hml hown hts hK hN hA hret hP hD hS hl
  have hown : s.vm.findClass RX5 = some m.cls := hown
  have hl : lv_has ls 5 [(0, .ref (h 0)), (1, .int a1)] := hl
  have J_245 : ∀ (σ' : St) (z1_245 : Int32) (H : Heap) (locs : List Loc) (ls : Array Slot), m_asksSkip σ a1 = m_asksSkip_245 σ' z1_245 → lv_has ls 5 [(0, .ref (h 0))] → va_P D vwCl (wM h cI σ') H → va_D A (wM h cI σ') → va_S A s.heap H locs → W p l e ({ frames := 1, cells := 0, slots := 0, locals := 21 } : Room) s m (([.ref (h 0), .int a1] : List Value).toArray) below meth c H locs 0 0 Q (F0 m 245 ls [.int z1_245, .ref (h 0)]) := by
    intro σ' z1_245 H locs ls E hl hP hD hS
    refine call_Vv 1 (kX5_skips l D cI h _ z1_245) ⟨hx, hb, hml, hown, hts, hK, hN, hA⟩ ⟨kw_605, kw_607, ks_yX5_skips, kw_6, kw_608, by decide +kernel, rfl, rfl, Nat.le_of_ble_eq_true rfl, Nat.le_of_ble_eq_true rfl⟩ rfl (va_recv hK hP (ci := 5) (q0 := 0) rfl rfl) hP hD hS hl.1 rfl (Nat.le_of_ble_eq_true rfl) dX5_asksSkip_245 ⟨Nat.zero_le _, Nat.zero_le _⟩ (fun u H locs hw hP hD hS => ?_)
    have hw : (m_skips σ' z1_245) = u := hw
    subst hw
    have hE : m_asksSkip σ a1 = (m_skips σ' z1_245) := (E.trans (by unfold m_asksSkip_245; rfl))
    exact hret (m_skips σ' z1_245) _ _ _ _ hE hP hD hS dX5_asksSkip_248
  have J_237 : ∀ (σ' : St) (z1_237 : Int32) (z2_237 : Int32) (H : Heap) (locs : List Loc) (ls : Array Slot), m_asksSkip σ a1 = m_asksSkip_237 σ' z1_237 z2_237 → lv_has ls 5 [(0, .ref (h 0))] → va_P D vwCl (wM h cI σ') H → va_D A (wM h cI σ') → va_S A s.heap H locs → W p l e ({ frames := 1, cells := 0, slots := 0, locals := 21 } : Room) s m (([.ref (h 0), .int a1] : List Value).toArray) below meth c H locs 0 0 Q (F0 m 237 ls [.int z2_237, .int z1_237, .ref (h 0)]) := by
    intro σ' z1_237 z2_237 H locs ls E hl hP hD hS
    refine lv_icmp_eq (tgt := 244) hx hb dX5_asksSkip_237 (by decide) (fun c_237_10 => ?_) (fun c_237_10 => ?_)
    · have c_237_10 : z1_237 = z2_237 := c_237_10
      refine lv_iconst (v := (0 : Int32)) hx hb dX5_asksSkip_244 (by decide) ?_
      exact J_245 σ' (0 : Int32) _ _ _ (E.trans (by unfold m_asksSkip_237; rw [if_pos c_237_10])) (lv_sub hl [0] rfl) hP hD hS
    · have c_237_10 : ¬ (z1_237 = z2_237) := c_237_10
      refine lv_iconst (v := (1 : Int32)) hx hb dX5_asksSkip_240 (by decide) ?_
      refine lv_goto (tgt := 245) hx hb dX5_asksSkip_241 (by decide) ?_
      exact J_245 σ' (1 : Int32) _ _ _ (E.trans (by unfold m_asksSkip_237; rw [if_neg c_237_10])) (lv_sub hl [0] rfl) hP hD hS
  have J_216 : ∀ (σ' : St) (x1_216 : Int32) (x4_216 : Int32) (z1_216 : Int32) (H : Heap) (locs : List Loc) (ls : Array Slot), m_asksSkip σ a1 = m_asksSkip_216 σ' x1_216 x4_216 z1_216 → lv_has ls 5 [(0, .ref (h 0)), (1, .int x1_216), (4, .int x4_216)] → va_P D vwCl (wM h cI σ') H → va_D A (wM h cI σ') → va_S A s.heap H locs → W p l e ({ frames := 1, cells := 0, slots := 0, locals := 21 } : Room) s m (([.ref (h 0), .int a1] : List Value).toArray) below meth c H locs 0 0 Q (F0 m 216 ls [.int z1_216, .ref (h 0)]) := by
    intro σ' x1_216 x4_216 z1_216 H locs ls E hl hP hD hS
    refine pM_ov hx hb hts hown hK hP hD hS kw_455 dX5_asksSkip_216 (fun H locs hP hD hS => ?_)
    refine lv_aload_n hx hb dX5_asksSkip_219 rfl (lv_at hl 0 rfl) ?_
    refine lv_iload hx hb dX5_asksSkip_220 (lv_at hl 2 rfl) ?_
    refine lv_iload_n hx hb dX5_asksSkip_222 rfl (lv_at hl 1 rfl) ?_
    refine lv_bipush (v := (12 : Int32)) hx hb dX5_asksSkip_223 (by decide) ?_
    refine lv_ishr hx hb dX5_asksSkip_225 ?_
    refine lv_iconst (v := (1 : Int32)) hx hb dX5_asksSkip_226 (by decide) ?_
    refine lv_iand hx hb dX5_asksSkip_227 ?_
    refine lv_iconst (v := (1 : Int32)) hx hb dX5_asksSkip_228 (by decide) ?_
    refine lv_icmp_ne (tgt := 236) hx hb dX5_asksSkip_229 (by decide) (fun c_229_9 => ?_) (fun c_229_9 => ?_)
    · have c_229_9 : ¬ (((x1_216 >>> ((12 : Int32) &&& 31)) &&& (1 : Int32)) = (1 : Int32)) := c_229_9
      refine lv_iconst (v := (0 : Int32)) hx hb dX5_asksSkip_236 (by decide) ?_
      exact J_237 (s_ov σ' z1_216) x4_216 (0 : Int32) _ _ _ (E.trans (by unfold m_asksSkip_216; rw [if_neg c_229_9])) (lv_sub hl [0] rfl) hP hD hS
    · have c_229_9 : ((x1_216 >>> ((12 : Int32) &&& 31)) &&& (1 : Int32)) = (1 : Int32) := c_229_9
      refine lv_iconst (v := (1 : Int32)) hx hb dX5_asksSkip_232 (by decide) ?_
      refine lv_goto (tgt := 237) hx hb dX5_asksSkip_233 (by decide) ?_
      exact J_237 (s_ov σ' z1_216) x4_216 (1 : Int32) _ _ _ (E.trans (by unfold m_asksSkip_216; rw [if_pos c_229_9])) (lv_sub hl [0] rfl) hP hD hS
  have J_197 : ∀ (σ' : St) (x1_197 : Int32) (z0_197 : Int32) (H : Heap) (locs : List Loc) (ls : Array Slot), m_asksSkip σ a1 = m_asksSkip_197 σ' x1_197 z0_197 → lv_has ls 5 [(0, .ref (h 0)), (1, .int x1_197)] → va_P D vwCl (wM h cI σ') H → va_D A (wM h cI σ') → va_S A s.heap H locs → W p l e ({ frames := 1, cells := 0, slots := 0, locals := 21 } : Room) s m (([.ref (h 0), .int a1] : List Value).toArray) below meth c H locs 0 0 Q (F0 m 197 ls [.int z0_197]) := by
    intro σ' x1_197 z0_197 H locs ls E hl hP hD hS
    refine lv_istore (lv' := [(4, .int z0_197), (0, .ref (h 0)), (1, .int x1_197)]) hx hb dX5_asksSkip_197 hl (by decide) rfl (fun ls hl => ?_)
    refine lv_aload_n hx hb dX5_asksSkip_199 rfl (lv_at hl 1 rfl) ?_
    refine lv_iload_n hx hb dX5_asksSkip_200 rfl (lv_at hl 2 rfl) ?_
    refine lv_sipush (v := (512 : Int32)) hx hb dX5_asksSkip_201 (by decide) ?_
    refine lv_iand hx hb dX5_asksSkip_204 ?_
    refine lv_if_le (tgt := 212) hx hb dX5_asksSkip_205 (by decide) (fun c_205_8 => ?_) (fun c_205_8 => ?_)
    · have c_205_8 : (x1_197 &&& (512 : Int32)) ≤ (0 : Int32) := c_205_8
      refine lv_aload_n hx hb dX5_asksSkip_212 rfl (lv_at hl 1 rfl) ?_
      refine gM_ov (v := (g_ov σ')) hx hb hts hown hK hP kw_455 rfl dX5_asksSkip_213 ?_
      exact J_216 σ' x1_197 z0_197 (g_ov σ') _ _ _ (E.trans (by unfold m_asksSkip_197; rw [if_pos c_205_8])) (lv_sub hl [1, 2, 0] rfl) hP hD hS
    · have c_205_8 : ¬ ((x1_197 &&& (512 : Int32)) ≤ (0 : Int32)) := c_205_8
      refine lv_iconst (v := (0 : Int32)) hx hb dX5_asksSkip_208 (by decide) ?_
      refine lv_goto (tgt := 216) hx hb dX5_asksSkip_209 (by decide) ?_
      exact J_216 σ' x1_197 z0_197 (0 : Int32) _ _ _ (E.trans (by unfold m_asksSkip_197; rw [if_neg c_205_8])) (lv_sub hl [1, 2, 0] rfl) hP hD hS
  have J_192 : ∀ (σ' : St) (x1_192 : Int32) (H : Heap) (locs : List Loc) (ls : Array Slot), m_asksSkip σ a1 = m_asksSkip_192 σ' x1_192 → lv_has ls 5 [(0, .ref (h 0)), (1, .int x1_192)] → va_P D vwCl (wM h cI σ') H → va_D A (wM h cI σ') → va_S A s.heap H locs → W p l e ({ frames := 1, cells := 0, slots := 0, locals := 21 } : Room) s m (([.ref (h 0), .int a1] : List Value).toArray) below meth c H locs 0 0 Q (F0 m 192 ls []) := by
    intro σ' x1_192 H locs ls E hl hP hD hS
    refine lv_iconst (v := (1 : Int32)) hx hb dX5_asksSkip_192 (by decide) ?_
    refine lv_goto (tgt := 197) hx hb dX5_asksSkip_193 (by decide) ?_
    exact J_197 σ' x1_192 (1 : Int32) _ _ _ (E.trans (by unfold m_asksSkip_192; rfl)) (lv_sub hl [0, 1] rfl) hP hD hS
  have J_196 : ∀ (σ' : St) (x1_196 : Int32) (H : Heap) (locs : List Loc) (ls : Array Slot), m_asksSkip σ a1 = m_asksSkip_196 σ' x1_196 → lv_has ls 5 [(0, .ref (h 0)), (1, .int x1_196)] → va_P D vwCl (wM h cI σ') H → va_D A (wM h cI σ') → va_S A s.heap H locs → W p l e ({ frames := 1, cells := 0, slots := 0, locals := 21 } : Room) s m (([.ref (h 0), .int a1] : List Value).toArray) below meth c H locs 0 0 Q (F0 m 196 ls []) := by
    intro σ' x1_196 H locs ls E hl hP hD hS
    refine lv_iconst (v := (0 : Int32)) hx hb dX5_asksSkip_196 (by decide) ?_
    exact J_197 σ' x1_196 (0 : Int32) _ _ _ (E.trans (by unfold m_asksSkip_196; rfl)) (lv_sub hl [0, 1] rfl) hP hD hS
  have J_169 : ∀ (σ' : St) (x1_169 : Int32) (x3_169 : Int32) (H : Heap) (locs : List Loc) (ls : Array Slot), m_asksSkip σ a1 = m_asksSkip_169 σ' x1_169 x3_169 → lv_has ls 5 [(0, .ref (h 0)), (1, .int x1_169), (3, .int x3_169)] → va_P D vwCl (wM h cI σ') H → va_D A (wM h cI σ') → va_S A s.heap H locs → W p l e ({ frames := 1, cells := 0, slots := 0, locals := 21 } : Room) s m (([.ref (h 0), .int a1] : List Value).toArray) below meth c H locs 0 0 Q (F0 m 169 ls []) := by
    intro σ' x1_169 x3_169 H locs ls E hl hP hD hS
    refine lv_iload_n hx hb dX5_asksSkip_169 rfl (lv_at hl 2 rfl) ?_
    refine lv_if_le (tgt := 196) hx hb dX5_asksSkip_170 (by decide) (fun c_170_12 => ?_) (fun c_170_12 => ?_)
    · have c_170_12 : x3_169 ≤ (0 : Int32) := c_170_12
      exact J_196 σ' x1_169 _ _ _ (E.trans (by unfold m_asksSkip_169; rw [if_pos c_170_12])) (lv_sub hl [0, 1] rfl) hP hD hS
    · have c_170_12 : ¬ (x3_169 ≤ (0 : Int32)) := c_170_12
      refine lv_iload_n hx hb dX5_asksSkip_173 rfl (lv_at hl 2 rfl) ?_
      refine lv_bipush (v := (7 : Int32)) hx hb dX5_asksSkip_174 (by decide) ?_
      refine lv_icmp_ge (tgt := 196) hx hb dX5_asksSkip_176 (by decide) (fun c_176_13 => ?_) (fun c_176_13 => ?_)
      · have c_176_13 : (7 : Int32) ≤ x3_169 := c_176_13
        exact J_196 σ' x1_169 _ _ _ (E.trans (by unfold m_asksSkip_169; rw [if_neg c_170_12, if_pos c_176_13])) (lv_sub hl [0, 1] rfl) hP hD hS
      · have c_176_13 : ¬ ((7 : Int32) ≤ x3_169) := c_176_13
        refine lv_aload_n hx hb dX5_asksSkip_179 rfl (lv_at hl 0 rfl) ?_
        refine gM_flags (v := (g_flags σ')) hx hb hts hown hK hP kw_456 rfl dX5_asksSkip_180 ?_
        refine lv_iload_n hx hb dX5_asksSkip_183 rfl (lv_at hl 2 rfl) ?_
        refine lv_iconst (v := (1 : Int32)) hx hb dX5_asksSkip_184 (by decide) ?_
        refine lv_isub hx hb dX5_asksSkip_185 ?_
        refine lv_ishr hx hb dX5_asksSkip_186 ?_
        refine lv_iconst (v := (1 : Int32)) hx hb dX5_asksSkip_187 (by decide) ?_
        refine lv_iand hx hb dX5_asksSkip_188 ?_
        refine lv_if_ne (tgt := 196) hx hb dX5_asksSkip_189 (by decide) (fun c_189_14 => ?_) (fun c_189_14 => ?_)
        · have c_189_14 : ¬ ((((g_flags σ') >>> ((x3_169 - (1 : Int32)) &&& 31)) &&& (1 : Int32)) = (0 : Int32)) := c_189_14
          exact J_196 σ' x1_169 _ _ _ (E.trans (by unfold m_asksSkip_169; rw [if_neg c_170_12, if_neg c_176_13, if_neg c_189_14])) (lv_sub hl [0, 1] rfl) hP hD hS
        · have c_189_14 : (((g_flags σ') >>> ((x3_169 - (1 : Int32)) &&& 31)) &&& (1 : Int32)) = (0 : Int32) := c_189_14
          exact J_192 σ' x1_169 _ _ _ (E.trans (by unfold m_asksSkip_169; rw [if_neg c_170_12, if_neg c_176_13, if_pos c_189_14])) (lv_sub hl [0, 1] rfl) hP hD hS
  have J_149 : ∀ (σ' : St) (x1_149 : Int32) (x3_149 : Int32) (z0_149 : Int32) (H : Heap) (locs : List Loc) (ls : Array Slot), m_asksSkip σ a1 = m_asksSkip_149 σ' x1_149 x3_149 z0_149 → lv_has ls 5 [(0, .ref (h 0)), (1, .int x1_149), (3, .int x3_149)] → va_P D vwCl (wM h cI σ') H → va_D A (wM h cI σ') → va_S A s.heap H locs → W p l e ({ frames := 1, cells := 0, slots := 0, locals := 21 } : Room) s m (([.ref (h 0), .int a1] : List Value).toArray) below meth c H locs 0 0 Q (F0 m 149 ls [.int z0_149]) := by
    intro σ' x1_149 x3_149 z0_149 H locs ls E hl hP hD hS
    refine lv_istore (lv' := [(4, .int z0_149), (0, .ref (h 0)), (1, .int x1_149), (3, .int x3_149)]) hx hb dX5_asksSkip_149 hl (by decide) rfl (fun ls hl => ?_)
    refine lv_iload hx hb dX5_asksSkip_151 (lv_at hl 0 rfl) ?_
    refine lv_if_ne (tgt := 192) hx hb dX5_asksSkip_153 (by decide) (fun c_153_7 => ?_) (fun c_153_7 => ?_)
    · have c_153_7 : ¬ (z0_149 = (0 : Int32)) := c_153_7
      exact J_192 σ' x1_149 _ _ _ (E.trans (by unfold m_asksSkip_149; rw [if_neg c_153_7])) (lv_sub hl [1, 2] rfl) hP hD hS
    · have c_153_7 : z0_149 = (0 : Int32) := c_153_7
      refine lv_iload_n hx hb dX5_asksSkip_156 rfl (lv_at hl 3 rfl) ?_
      refine lv_bipush (v := (7 : Int32)) hx hb dX5_asksSkip_157 (by decide) ?_
      refine lv_icmp_ne (tgt := 169) hx hb dX5_asksSkip_159 (by decide) (fun c_159_11 => ?_) (fun c_159_11 => ?_)
      · have c_159_11 : ¬ (x3_149 = (7 : Int32)) := c_159_11
        exact J_169 σ' x1_149 x3_149 _ _ _ (E.trans (by unfold m_asksSkip_149; rw [if_pos c_153_7, if_neg c_159_11])) (lv_sub hl [1, 2, 3] rfl) hP hD hS
      · have c_159_11 : x3_149 = (7 : Int32) := c_159_11
        refine lv_aload_n hx hb dX5_asksSkip_162 rfl (lv_at hl 1 rfl) ?_
        refine gM_flags (v := (g_flags σ')) hx hb hts hown hK hP kw_456 rfl dX5_asksSkip_163 ?_
        refine lv_if_eq (tgt := 192) hx hb dX5_asksSkip_166 (by decide) (fun c_166_15 => ?_) (fun c_166_15 => ?_)
        · have c_166_15 : (g_flags σ') = (0 : Int32) := c_166_15
          exact J_192 σ' x1_149 _ _ _ (E.trans (by unfold m_asksSkip_149; rw [if_pos c_153_7, if_pos c_159_11, if_pos c_166_15])) (lv_sub hl [1, 2] rfl) hP hD hS
        · have c_166_15 : ¬ ((g_flags σ') = (0 : Int32)) := c_166_15
          exact J_169 σ' x1_149 x3_149 _ _ _ (E.trans (by unfold m_asksSkip_149; rw [if_pos c_153_7, if_pos c_159_11, if_neg c_166_15])) (lv_sub hl [1, 2, 3] rfl) hP hD hS
  have J_144 : ∀ (σ' : St) (x1_144 : Int32) (x3_144 : Int32) (H : Heap) (locs : List Loc) (ls : Array Slot), m_asksSkip σ a1 = m_asksSkip_144 σ' x1_144 x3_144 → lv_has ls 5 [(0, .ref (h 0)), (1, .int x1_144), (3, .int x3_144)] → va_P D vwCl (wM h cI σ') H → va_D A (wM h cI σ') → va_S A s.heap H locs → W p l e ({ frames := 1, cells := 0, slots := 0, locals := 21 } : Room) s m (([.ref (h 0), .int a1] : List Value).toArray) below meth c H locs 0 0 Q (F0 m 144 ls []) := by
    intro σ' x1_144 x3_144 H locs ls E hl hP hD hS
    refine lv_iconst (v := (1 : Int32)) hx hb dX5_asksSkip_144 (by decide) ?_
    refine lv_goto (tgt := 149) hx hb dX5_asksSkip_145 (by decide) ?_
    exact J_149 σ' x1_144 x3_144 (1 : Int32) _ _ _ (E.trans (by unfold m_asksSkip_144; rfl)) (lv_sub hl [0, 1, 2] rfl) hP hD hS
  have J_148 : ∀ (σ' : St) (x1_148 : Int32) (x3_148 : Int32) (H : Heap) (locs : List Loc) (ls : Array Slot), m_asksSkip σ a1 = m_asksSkip_148 σ' x1_148 x3_148 → lv_has ls 5 [(0, .ref (h 0)), (1, .int x1_148), (3, .int x3_148)] → va_P D vwCl (wM h cI σ') H → va_D A (wM h cI σ') → va_S A s.heap H locs → W p l e ({ frames := 1, cells := 0, slots := 0, locals := 21 } : Room) s m (([.ref (h 0), .int a1] : List Value).toArray) below meth c H locs 0 0 Q (F0 m 148 ls []) := by
    intro σ' x1_148 x3_148 H locs ls E hl hP hD hS
    refine lv_iconst (v := (0 : Int32)) hx hb dX5_asksSkip_148 (by decide) ?_
    exact J_149 σ' x1_148 x3_148 (0 : Int32) _ _ _ (E.trans (by unfold m_asksSkip_148; rfl)) (lv_sub hl [0, 1, 2] rfl) hP hD hS
  have J_121 : ∀ (σ' : St) (x1_121 : Int32) (x2_121 : Int32) (x3_121 : Int32) (H : Heap) (locs : List Loc) (ls : Array Slot), m_asksSkip σ a1 = m_asksSkip_121 σ' x1_121 x2_121 x3_121 → lv_has ls 5 [(0, .ref (h 0)), (1, .int x1_121), (2, .int x2_121), (3, .int x3_121)] → va_P D vwCl (wM h cI σ') H → va_D A (wM h cI σ') → va_S A s.heap H locs → W p l e ({ frames := 1, cells := 0, slots := 0, locals := 21 } : Room) s m (([.ref (h 0), .int a1] : List Value).toArray) below meth c H locs 0 0 Q (F0 m 121 ls []) := by
    intro σ' x1_121 x2_121 x3_121 H locs ls E hl hP hD hS
    refine lv_iload_n hx hb dX5_asksSkip_121 rfl (lv_at hl 2 rfl) ?_
    refine lv_if_le (tgt := 148) hx hb dX5_asksSkip_122 (by decide) (fun c_122_17 => ?_) (fun c_122_17 => ?_)
    · have c_122_17 : x2_121 ≤ (0 : Int32) := c_122_17
      exact J_148 σ' x1_121 x3_121 _ _ _ (E.trans (by unfold m_asksSkip_121; rw [if_pos c_122_17])) (lv_sub hl [0, 1, 3] rfl) hP hD hS
    · have c_122_17 : ¬ (x2_121 ≤ (0 : Int32)) := c_122_17
      refine lv_iload_n hx hb dX5_asksSkip_125 rfl (lv_at hl 2 rfl) ?_
      refine lv_bipush (v := (7 : Int32)) hx hb dX5_asksSkip_126 (by decide) ?_
      refine lv_icmp_ge (tgt := 148) hx hb dX5_asksSkip_128 (by decide) (fun c_128_18 => ?_) (fun c_128_18 => ?_)
      · have c_128_18 : (7 : Int32) ≤ x2_121 := c_128_18
        exact J_148 σ' x1_121 x3_121 _ _ _ (E.trans (by unfold m_asksSkip_121; rw [if_neg c_122_17, if_pos c_128_18])) (lv_sub hl [0, 1, 3] rfl) hP hD hS
      · have c_128_18 : ¬ ((7 : Int32) ≤ x2_121) := c_128_18
        refine lv_aload_n hx hb dX5_asksSkip_131 rfl (lv_at hl 0 rfl) ?_
        refine gM_sw (v := (g_sw σ')) hx hb hts hown hK hP kw_460 rfl dX5_asksSkip_132 ?_
        refine lv_iload_n hx hb dX5_asksSkip_135 rfl (lv_at hl 2 rfl) ?_
        refine lv_iconst (v := (1 : Int32)) hx hb dX5_asksSkip_136 (by decide) ?_
        refine lv_isub hx hb dX5_asksSkip_137 ?_
        refine lv_ishr hx hb dX5_asksSkip_138 ?_
        refine lv_iconst (v := (1 : Int32)) hx hb dX5_asksSkip_139 (by decide) ?_
        refine lv_iand hx hb dX5_asksSkip_140 ?_
        refine lv_if_ne (tgt := 148) hx hb dX5_asksSkip_141 (by decide) (fun c_141_19 => ?_) (fun c_141_19 => ?_)
        · have c_141_19 : ¬ ((((g_sw σ') >>> ((x2_121 - (1 : Int32)) &&& 31)) &&& (1 : Int32)) = (0 : Int32)) := c_141_19
          exact J_148 σ' x1_121 x3_121 _ _ _ (E.trans (by unfold m_asksSkip_121; rw [if_neg c_122_17, if_neg c_128_18, if_neg c_141_19])) (lv_sub hl [0, 1, 3] rfl) hP hD hS
        · have c_141_19 : (((g_sw σ') >>> ((x2_121 - (1 : Int32)) &&& 31)) &&& (1 : Int32)) = (0 : Int32) := c_141_19
          exact J_144 σ' x1_121 x3_121 _ _ _ (E.trans (by unfold m_asksSkip_121; rw [if_neg c_122_17, if_neg c_128_18, if_pos c_141_19])) (lv_sub hl [0, 1, 3] rfl) hP hD hS
  have J_101 : ∀ (σ' : St) (x1_101 : Int32) (x2_101 : Int32) (x3_101 : Int32) (z0_101 : Int32) (H : Heap) (locs : List Loc) (ls : Array Slot), m_asksSkip σ a1 = m_asksSkip_101 σ' x1_101 x2_101 x3_101 z0_101 → lv_has ls 5 [(0, .ref (h 0)), (1, .int x1_101), (2, .int x2_101), (3, .int x3_101)] → va_P D vwCl (wM h cI σ') H → va_D A (wM h cI σ') → va_S A s.heap H locs → W p l e ({ frames := 1, cells := 0, slots := 0, locals := 21 } : Room) s m (([.ref (h 0), .int a1] : List Value).toArray) below meth c H locs 0 0 Q (F0 m 101 ls [.int z0_101]) := by
    intro σ' x1_101 x2_101 x3_101 z0_101 H locs ls E hl hP hD hS
    refine lv_istore (lv' := [(4, .int z0_101), (0, .ref (h 0)), (1, .int x1_101), (2, .int x2_101), (3, .int x3_101)]) hx hb dX5_asksSkip_101 hl (by decide) rfl (fun ls hl => ?_)
    refine lv_iload hx hb dX5_asksSkip_103 (lv_at hl 0 rfl) ?_
    refine lv_if_ne (tgt := 144) hx hb dX5_asksSkip_105 (by decide) (fun c_105_6 => ?_) (fun c_105_6 => ?_)
    · have c_105_6 : ¬ (z0_101 = (0 : Int32)) := c_105_6
      exact J_144 σ' x1_101 x3_101 _ _ _ (E.trans (by unfold m_asksSkip_101; rw [if_neg c_105_6])) (lv_sub hl [1, 2, 4] rfl) hP hD hS
    · have c_105_6 : z0_101 = (0 : Int32) := c_105_6
      refine lv_iload_n hx hb dX5_asksSkip_108 rfl (lv_at hl 3 rfl) ?_
      refine lv_bipush (v := (7 : Int32)) hx hb dX5_asksSkip_109 (by decide) ?_
      refine lv_icmp_ne (tgt := 121) hx hb dX5_asksSkip_111 (by decide) (fun c_111_16 => ?_) (fun c_111_16 => ?_)
      · have c_111_16 : ¬ (x2_101 = (7 : Int32)) := c_111_16
        exact J_121 σ' x1_101 x2_101 x3_101 _ _ _ (E.trans (by unfold m_asksSkip_101; rw [if_pos c_105_6, if_neg c_111_16])) (lv_sub hl [1, 2, 3, 4] rfl) hP hD hS
      · have c_111_16 : x2_101 = (7 : Int32) := c_111_16
        refine lv_aload_n hx hb dX5_asksSkip_114 rfl (lv_at hl 1 rfl) ?_
        refine gM_sw (v := (g_sw σ')) hx hb hts hown hK hP kw_460 rfl dX5_asksSkip_115 ?_
        refine lv_if_eq (tgt := 144) hx hb dX5_asksSkip_118 (by decide) (fun c_118_20 => ?_) (fun c_118_20 => ?_)
        · have c_118_20 : (g_sw σ') = (0 : Int32) := c_118_20
          exact J_144 σ' x1_101 x3_101 _ _ _ (E.trans (by unfold m_asksSkip_101; rw [if_pos c_105_6, if_pos c_111_16, if_pos c_118_20])) (lv_sub hl [1, 2, 4] rfl) hP hD hS
        · have c_118_20 : ¬ ((g_sw σ') = (0 : Int32)) := c_118_20
          exact J_121 σ' x1_101 x2_101 x3_101 _ _ _ (E.trans (by unfold m_asksSkip_101; rw [if_pos c_105_6, if_pos c_111_16, if_neg c_118_20])) (lv_sub hl [1, 2, 3, 4] rfl) hP hD hS
  have J_100 : ∀ (σ' : St) (x1_100 : Int32) (x2_100 : Int32) (x3_100 : Int32) (H : Heap) (locs : List Loc) (ls : Array Slot), m_asksSkip σ a1 = m_asksSkip_100 σ' x1_100 x2_100 x3_100 → lv_has ls 5 [(0, .ref (h 0)), (1, .int x1_100), (2, .int x2_100), (3, .int x3_100)] → va_P D vwCl (wM h cI σ') H → va_D A (wM h cI σ') → va_S A s.heap H locs → W p l e ({ frames := 1, cells := 0, slots := 0, locals := 21 } : Room) s m (([.ref (h 0), .int a1] : List Value).toArray) below meth c H locs 0 0 Q (F0 m 100 ls []) := by
    intro σ' x1_100 x2_100 x3_100 H locs ls E hl hP hD hS
    refine lv_iconst (v := (0 : Int32)) hx hb dX5_asksSkip_100 (by decide) ?_
    exact J_101 σ' x1_100 x2_100 x3_100 (0 : Int32) _ _ _ (E.trans (by unfold m_asksSkip_100; rfl)) (lv_sub hl [0, 1, 2, 3] rfl) hP hD hS
  have J_96 : ∀ (σ' : St) (x1_96 : Int32) (x2_96 : Int32) (x3_96 : Int32) (H : Heap) (locs : List Loc) (ls : Array Slot), m_asksSkip σ a1 = m_asksSkip_96 σ' x1_96 x2_96 x3_96 → lv_has ls 5 [(0, .ref (h 0)), (1, .int x1_96), (2, .int x2_96), (3, .int x3_96)] → va_P D vwCl (wM h cI σ') H → va_D A (wM h cI σ') → va_S A s.heap H locs → W p l e ({ frames := 1, cells := 0, slots := 0, locals := 21 } : Room) s m (([.ref (h 0), .int a1] : List Value).toArray) below meth c H locs 0 0 Q (F0 m 96 ls []) := by
    intro σ' x1_96 x2_96 x3_96 H locs ls E hl hP hD hS
    refine lv_iconst (v := (1 : Int32)) hx hb dX5_asksSkip_96 (by decide) ?_
    refine lv_goto (tgt := 101) hx hb dX5_asksSkip_97 (by decide) ?_
    exact J_101 σ' x1_96 x2_96 x3_96 (1 : Int32) _ _ _ (E.trans (by unfold m_asksSkip_96; rfl)) (lv_sub hl [0, 1, 2, 3] rfl) hP hD hS
  have J_78 : ∀ (σ' : St) (x1_78 : Int32) (x2_78 : Int32) (x3_78 : Int32) (H : Heap) (locs : List Loc) (ls : Array Slot), m_asksSkip σ a1 = m_asksSkip_78 σ' x1_78 x2_78 x3_78 → lv_has ls 5 [(0, .ref (h 0)), (1, .int x1_78), (2, .int x2_78), (3, .int x3_78)] → va_P D vwCl (wM h cI σ') H → va_D A (wM h cI σ') → va_S A s.heap H locs → W p l e ({ frames := 1, cells := 0, slots := 0, locals := 21 } : Room) s m (([.ref (h 0), .int a1] : List Value).toArray) below meth c H locs 0 0 Q (F0 m 78 ls []) := by
    intro σ' x1_78 x2_78 x3_78 H locs ls E hl hP hD hS
    refine lv_iload_n hx hb dX5_asksSkip_78 rfl (lv_at hl 1 rfl) ?_
    refine lv_sipush (v := (1024 : Int32)) hx hb dX5_asksSkip_79 (by decide) ?_
    refine lv_iand hx hb dX5_asksSkip_82 ?_
    refine lv_if_le (tgt := 100) hx hb dX5_asksSkip_83 (by decide) (fun c_83_5 => ?_) (fun c_83_5 => ?_)
    · have c_83_5 : (x1_78 &&& (1024 : Int32)) ≤ (0 : Int32) := c_83_5
      exact J_100 σ' x1_78 x2_78 x3_78 _ _ _ (E.trans (by unfold m_asksSkip_78; rw [if_pos c_83_5])) (lv_sub hl [0, 1, 2, 3] rfl) hP hD hS
    · have c_83_5 : ¬ ((x1_78 &&& (1024 : Int32)) ≤ (0 : Int32)) := c_83_5
      refine lv_aload_n hx hb dX5_asksSkip_86 rfl (lv_at hl 0 rfl) ?_
      refine gM_io (v := (g_io σ')) hx hb hts hown hK hP kw_453 rfl dX5_asksSkip_87 ?_
      refine call_Si 1 (kX5_sign l D cI _ (g_io σ')) ⟨hx, hb, hml, hown, hts, hK, hN, hA⟩ ⟨kw_578, kw_579, kw_6, kw_580, by decide +kernel, rfl, rfl, Nat.le_of_ble_eq_true rfl, Nat.le_of_ble_eq_true rfl⟩ rfl hP hD hS hl.1 rfl (Nat.le_of_ble_eq_true rfl) dX5_asksSkip_90 ⟨Nat.zero_le _, Nat.zero_le _⟩ (fun r90 u H locs hw hP hD hS => ?_)
      have hw : (m_sign (g_io σ')) = r90 := hw
      subst hw
      refine lv_if_ne (tgt := 100) hx hb dX5_asksSkip_93 (by decide) (fun c_93_21 => ?_) (fun c_93_21 => ?_)
      · have c_93_21 : ¬ ((m_sign (g_io σ')) = (0 : Int32)) := c_93_21
        exact J_100 σ' x1_78 x2_78 x3_78 _ _ _ (E.trans (by unfold m_asksSkip_78; rw [if_neg c_83_5, if_neg c_93_21])) (lv_sub hl [0, 1, 2, 3] rfl) hP hD hS
      · have c_93_21 : (m_sign (g_io σ')) = (0 : Int32) := c_93_21
        exact J_96 σ' x1_78 x2_78 x3_78 _ _ _ (E.trans (by unfold m_asksSkip_78; rw [if_neg c_83_5, if_pos c_93_21])) (lv_sub hl [0, 1, 2, 3] rfl) hP hD hS
  have J_63 : ∀ (σ' : St) (x1_63 : Int32) (x2_63 : Int32) (x3_63 : Int32) (H : Heap) (locs : List Loc) (ls : Array Slot), m_asksSkip σ a1 = m_asksSkip_63 σ' x1_63 x2_63 x3_63 → lv_has ls 5 [(0, .ref (h 0)), (1, .int x1_63), (2, .int x2_63), (3, .int x3_63)] → va_P D vwCl (wM h cI σ') H → va_D A (wM h cI σ') → va_S A s.heap H locs → W p l e ({ frames := 1, cells := 0, slots := 0, locals := 21 } : Room) s m (([.ref (h 0), .int a1] : List Value).toArray) below meth c H locs 0 0 Q (F0 m 63 ls []) := by
    intro σ' x1_63 x2_63 x3_63 H locs ls E hl hP hD hS
    refine lv_iload_n hx hb dX5_asksSkip_63 rfl (lv_at hl 1 rfl) ?_
    refine lv_sipush (v := (512 : Int32)) hx hb dX5_asksSkip_64 (by decide) ?_
    refine lv_iand hx hb dX5_asksSkip_67 ?_
    refine lv_if_le (tgt := 78) hx hb dX5_asksSkip_68 (by decide) (fun c_68_4 => ?_) (fun c_68_4 => ?_)
    · have c_68_4 : (x1_63 &&& (512 : Int32)) ≤ (0 : Int32) := c_68_4
      exact J_78 σ' x1_63 x2_63 x3_63 _ _ _ (E.trans (by unfold m_asksSkip_63; rw [if_pos c_68_4])) (lv_sub hl [0, 1, 2, 3] rfl) hP hD hS
    · have c_68_4 : ¬ ((x1_63 &&& (512 : Int32)) ≤ (0 : Int32)) := c_68_4
      refine lv_aload_n hx hb dX5_asksSkip_71 rfl (lv_at hl 0 rfl) ?_
      refine gM_ov (v := (g_ov σ')) hx hb hts hown hK hP kw_455 rfl dX5_asksSkip_72 ?_
      refine lv_if_eq (tgt := 96) hx hb dX5_asksSkip_75 (by decide) (fun c_75_22 => ?_) (fun c_75_22 => ?_)
      · have c_75_22 : (g_ov σ') = (0 : Int32) := c_75_22
        exact J_96 σ' x1_63 x2_63 x3_63 _ _ _ (E.trans (by unfold m_asksSkip_63; rw [if_neg c_68_4, if_pos c_75_22])) (lv_sub hl [0, 1, 2, 3] rfl) hP hD hS
      · have c_75_22 : ¬ ((g_ov σ') = (0 : Int32)) := c_75_22
        exact J_78 σ' x1_63 x2_63 x3_63 _ _ _ (E.trans (by unfold m_asksSkip_63; rw [if_neg c_68_4, if_neg c_75_22])) (lv_sub hl [0, 1, 2, 3] rfl) hP hD hS
  have J_44 : ∀ (σ' : St) (x1_44 : Int32) (x2_44 : Int32) (x3_44 : Int32) (H : Heap) (locs : List Loc) (ls : Array Slot), m_asksSkip σ a1 = m_asksSkip_44 σ' x1_44 x2_44 x3_44 → lv_has ls 5 [(0, .ref (h 0)), (1, .int x1_44), (2, .int x2_44), (3, .int x3_44)] → va_P D vwCl (wM h cI σ') H → va_D A (wM h cI σ') → va_S A s.heap H locs → W p l e ({ frames := 1, cells := 0, slots := 0, locals := 21 } : Room) s m (([.ref (h 0), .int a1] : List Value).toArray) below meth c H locs 0 0 Q (F0 m 44 ls []) := by
    intro σ' x1_44 x2_44 x3_44 H locs ls E hl hP hD hS
    refine lv_iload_n hx hb dX5_asksSkip_44 rfl (lv_at hl 1 rfl) ?_
    refine lv_sipush (v := (256 : Int32)) hx hb dX5_asksSkip_45 (by decide) ?_
    refine lv_iand hx hb dX5_asksSkip_48 ?_
    refine lv_if_le (tgt := 63) hx hb dX5_asksSkip_49 (by decide) (fun c_49_3 => ?_) (fun c_49_3 => ?_)
    · have c_49_3 : (x1_44 &&& (256 : Int32)) ≤ (0 : Int32) := c_49_3
      exact J_63 σ' x1_44 x2_44 x3_44 _ _ _ (E.trans (by unfold m_asksSkip_44; rw [if_pos c_49_3])) (lv_sub hl [0, 1, 2, 3] rfl) hP hD hS
    · have c_49_3 : ¬ ((x1_44 &&& (256 : Int32)) ≤ (0 : Int32)) := c_49_3
      refine lv_aload_n hx hb dX5_asksSkip_52 rfl (lv_at hl 0 rfl) ?_
      refine gM_ac (v := (g_ac σ')) hx hb hts hown hK hP kw_452 rfl dX5_asksSkip_53 ?_
      refine call_Si 1 (kX5_sign l D cI _ (g_ac σ')) ⟨hx, hb, hml, hown, hts, hK, hN, hA⟩ ⟨kw_578, kw_579, kw_6, kw_580, by decide +kernel, rfl, rfl, Nat.le_of_ble_eq_true rfl, Nat.le_of_ble_eq_true rfl⟩ rfl hP hD hS hl.1 rfl (Nat.le_of_ble_eq_true rfl) dX5_asksSkip_56 ⟨Nat.zero_le _, Nat.zero_le _⟩ (fun r56 u H locs hw hP hD hS => ?_)
      have hw : (m_sign (g_ac σ')) = r56 := hw
      subst hw
      refine lv_iconst (v := (1 : Int32)) hx hb dX5_asksSkip_59 (by decide) ?_
      refine lv_icmp_eq (tgt := 96) hx hb dX5_asksSkip_60 (by decide) (fun c_60_23 => ?_) (fun c_60_23 => ?_)
      · have c_60_23 : (m_sign (g_ac σ')) = (1 : Int32) := c_60_23
        exact J_96 σ' x1_44 x2_44 x3_44 _ _ _ (E.trans (by unfold m_asksSkip_44; rw [if_neg c_49_3, if_pos c_60_23])) (lv_sub hl [0, 1, 2, 3] rfl) hP hD hS
      · have c_60_23 : ¬ ((m_sign (g_ac σ')) = (1 : Int32)) := c_60_23
        exact J_63 σ' x1_44 x2_44 x3_44 _ _ _ (E.trans (by unfold m_asksSkip_44; rw [if_neg c_49_3, if_neg c_60_23])) (lv_sub hl [0, 1, 2, 3] rfl) hP hD hS
  have J_26 : ∀ (σ' : St) (x1_26 : Int32) (x2_26 : Int32) (x3_26 : Int32) (H : Heap) (locs : List Loc) (ls : Array Slot), m_asksSkip σ a1 = m_asksSkip_26 σ' x1_26 x2_26 x3_26 → lv_has ls 5 [(0, .ref (h 0)), (1, .int x1_26), (2, .int x2_26), (3, .int x3_26)] → va_P D vwCl (wM h cI σ') H → va_D A (wM h cI σ') → va_S A s.heap H locs → W p l e ({ frames := 1, cells := 0, slots := 0, locals := 21 } : Room) s m (([.ref (h 0), .int a1] : List Value).toArray) below meth c H locs 0 0 Q (F0 m 26 ls []) := by
    intro σ' x1_26 x2_26 x3_26 H locs ls E hl hP hD hS
    refine lv_iload_n hx hb dX5_asksSkip_26 rfl (lv_at hl 1 rfl) ?_
    refine lv_sipush (v := (128 : Int32)) hx hb dX5_asksSkip_27 (by decide) ?_
    refine lv_iand hx hb dX5_asksSkip_30 ?_
    refine lv_if_le (tgt := 44) hx hb dX5_asksSkip_31 (by decide) (fun c_31_2 => ?_) (fun c_31_2 => ?_)
    · have c_31_2 : (x1_26 &&& (128 : Int32)) ≤ (0 : Int32) := c_31_2
      exact J_44 σ' x1_26 x2_26 x3_26 _ _ _ (E.trans (by unfold m_asksSkip_26; rw [if_pos c_31_2])) (lv_sub hl [0, 1, 2, 3] rfl) hP hD hS
    · have c_31_2 : ¬ ((x1_26 &&& (128 : Int32)) ≤ (0 : Int32)) := c_31_2
      refine lv_aload_n hx hb dX5_asksSkip_34 rfl (lv_at hl 0 rfl) ?_
      refine gM_ac (v := (g_ac σ')) hx hb hts hown hK hP kw_452 rfl dX5_asksSkip_35 ?_
      refine call_Si 1 (kX5_sign l D cI _ (g_ac σ')) ⟨hx, hb, hml, hown, hts, hK, hN, hA⟩ ⟨kw_578, kw_579, kw_6, kw_580, by decide +kernel, rfl, rfl, Nat.le_of_ble_eq_true rfl, Nat.le_of_ble_eq_true rfl⟩ rfl hP hD hS hl.1 rfl (Nat.le_of_ble_eq_true rfl) dX5_asksSkip_38 ⟨Nat.zero_le _, Nat.zero_le _⟩ (fun r38 u H locs hw hP hD hS => ?_)
      have hw : (m_sign (g_ac σ')) = r38 := hw
      subst hw
      refine lv_if_eq (tgt := 96) hx hb dX5_asksSkip_41 (by decide) (fun c_41_24 => ?_) (fun c_41_24 => ?_)
      · have c_41_24 : (m_sign (g_ac σ')) = (0 : Int32) := c_41_24
        exact J_96 σ' x1_26 x2_26 x3_26 _ _ _ (E.trans (by unfold m_asksSkip_26; rw [if_neg c_31_2, if_pos c_41_24])) (lv_sub hl [0, 1, 2, 3] rfl) hP hD hS
      · have c_41_24 : ¬ ((m_sign (g_ac σ')) = (0 : Int32)) := c_41_24
        exact J_44 σ' x1_26 x2_26 x3_26 _ _ _ (E.trans (by unfold m_asksSkip_26; rw [if_neg c_31_2, if_neg c_41_24])) (lv_sub hl [0, 1, 2, 3] rfl) hP hD hS
  suffices go : ∀ (H : Heap) (locs : List Loc), va_P D vwCl (wM h cI σ) H → va_D A (wM h cI σ) → va_S A s.heap H locs → W p l e ({ frames := 1, cells := 0, slots := 0, locals := 21 } : Room) s m (([.ref (h 0), .int a1] : List Value).toArray) below meth c H locs 0 0 Q (F0 m 0 ls []) from go _ _ hP hD hS
  intro H locs hP hD hS
  refine lv_iload_n hx hb dX5_asksSkip_0 rfl (lv_at hl 1 rfl) ?_
  refine lv_iconst (v := (3 : Int32)) hx hb dX5_asksSkip_1 (by decide) ?_
  refine lv_ishr hx hb dX5_asksSkip_2 ?_
  refine lv_bipush (v := (7 : Int32)) hx hb dX5_asksSkip_3 (by decide) ?_
  refine lv_iand hx hb dX5_asksSkip_5 ?_
  refine lv_istore_n (lv' := [(2, .int ((a1 >>> ((3 : Int32) &&& 31)) &&& (7 : Int32))), (0, .ref (h 0)), (1, .int a1)]) hx hb dX5_asksSkip_6 rfl hl (by decide) rfl (fun ls hl => ?_)
  refine lv_iload_n hx hb dX5_asksSkip_7 rfl (lv_at hl 2 rfl) ?_
  refine lv_bipush (v := (7 : Int32)) hx hb dX5_asksSkip_8 (by decide) ?_
  refine lv_iand hx hb dX5_asksSkip_10 ?_
  refine lv_istore_n (lv' := [(3, .int (a1 &&& (7 : Int32))), (2, .int ((a1 >>> ((3 : Int32) &&& 31)) &&& (7 : Int32))), (0, .ref (h 0)), (1, .int a1)]) hx hb dX5_asksSkip_11 rfl hl (by decide) rfl (fun ls hl => ?_)
  refine lv_iload_n hx hb dX5_asksSkip_12 rfl (lv_at hl 3 rfl) ?_
  refine lv_bipush (v := (64 : Int32)) hx hb dX5_asksSkip_13 (by decide) ?_
  refine lv_iand hx hb dX5_asksSkip_15 ?_
  refine lv_if_le (tgt := 26) hx hb dX5_asksSkip_16 (by decide) (fun c_16_1 => ?_) (fun c_16_1 => ?_)
  · have c_16_1 : (a1 &&& (64 : Int32)) ≤ (0 : Int32) := c_16_1
    exact J_26 σ a1 ((a1 >>> ((3 : Int32) &&& 31)) &&& (7 : Int32)) (a1 &&& (7 : Int32)) _ _ _ (by unfold m_asksSkip; rw [if_pos c_16_1]) (lv_sub hl [2, 3, 1, 0] rfl) hP hD hS
  · have c_16_1 : ¬ ((a1 &&& (64 : Int32)) ≤ (0 : Int32)) := c_16_1
    refine lv_aload_n hx hb dX5_asksSkip_19 rfl (lv_at hl 2 rfl) ?_
    refine gM_ac (v := (g_ac σ)) hx hb hts hown hK hP kw_452 rfl dX5_asksSkip_20 ?_
    refine lv_if_eq (tgt := 96) hx hb dX5_asksSkip_23 (by decide) (fun c_23_25 => ?_) (fun c_23_25 => ?_)
    · have c_23_25 : (g_ac σ) = (0 : Int32) := c_23_25
      exact J_96 σ a1 ((a1 >>> ((3 : Int32) &&& 31)) &&& (7 : Int32)) (a1 &&& (7 : Int32)) _ _ _ (by unfold m_asksSkip; rw [if_neg c_16_1, if_pos c_23_25]) (lv_sub hl [2, 3, 1, 0] rfl) hP hD hS
    · have c_23_25 : ¬ ((g_ac σ) = (0 : Int32)) := c_23_25
      exact J_26 σ a1 ((a1 >>> ((3 : Int32) &&& 31)) &&& (7 : Int32)) (a1 &&& (7 : Int32)) _ _ _ (by unfold m_asksSkip; rw [if_neg c_16_1, if_neg c_23_25]) (lv_sub hl [2, 3, 1, 0] rfl) hP hD hS
