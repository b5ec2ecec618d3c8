def m_ofMemory_346 (σ : St) (z1_346 : Int32) : St := (m_skips σ z1_346)
def m_ofMemory_366 (σ : St) (z1_366 : Int32) : St := (m_skips σ z1_366)
def m_ofMemory_386 (σ : St) (z1_386 : Int32) : St := (m_skips σ z1_386)
def m_ofMemory (σ : St) (a1 : Int32) (a2 : Int32) : St := (if a1 = (1 : Int32) then (s_ac σ ((g_ac σ) &&& ((g_cells σ) (Int32.toNatClampNeg a2)))) else (if a1 = (2 : Int32) then (s_ac σ ((g_ac σ) ||| ((g_cells σ) (Int32.toNatClampNeg a2)))) else (if a1 = (3 : Int32) then (s_ac σ ((g_ac σ) ^^^ ((g_cells σ) (Int32.toNatClampNeg a2)))) else (if a1 = (8 : Int32) then (s_ac σ ((g_cells σ) (Int32.toNatClampNeg a2))) else (if a1 = (9 : Int32) then (s_io σ ((g_cells σ) (Int32.toNatClampNeg a2))) else (if a1 = (10 : Int32) then (s_cells σ (upd (g_cells σ) (Int32.toNatClampNeg a2) (g_ac σ))) else (if a1 = (11 : Int32) then (s_cells σ (upd (g_cells σ) (Int32.toNatClampNeg a2) ((((g_cells σ) (Int32.toNatClampNeg a2)) &&& (-4096 : Int32)) ||| ((g_ac σ) &&& (4095 : Int32))))) else (if a1 = (12 : Int32) then (s_cells σ (upd (g_cells σ) (Int32.toNatClampNeg a2) ((((g_cells σ) (Int32.toNatClampNeg a2)) &&& (4095 : Int32)) ||| ((g_ac σ) &&& (-4096 : Int32))))) else (if a1 = (13 : Int32) then (s_cells σ (upd (g_cells σ) (Int32.toNatClampNeg a2) (g_io σ))) else (if a1 = (14 : Int32) then (s_cells σ (upd (g_cells σ) (Int32.toNatClampNeg a2) (0 : Int32))) else (if a1 = (16 : Int32) then (s_ac (m_overflows σ (g_ac σ) ((g_cells σ) (Int32.toNatClampNeg a2))) (m_plain (m_sum (g_ac (m_overflows σ (g_ac σ) ((g_cells σ) (Int32.toNatClampNeg a2)))) ((g_cells σ) (Int32.toNatClampNeg a2))))) else (if a1 = (17 : Int32) then (s_ac (m_overflows σ (m_not (g_ac σ)) ((g_cells σ) (Int32.toNatClampNeg a2))) (m_not (m_sum (m_not (g_ac (m_overflows σ (m_not (g_ac σ)) ((g_cells σ) (Int32.toNatClampNeg a2))))) ((g_cells σ) (Int32.toNatClampNeg a2))))) else (if a1 = (18 : Int32) then (m_index σ a2) else (if a1 = (19 : Int32) then (if (m_sign (g_ac (m_index σ a2))) = (0 : Int32) then m_ofMemory_346 (m_index σ a2) (1 : Int32) else m_ofMemory_346 (m_index σ a2) (0 : Int32)) else (if a1 = (20 : Int32) then (if (g_ac σ) = ((g_cells σ) (Int32.toNatClampNeg a2)) then m_ofMemory_366 σ (0 : Int32) else m_ofMemory_366 σ (1 : Int32)) else (if a1 = (21 : Int32) then (if (g_ac σ) = ((g_cells σ) (Int32.toNatClampNeg a2)) then m_ofMemory_386 σ (1 : Int32) else m_ofMemory_386 σ (0 : Int32)) else (if a1 = (22 : Int32) then (m_multiplies σ ((g_cells σ) (Int32.toNatClampNeg a2))) else (if a1 = (23 : Int32) then (m_divides σ ((g_cells σ) (Int32.toNatClampNeg a2))) else (if a1 = (24 : Int32) then (s_pc σ a2) else (s_pc (s_ac σ (m_place σ)) a2))))))))))))))))))))
set_option maxRecDepth 100000 in
set_option maxHeartbeats 8000000 in
theorem kX5_ofMemory (l : Launch) (D : va_G) (cI : ClassId) (h : Nat → Nat) (σ : St) (a1 : Int32) (a2 : Int32) (ha : vp_in a2 4096) : MetV l yX5_ofMemory (wsU yX5_ofMemory cX5_ofMemory 4 none) { frames := 2, cells := 0, slots := 0, locals := 45 } D cI [.ref (h 0), .int a1, .int a2] (wM h cI σ) (fun u : St => wM h cI u) (fun u => (m_ofMemory σ a1 a2) = u) := by
  refine MetV.of (by decide) (Nat.le_of_ble_eq_true rfl) ?_
  intro p e s m below meth c A Q ls hx hb hml hown hts hK hN hA hret hP hD hS hl
  have hown : s.vm.findClass RX5 = some m.cls := hown
  have hl : lv_has ls 4 [(0, .ref (h 0)), (1, .int a1), (2, .int a2)] := hl
  have J_346 : ∀ (σ' : St) (z1_346 : Int32) (H : Heap) (locs : List Loc) (ls : Array Slot), m_ofMemory σ a1 a2 = m_ofMemory_346 σ' z1_346 → lv_has ls 4 [(0, .ref (h 0))] → va_P D vwCl (wM h cI σ') H → va_D A (wM h cI σ') → va_S A s.heap H locs → W p l e ({ frames := 2, cells := 0, slots := 0, locals := 45 } : Room) s m (([.ref (h 0), .int a1, .int a2] : List Value).toArray) below meth c H locs 0 0 Q (F0 m 346 ls [.int z1_346, .ref (h 0)]) := by
    intro σ' z1_346 H locs ls E hl hP hD hS
    refine call_Vv 1 (kX5_skips l D cI h _ z1_346) ⟨hx, hb, hml, hown, hts, hK, hN, hA⟩ ⟨kw_605, kw_607, ks_yX5_skips, kw_6, kw_608, by decide +kernel, rfl, rfl, Nat.le_of_ble_eq_true rfl, Nat.le_of_ble_eq_true rfl⟩ rfl (va_recv hK hP (ci := 5) (q0 := 0) rfl rfl) hP hD hS hl.1 rfl (Nat.le_of_ble_eq_true rfl) dX5_ofMemory_346 ⟨Nat.zero_le _, Nat.zero_le _⟩ (fun u H locs hw hP hD hS => ?_)
    have hw : (m_skips σ' z1_346) = u := hw
    subst hw
    refine lv_goto (tgt := 429) hx hb dX5_ofMemory_349 (by decide) ?_
    have hE : m_ofMemory σ a1 a2 = (m_skips σ' z1_346) := (E.trans (by unfold m_ofMemory_346; rfl))
    exact hret (m_skips σ' z1_346) _ _ _ _ hE hP hD hS dX5_ofMemory_429
  have J_366 : ∀ (σ' : St) (z1_366 : Int32) (H : Heap) (locs : List Loc) (ls : Array Slot), m_ofMemory σ a1 a2 = m_ofMemory_366 σ' z1_366 → lv_has ls 4 [(0, .ref (h 0))] → va_P D vwCl (wM h cI σ') H → va_D A (wM h cI σ') → va_S A s.heap H locs → W p l e ({ frames := 2, cells := 0, slots := 0, locals := 45 } : Room) s m (([.ref (h 0), .int a1, .int a2] : List Value).toArray) below meth c H locs 0 0 Q (F0 m 366 ls [.int z1_366, .ref (h 0)]) := by
    intro σ' z1_366 H locs ls E hl hP hD hS
    refine call_Vv 1 (kX5_skips l D cI h _ z1_366) ⟨hx, hb, hml, hown, hts, hK, hN, hA⟩ ⟨kw_605, kw_607, ks_yX5_skips, kw_6, kw_608, by decide +kernel, rfl, rfl, Nat.le_of_ble_eq_true rfl, Nat.le_of_ble_eq_true rfl⟩ rfl (va_recv hK hP (ci := 5) (q0 := 0) rfl rfl) hP hD hS hl.1 rfl (Nat.le_of_ble_eq_true rfl) dX5_ofMemory_366 ⟨Nat.zero_le _, Nat.zero_le _⟩ (fun u H locs hw hP hD hS => ?_)
    have hw : (m_skips σ' z1_366) = u := hw
    subst hw
    refine lv_goto (tgt := 429) hx hb dX5_ofMemory_369 (by decide) ?_
    have hE : m_ofMemory σ a1 a2 = (m_skips σ' z1_366) := (E.trans (by unfold m_ofMemory_366; rfl))
    exact hret (m_skips σ' z1_366) _ _ _ _ hE hP hD hS dX5_ofMemory_429
  have J_386 : ∀ (σ' : St) (z1_386 : Int32) (H : Heap) (locs : List Loc) (ls : Array Slot), m_ofMemory σ a1 a2 = m_ofMemory_386 σ' z1_386 → lv_has ls 4 [(0, .ref (h 0))] → va_P D vwCl (wM h cI σ') H → va_D A (wM h cI σ') → va_S A s.heap H locs → W p l e ({ frames := 2, cells := 0, slots := 0, locals := 45 } : Room) s m (([.ref (h 0), .int a1, .int a2] : List Value).toArray) below meth c H locs 0 0 Q (F0 m 386 ls [.int z1_386, .ref (h 0)]) := by
    intro σ' z1_386 H locs ls E hl hP hD hS
    refine call_Vv 1 (kX5_skips l D cI h _ z1_386) ⟨hx, hb, hml, hown, hts, hK, hN, hA⟩ ⟨kw_605, kw_607, ks_yX5_skips, kw_6, kw_608, by decide +kernel, rfl, rfl, Nat.le_of_ble_eq_true rfl, Nat.le_of_ble_eq_true rfl⟩ rfl (va_recv hK hP (ci := 5) (q0 := 0) rfl rfl) hP hD hS hl.1 rfl (Nat.le_of_ble_eq_true rfl) dX5_ofMemory_386 ⟨Nat.zero_le _, Nat.zero_le _⟩ (fun u H locs hw hP hD hS => ?_)
    have hw : (m_skips σ' z1_386) = u := hw
    subst hw
    refine lv_goto (tgt := 429) hx hb dX5_ofMemory_389 (by decide) ?_
    have hE : m_ofMemory σ a1 a2 = (m_skips σ' z1_386) := (E.trans (by unfold m_ofMemory_386; rfl))
    exact hret (m_skips σ' z1_386) _ _ _ _ hE hP hD hS dX5_ofMemory_429
  suffices go : ∀ (H : Heap) (locs : List Loc), va_P D vwCl (wM h cI σ) H → va_D A (wM h cI σ) → va_S A s.heap H locs → W p l e ({ frames := 2, cells := 0, slots := 0, locals := 45 } : Room) s m (([.ref (h 0), .int a1, .int a2] : List Value).toArray) below meth c H locs 0 0 Q (F0 m 0 ls []) from go _ _ hP hD hS
  intro H locs hP hD hS
  refine lv_aload_n hx hb dX5_ofMemory_0 rfl (lv_at hl 0 rfl) ?_
  refine gM_ref1 hx hb hts hown hK hP kw_451 dX5_ofMemory_1 ?_
  refine lv_iload_n hx hb dX5_ofMemory_4 rfl (lv_at hl 2 rfl) ?_
  refine aM_cells (v := ((g_cells σ) (Int32.toNatClampNeg a2))) hx hb hK hP (by exact ha) rfl dX5_ofMemory_5 ?_
  refine lv_istore_n (lv' := [(3, .int ((g_cells σ) (Int32.toNatClampNeg a2))), (0, .ref (h 0)), (1, .int a1), (2, .int a2)]) hx hb dX5_ofMemory_6 rfl hl (by decide) rfl (fun ls hl => ?_)
  refine lv_iload_n hx hb dX5_ofMemory_7 rfl (lv_at hl 2 rfl) ?_
  by_cases s_8_1_0 : a1 = (1 : Int32)
  · refine lv_tableIn (off := 112) (tgt := 120) hx hb dX5_ofMemory_8 (by rw [s_8_1_0]; decide) (by rw [s_8_1_0]; decide) (by rw [s_8_1_0]; rfl) (by decide) ?_
    refine lv_aload_n hx hb dX5_ofMemory_120 rfl (lv_at hl 1 rfl) ?_
    refine lv_aload_n hx hb dX5_ofMemory_121 rfl (lv_at hl 1 rfl) ?_
    refine gM_ac (v := (g_ac σ)) hx hb hts hown hK hP kw_452 rfl dX5_ofMemory_122 ?_
    refine lv_iload_n hx hb dX5_ofMemory_125 rfl (lv_at hl 0 rfl) ?_
    refine lv_iand hx hb dX5_ofMemory_126 ?_
    refine pM_ac hx hb hts hown hK hP hD hS kw_452 dX5_ofMemory_127 (fun H locs hP hD hS => ?_)
    refine lv_goto (tgt := 429) hx hb dX5_ofMemory_130 (by decide) ?_
    have hE : m_ofMemory σ a1 a2 = (s_ac σ ((g_ac σ) &&& ((g_cells σ) (Int32.toNatClampNeg a2)))) := (by unfold m_ofMemory; rw [if_pos s_8_1_0])
    exact hret (s_ac σ ((g_ac σ) &&& ((g_cells σ) (Int32.toNatClampNeg a2)))) _ _ _ _ hE hP hD hS dX5_ofMemory_429
  by_cases s_8_1_1 : a1 = (2 : Int32)
  · refine lv_tableIn (off := 125) (tgt := 133) hx hb dX5_ofMemory_8 (by rw [s_8_1_1]; decide) (by rw [s_8_1_1]; decide) (by rw [s_8_1_1]; rfl) (by decide) ?_
    refine lv_aload_n hx hb dX5_ofMemory_133 rfl (lv_at hl 1 rfl) ?_
    refine lv_aload_n hx hb dX5_ofMemory_134 rfl (lv_at hl 1 rfl) ?_
    refine gM_ac (v := (g_ac σ)) hx hb hts hown hK hP kw_452 rfl dX5_ofMemory_135 ?_
    refine lv_iload_n hx hb dX5_ofMemory_138 rfl (lv_at hl 0 rfl) ?_
    refine lv_ior hx hb dX5_ofMemory_139 ?_
    refine pM_ac hx hb hts hown hK hP hD hS kw_452 dX5_ofMemory_140 (fun H locs hP hD hS => ?_)
    refine lv_goto (tgt := 429) hx hb dX5_ofMemory_143 (by decide) ?_
    have hE : m_ofMemory σ a1 a2 = (s_ac σ ((g_ac σ) ||| ((g_cells σ) (Int32.toNatClampNeg a2)))) := (by unfold m_ofMemory; rw [if_neg s_8_1_0, if_pos s_8_1_1])
    exact hret (s_ac σ ((g_ac σ) ||| ((g_cells σ) (Int32.toNatClampNeg a2)))) _ _ _ _ hE hP hD hS dX5_ofMemory_429
  by_cases s_8_1_2 : a1 = (3 : Int32)
  · refine lv_tableIn (off := 138) (tgt := 146) hx hb dX5_ofMemory_8 (by rw [s_8_1_2]; decide) (by rw [s_8_1_2]; decide) (by rw [s_8_1_2]; rfl) (by decide) ?_
    refine lv_aload_n hx hb dX5_ofMemory_146 rfl (lv_at hl 1 rfl) ?_
    refine lv_aload_n hx hb dX5_ofMemory_147 rfl (lv_at hl 1 rfl) ?_
    refine gM_ac (v := (g_ac σ)) hx hb hts hown hK hP kw_452 rfl dX5_ofMemory_148 ?_
    refine lv_iload_n hx hb dX5_ofMemory_151 rfl (lv_at hl 0 rfl) ?_
    refine lv_ixor hx hb dX5_ofMemory_152 ?_
    refine pM_ac hx hb hts hown hK hP hD hS kw_452 dX5_ofMemory_153 (fun H locs hP hD hS => ?_)
    refine lv_goto (tgt := 429) hx hb dX5_ofMemory_156 (by decide) ?_
    have hE : m_ofMemory σ a1 a2 = (s_ac σ ((g_ac σ) ^^^ ((g_cells σ) (Int32.toNatClampNeg a2)))) := (by unfold m_ofMemory; rw [if_neg s_8_1_0, if_neg s_8_1_1, if_pos s_8_1_2])
    exact hret (s_ac σ ((g_ac σ) ^^^ ((g_cells σ) (Int32.toNatClampNeg a2)))) _ _ _ _ hE hP hD hS dX5_ofMemory_429
  by_cases s_8_1_3 : a1 = (8 : Int32)
  · refine lv_tableIn (off := 151) (tgt := 159) hx hb dX5_ofMemory_8 (by rw [s_8_1_3]; decide) (by rw [s_8_1_3]; decide) (by rw [s_8_1_3]; rfl) (by decide) ?_
    refine lv_aload_n hx hb dX5_ofMemory_159 rfl (lv_at hl 1 rfl) ?_
    refine lv_iload_n hx hb dX5_ofMemory_160 rfl (lv_at hl 0 rfl) ?_
    refine pM_ac hx hb hts hown hK hP hD hS kw_452 dX5_ofMemory_161 (fun H locs hP hD hS => ?_)
    refine lv_goto (tgt := 429) hx hb dX5_ofMemory_164 (by decide) ?_
    have hE : m_ofMemory σ a1 a2 = (s_ac σ ((g_cells σ) (Int32.toNatClampNeg a2))) := (by unfold m_ofMemory; rw [if_neg s_8_1_0, if_neg s_8_1_1, if_neg s_8_1_2, if_pos s_8_1_3])
    exact hret (s_ac σ ((g_cells σ) (Int32.toNatClampNeg a2))) _ _ _ _ hE hP hD hS dX5_ofMemory_429
  by_cases s_8_1_4 : a1 = (9 : Int32)
  · refine lv_tableIn (off := 159) (tgt := 167) hx hb dX5_ofMemory_8 (by rw [s_8_1_4]; decide) (by rw [s_8_1_4]; decide) (by rw [s_8_1_4]; rfl) (by decide) ?_
    refine lv_aload_n hx hb dX5_ofMemory_167 rfl (lv_at hl 1 rfl) ?_
    refine lv_iload_n hx hb dX5_ofMemory_168 rfl (lv_at hl 0 rfl) ?_
    refine pM_io hx hb hts hown hK hP hD hS kw_453 dX5_ofMemory_169 (fun H locs hP hD hS => ?_)
    refine lv_goto (tgt := 429) hx hb dX5_ofMemory_172 (by decide) ?_
    have hE : m_ofMemory σ a1 a2 = (s_io σ ((g_cells σ) (Int32.toNatClampNeg a2))) := (by unfold m_ofMemory; rw [if_neg s_8_1_0, if_neg s_8_1_1, if_neg s_8_1_2, if_neg s_8_1_3, if_pos s_8_1_4])
    exact hret (s_io σ ((g_cells σ) (Int32.toNatClampNeg a2))) _ _ _ _ hE hP hD hS dX5_ofMemory_429
  by_cases s_8_1_5 : a1 = (10 : Int32)
  · refine lv_tableIn (off := 167) (tgt := 175) hx hb dX5_ofMemory_8 (by rw [s_8_1_5]; decide) (by rw [s_8_1_5]; decide) (by rw [s_8_1_5]; rfl) (by decide) ?_
    refine lv_aload_n hx hb dX5_ofMemory_175 rfl (lv_at hl 1 rfl) ?_
    refine gM_ref1 hx hb hts hown hK hP kw_451 dX5_ofMemory_176 ?_
    refine lv_iload_n hx hb dX5_ofMemory_179 rfl (lv_at hl 3 rfl) ?_
    refine lv_aload_n hx hb dX5_ofMemory_180 rfl (lv_at hl 1 rfl) ?_
    refine gM_ac (v := (g_ac σ)) hx hb hts hown hK hP kw_452 rfl dX5_ofMemory_181 ?_
    refine bM_cells (f := (g_cells σ)) hx hb hK hP hD hS (by exact ha) rfl dX5_ofMemory_184 (fun H locs hP hD hS => ?_)
    refine lv_goto (tgt := 429) hx hb dX5_ofMemory_185 (by decide) ?_
    have hE : m_ofMemory σ a1 a2 = (s_cells σ (upd (g_cells σ) (Int32.toNatClampNeg a2) (g_ac σ))) := (by unfold m_ofMemory; rw [if_neg s_8_1_0, if_neg s_8_1_1, if_neg s_8_1_2, if_neg s_8_1_3, if_neg s_8_1_4, if_pos s_8_1_5])
    exact hret (s_cells σ (upd (g_cells σ) (Int32.toNatClampNeg a2) (g_ac σ))) _ _ _ _ hE hP hD hS dX5_ofMemory_429
  by_cases s_8_1_6 : a1 = (11 : Int32)
  · refine lv_tableIn (off := 180) (tgt := 188) hx hb dX5_ofMemory_8 (by rw [s_8_1_6]; decide) (by rw [s_8_1_6]; decide) (by rw [s_8_1_6]; rfl) (by decide) ?_
    refine lv_aload_n hx hb dX5_ofMemory_188 rfl (lv_at hl 1 rfl) ?_
    refine gM_ref1 hx hb hts hown hK hP kw_451 dX5_ofMemory_189 ?_
    refine lv_iload_n hx hb dX5_ofMemory_192 rfl (lv_at hl 3 rfl) ?_
    refine lv_iload_n hx hb dX5_ofMemory_193 rfl (lv_at hl 0 rfl) ?_
    refine lv_sipush (v := (-4096 : Int32)) hx hb dX5_ofMemory_194 (by decide) ?_
    refine lv_iand hx hb dX5_ofMemory_197 ?_
    refine lv_aload_n hx hb dX5_ofMemory_198 rfl (lv_at hl 1 rfl) ?_
    refine gM_ac (v := (g_ac σ)) hx hb hts hown hK hP kw_452 rfl dX5_ofMemory_199 ?_
    refine lv_sipush (v := (4095 : Int32)) hx hb dX5_ofMemory_202 (by decide) ?_
    refine lv_iand hx hb dX5_ofMemory_205 ?_
    refine lv_ior hx hb dX5_ofMemory_206 ?_
    refine bM_cells (f := (g_cells σ)) hx hb hK hP hD hS (by exact ha) rfl dX5_ofMemory_207 (fun H locs hP hD hS => ?_)
    refine lv_goto (tgt := 429) hx hb dX5_ofMemory_208 (by decide) ?_
    have hE : m_ofMemory σ a1 a2 = (s_cells σ (upd (g_cells σ) (Int32.toNatClampNeg a2) ((((g_cells σ) (Int32.toNatClampNeg a2)) &&& (-4096 : Int32)) ||| ((g_ac σ) &&& (4095 : Int32))))) := (by unfold m_ofMemory; rw [if_neg s_8_1_0, if_neg s_8_1_1, if_neg s_8_1_2, if_neg s_8_1_3, if_neg s_8_1_4, if_neg s_8_1_5, if_pos s_8_1_6])
    exact hret (s_cells σ (upd (g_cells σ) (Int32.toNatClampNeg a2) ((((g_cells σ) (Int32.toNatClampNeg a2)) &&& (-4096 : Int32)) ||| ((g_ac σ) &&& (4095 : Int32))))) _ _ _ _ hE hP hD hS dX5_ofMemory_429
  by_cases s_8_1_7 : a1 = (12 : Int32)
  · refine lv_tableIn (off := 203) (tgt := 211) hx hb dX5_ofMemory_8 (by rw [s_8_1_7]; decide) (by rw [s_8_1_7]; decide) (by rw [s_8_1_7]; rfl) (by decide) ?_
    refine lv_aload_n hx hb dX5_ofMemory_211 rfl (lv_at hl 1 rfl) ?_
    refine gM_ref1 hx hb hts hown hK hP kw_451 dX5_ofMemory_212 ?_
    refine lv_iload_n hx hb dX5_ofMemory_215 rfl (lv_at hl 3 rfl) ?_
    refine lv_iload_n hx hb dX5_ofMemory_216 rfl (lv_at hl 0 rfl) ?_
    refine lv_sipush (v := (4095 : Int32)) hx hb dX5_ofMemory_217 (by decide) ?_
    refine lv_iand hx hb dX5_ofMemory_220 ?_
    refine lv_aload_n hx hb dX5_ofMemory_221 rfl (lv_at hl 1 rfl) ?_
    refine gM_ac (v := (g_ac σ)) hx hb hts hown hK hP kw_452 rfl dX5_ofMemory_222 ?_
    refine lv_sipush (v := (-4096 : Int32)) hx hb dX5_ofMemory_225 (by decide) ?_
    refine lv_iand hx hb dX5_ofMemory_228 ?_
    refine lv_ior hx hb dX5_ofMemory_229 ?_
    refine bM_cells (f := (g_cells σ)) hx hb hK hP hD hS (by exact ha) rfl dX5_ofMemory_230 (fun H locs hP hD hS => ?_)
    refine lv_goto (tgt := 429) hx hb dX5_ofMemory_231 (by decide) ?_
    have hE : m_ofMemory σ a1 a2 = (s_cells σ (upd (g_cells σ) (Int32.toNatClampNeg a2) ((((g_cells σ) (Int32.toNatClampNeg a2)) &&& (4095 : Int32)) ||| ((g_ac σ) &&& (-4096 : Int32))))) := (by unfold m_ofMemory; rw [if_neg s_8_1_0, if_neg s_8_1_1, if_neg s_8_1_2, if_neg s_8_1_3, if_neg s_8_1_4, if_neg s_8_1_5, if_neg s_8_1_6, if_pos s_8_1_7])
    exact hret (s_cells σ (upd (g_cells σ) (Int32.toNatClampNeg a2) ((((g_cells σ) (Int32.toNatClampNeg a2)) &&& (4095 : Int32)) ||| ((g_ac σ) &&& (-4096 : Int32))))) _ _ _ _ hE hP hD hS dX5_ofMemory_429
  by_cases s_8_1_8 : a1 = (13 : Int32)
  · refine lv_tableIn (off := 226) (tgt := 234) hx hb dX5_ofMemory_8 (by rw [s_8_1_8]; decide) (by rw [s_8_1_8]; decide) (by rw [s_8_1_8]; rfl) (by decide) ?_
    refine lv_aload_n hx hb dX5_ofMemory_234 rfl (lv_at hl 1 rfl) ?_
    refine gM_ref1 hx hb hts hown hK hP kw_451 dX5_ofMemory_235 ?_
    refine lv_iload_n hx hb dX5_ofMemory_238 rfl (lv_at hl 3 rfl) ?_
    refine lv_aload_n hx hb dX5_ofMemory_239 rfl (lv_at hl 1 rfl) ?_
    refine gM_io (v := (g_io σ)) hx hb hts hown hK hP kw_453 rfl dX5_ofMemory_240 ?_
    refine bM_cells (f := (g_cells σ)) hx hb hK hP hD hS (by exact ha) rfl dX5_ofMemory_243 (fun H locs hP hD hS => ?_)
    refine lv_goto (tgt := 429) hx hb dX5_ofMemory_244 (by decide) ?_
    have hE : m_ofMemory σ a1 a2 = (s_cells σ (upd (g_cells σ) (Int32.toNatClampNeg a2) (g_io σ))) := (by unfold m_ofMemory; rw [if_neg s_8_1_0, if_neg s_8_1_1, if_neg s_8_1_2, if_neg s_8_1_3, if_neg s_8_1_4, if_neg s_8_1_5, if_neg s_8_1_6, if_neg s_8_1_7, if_pos s_8_1_8])
    exact hret (s_cells σ (upd (g_cells σ) (Int32.toNatClampNeg a2) (g_io σ))) _ _ _ _ hE hP hD hS dX5_ofMemory_429
  by_cases s_8_1_9 : a1 = (14 : Int32)
  · refine lv_tableIn (off := 239) (tgt := 247) hx hb dX5_ofMemory_8 (by rw [s_8_1_9]; decide) (by rw [s_8_1_9]; decide) (by rw [s_8_1_9]; rfl) (by decide) ?_
    refine lv_aload_n hx hb dX5_ofMemory_247 rfl (lv_at hl 1 rfl) ?_
    refine gM_ref1 hx hb hts hown hK hP kw_451 dX5_ofMemory_248 ?_
    refine lv_iload_n hx hb dX5_ofMemory_251 rfl (lv_at hl 3 rfl) ?_
    refine lv_iconst (v := (0 : Int32)) hx hb dX5_ofMemory_252 (by decide) ?_
    refine bM_cells (f := (g_cells σ)) hx hb hK hP hD hS (by exact ha) rfl dX5_ofMemory_253 (fun H locs hP hD hS => ?_)
    refine lv_goto (tgt := 429) hx hb dX5_ofMemory_254 (by decide) ?_
    have hE : m_ofMemory σ a1 a2 = (s_cells σ (upd (g_cells σ) (Int32.toNatClampNeg a2) (0 : Int32))) := (by unfold m_ofMemory; rw [if_neg s_8_1_0, if_neg s_8_1_1, if_neg s_8_1_2, if_neg s_8_1_3, if_neg s_8_1_4, if_neg s_8_1_5, if_neg s_8_1_6, if_neg s_8_1_7, if_neg s_8_1_8, if_pos s_8_1_9])
    exact hret (s_cells σ (upd (g_cells σ) (Int32.toNatClampNeg a2) (0 : Int32))) _ _ _ _ hE hP hD hS dX5_ofMemory_429
  by_cases s_8_1_10 : a1 = (16 : Int32)
  · refine lv_tableIn (off := 249) (tgt := 257) hx hb dX5_ofMemory_8 (by rw [s_8_1_10]; decide) (by rw [s_8_1_10]; decide) (by rw [s_8_1_10]; rfl) (by decide) ?_
    refine lv_aload_n hx hb dX5_ofMemory_257 rfl (lv_at hl 1 rfl) ?_
    refine lv_aload_n hx hb dX5_ofMemory_258 rfl (lv_at hl 1 rfl) ?_
    refine gM_ac (v := (g_ac σ)) hx hb hts hown hK hP kw_452 rfl dX5_ofMemory_259 ?_
    refine lv_iload_n hx hb dX5_ofMemory_262 rfl (lv_at hl 0 rfl) ?_
    refine call_Vv 2 (kX5_overflows l D cI h _ (g_ac σ) ((g_cells σ) (Int32.toNatClampNeg a2))) ⟨hx, hb, hml, hown, hts, hK, hN, hA⟩ ⟨kw_588, kw_590, ks_yX5_overflows, kw_6, kw_591, by decide +kernel, rfl, rfl, Nat.le_of_ble_eq_true rfl, Nat.le_of_ble_eq_true rfl⟩ rfl (va_recv hK hP (ci := 5) (q0 := 0) rfl rfl) hP hD hS hl.1 rfl (Nat.le_of_ble_eq_true rfl) dX5_ofMemory_263 ⟨Nat.zero_le _, Nat.zero_le _⟩ (fun u H locs hw hP hD hS => ?_)
    have hw : (m_overflows σ (g_ac σ) ((g_cells σ) (Int32.toNatClampNeg a2))) = u := hw
    subst hw
    refine lv_aload_n hx hb dX5_ofMemory_266 rfl (lv_at hl 1 rfl) ?_
    refine lv_aload_n hx hb dX5_ofMemory_267 rfl (lv_at hl 1 rfl) ?_
    refine gM_ac (v := (g_ac (m_overflows σ (g_ac σ) ((g_cells σ) (Int32.toNatClampNeg a2))))) hx hb hts hown hK hP kw_452 rfl dX5_ofMemory_268 ?_
    refine lv_iload_n hx hb dX5_ofMemory_271 rfl (lv_at hl 0 rfl) ?_
    refine call_Si 2 (kX5_sum l D cI _ (g_ac (m_overflows σ (g_ac σ) ((g_cells σ) (Int32.toNatClampNeg a2)))) ((g_cells σ) (Int32.toNatClampNeg a2))) ⟨hx, hb, hml, hown, hts, hK, hN, hA⟩ ⟨kw_592, kw_593, kw_6, kw_594, by decide +kernel, rfl, rfl, Nat.le_of_ble_eq_true rfl, Nat.le_of_ble_eq_true rfl⟩ rfl hP hD hS hl.1 rfl (Nat.le_of_ble_eq_true rfl) dX5_ofMemory_272 ⟨Nat.zero_le _, Nat.zero_le _⟩ (fun r272 u H locs hw hP hD hS => ?_)
    have hw : (m_sum (g_ac (m_overflows σ (g_ac σ) ((g_cells σ) (Int32.toNatClampNeg a2)))) ((g_cells σ) (Int32.toNatClampNeg a2))) = r272 := hw
    subst hw
    refine call_Si 1 (kX5_plain l D cI _ (m_sum (g_ac (m_overflows σ (g_ac σ) ((g_cells σ) (Int32.toNatClampNeg a2)))) ((g_cells σ) (Int32.toNatClampNeg a2)))) ⟨hx, hb, hml, hown, hts, hK, hN, hA⟩ ⟨kw_595, kw_596, kw_6, kw_597, by decide +kernel, rfl, rfl, Nat.le_of_ble_eq_true rfl, Nat.le_of_ble_eq_true rfl⟩ rfl hP hD hS hl.1 rfl (Nat.le_of_ble_eq_true rfl) dX5_ofMemory_275 ⟨Nat.zero_le _, Nat.zero_le _⟩ (fun r275 u H locs hw hP hD hS => ?_)
    have hw : (m_plain (m_sum (g_ac (m_overflows σ (g_ac σ) ((g_cells σ) (Int32.toNatClampNeg a2)))) ((g_cells σ) (Int32.toNatClampNeg a2)))) = r275 := hw
    subst hw
    refine pM_ac hx hb hts hown hK hP hD hS kw_452 dX5_ofMemory_278 (fun H locs hP hD hS => ?_)
    refine lv_goto (tgt := 429) hx hb dX5_ofMemory_281 (by decide) ?_
    have hE : m_ofMemory σ a1 a2 = (s_ac (m_overflows σ (g_ac σ) ((g_cells σ) (Int32.toNatClampNeg a2))) (m_plain (m_sum (g_ac (m_overflows σ (g_ac σ) ((g_cells σ) (Int32.toNatClampNeg a2)))) ((g_cells σ) (Int32.toNatClampNeg a2))))) := (by unfold m_ofMemory; rw [if_neg s_8_1_0, if_neg s_8_1_1, if_neg s_8_1_2, if_neg s_8_1_3, if_neg s_8_1_4, if_neg s_8_1_5, if_neg s_8_1_6, if_neg s_8_1_7, if_neg s_8_1_8, if_neg s_8_1_9, if_pos s_8_1_10])
    exact hret (s_ac (m_overflows σ (g_ac σ) ((g_cells σ) (Int32.toNatClampNeg a2))) (m_plain (m_sum (g_ac (m_overflows σ (g_ac σ) ((g_cells σ) (Int32.toNatClampNeg a2)))) ((g_cells σ) (Int32.toNatClampNeg a2))))) _ _ _ _ hE hP hD hS dX5_ofMemory_429
  by_cases s_8_1_11 : a1 = (17 : Int32)
  · refine lv_tableIn (off := 276) (tgt := 284) hx hb dX5_ofMemory_8 (by rw [s_8_1_11]; decide) (by rw [s_8_1_11]; decide) (by rw [s_8_1_11]; rfl) (by decide) ?_
    refine lv_aload_n hx hb dX5_ofMemory_284 rfl (lv_at hl 1 rfl) ?_
    refine lv_aload_n hx hb dX5_ofMemory_285 rfl (lv_at hl 1 rfl) ?_
    refine gM_ac (v := (g_ac σ)) hx hb hts hown hK hP kw_452 rfl dX5_ofMemory_286 ?_
    refine call_Si 1 (kX5_not l D cI _ (g_ac σ)) ⟨hx, hb, hml, hown, hts, hK, hN, hA⟩ ⟨kw_598, kw_599, kw_6, kw_600, by decide +kernel, rfl, rfl, Nat.le_of_ble_eq_true rfl, Nat.le_of_ble_eq_true rfl⟩ rfl hP hD hS hl.1 rfl (Nat.le_of_ble_eq_true rfl) dX5_ofMemory_289 ⟨Nat.zero_le _, Nat.zero_le _⟩ (fun r289 u H locs hw hP hD hS => ?_)
    have hw : (m_not (g_ac σ)) = r289 := hw
    subst hw
    refine lv_iload_n hx hb dX5_ofMemory_292 rfl (lv_at hl 0 rfl) ?_
    refine call_Vv 2 (kX5_overflows l D cI h _ (m_not (g_ac σ)) ((g_cells σ) (Int32.toNatClampNeg a2))) ⟨hx, hb, hml, hown, hts, hK, hN, hA⟩ ⟨kw_588, kw_590, ks_yX5_overflows, kw_6, kw_591, by decide +kernel, rfl, rfl, Nat.le_of_ble_eq_true rfl, Nat.le_of_ble_eq_true rfl⟩ rfl (va_recv hK hP (ci := 5) (q0 := 0) rfl rfl) hP hD hS hl.1 rfl (Nat.le_of_ble_eq_true rfl) dX5_ofMemory_293 ⟨Nat.zero_le _, Nat.zero_le _⟩ (fun u H locs hw hP hD hS => ?_)
    have hw : (m_overflows σ (m_not (g_ac σ)) ((g_cells σ) (Int32.toNatClampNeg a2))) = u := hw
    subst hw
    refine lv_aload_n hx hb dX5_ofMemory_296 rfl (lv_at hl 1 rfl) ?_
    refine lv_aload_n hx hb dX5_ofMemory_297 rfl (lv_at hl 1 rfl) ?_
    refine gM_ac (v := (g_ac (m_overflows σ (m_not (g_ac σ)) ((g_cells σ) (Int32.toNatClampNeg a2))))) hx hb hts hown hK hP kw_452 rfl dX5_ofMemory_298 ?_
    refine call_Si 1 (kX5_not l D cI _ (g_ac (m_overflows σ (m_not (g_ac σ)) ((g_cells σ) (Int32.toNatClampNeg a2))))) ⟨hx, hb, hml, hown, hts, hK, hN, hA⟩ ⟨kw_598, kw_599, kw_6, kw_600, by decide +kernel, rfl, rfl, Nat.le_of_ble_eq_true rfl, Nat.le_of_ble_eq_true rfl⟩ rfl hP hD hS hl.1 rfl (Nat.le_of_ble_eq_true rfl) dX5_ofMemory_301 ⟨Nat.zero_le _, Nat.zero_le _⟩ (fun r301 u H locs hw hP hD hS => ?_)
    have hw : (m_not (g_ac (m_overflows σ (m_not (g_ac σ)) ((g_cells σ) (Int32.toNatClampNeg a2))))) = r301 := hw
    subst hw
    refine lv_iload_n hx hb dX5_ofMemory_304 rfl (lv_at hl 0 rfl) ?_
    refine call_Si 2 (kX5_sum l D cI _ (m_not (g_ac (m_overflows σ (m_not (g_ac σ)) ((g_cells σ) (Int32.toNatClampNeg a2))))) ((g_cells σ) (Int32.toNatClampNeg a2))) ⟨hx, hb, hml, hown, hts, hK, hN, hA⟩ ⟨kw_592, kw_593, kw_6, kw_594, by decide +kernel, rfl, rfl, Nat.le_of_ble_eq_true rfl, Nat.le_of_ble_eq_true rfl⟩ rfl hP hD hS hl.1 rfl (Nat.le_of_ble_eq_true rfl) dX5_ofMemory_305 ⟨Nat.zero_le _, Nat.zero_le _⟩ (fun r305 u H locs hw hP hD hS => ?_)
    have hw : (m_sum (m_not (g_ac (m_overflows σ (m_not (g_ac σ)) ((g_cells σ) (Int32.toNatClampNeg a2))))) ((g_cells σ) (Int32.toNatClampNeg a2))) = r305 := hw
    subst hw
    refine call_Si 1 (kX5_not l D cI _ (m_sum (m_not (g_ac (m_overflows σ (m_not (g_ac σ)) ((g_cells σ) (Int32.toNatClampNeg a2))))) ((g_cells σ) (Int32.toNatClampNeg a2)))) ⟨hx, hb, hml, hown, hts, hK, hN, hA⟩ ⟨kw_598, kw_599, kw_6, kw_600, by decide +kernel, rfl, rfl, Nat.le_of_ble_eq_true rfl, Nat.le_of_ble_eq_true rfl⟩ rfl hP hD hS hl.1 rfl (Nat.le_of_ble_eq_true rfl) dX5_ofMemory_308 ⟨Nat.zero_le _, Nat.zero_le _⟩ (fun r308 u H locs hw hP hD hS => ?_)
    have hw : (m_not (m_sum (m_not (g_ac (m_overflows σ (m_not (g_ac σ)) ((g_cells σ) (Int32.toNatClampNeg a2))))) ((g_cells σ) (Int32.toNatClampNeg a2)))) = r308 := hw
    subst hw
    refine pM_ac hx hb hts hown hK hP hD hS kw_452 dX5_ofMemory_311 (fun H locs hP hD hS => ?_)
    refine lv_goto (tgt := 429) hx hb dX5_ofMemory_314 (by decide) ?_
    have hE : m_ofMemory σ a1 a2 = (s_ac (m_overflows σ (m_not (g_ac σ)) ((g_cells σ) (Int32.toNatClampNeg a2))) (m_not (m_sum (m_not (g_ac (m_overflows σ (m_not (g_ac σ)) ((g_cells σ) (Int32.toNatClampNeg a2))))) ((g_cells σ) (Int32.toNatClampNeg a2))))) := (by unfold m_ofMemory; rw [if_neg s_8_1_0, if_neg s_8_1_1, if_neg s_8_1_2, if_neg s_8_1_3, if_neg s_8_1_4, if_neg s_8_1_5, if_neg s_8_1_6, if_neg s_8_1_7, if_neg s_8_1_8, if_neg s_8_1_9, if_neg s_8_1_10, if_pos s_8_1_11])
    exact hret (s_ac (m_overflows σ (m_not (g_ac σ)) ((g_cells σ) (Int32.toNatClampNeg a2))) (m_not (m_sum (m_not (g_ac (m_overflows σ (m_not (g_ac σ)) ((g_cells σ) (Int32.toNatClampNeg a2))))) ((g_cells σ) (Int32.toNatClampNeg a2))))) _ _ _ _ hE hP hD hS dX5_ofMemory_429
  by_cases s_8_1_12 : a1 = (18 : Int32)
  · refine lv_tableIn (off := 309) (tgt := 317) hx hb dX5_ofMemory_8 (by rw [s_8_1_12]; decide) (by rw [s_8_1_12]; decide) (by rw [s_8_1_12]; rfl) (by decide) ?_
    refine lv_aload_n hx hb dX5_ofMemory_317 rfl (lv_at hl 1 rfl) ?_
    refine lv_iload_n hx hb dX5_ofMemory_318 rfl (lv_at hl 3 rfl) ?_
    refine call_Vv 1 (kX5_index l D cI h σ a2 (ha)) ⟨hx, hb, hml, hown, hts, hK, hN, hA⟩ ⟨kw_601, kw_603, ks_yX5_index, kw_6, kw_604, by decide +kernel, rfl, rfl, Nat.le_of_ble_eq_true rfl, Nat.le_of_ble_eq_true rfl⟩ rfl (va_recv hK hP (ci := 5) (q0 := 0) rfl rfl) hP hD hS hl.1 rfl (Nat.le_of_ble_eq_true rfl) dX5_ofMemory_319 ⟨Nat.zero_le _, Nat.zero_le _⟩ (fun u H locs hw hP hD hS => ?_)
    have hw : (m_index σ a2) = u := hw
    subst hw
    refine lv_goto (tgt := 429) hx hb dX5_ofMemory_322 (by decide) ?_
    have hE : m_ofMemory σ a1 a2 = (m_index σ a2) := (by unfold m_ofMemory; rw [if_neg s_8_1_0, if_neg s_8_1_1, if_neg s_8_1_2, if_neg s_8_1_3, if_neg s_8_1_4, if_neg s_8_1_5, if_neg s_8_1_6, if_neg s_8_1_7, if_neg s_8_1_8, if_neg s_8_1_9, if_neg s_8_1_10, if_neg s_8_1_11, if_pos s_8_1_12])
    exact hret (m_index σ a2) _ _ _ _ hE hP hD hS dX5_ofMemory_429
  by_cases s_8_1_13 : a1 = (19 : Int32)
  · refine lv_tableIn (off := 317) (tgt := 325) hx hb dX5_ofMemory_8 (by rw [s_8_1_13]; decide) (by rw [s_8_1_13]; decide) (by rw [s_8_1_13]; rfl) (by decide) ?_
    refine lv_aload_n hx hb dX5_ofMemory_325 rfl (lv_at hl 1 rfl) ?_
    refine lv_iload_n hx hb dX5_ofMemory_326 rfl (lv_at hl 3 rfl) ?_
    refine call_Vv 1 (kX5_index l D cI h σ a2 (ha)) ⟨hx, hb, hml, hown, hts, hK, hN, hA⟩ ⟨kw_601, kw_603, ks_yX5_index, kw_6, kw_604, by decide +kernel, rfl, rfl, Nat.le_of_ble_eq_true rfl, Nat.le_of_ble_eq_true rfl⟩ rfl (va_recv hK hP (ci := 5) (q0 := 0) rfl rfl) hP hD hS hl.1 rfl (Nat.le_of_ble_eq_true rfl) dX5_ofMemory_327 ⟨Nat.zero_le _, Nat.zero_le _⟩ (fun u H locs hw hP hD hS => ?_)
    have hw : (m_index σ a2) = u := hw
    subst hw
    refine lv_aload_n hx hb dX5_ofMemory_330 rfl (lv_at hl 1 rfl) ?_
    refine lv_aload_n hx hb dX5_ofMemory_331 rfl (lv_at hl 1 rfl) ?_
    refine gM_ac (v := (g_ac (m_index σ a2))) hx hb hts hown hK hP kw_452 rfl dX5_ofMemory_332 ?_
    refine call_Si 1 (kX5_sign l D cI _ (g_ac (m_index σ a2))) ⟨hx, hb, hml, hown, hts, hK, hN, hA⟩ ⟨kw_578, kw_579, kw_6, kw_580, by decide +kernel, rfl, rfl, Nat.le_of_ble_eq_true rfl, Nat.le_of_ble_eq_true rfl⟩ rfl hP hD hS hl.1 rfl (Nat.le_of_ble_eq_true rfl) dX5_ofMemory_335 ⟨Nat.zero_le _, Nat.zero_le _⟩ (fun r335 u H locs hw hP hD hS => ?_)
    have hw : (m_sign (g_ac (m_index σ a2))) = r335 := hw
    subst hw
    refine lv_if_ne (tgt := 345) hx hb dX5_ofMemory_338 (by decide) (fun c_338_2 => ?_) (fun c_338_2 => ?_)
    · have c_338_2 : ¬ ((m_sign (g_ac (m_index σ a2))) = (0 : Int32)) := c_338_2
      refine lv_iconst (v := (0 : Int32)) hx hb dX5_ofMemory_345 (by decide) ?_
      exact J_346 (m_index σ a2) (0 : Int32) _ _ _ (by unfold m_ofMemory; rw [if_neg s_8_1_0, if_neg s_8_1_1, if_neg s_8_1_2, if_neg s_8_1_3, if_neg s_8_1_4, if_neg s_8_1_5, if_neg s_8_1_6, if_neg s_8_1_7, if_neg s_8_1_8, if_neg s_8_1_9, if_neg s_8_1_10, if_neg s_8_1_11, if_neg s_8_1_12, if_pos s_8_1_13, if_neg c_338_2]) (lv_sub hl [1] rfl) hP hD hS
    · have c_338_2 : (m_sign (g_ac (m_index σ a2))) = (0 : Int32) := c_338_2
      refine lv_iconst (v := (1 : Int32)) hx hb dX5_ofMemory_341 (by decide) ?_
      refine lv_goto (tgt := 346) hx hb dX5_ofMemory_342 (by decide) ?_
      exact J_346 (m_index σ a2) (1 : Int32) _ _ _ (by unfold m_ofMemory; rw [if_neg s_8_1_0, if_neg s_8_1_1, if_neg s_8_1_2, if_neg s_8_1_3, if_neg s_8_1_4, if_neg s_8_1_5, if_neg s_8_1_6, if_neg s_8_1_7, if_neg s_8_1_8, if_neg s_8_1_9, if_neg s_8_1_10, if_neg s_8_1_11, if_neg s_8_1_12, if_pos s_8_1_13, if_pos c_338_2]) (lv_sub hl [1] rfl) hP hD hS
  by_cases s_8_1_14 : a1 = (20 : Int32)
  · refine lv_tableIn (off := 344) (tgt := 352) hx hb dX5_ofMemory_8 (by rw [s_8_1_14]; decide) (by rw [s_8_1_14]; decide) (by rw [s_8_1_14]; rfl) (by decide) ?_
    refine lv_aload_n hx hb dX5_ofMemory_352 rfl (lv_at hl 1 rfl) ?_
    refine lv_aload_n hx hb dX5_ofMemory_353 rfl (lv_at hl 1 rfl) ?_
    refine gM_ac (v := (g_ac σ)) hx hb hts hown hK hP kw_452 rfl dX5_ofMemory_354 ?_
    refine lv_iload_n hx hb dX5_ofMemory_357 rfl (lv_at hl 0 rfl) ?_
    refine lv_icmp_eq (tgt := 365) hx hb dX5_ofMemory_358 (by decide) (fun c_358_3 => ?_) (fun c_358_3 => ?_)
    · have c_358_3 : (g_ac σ) = ((g_cells σ) (Int32.toNatClampNeg a2)) := c_358_3
      refine lv_iconst (v := (0 : Int32)) hx hb dX5_ofMemory_365 (by decide) ?_
      exact J_366 σ (0 : Int32) _ _ _ (by unfold m_ofMemory; rw [if_neg s_8_1_0, if_neg s_8_1_1, if_neg s_8_1_2, if_neg s_8_1_3, if_neg s_8_1_4, if_neg s_8_1_5, if_neg s_8_1_6, if_neg s_8_1_7, if_neg s_8_1_8, if_neg s_8_1_9, if_neg s_8_1_10, if_neg s_8_1_11, if_neg s_8_1_12, if_neg s_8_1_13, if_pos s_8_1_14, if_pos c_358_3]) (lv_sub hl [1] rfl) hP hD hS
    · have c_358_3 : ¬ ((g_ac σ) = ((g_cells σ) (Int32.toNatClampNeg a2))) := c_358_3
      refine lv_iconst (v := (1 : Int32)) hx hb dX5_ofMemory_361 (by decide) ?_
      refine lv_goto (tgt := 366) hx hb dX5_ofMemory_362 (by decide) ?_
      exact J_366 σ (1 : Int32) _ _ _ (by unfold m_ofMemory; rw [if_neg s_8_1_0, if_neg s_8_1_1, if_neg s_8_1_2, if_neg s_8_1_3, if_neg s_8_1_4, if_neg s_8_1_5, if_neg s_8_1_6, if_neg s_8_1_7, if_neg s_8_1_8, if_neg s_8_1_9, if_neg s_8_1_10, if_neg s_8_1_11, if_neg s_8_1_12, if_neg s_8_1_13, if_pos s_8_1_14, if_neg c_358_3]) (lv_sub hl [1] rfl) hP hD hS
  by_cases s_8_1_15 : a1 = (21 : Int32)
  · refine lv_tableIn (off := 364) (tgt := 372) hx hb dX5_ofMemory_8 (by rw [s_8_1_15]; decide) (by rw [s_8_1_15]; decide) (by rw [s_8_1_15]; rfl) (by decide) ?_
    refine lv_aload_n hx hb dX5_ofMemory_372 rfl (lv_at hl 1 rfl) ?_
    refine lv_aload_n hx hb dX5_ofMemory_373 rfl (lv_at hl 1 rfl) ?_
    refine gM_ac (v := (g_ac σ)) hx hb hts hown hK hP kw_452 rfl dX5_ofMemory_374 ?_
    refine lv_iload_n hx hb dX5_ofMemory_377 rfl (lv_at hl 0 rfl) ?_
    refine lv_icmp_ne (tgt := 385) hx hb dX5_ofMemory_378 (by decide) (fun c_378_4 => ?_) (fun c_378_4 => ?_)
    · have c_378_4 : ¬ ((g_ac σ) = ((g_cells σ) (Int32.toNatClampNeg a2))) := c_378_4
      refine lv_iconst (v := (0 : Int32)) hx hb dX5_ofMemory_385 (by decide) ?_
      exact J_386 σ (0 : Int32) _ _ _ (by unfold m_ofMemory; rw [if_neg s_8_1_0, if_neg s_8_1_1, if_neg s_8_1_2, if_neg s_8_1_3, if_neg s_8_1_4, if_neg s_8_1_5, if_neg s_8_1_6, if_neg s_8_1_7, if_neg s_8_1_8, if_neg s_8_1_9, if_neg s_8_1_10, if_neg s_8_1_11, if_neg s_8_1_12, if_neg s_8_1_13, if_neg s_8_1_14, if_pos s_8_1_15, if_neg c_378_4]) (lv_sub hl [1] rfl) hP hD hS
    · have c_378_4 : (g_ac σ) = ((g_cells σ) (Int32.toNatClampNeg a2)) := c_378_4
      refine lv_iconst (v := (1 : Int32)) hx hb dX5_ofMemory_381 (by decide) ?_
      refine lv_goto (tgt := 386) hx hb dX5_ofMemory_382 (by decide) ?_
      exact J_386 σ (1 : Int32) _ _ _ (by unfold m_ofMemory; rw [if_neg s_8_1_0, if_neg s_8_1_1, if_neg s_8_1_2, if_neg s_8_1_3, if_neg s_8_1_4, if_neg s_8_1_5, if_neg s_8_1_6, if_neg s_8_1_7, if_neg s_8_1_8, if_neg s_8_1_9, if_neg s_8_1_10, if_neg s_8_1_11, if_neg s_8_1_12, if_neg s_8_1_13, if_neg s_8_1_14, if_pos s_8_1_15, if_pos c_378_4]) (lv_sub hl [1] rfl) hP hD hS
  by_cases s_8_1_16 : a1 = (22 : Int32)
  · refine lv_tableIn (off := 384) (tgt := 392) hx hb dX5_ofMemory_8 (by rw [s_8_1_16]; decide) (by rw [s_8_1_16]; decide) (by rw [s_8_1_16]; rfl) (by decide) ?_
    refine lv_aload_n hx hb dX5_ofMemory_392 rfl (lv_at hl 1 rfl) ?_
    refine lv_iload_n hx hb dX5_ofMemory_393 rfl (lv_at hl 0 rfl) ?_
    refine call_Vv 1 (kX5_multiplies l D cI h _ ((g_cells σ) (Int32.toNatClampNeg a2))) ⟨hx, hb, hml, hown, hts, hK, hN, hA⟩ ⟨kw_609, kw_611, ks_yX5_multiplies, kw_6, kw_612, by decide +kernel, rfl, rfl, Nat.le_of_ble_eq_true rfl, Nat.le_of_ble_eq_true rfl⟩ rfl (va_recv hK hP (ci := 5) (q0 := 0) rfl rfl) hP hD hS hl.1 rfl (Nat.le_of_ble_eq_true rfl) dX5_ofMemory_394 ⟨Nat.zero_le _, Nat.zero_le _⟩ (fun u H locs hw hP hD hS => ?_)
    have hw : (m_multiplies σ ((g_cells σ) (Int32.toNatClampNeg a2))) = u := hw
    subst hw
    refine lv_goto (tgt := 429) hx hb dX5_ofMemory_397 (by decide) ?_
    have hE : m_ofMemory σ a1 a2 = (m_multiplies σ ((g_cells σ) (Int32.toNatClampNeg a2))) := (by unfold m_ofMemory; rw [if_neg s_8_1_0, if_neg s_8_1_1, if_neg s_8_1_2, if_neg s_8_1_3, if_neg s_8_1_4, if_neg s_8_1_5, if_neg s_8_1_6, if_neg s_8_1_7, if_neg s_8_1_8, if_neg s_8_1_9, if_neg s_8_1_10, if_neg s_8_1_11, if_neg s_8_1_12, if_neg s_8_1_13, if_neg s_8_1_14, if_neg s_8_1_15, if_pos s_8_1_16])
    exact hret (m_multiplies σ ((g_cells σ) (Int32.toNatClampNeg a2))) _ _ _ _ hE hP hD hS dX5_ofMemory_429
  by_cases s_8_1_17 : a1 = (23 : Int32)
  · refine lv_tableIn (off := 392) (tgt := 400) hx hb dX5_ofMemory_8 (by rw [s_8_1_17]; decide) (by rw [s_8_1_17]; decide) (by rw [s_8_1_17]; rfl) (by decide) ?_
    refine lv_aload_n hx hb dX5_ofMemory_400 rfl (lv_at hl 1 rfl) ?_
    refine lv_iload_n hx hb dX5_ofMemory_401 rfl (lv_at hl 0 rfl) ?_
    refine call_Vv 1 (kX5_divides l D cI h _ ((g_cells σ) (Int32.toNatClampNeg a2))) ⟨hx, hb, hml, hown, hts, hK, hN, hA⟩ ⟨kw_613, kw_615, ks_yX5_divides, kw_6, kw_616, by decide +kernel, rfl, rfl, Nat.le_of_ble_eq_true rfl, Nat.le_of_ble_eq_true rfl⟩ rfl (va_recv hK hP (ci := 5) (q0 := 0) rfl rfl) hP hD hS hl.1 rfl (Nat.le_of_ble_eq_true rfl) dX5_ofMemory_402 ⟨Nat.zero_le _, Nat.zero_le _⟩ (fun u H locs hw hP hD hS => ?_)
    have hw : (m_divides σ ((g_cells σ) (Int32.toNatClampNeg a2))) = u := hw
    subst hw
    refine lv_goto (tgt := 429) hx hb dX5_ofMemory_405 (by decide) ?_
    have hE : m_ofMemory σ a1 a2 = (m_divides σ ((g_cells σ) (Int32.toNatClampNeg a2))) := (by unfold m_ofMemory; rw [if_neg s_8_1_0, if_neg s_8_1_1, if_neg s_8_1_2, if_neg s_8_1_3, if_neg s_8_1_4, if_neg s_8_1_5, if_neg s_8_1_6, if_neg s_8_1_7, if_neg s_8_1_8, if_neg s_8_1_9, if_neg s_8_1_10, if_neg s_8_1_11, if_neg s_8_1_12, if_neg s_8_1_13, if_neg s_8_1_14, if_neg s_8_1_15, if_neg s_8_1_16, if_pos s_8_1_17])
    exact hret (m_divides σ ((g_cells σ) (Int32.toNatClampNeg a2))) _ _ _ _ hE hP hD hS dX5_ofMemory_429
  by_cases s_8_1_18 : a1 = (24 : Int32)
  · refine lv_tableIn (off := 400) (tgt := 408) hx hb dX5_ofMemory_8 (by rw [s_8_1_18]; decide) (by rw [s_8_1_18]; decide) (by rw [s_8_1_18]; rfl) (by decide) ?_
    refine lv_aload_n hx hb dX5_ofMemory_408 rfl (lv_at hl 1 rfl) ?_
    refine lv_iload_n hx hb dX5_ofMemory_409 rfl (lv_at hl 3 rfl) ?_
    refine pM_pc hx hb hts hown hK hP hD hS kw_454 dX5_ofMemory_410 (fun H locs hP hD hS => ?_)
    refine lv_goto (tgt := 429) hx hb dX5_ofMemory_413 (by decide) ?_
    have hE : m_ofMemory σ a1 a2 = (s_pc σ a2) := (by unfold m_ofMemory; rw [if_neg s_8_1_0, if_neg s_8_1_1, if_neg s_8_1_2, if_neg s_8_1_3, if_neg s_8_1_4, if_neg s_8_1_5, if_neg s_8_1_6, if_neg s_8_1_7, if_neg s_8_1_8, if_neg s_8_1_9, if_neg s_8_1_10, if_neg s_8_1_11, if_neg s_8_1_12, if_neg s_8_1_13, if_neg s_8_1_14, if_neg s_8_1_15, if_neg s_8_1_16, if_neg s_8_1_17, if_pos s_8_1_18])
    exact hret (s_pc σ a2) _ _ _ _ hE hP hD hS dX5_ofMemory_429
  have dflt_8_4 : W p l e ({ frames := 2, cells := 0, slots := 0, locals := 45 } : Room) s m (([.ref (h 0), .int a1, .int a2] : List Value).toArray) below meth c H locs 0 0 Q (F0 m 416 ls []) := by
    refine lv_aload_n hx hb dX5_ofMemory_416 rfl (lv_at hl 1 rfl) ?_
    refine lv_aload_n hx hb dX5_ofMemory_417 rfl (lv_at hl 1 rfl) ?_
    refine call_Vi 0 (kX5_place l D cI h _) ⟨hx, hb, hml, hown, hts, hK, hN, hA⟩ ⟨kw_563, kw_565, ks_yX5_place, kw_6, kw_566, by decide +kernel, rfl, rfl, Nat.le_of_ble_eq_true rfl, Nat.le_of_ble_eq_true rfl⟩ rfl (va_recv hK hP (ci := 5) (q0 := 0) rfl rfl) hP hD hS hl.1 rfl (Nat.le_of_ble_eq_true rfl) dX5_ofMemory_418 ⟨Nat.zero_le _, Nat.zero_le _⟩ (fun r418 u H locs hw hP hD hS => ?_)
    have hw : (m_place σ) = r418 := hw
    subst hw
    refine pM_ac hx hb hts hown hK hP hD hS kw_452 dX5_ofMemory_421 (fun H locs hP hD hS => ?_)
    refine lv_aload_n hx hb dX5_ofMemory_424 rfl (lv_at hl 1 rfl) ?_
    refine lv_iload_n hx hb dX5_ofMemory_425 rfl (lv_at hl 3 rfl) ?_
    refine pM_pc hx hb hts hown hK hP hD hS kw_454 dX5_ofMemory_426 (fun H locs hP hD hS => ?_)
    have hE : m_ofMemory σ a1 a2 = (s_pc (s_ac σ (m_place σ)) a2) := (by unfold m_ofMemory; rw [if_neg s_8_1_0, if_neg s_8_1_1, if_neg s_8_1_2, if_neg s_8_1_3, if_neg s_8_1_4, if_neg s_8_1_5, if_neg s_8_1_6, if_neg s_8_1_7, if_neg s_8_1_8, if_neg s_8_1_9, if_neg s_8_1_10, if_neg s_8_1_11, if_neg s_8_1_12, if_neg s_8_1_13, if_neg s_8_1_14, if_neg s_8_1_15, if_neg s_8_1_16, if_neg s_8_1_17, if_neg s_8_1_18])
    exact hret (s_pc (s_ac σ (m_place σ)) a2) _ _ _ _ hE hP hD hS dX5_ofMemory_429
  by_cases s_8_1_d0 : a1 = (4 : Int32)
  · exact lv_tableIn (off := 408) (tgt := 416) hx hb dX5_ofMemory_8 (by rw [s_8_1_d0]; decide) (by rw [s_8_1_d0]; decide) (by rw [s_8_1_d0]; rfl) (by decide) dflt_8_4
  by_cases s_8_1_d1 : a1 = (5 : Int32)
  · exact lv_tableIn (off := 408) (tgt := 416) hx hb dX5_ofMemory_8 (by rw [s_8_1_d1]; decide) (by rw [s_8_1_d1]; decide) (by rw [s_8_1_d1]; rfl) (by decide) dflt_8_4
  by_cases s_8_1_d2 : a1 = (6 : Int32)
  · exact lv_tableIn (off := 408) (tgt := 416) hx hb dX5_ofMemory_8 (by rw [s_8_1_d2]; decide) (by rw [s_8_1_d2]; decide) (by rw [s_8_1_d2]; rfl) (by decide) dflt_8_4
  by_cases s_8_1_d3 : a1 = (7 : Int32)
  · exact lv_tableIn (off := 408) (tgt := 416) hx hb dX5_ofMemory_8 (by rw [s_8_1_d3]; decide) (by rw [s_8_1_d3]; decide) (by rw [s_8_1_d3]; rfl) (by decide) dflt_8_4
  by_cases s_8_1_d4 : a1 = (15 : Int32)
  · exact lv_tableIn (off := 408) (tgt := 416) hx hb dX5_ofMemory_8 (by rw [s_8_1_d4]; decide) (by rw [s_8_1_d4]; decide) (by rw [s_8_1_d4]; rfl) (by decide) dflt_8_4
  exact lv_tableOut (tgt := 416) hx hb dX5_ofMemory_8 (by have q0 := lv_neT s_8_1_0 (show (1 : Int32).toInt = 1 by decide); have q1 := lv_neT s_8_1_1 (show (2 : Int32).toInt = 2 by decide); have q2 := lv_neT s_8_1_2 (show (3 : Int32).toInt = 3 by decide); have q3 := lv_neT s_8_1_3 (show (8 : Int32).toInt = 8 by decide); have q4 := lv_neT s_8_1_4 (show (9 : Int32).toInt = 9 by decide); have q5 := lv_neT s_8_1_5 (show (10 : Int32).toInt = 10 by decide); have q6 := lv_neT s_8_1_6 (show (11 : Int32).toInt = 11 by decide); have q7 := lv_neT s_8_1_7 (show (12 : Int32).toInt = 12 by decide); have q8 := lv_neT s_8_1_8 (show (13 : Int32).toInt = 13 by decide); have q9 := lv_neT s_8_1_9 (show (14 : Int32).toInt = 14 by decide); have q10 := lv_neT s_8_1_10 (show (16 : Int32).toInt = 16 by decide); have q11 := lv_neT s_8_1_11 (show (17 : Int32).toInt = 17 by decide); have q12 := lv_neT s_8_1_12 (show (18 : Int32).toInt = 18 by decide); have q13 := lv_neT s_8_1_13 (show (19 : Int32).toInt = 19 by decide); have q14 := lv_neT s_8_1_14 (show (20 : Int32).toInt = 20 by decide); have q15 := lv_neT s_8_1_15 (show (21 : Int32).toInt = 21 by decide); have q16 := lv_neT s_8_1_16 (show (22 : Int32).toInt = 22 by decide); have q17 := lv_neT s_8_1_17 (show (23 : Int32).toInt = 23 by decide); have q18 := lv_neT s_8_1_18 (show (24 : Int32).toInt = 24 by decide); have q19 := lv_neT s_8_1_d0 (show (4 : Int32).toInt = 4 by decide); have q20 := lv_neT s_8_1_d1 (show (5 : Int32).toInt = 5 by decide); have q21 := lv_neT s_8_1_d2 (show (6 : Int32).toInt = 6 by decide); have q22 := lv_neT s_8_1_d3 (show (7 : Int32).toInt = 7 by decide); have q23 := lv_neT s_8_1_d4 (show (15 : Int32).toInt = 15 by decide); omega) (by decide) dflt_8_4
