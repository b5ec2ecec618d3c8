def m_does_236 (σ : St) (z1_236 : Int32) : St := (m_calls σ z1_236)
def m_does_285 (σ : St) (z1_285 : Int32) : St := (s_ac σ z1_285)
def m_does_127 (σ : St) (x2_127 : Int32) (x4_127 : Int32) : St := (if (m_hasAddress x4_127) = (0 : Int32) then (if x4_127 = (7 : Int32) then (if ((x2_127 >>> ((12 : Int32) &&& 31)) &&& (1 : Int32)) = (0 : Int32) then m_does_236 σ (64 : Int32) else m_does_236 σ (x2_127 &&& (4095 : Int32))) else (if x4_127 = (26 : Int32) then (m_asksSkip σ x2_127) else (if x4_127 = (27 : Int32) then (m_shifts σ x2_127) else (if x4_127 = (28 : Int32) then (if ((x2_127 >>> ((12 : Int32) &&& 31)) &&& (1 : Int32)) = (1 : Int32) then m_does_285 σ (m_not (x2_127 &&& (4095 : Int32))) else m_does_285 σ (x2_127 &&& (4095 : Int32))) else (if x4_127 = (29 : Int32) then (m_transfers σ x2_127) else (m_operates σ x2_127)))))) else (if (0 : Int32) ≤ (m_addressOf σ x2_127).1 then (m_ofMemory (m_addressOf σ x2_127).2 x4_127 (m_addressOf σ x2_127).1) else (s_ended (m_addressOf σ x2_127).2 (2 : Int32))))
def m_does_30 (σ : St)  : St := (s_ended σ (2 : Int32))
def m_does_4 : Nat → St → Int32 → Int32 → St
  | 0, σ, _, _ => σ
  | n + 1, σ, x2_4, x3_4 => (if (x2_4 >>> ((13 : Int32) &&& 31)) = (4 : Int32) then (if (m_addressOf σ x2_4).1 < (0 : Int32) then m_does_30 (m_addressOf σ x2_4).2 else (if x3_4 = (32 : Int32) then m_does_30 (m_addressOf σ x2_4).2 else m_does_4 n (m_addressOf σ x2_4).2 ((g_cells (m_addressOf σ x2_4).2) (Int32.toNatClampNeg (m_addressOf σ x2_4).1)) (x3_4 + (1 : Int32)))) else (if (m_isIllegal x2_4) = (0 : Int32) then (if (x2_4 >>> ((13 : Int32) &&& 31)) = (24 : Int32) then (if (g_under σ) = (0 : Int32) then m_does_127 σ x2_4 (x2_4 >>> ((13 : Int32) &&& 31)) else (if (x2_4 &&& (8191 : Int32)) = (4097 : Int32) then (s_under (s_ov (s_pc σ (((g_cells σ) (Int32.toNatClampNeg (1 : Int32))) &&& (4095 : Int32))) (m_sign ((g_cells σ) (Int32.toNatClampNeg (1 : Int32))))) (0 : Int32)) else m_does_127 σ x2_4 (x2_4 >>> ((13 : Int32) &&& 31)))) else m_does_127 σ x2_4 (x2_4 >>> ((13 : Int32) &&& 31))) else (s_ended σ (3 : Int32))))
def m_does (σ : St) (a1 : Int32) : St := m_does_4 (33) σ a1 (0 : Int32)
set_option maxRecDepth 100000 in
set_option maxHeartbeats 8000000 in
theorem kX5_does (l : Launch) (D : va_G) (cI : ClassId) (h : Nat → Nat) (σ : St) (a1 : Int32) (hM : MI σ) : MetV l yX5_does (wsU yX5_does cX5_does 6 none) { frames := 3, cells := 0, slots := 0, locals := 68 } D cI [.ref (h 0), .int a1] (wM h cI σ) (fun u : St => wM h cI u) (fun u => (m_does σ a1) = u) := by
  refine MetV.of (by decide) (Nat.le_of_ble_eq_true rfl) ?_
  intro p e s m below meth c A Q ls hx hb hml hown hts hK hN hA hret hP hD hS hl
  have hown : s.vm.findClass RX5 = some m.cls := hown
  have hl : lv_has ls 6 [(0, .ref (h 0)), (1, .int a1)] := hl
  have J_236 : ∀ (σ' : St) (z1_236 : Int32) (H : Heap) (locs : List Loc) (ls : Array Slot), (vp_in z1_236 4096) → m_does σ a1 = m_does_236 σ' z1_236 → lv_has ls 6 [(0, .ref (h 0))] → va_P D vwCl (wM h cI σ') H → va_D A (wM h cI σ') → va_S A s.heap H locs → W p l e ({ frames := 3, cells := 0, slots := 0, locals := 68 } : Room) s m (([.ref (h 0), .int a1] : List Value).toArray) below meth c H locs 0 0 Q (F0 m 236 ls [.int z1_236, .ref (h 0)]) := by
    intro σ' z1_236 H locs ls hI E hl hP hD hS
    refine call_Vv 1 (kX5_calls l D cI h σ' z1_236 (hI)) ⟨hx, hb, hml, hown, hts, hK, hN, hA⟩ ⟨kw_617, kw_619, ks_yX5_calls, kw_6, kw_620, by decide +kernel, rfl, rfl, Nat.le_of_ble_eq_true rfl, Nat.le_of_ble_eq_true rfl⟩ rfl (va_recv hK hP (ci := 5) (q0 := 0) rfl rfl) hP hD hS hl.1 rfl (Nat.le_of_ble_eq_true rfl) dX5_does_236 ⟨Nat.zero_le _, Nat.zero_le _⟩ (fun u H locs hw hP hD hS => ?_)
    have hw : (m_calls σ' z1_236) = u := hw
    subst hw
    refine lv_goto (tgt := 304) hx hb dX5_does_239 (by decide) ?_
    have hE : m_does σ a1 = (m_calls σ' z1_236) := (E.trans (by unfold m_does_236; rfl))
    exact hret (m_calls σ' z1_236) _ _ _ _ hE hP hD hS dX5_does_304
  have J_285 : ∀ (σ' : St) (z1_285 : Int32) (H : Heap) (locs : List Loc) (ls : Array Slot), m_does σ a1 = m_does_285 σ' z1_285 → lv_has ls 6 [(0, .ref (h 0))] → va_P D vwCl (wM h cI σ') H → va_D A (wM h cI σ') → va_S A s.heap H locs → W p l e ({ frames := 3, cells := 0, slots := 0, locals := 68 } : Room) s m (([.ref (h 0), .int a1] : List Value).toArray) below meth c H locs 0 0 Q (F0 m 285 ls [.int z1_285, .ref (h 0)]) := by
    intro σ' z1_285 H locs ls E hl hP hD hS
    refine pM_ac hx hb hts hown hK hP hD hS kw_452 dX5_does_285 (fun H locs hP hD hS => ?_)
    refine lv_goto (tgt := 304) hx hb dX5_does_288 (by decide) ?_
    have hE : m_does σ a1 = (s_ac σ' z1_285) := (E.trans (by unfold m_does_285; rfl))
    exact hret (s_ac σ' z1_285) _ _ _ _ hE hP hD hS dX5_does_304
  have J_127 : ∀ (σ' : St) (x2_127 : Int32) (x4_127 : Int32) (H : Heap) (locs : List Loc) (ls : Array Slot), (MI σ') → m_does σ a1 = m_does_127 σ' x2_127 x4_127 → lv_has ls 6 [(0, .ref (h 0)), (2, .int x2_127), (4, .int x4_127)] → va_P D vwCl (wM h cI σ') H → va_D A (wM h cI σ') → va_S A s.heap H locs → W p l e ({ frames := 3, cells := 0, slots := 0, locals := 68 } : Room) s m (([.ref (h 0), .int a1] : List Value).toArray) below meth c H locs 0 0 Q (F0 m 127 ls []) := by
    intro σ' x2_127 x4_127 H locs ls hI E hl hP hD hS
    refine lv_iload hx hb dX5_does_127 (lv_at hl 2 rfl) ?_
    refine call_Si 1 (kX5_hasAddress l D cI _ x4_127) ⟨hx, hb, hml, hown, hts, hK, hN, hA⟩ ⟨kw_581, kw_582, kw_6, kw_583, by decide +kernel, rfl, rfl, Nat.le_of_ble_eq_true rfl, Nat.le_of_ble_eq_true rfl⟩ rfl hP hD hS hl.1 rfl (Nat.le_of_ble_eq_true rfl) dX5_does_129 ⟨Nat.zero_le _, Nat.zero_le _⟩ (fun r129 u H locs hw hP hD hS => ?_)
    have hw : (m_hasAddress x4_127) = r129 := hw
    subst hw
    refine lv_if_eq (tgt := 164) hx hb dX5_does_132 (by decide) (fun c_132_4 => ?_) (fun c_132_4 => ?_)
    · have c_132_4 : (m_hasAddress x4_127) = (0 : Int32) := c_132_4
      refine lv_iload hx hb dX5_does_164 (lv_at hl 2 rfl) ?_
      by_cases s_166_5_0 : x4_127 = (7 : Int32)
      · refine lv_lookup (off := 50) (tgt := 216) hx hb dX5_does_166 (by decide) (by rw [s_166_5_0]; rfl) (by decide) ?_
        refine lv_aload_n hx hb dX5_does_216 rfl (lv_at hl 0 rfl) ?_
        refine lv_iload_n hx hb dX5_does_217 rfl (lv_at hl 1 rfl) ?_
        refine lv_bipush (v := (12 : Int32)) hx hb dX5_does_218 (by decide) ?_
        refine lv_ishr hx hb dX5_does_220 ?_
        refine lv_iconst (v := (1 : Int32)) hx hb dX5_does_221 (by decide) ?_
        refine lv_iand hx hb dX5_does_222 ?_
        refine lv_if_ne (tgt := 231) hx hb dX5_does_223 (by decide) (fun c_223_6 => ?_) (fun c_223_6 => ?_)
        · have c_223_6 : ¬ (((x2_127 >>> ((12 : Int32) &&& 31)) &&& (1 : Int32)) = (0 : Int32)) := c_223_6
          refine lv_iload_n hx hb dX5_does_231 rfl (lv_at hl 1 rfl) ?_
          refine lv_sipush (v := (4095 : Int32)) hx hb dX5_does_232 (by decide) ?_
          refine lv_iand hx hb dX5_does_235 ?_
          exact J_236 σ' (x2_127 &&& (4095 : Int32)) _ _ _ (by first | exact pk_andIn _ 12 (by decide) (by decide) | (unfold vp_in; decide)) (E.trans (by unfold m_does_127; rw [if_pos c_132_4, if_pos s_166_5_0, if_neg c_223_6])) (lv_sub hl [0] rfl) hP hD hS
        · have c_223_6 : ((x2_127 >>> ((12 : Int32) &&& 31)) &&& (1 : Int32)) = (0 : Int32) := c_223_6
          refine lv_bipush (v := (64 : Int32)) hx hb dX5_does_226 (by decide) ?_
          refine lv_goto (tgt := 236) hx hb dX5_does_228 (by decide) ?_
          exact J_236 σ' (64 : Int32) _ _ _ (by first | exact pk_andIn _ 12 (by decide) (by decide) | (unfold vp_in; decide)) (E.trans (by unfold m_does_127; rw [if_pos c_132_4, if_pos s_166_5_0, if_pos c_223_6])) (lv_sub hl [0] rfl) hP hD hS
      by_cases s_166_5_1 : x4_127 = (26 : Int32)
      · refine lv_lookup (off := 76) (tgt := 242) hx hb dX5_does_166 (by decide) (by rw [s_166_5_1]; rfl) (by decide) ?_
        refine lv_aload_n hx hb dX5_does_242 rfl (lv_at hl 0 rfl) ?_
        refine lv_iload_n hx hb dX5_does_243 rfl (lv_at hl 1 rfl) ?_
        refine call_Vv 1 (kX5_asksSkip l D cI h _ x2_127) ⟨hx, hb, hml, hown, hts, hK, hN, hA⟩ ⟨kw_621, kw_623, ks_yX5_asksSkip, kw_6, kw_624, by decide +kernel, rfl, rfl, Nat.le_of_ble_eq_true rfl, Nat.le_of_ble_eq_true rfl⟩ rfl (va_recv hK hP (ci := 5) (q0 := 0) rfl rfl) hP hD hS hl.1 rfl (Nat.le_of_ble_eq_true rfl) dX5_does_244 ⟨Nat.zero_le _, Nat.zero_le _⟩ (fun u H locs hw hP hD hS => ?_)
        have hw : (m_asksSkip σ' x2_127) = u := hw
        subst hw
        refine lv_goto (tgt := 304) hx hb dX5_does_247 (by decide) ?_
        have hE : m_does σ a1 = (m_asksSkip σ' x2_127) := (E.trans (by unfold m_does_127; rw [if_pos c_132_4, if_neg s_166_5_0, if_pos s_166_5_1]))
        exact hret (m_asksSkip σ' x2_127) _ _ _ _ hE hP hD hS dX5_does_304
      by_cases s_166_5_2 : x4_127 = (27 : Int32)
      · refine lv_lookup (off := 84) (tgt := 250) hx hb dX5_does_166 (by decide) (by rw [s_166_5_2]; rfl) (by decide) ?_
        refine lv_aload_n hx hb dX5_does_250 rfl (lv_at hl 0 rfl) ?_
        refine lv_iload_n hx hb dX5_does_251 rfl (lv_at hl 1 rfl) ?_
        refine call_Vv 1 (kX5_shifts l D cI h _ x2_127) ⟨hx, hb, hml, hown, hts, hK, hN, hA⟩ ⟨kw_625, kw_627, ks_yX5_shifts, kw_6, kw_628, by decide +kernel, rfl, rfl, Nat.le_of_ble_eq_true rfl, Nat.le_of_ble_eq_true rfl⟩ rfl (va_recv hK hP (ci := 5) (q0 := 0) rfl rfl) hP hD hS hl.1 rfl (Nat.le_of_ble_eq_true rfl) dX5_does_252 ⟨Nat.zero_le _, Nat.zero_le _⟩ (fun u H locs hw hP hD hS => ?_)
        have hw : (m_shifts σ' x2_127) = u := hw
        subst hw
        refine lv_goto (tgt := 304) hx hb dX5_does_255 (by decide) ?_
        have hE : m_does σ a1 = (m_shifts σ' x2_127) := (E.trans (by unfold m_does_127; rw [if_pos c_132_4, if_neg s_166_5_0, if_neg s_166_5_1, if_pos s_166_5_2]))
        exact hret (m_shifts σ' x2_127) _ _ _ _ hE hP hD hS dX5_does_304
      by_cases s_166_5_3 : x4_127 = (28 : Int32)
      · refine lv_lookup (off := 92) (tgt := 258) hx hb dX5_does_166 (by decide) (by rw [s_166_5_3]; rfl) (by decide) ?_
        refine lv_aload_n hx hb dX5_does_258 rfl (lv_at hl 0 rfl) ?_
        refine lv_iload_n hx hb dX5_does_259 rfl (lv_at hl 1 rfl) ?_
        refine lv_bipush (v := (12 : Int32)) hx hb dX5_does_260 (by decide) ?_
        refine lv_ishr hx hb dX5_does_262 ?_
        refine lv_iconst (v := (1 : Int32)) hx hb dX5_does_263 (by decide) ?_
        refine lv_iand hx hb dX5_does_264 ?_
        refine lv_iconst (v := (1 : Int32)) hx hb dX5_does_265 (by decide) ?_
        refine lv_icmp_ne (tgt := 280) hx hb dX5_does_266 (by decide) (fun c_266_7 => ?_) (fun c_266_7 => ?_)
        · have c_266_7 : ¬ (((x2_127 >>> ((12 : Int32) &&& 31)) &&& (1 : Int32)) = (1 : Int32)) := c_266_7
          refine lv_iload_n hx hb dX5_does_280 rfl (lv_at hl 1 rfl) ?_
          refine lv_sipush (v := (4095 : Int32)) hx hb dX5_does_281 (by decide) ?_
          refine lv_iand hx hb dX5_does_284 ?_
          exact J_285 σ' (x2_127 &&& (4095 : Int32)) _ _ _ (E.trans (by unfold m_does_127; rw [if_pos c_132_4, if_neg s_166_5_0, if_neg s_166_5_1, if_neg s_166_5_2, if_pos s_166_5_3, if_neg c_266_7])) (lv_sub hl [0] rfl) hP hD hS
        · have c_266_7 : ((x2_127 >>> ((12 : Int32) &&& 31)) &&& (1 : Int32)) = (1 : Int32) := c_266_7
          refine lv_iload_n hx hb dX5_does_269 rfl (lv_at hl 1 rfl) ?_
          refine lv_sipush (v := (4095 : Int32)) hx hb dX5_does_270 (by decide) ?_
          refine lv_iand hx hb dX5_does_273 ?_
          refine call_Si 1 (kX5_not l D cI _ (x2_127 &&& (4095 : Int32))) ⟨hx, hb, hml, hown, hts, hK, hN, hA⟩ ⟨kw_598, kw_599, kw_6, kw_600, by decide +kernel, rfl, rfl, Nat.le_of_ble_eq_true rfl, Nat.le_of_ble_eq_true rfl⟩ rfl hP hD hS hl.1 rfl (Nat.le_of_ble_eq_true rfl) dX5_does_274 ⟨Nat.zero_le _, Nat.zero_le _⟩ (fun r274 u H locs hw hP hD hS => ?_)
          have hw : (m_not (x2_127 &&& (4095 : Int32))) = r274 := hw
          subst hw
          refine lv_goto (tgt := 285) hx hb dX5_does_277 (by decide) ?_
          exact J_285 σ' (m_not (x2_127 &&& (4095 : Int32))) _ _ _ (E.trans (by unfold m_does_127; rw [if_pos c_132_4, if_neg s_166_5_0, if_neg s_166_5_1, if_neg s_166_5_2, if_pos s_166_5_3, if_pos c_266_7])) (lv_sub hl [0] rfl) hP hD hS
      by_cases s_166_5_4 : x4_127 = (29 : Int32)
      · refine lv_lookup (off := 125) (tgt := 291) hx hb dX5_does_166 (by decide) (by rw [s_166_5_4]; rfl) (by decide) ?_
        refine lv_aload_n hx hb dX5_does_291 rfl (lv_at hl 0 rfl) ?_
        refine lv_iload_n hx hb dX5_does_292 rfl (lv_at hl 1 rfl) ?_
        refine call_Vv 1 (kX5_transfers l D cI h σ' x2_127 (hI)) ⟨hx, hb, hml, hown, hts, hK, hN, hA⟩ ⟨kw_637, kw_639, ks_yX5_transfers, kw_6, kw_640, by decide +kernel, rfl, rfl, Nat.le_of_ble_eq_true rfl, Nat.le_of_ble_eq_true rfl⟩ rfl (va_recv hK hP (ci := 5) (q0 := 0) rfl rfl) hP hD hS hl.1 rfl (Nat.le_of_ble_eq_true rfl) dX5_does_293 ⟨Nat.zero_le _, Nat.zero_le _⟩ (fun u H locs hw hP hD hS => ?_)
        have hw : (m_transfers σ' x2_127) = u := hw
        subst hw
        refine lv_goto (tgt := 304) hx hb dX5_does_296 (by decide) ?_
        have hE : m_does σ a1 = (m_transfers σ' x2_127) := (E.trans (by unfold m_does_127; rw [if_pos c_132_4, if_neg s_166_5_0, if_neg s_166_5_1, if_neg s_166_5_2, if_neg s_166_5_3, if_pos s_166_5_4]))
        exact hret (m_transfers σ' x2_127) _ _ _ _ hE hP hD hS dX5_does_304
      refine lv_lookup (off := 133) (tgt := 299) hx hb dX5_does_166 (by decide) (by simp only []; exact (lv_osw s_166_5_0 (by decide)).trans ((lv_osw s_166_5_1 (by decide)).trans ((lv_osw s_166_5_2 (by decide)).trans ((lv_osw s_166_5_3 (by decide)).trans ((lv_osw s_166_5_4 (by decide)).trans (rfl)))))) (by decide) ?_
      refine lv_aload_n hx hb dX5_does_299 rfl (lv_at hl 0 rfl) ?_
      refine lv_iload_n hx hb dX5_does_300 rfl (lv_at hl 1 rfl) ?_
      refine call_Vv 1 (kX5_operates l D cI h _ x2_127) ⟨hx, hb, hml, hown, hts, hK, hN, hA⟩ ⟨kw_641, kw_643, ks_yX5_operates, kw_6, kw_644, by decide +kernel, rfl, rfl, Nat.le_of_ble_eq_true rfl, Nat.le_of_ble_eq_true rfl⟩ rfl (va_recv hK hP (ci := 5) (q0 := 0) rfl rfl) hP hD hS hl.1 rfl (Nat.le_of_ble_eq_true rfl) dX5_does_301 ⟨Nat.zero_le _, Nat.zero_le _⟩ (fun u H locs hw hP hD hS => ?_)
      have hw : (m_operates σ' x2_127) = u := hw
      subst hw
      have hE : m_does σ a1 = (m_operates σ' x2_127) := (E.trans (by unfold m_does_127; rw [if_pos c_132_4, if_neg s_166_5_0, if_neg s_166_5_1, if_neg s_166_5_2, if_neg s_166_5_3, if_neg s_166_5_4]))
      exact hret (m_operates σ' x2_127) _ _ _ _ hE hP hD hS dX5_does_304
    · have c_132_4 : ¬ ((m_hasAddress x4_127) = (0 : Int32)) := c_132_4
      refine lv_aload_n hx hb dX5_does_135 rfl (lv_at hl 0 rfl) ?_
      refine lv_iload_n hx hb dX5_does_136 rfl (lv_at hl 1 rfl) ?_
      refine call_Vi 1 (kX5_addressOf l D cI h _ x2_127) ⟨hx, hb, hml, hown, hts, hK, hN, hA⟩ ⟨kw_571, kw_573, ks_yX5_addressOf, kw_6, kw_574, by decide +kernel, rfl, rfl, Nat.le_of_ble_eq_true rfl, Nat.le_of_ble_eq_true rfl⟩ rfl (va_recv hK hP (ci := 5) (q0 := 0) rfl rfl) hP hD hS hl.1 rfl (Nat.le_of_ble_eq_true rfl) dX5_does_137 ⟨Nat.zero_le _, Nat.zero_le _⟩ (fun r137 u H locs hw hP hD hS => ?_)
      obtain ⟨hw, hw2⟩ : (m_addressOf σ' x2_127).1 = r137 ∧ (m_addressOf σ' x2_127).2 = u := hw
      subst hw
      subst hw2
      refine lv_istore (lv' := [(5, .int (m_addressOf σ' x2_127).1), (0, .ref (h 0)), (2, .int x2_127), (4, .int x4_127)]) hx hb dX5_does_140 hl (by decide) rfl (fun ls hl => ?_)
      refine lv_iload hx hb dX5_does_142 (lv_at hl 0 rfl) ?_
      refine lv_if_ge (tgt := 155) hx hb dX5_does_144 (by decide) (fun c_144_8 => ?_) (fun c_144_8 => ?_)
      · have c_144_8 : (0 : Int32) ≤ (m_addressOf σ' x2_127).1 := c_144_8
        refine lv_aload_n hx hb dX5_does_155 rfl (lv_at hl 1 rfl) ?_
        refine lv_iload hx hb dX5_does_156 (lv_at hl 3 rfl) ?_
        refine lv_iload hx hb dX5_does_158 (lv_at hl 0 rfl) ?_
        refine call_Vv 2 (kX5_ofMemory l D cI h (m_addressOf σ' x2_127).2 x4_127 (m_addressOf σ' x2_127).1 (m_addr_in2 (by assumption))) ⟨hx, hb, hml, hown, hts, hK, hN, hA⟩ ⟨kw_584, kw_586, ks_yX5_ofMemory, kw_6, kw_587, by decide +kernel, rfl, rfl, Nat.le_of_ble_eq_true rfl, Nat.le_of_ble_eq_true rfl⟩ rfl (va_recv hK hP (ci := 5) (q0 := 0) rfl rfl) hP hD hS hl.1 rfl (Nat.le_of_ble_eq_true rfl) dX5_does_160 ⟨Nat.zero_le _, Nat.zero_le _⟩ (fun u H locs hw hP hD hS => ?_)
        have hw : (m_ofMemory (m_addressOf σ' x2_127).2 x4_127 (m_addressOf σ' x2_127).1) = u := hw
        subst hw
        have hE : m_does σ a1 = (m_ofMemory (m_addressOf σ' x2_127).2 x4_127 (m_addressOf σ' x2_127).1) := (E.trans (by unfold m_does_127; rw [if_neg c_132_4, if_pos c_144_8]))
        exact hret (m_ofMemory (m_addressOf σ' x2_127).2 x4_127 (m_addressOf σ' x2_127).1) _ _ _ _ hE hP hD hS dX5_does_163
      · have c_144_8 : ¬ ((0 : Int32) ≤ (m_addressOf σ' x2_127).1) := c_144_8
        refine lv_aload_n hx hb dX5_does_147 rfl (lv_at hl 1 rfl) ?_
        refine lv_iconst (v := (2 : Int32)) hx hb dX5_does_148 (by decide) ?_
        refine pM_ended hx hb hts hown hK hP hD hS kw_472 dX5_does_149 (fun H locs hP hD hS => ?_)
        refine lv_goto (tgt := 163) hx hb dX5_does_152 (by decide) ?_
        have hE : m_does σ a1 = (s_ended (m_addressOf σ' x2_127).2 (2 : Int32)) := (E.trans (by unfold m_does_127; rw [if_neg c_132_4, if_neg c_144_8]))
        exact hret (s_ended (m_addressOf σ' x2_127).2 (2 : Int32)) _ _ _ _ hE hP hD hS dX5_does_163
  have J_30 : ∀ (σ' : St) (H : Heap) (locs : List Loc) (ls : Array Slot), m_does σ a1 = m_does_30 σ' → lv_has ls 6 [(0, .ref (h 0))] → va_P D vwCl (wM h cI σ') H → va_D A (wM h cI σ') → va_S A s.heap H locs → W p l e ({ frames := 3, cells := 0, slots := 0, locals := 68 } : Room) s m (([.ref (h 0), .int a1] : List Value).toArray) below meth c H locs 0 0 Q (F0 m 30 ls []) := by
    intro σ'  H locs ls E hl hP hD hS
    refine lv_aload_n hx hb dX5_does_30 rfl (lv_at hl 0 rfl) ?_
    refine lv_iconst (v := (2 : Int32)) hx hb dX5_does_31 (by decide) ?_
    refine pM_ended hx hb hts hown hK hP hD hS kw_472 dX5_does_32 (fun H locs hP hD hS => ?_)
    have hE : m_does σ a1 = (s_ended σ' (2 : Int32)) := (E.trans (by unfold m_does_30; rfl))
    exact hret (s_ended σ' (2 : Int32)) _ _ _ _ hE hP hD hS dX5_does_35
  have J_4 : ∀ (n : Nat) (σ' : St) (x2_4 : Int32) (x3_4 : Int32) (H : Heap) (locs : List Loc) (ls : Array Slot), (∃ k : Nat, x3_4 = nI k ∧ k ≤ 32 ∧ k + n = 33 ∧ MI σ') → m_does σ a1 = m_does_4 n σ' x2_4 x3_4 → lv_has ls 6 [(0, .ref (h 0)), (2, .int x2_4), (3, .int x3_4)] → va_P D vwCl (wM h cI σ') H → va_D A (wM h cI σ') → va_S A s.heap H locs → W p l e ({ frames := 3, cells := 0, slots := 0, locals := 68 } : Room) s m (([.ref (h 0), .int a1] : List Value).toArray) below meth c H locs 0 0 Q (F0 m 4 ls []) := by
    intro n
    induction n with
    | zero => intro σ' x2_4 x3_4 H locs ls hI E hl hP hD hS; obtain ⟨k, hk1, hk2, hk3, hk4⟩ := hI; omega
    | succ n ih =>
      intro σ' x2_4 x3_4 H locs ls hI E hl hP hD hS
      obtain ⟨k, hk1, hk2, hk3, hk4⟩ := hI
      refine lv_iload_n hx hb dX5_does_4 rfl (lv_at hl 1 rfl) ?_
      refine lv_bipush (v := (13 : Int32)) hx hb dX5_does_5 (by decide) ?_
      refine lv_ishr hx hb dX5_does_7 ?_
      refine lv_iconst (v := (4 : Int32)) hx hb dX5_does_8 (by decide) ?_
      refine lv_icmp_ne (tgt := 50) hx hb dX5_does_9 (by decide) (fun c_9_1 => ?_) (fun c_9_1 => ?_)
      · have c_9_1 : ¬ ((x2_4 >>> ((13 : Int32) &&& 31)) = (4 : Int32)) := c_9_1
        refine lv_iload_n hx hb dX5_does_50 rfl (lv_at hl 1 rfl) ?_
        refine lv_bipush (v := (13 : Int32)) hx hb dX5_does_51 (by decide) ?_
        refine lv_ishr hx hb dX5_does_53 ?_
        refine lv_istore (lv' := [(4, .int (x2_4 >>> ((13 : Int32) &&& 31))), (0, .ref (h 0)), (2, .int x2_4), (3, .int x3_4)]) hx hb dX5_does_54 hl (by decide) rfl (fun ls hl => ?_)
        refine lv_iload_n hx hb dX5_does_56 rfl (lv_at hl 2 rfl) ?_
        refine call_Si 1 (kX5_isIllegal l D cI _ x2_4) ⟨hx, hb, hml, hown, hts, hK, hN, hA⟩ ⟨kw_575, kw_576, kw_6, kw_577, by decide +kernel, rfl, rfl, Nat.le_of_ble_eq_true rfl, Nat.le_of_ble_eq_true rfl⟩ rfl hP hD hS hl.1 rfl (Nat.le_of_ble_eq_true rfl) dX5_does_57 ⟨Nat.zero_le _, Nat.zero_le _⟩ (fun r57 u H locs hw hP hD hS => ?_)
        have hw : (m_isIllegal x2_4) = r57 := hw
        subst hw
        refine lv_if_eq (tgt := 69) hx hb dX5_does_60 (by decide) (fun c_60_2 => ?_) (fun c_60_2 => ?_)
        · have c_60_2 : (m_isIllegal x2_4) = (0 : Int32) := c_60_2
          refine lv_iload hx hb dX5_does_69 (lv_at hl 0 rfl) ?_
          refine lv_bipush (v := (24 : Int32)) hx hb dX5_does_71 (by decide) ?_
          refine lv_icmp_ne (tgt := 127) hx hb dX5_does_73 (by decide) (fun c_73_3 => ?_) (fun c_73_3 => ?_)
          · have c_73_3 : ¬ ((x2_4 >>> ((13 : Int32) &&& 31)) = (24 : Int32)) := c_73_3
            exact J_127 σ' x2_4 (x2_4 >>> ((13 : Int32) &&& 31)) _ _ _ (hk4) (E.trans (by rw [m_does_4, if_neg c_9_1, if_pos c_60_2, if_neg c_73_3])) (lv_sub hl [1, 2, 0] rfl) hP hD hS
          · have c_73_3 : (x2_4 >>> ((13 : Int32) &&& 31)) = (24 : Int32) := c_73_3
            refine lv_aload_n hx hb dX5_does_76 rfl (lv_at hl 1 rfl) ?_
            refine gM_under (v := (g_under σ')) hx hb hts hown hK hP kw_459 rfl dX5_does_77 ?_
            refine lv_if_eq (tgt := 127) hx hb dX5_does_80 (by decide) (fun c_80_9 => ?_) (fun c_80_9 => ?_)
            · have c_80_9 : (g_under σ') = (0 : Int32) := c_80_9
              exact J_127 σ' x2_4 (x2_4 >>> ((13 : Int32) &&& 31)) _ _ _ (hk4) (E.trans (by rw [m_does_4, if_neg c_9_1, if_pos c_60_2, if_pos c_73_3, if_pos c_80_9])) (lv_sub hl [1, 2, 0] rfl) hP hD hS
            · have c_80_9 : ¬ ((g_under σ') = (0 : Int32)) := c_80_9
              refine lv_iload_n hx hb dX5_does_83 rfl (lv_at hl 2 rfl) ?_
              refine lv_sipush (v := (8191 : Int32)) hx hb dX5_does_84 (by decide) ?_
              refine lv_iand hx hb dX5_does_87 ?_
              refine lv_sipush (v := (4097 : Int32)) hx hb dX5_does_88 (by decide) ?_
              refine lv_icmp_ne (tgt := 127) hx hb dX5_does_91 (by decide) (fun c_91_10 => ?_) (fun c_91_10 => ?_)
              · have c_91_10 : ¬ ((x2_4 &&& (8191 : Int32)) = (4097 : Int32)) := c_91_10
                exact J_127 σ' x2_4 (x2_4 >>> ((13 : Int32) &&& 31)) _ _ _ (hk4) (E.trans (by rw [m_does_4, if_neg c_9_1, if_pos c_60_2, if_pos c_73_3, if_neg c_80_9, if_neg c_91_10])) (lv_sub hl [1, 2, 0] rfl) hP hD hS
              · have c_91_10 : (x2_4 &&& (8191 : Int32)) = (4097 : Int32) := c_91_10
                refine lv_aload_n hx hb dX5_does_94 rfl (lv_at hl 1 rfl) ?_
                refine lv_aload_n hx hb dX5_does_95 rfl (lv_at hl 1 rfl) ?_
                refine gM_ref1 hx hb hts hown hK hP kw_451 dX5_does_96 ?_
                refine lv_iconst (v := (1 : Int32)) hx hb dX5_does_99 (by decide) ?_
                refine aM_cells (v := ((g_cells σ') (Int32.toNatClampNeg (1 : Int32)))) hx hb hK hP (by unfold vp_in; decide) rfl dX5_does_100 ?_
                refine lv_sipush (v := (4095 : Int32)) hx hb dX5_does_101 (by decide) ?_
                refine lv_iand hx hb dX5_does_104 ?_
                refine pM_pc hx hb hts hown hK hP hD hS kw_454 dX5_does_105 (fun H locs hP hD hS => ?_)
                refine lv_aload_n hx hb dX5_does_108 rfl (lv_at hl 1 rfl) ?_
                refine lv_aload_n hx hb dX5_does_109 rfl (lv_at hl 1 rfl) ?_
                refine gM_ref1 hx hb hts hown hK hP kw_451 dX5_does_110 ?_
                refine lv_iconst (v := (1 : Int32)) hx hb dX5_does_113 (by decide) ?_
                refine aM_cells (v := ((g_cells σ') (Int32.toNatClampNeg (1 : Int32)))) hx hb hK hP (by unfold vp_in; decide) rfl dX5_does_114 ?_
                refine call_Si 1 (kX5_sign l D cI _ ((g_cells σ') (Int32.toNatClampNeg (1 : Int32)))) ⟨hx, hb, hml, hown, hts, hK, hN, hA⟩ ⟨kw_578, kw_579, kw_6, kw_580, by decide +kernel, rfl, rfl, Nat.le_of_ble_eq_true rfl, Nat.le_of_ble_eq_true rfl⟩ rfl hP hD hS hl.1 rfl (Nat.le_of_ble_eq_true rfl) dX5_does_115 ⟨Nat.zero_le _, Nat.zero_le _⟩ (fun r115 u H locs hw hP hD hS => ?_)
                have hw : (m_sign ((g_cells σ') (Int32.toNatClampNeg (1 : Int32)))) = r115 := hw
                subst hw
                refine pM_ov hx hb hts hown hK hP hD hS kw_455 dX5_does_118 (fun H locs hP hD hS => ?_)
                refine lv_aload_n hx hb dX5_does_121 rfl (lv_at hl 1 rfl) ?_
                refine lv_iconst (v := (0 : Int32)) hx hb dX5_does_122 (by decide) ?_
                refine pM_under hx hb hts hown hK hP hD hS kw_459 ⟨rfl, rfl⟩ dX5_does_123 (fun H locs hP hD hS => ?_)
                have hE : m_does σ a1 = (s_under (s_ov (s_pc σ' (((g_cells σ') (Int32.toNatClampNeg (1 : Int32))) &&& (4095 : Int32))) (m_sign ((g_cells σ') (Int32.toNatClampNeg (1 : Int32))))) (0 : Int32)) := (E.trans (by rw [m_does_4, if_neg c_9_1, if_pos c_60_2, if_pos c_73_3, if_neg c_80_9, if_pos c_91_10]))
                exact hret (s_under (s_ov (s_pc σ' (((g_cells σ') (Int32.toNatClampNeg (1 : Int32))) &&& (4095 : Int32))) (m_sign ((g_cells σ') (Int32.toNatClampNeg (1 : Int32))))) (0 : Int32)) _ _ _ _ hE hP hD hS dX5_does_126
        · have c_60_2 : ¬ ((m_isIllegal x2_4) = (0 : Int32)) := c_60_2
          refine lv_aload_n hx hb dX5_does_63 rfl (lv_at hl 1 rfl) ?_
          refine lv_iconst (v := (3 : Int32)) hx hb dX5_does_64 (by decide) ?_
          refine pM_ended hx hb hts hown hK hP hD hS kw_472 dX5_does_65 (fun H locs hP hD hS => ?_)
          have hE : m_does σ a1 = (s_ended σ' (3 : Int32)) := (E.trans (by rw [m_does_4, if_neg c_9_1, if_neg c_60_2]))
          exact hret (s_ended σ' (3 : Int32)) _ _ _ _ hE hP hD hS dX5_does_68
      · have c_9_1 : (x2_4 >>> ((13 : Int32) &&& 31)) = (4 : Int32) := c_9_1
        refine lv_aload_n hx hb dX5_does_12 rfl (lv_at hl 0 rfl) ?_
        refine lv_iload_n hx hb dX5_does_13 rfl (lv_at hl 1 rfl) ?_
        refine call_Vi 1 (kX5_addressOf l D cI h _ x2_4) ⟨hx, hb, hml, hown, hts, hK, hN, hA⟩ ⟨kw_571, kw_573, ks_yX5_addressOf, kw_6, kw_574, by decide +kernel, rfl, rfl, Nat.le_of_ble_eq_true rfl, Nat.le_of_ble_eq_true rfl⟩ rfl (va_recv hK hP (ci := 5) (q0 := 0) rfl rfl) hP hD hS hl.1 rfl (Nat.le_of_ble_eq_true rfl) dX5_does_14 ⟨Nat.zero_le _, Nat.zero_le _⟩ (fun r14 u H locs hw hP hD hS => ?_)
        obtain ⟨hw, hw2⟩ : (m_addressOf σ' x2_4).1 = r14 ∧ (m_addressOf σ' x2_4).2 = u := hw
        subst hw
        subst hw2
        refine lv_istore (lv' := [(4, .int (m_addressOf σ' x2_4).1), (0, .ref (h 0)), (2, .int x2_4), (3, .int x3_4)]) hx hb dX5_does_17 hl (by decide) rfl (fun ls hl => ?_)
        refine lv_iload hx hb dX5_does_19 (lv_at hl 0 rfl) ?_
        refine lv_if_lt (tgt := 30) hx hb dX5_does_21 (by decide) (fun c_21_11 => ?_) (fun c_21_11 => ?_)
        · have c_21_11 : (m_addressOf σ' x2_4).1 < (0 : Int32) := c_21_11
          exact J_30 (m_addressOf σ' x2_4).2 _ _ _ (E.trans (by rw [m_does_4, if_pos c_9_1, if_pos c_21_11])) (lv_sub hl [1] rfl) hP hD hS
        · have c_21_11 : ¬ ((m_addressOf σ' x2_4).1 < (0 : Int32)) := c_21_11
          refine lv_iload_n hx hb dX5_does_24 rfl (lv_at hl 3 rfl) ?_
          refine lv_bipush (v := (32 : Int32)) hx hb dX5_does_25 (by decide) ?_
          refine lv_icmp_ne (tgt := 36) hx hb dX5_does_27 (by decide) (fun c_27_12 => ?_) (fun c_27_12 => ?_)
          · have c_27_12 : ¬ (x3_4 = (32 : Int32)) := c_27_12
            refine lv_iinc (v := (x3_4 + (1 : Int32))) (lv' := [(3, .int (x3_4 + (1 : Int32))), (4, .int (m_addressOf σ' x2_4).1), (0, .ref (h 0)), (2, .int x2_4)]) hx hb dX5_does_36 hl (k := 3) rfl (rfl) (by decide) rfl (fun ls hl => ?_)
            refine lv_aload_n hx hb dX5_does_39 rfl (lv_at hl 2 rfl) ?_
            refine gM_ref1 hx hb hts hown hK hP kw_451 dX5_does_40 ?_
            refine lv_iload hx hb dX5_does_43 (lv_at hl 1 rfl) ?_
            refine aM_cells (v := ((g_cells (m_addressOf σ' x2_4).2) (Int32.toNatClampNeg (m_addressOf σ' x2_4).1))) hx hb hK hP (m_addr_in (by assumption)) rfl dX5_does_45 ?_
            refine lv_istore_n (lv' := [(2, .int ((g_cells (m_addressOf σ' x2_4).2) (Int32.toNatClampNeg (m_addressOf σ' x2_4).1))), (3, .int (x3_4 + (1 : Int32))), (4, .int (m_addressOf σ' x2_4).1), (0, .ref (h 0))]) hx hb dX5_does_46 rfl hl (by decide) rfl (fun ls hl => ?_)
            refine lv_goto (tgt := 4) hx hb dX5_does_47 (by decide) ?_
            exact ih (m_addressOf σ' x2_4).2 ((g_cells (m_addressOf σ' x2_4).2) (Int32.toNatClampNeg (m_addressOf σ' x2_4).1)) (x3_4 + (1 : Int32)) _ _ _ (⟨k + 1, by rw [hk1]; exact nI_1 k, lp_ne (N := 32) (by assumption) hk1 hk2 (by decide), by omega, mi_addr hk4⟩) (E.trans (by rw [m_does_4, if_pos c_9_1, if_neg c_21_11, if_neg c_27_12])) (lv_sub hl [3, 0, 1] rfl) hP hD hS
          · have c_27_12 : x3_4 = (32 : Int32) := c_27_12
            exact J_30 (m_addressOf σ' x2_4).2 _ _ _ (E.trans (by rw [m_does_4, if_pos c_9_1, if_neg c_21_11, if_pos c_27_12])) (lv_sub hl [1] rfl) hP hD hS
  suffices go : ∀ (H : Heap) (locs : List Loc), va_P D vwCl (wM h cI σ) H → va_D A (wM h cI σ) → va_S A s.heap H locs → W p l e ({ frames := 3, cells := 0, slots := 0, locals := 68 } : Room) s m (([.ref (h 0), .int a1] : List Value).toArray) below meth c H locs 0 0 Q (F0 m 0 ls []) from go _ _ hP hD hS
  intro H locs hP hD hS
  refine lv_iload_n hx hb dX5_does_0 rfl (lv_at hl 1 rfl) ?_
  refine lv_istore_n (lv' := [(2, .int a1), (0, .ref (h 0)), (1, .int a1)]) hx hb dX5_does_1 rfl hl (by decide) rfl (fun ls hl => ?_)
  refine lv_iconst (v := (0 : Int32)) hx hb dX5_does_2 (by decide) ?_
  refine lv_istore_n (lv' := [(3, .int (0 : Int32)), (2, .int a1), (0, .ref (h 0)), (1, .int a1)]) hx hb dX5_does_3 rfl hl (by decide) rfl (fun ls hl => ?_)
  exact J_4 (33) σ a1 (0 : Int32) _ _ _ (⟨0, rfl, Nat.zero_le _, rfl, hM⟩) (by unfold m_does; rfl) (lv_sub hl [2, 1, 0] rfl) hP hD hS
