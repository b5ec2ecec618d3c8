def m_index_31 (σ : St) (x1_31 : Int32) (z1_31 : Int32) : St := (s_cells (s_ac σ z1_31) (upd (g_cells σ) (Int32.toNatClampNeg x1_31) z1_31))
def m_index (σ : St) (a1 : Int32) : St := (if (((g_cells σ) (Int32.toNatClampNeg a1)) + (1 : Int32)) = (262143 : Int32) then m_index_31 σ a1 (0 : Int32) else (if (((g_cells σ) (Int32.toNatClampNeg a1)) + (1 : Int32)) ≤ (262143 : Int32) then m_index_31 σ a1 (((g_cells σ) (Int32.toNatClampNeg a1)) + (1 : Int32)) else m_index_31 σ a1 (1 : Int32)))
set_option maxRecDepth 100000 in
set_option maxHeartbeats 8000000 in
theorem kX5_index (l : Launch) (D : va_G) (cI : ClassId) (h : Nat → Nat) (σ : St) (a1 : Int32) (ha : vp_in a1 4096) : MetV l yX5_index (wsU yX5_index cX5_index 3 none) { frames := 0, cells := 0, slots := 0, locals := 0 } D cI [.ref (h 0), .int a1] (wM h cI σ) (fun u : St => wM h cI u) (fun u => (m_index σ a1) = u) := by
  refine MetV.of (by decide) (Nat.le_of_ble_eq_true rfl) ?_
  intro p e s m below meth c A Q ls hx hb hml hown hts hK hN hA hret hP hD hS hl
  have hown : s.vm.findClass RX5 = some m.cls := hown
  have hl : lv_has ls 3 [(0, .ref (h 0)), (1, .int a1)] := hl
  have J_31 : ∀ (σ' : St) (x1_31 : Int32) (z1_31 : Int32) (H : Heap) (locs : List Loc) (ls : Array Slot), (vp_in x1_31 4096) → m_index σ a1 = m_index_31 σ' x1_31 z1_31 → lv_has ls 3 [(0, .ref (h 0)), (1, .int x1_31)] → va_P D vwCl (wM h cI σ') H → va_D A (wM h cI σ') → va_S A s.heap H locs → W p l e ({ frames := 0, cells := 0, slots := 0, locals := 0 } : Room) s m (([.ref (h 0), .int a1] : List Value).toArray) below meth c H locs 0 0 Q (F0 m 31 ls [.int z1_31, .ref (h 0)]) := by
    intro σ' x1_31 z1_31 H locs ls hI E hl hP hD hS
    have ha := hI
    refine pM_ac hx hb hts hown hK hP hD hS kw_452 dX5_index_31 (fun H locs hP hD hS => ?_)
    refine lv_aload_n hx hb dX5_index_34 rfl (lv_at hl 0 rfl) ?_
    refine gM_ref1 hx hb hts hown hK hP kw_451 dX5_index_35 ?_
    refine lv_iload_n hx hb dX5_index_38 rfl (lv_at hl 1 rfl) ?_
    refine lv_aload_n hx hb dX5_index_39 rfl (lv_at hl 0 rfl) ?_
    refine gM_ac (v := z1_31) hx hb hts hown hK hP kw_452 rfl dX5_index_40 ?_
    refine bM_cells (f := (g_cells σ')) hx hb hK hP hD hS (by exact ha) rfl dX5_index_43 (fun H locs hP hD hS => ?_)
    have hE : m_index σ a1 = (s_cells (s_ac σ' z1_31) (upd (g_cells σ') (Int32.toNatClampNeg x1_31) z1_31)) := (E.trans (by unfold m_index_31; rfl))
    exact hret (s_cells (s_ac σ' z1_31) (upd (g_cells σ') (Int32.toNatClampNeg x1_31) z1_31)) _ _ _ _ hE hP hD hS dX5_index_44
  suffices go : ∀ (H : Heap) (locs : List Loc), va_P D vwCl (wM h cI σ) H → va_D A (wM h cI σ) → va_S A s.heap H locs → W p l e ({ frames := 0, cells := 0, slots := 0, locals := 0 } : Room) s m (([.ref (h 0), .int a1] : List Value).toArray) below meth c H locs 0 0 Q (F0 m 0 ls []) from go _ _ hP hD hS
  intro H locs hP hD hS
  refine lv_aload_n hx hb dX5_index_0 rfl (lv_at hl 0 rfl) ?_
  refine gM_ref1 hx hb hts hown hK hP kw_451 dX5_index_1 ?_
  refine lv_iload_n hx hb dX5_index_4 rfl (lv_at hl 1 rfl) ?_
  refine aM_cells (v := ((g_cells σ) (Int32.toNatClampNeg a1))) hx hb hK hP (by exact ha) rfl dX5_index_5 ?_
  refine lv_iconst (v := (1 : Int32)) hx hb dX5_index_6 (by decide) ?_
  refine lv_iadd hx hb dX5_index_7 ?_
  refine lv_istore_n (lv' := [(2, .int (((g_cells σ) (Int32.toNatClampNeg a1)) + (1 : Int32))), (0, .ref (h 0)), (1, .int a1)]) hx hb dX5_index_8 rfl hl (by decide) rfl (fun ls hl => ?_)
  refine lv_aload_n hx hb dX5_index_9 rfl (lv_at hl 1 rfl) ?_
  refine lv_iload_n hx hb dX5_index_10 rfl (lv_at hl 0 rfl) ?_
  refine lv_ldc (v := (262143 : Int32)) hx hb hown (hts _ kw_525) dX5_index_11 ?_
  refine lv_icmp_ne (tgt := 20) hx hb dX5_index_13 (by decide) (fun c_13_1 => ?_) (fun c_13_1 => ?_)
  · have c_13_1 : ¬ ((((g_cells σ) (Int32.toNatClampNeg a1)) + (1 : Int32)) = (262143 : Int32)) := c_13_1
    refine lv_iload_n hx hb dX5_index_20 rfl (lv_at hl 0 rfl) ?_
    refine lv_ldc (v := (262143 : Int32)) hx hb hown (hts _ kw_525) dX5_index_21 ?_
    refine lv_icmp_le (tgt := 30) hx hb dX5_index_23 (by decide) (fun c_23_2 => ?_) (fun c_23_2 => ?_)
    · have c_23_2 : (((g_cells σ) (Int32.toNatClampNeg a1)) + (1 : Int32)) ≤ (262143 : Int32) := c_23_2
      refine lv_iload_n hx hb dX5_index_30 rfl (lv_at hl 0 rfl) ?_
      exact J_31 σ a1 (((g_cells σ) (Int32.toNatClampNeg a1)) + (1 : Int32)) _ _ _ (ha) (by unfold m_index; rw [if_neg c_13_1, if_pos c_23_2]) (lv_sub hl [1, 2] rfl) hP hD hS
    · have c_23_2 : ¬ ((((g_cells σ) (Int32.toNatClampNeg a1)) + (1 : Int32)) ≤ (262143 : Int32)) := c_23_2
      refine lv_iconst (v := (1 : Int32)) hx hb dX5_index_26 (by decide) ?_
      refine lv_goto (tgt := 31) hx hb dX5_index_27 (by decide) ?_
      exact J_31 σ a1 (1 : Int32) _ _ _ (ha) (by unfold m_index; rw [if_neg c_13_1, if_neg c_23_2]) (lv_sub hl [1, 2] rfl) hP hD hS
  · have c_13_1 : (((g_cells σ) (Int32.toNatClampNeg a1)) + (1 : Int32)) = (262143 : Int32) := c_13_1
    refine lv_iconst (v := (0 : Int32)) hx hb dX5_index_16 (by decide) ?_
    refine lv_goto (tgt := 31) hx hb dX5_index_17 (by decide) ?_
    exact J_31 σ a1 (0 : Int32) _ _ _ (ha) (by unfold m_index; rw [if_pos c_13_1]) (lv_sub hl [1, 2] rfl) hP hD hS
def m_multiplies_25 (σ : St)  : St := (s_ac (s_io σ (((g_io σ) >>> ((1 : Int32) &&& 31)) ||| (((g_ac σ) &&& (1 : Int32)) <<< ((17 : Int32) &&& 31)))) ((g_ac σ) >>> ((1 : Int32) &&& 31)))
def m_multiplies (σ : St) (a1 : Int32) : St := (if ((g_io σ) &&& (1 : Int32)) = (1 : Int32) then m_multiplies_25 (s_ac σ (m_plain (m_sum (g_ac σ) a1))) else m_multiplies_25 σ)
set_option maxRecDepth 100000 in
set_option maxHeartbeats 8000000 in
theorem kX5_multiplies (l : Launch) (D : va_G) (cI : ClassId) (h : Nat → Nat) (σ : St) (a1 : Int32) : MetV l yX5_multiplies (wsU yX5_multiplies cX5_multiplies 2 none) { frames := 1, cells := 0, slots := 0, locals := 22 } D cI [.ref (h 0), .int a1] (wM h cI σ) (fun u : St => wM h cI u) (fun u => (m_multiplies σ a1) = u) := by
  refine MetV.of (by decide) (Nat.le_of_ble_eq_true rfl) ?_
  intro p e s m below meth c A Q ls hx hb hml hown hts hK hN hA hret hP hD hS hl
  have hown : s.vm.findClass RX5 = some m.cls := hown
  have hl : lv_has ls 2 [(0, .ref (h 0)), (1, .int a1)] := hl
  have J_25 : ∀ (σ' : St) (H : Heap) (locs : List Loc) (ls : Array Slot), m_multiplies σ a1 = m_multiplies_25 σ' → lv_has ls 2 [(0, .ref (h 0))] → va_P D vwCl (wM h cI σ') H → va_D A (wM h cI σ') → va_S A s.heap H locs → W p l e ({ frames := 1, cells := 0, slots := 0, locals := 22 } : Room) s m (([.ref (h 0), .int a1] : List Value).toArray) below meth c H locs 0 0 Q (F0 m 25 ls []) := by
    intro σ'  H locs ls E hl hP hD hS
    refine lv_aload_n hx hb dX5_multiplies_25 rfl (lv_at hl 0 rfl) ?_
    refine lv_aload_n hx hb dX5_multiplies_26 rfl (lv_at hl 0 rfl) ?_
    refine gM_io (v := (g_io σ')) hx hb hts hown hK hP kw_453 rfl dX5_multiplies_27 ?_
    refine lv_iconst (v := (1 : Int32)) hx hb dX5_multiplies_30 (by decide) ?_
    refine lv_ishr hx hb dX5_multiplies_31 ?_
    refine lv_aload_n hx hb dX5_multiplies_32 rfl (lv_at hl 0 rfl) ?_
    refine gM_ac (v := (g_ac σ')) hx hb hts hown hK hP kw_452 rfl dX5_multiplies_33 ?_
    refine lv_iconst (v := (1 : Int32)) hx hb dX5_multiplies_36 (by decide) ?_
    refine lv_iand hx hb dX5_multiplies_37 ?_
    refine lv_bipush (v := (17 : Int32)) hx hb dX5_multiplies_38 (by decide) ?_
    refine lv_ishl hx hb dX5_multiplies_40 ?_
    refine lv_ior hx hb dX5_multiplies_41 ?_
    refine pM_io hx hb hts hown hK hP hD hS kw_453 dX5_multiplies_42 (fun H locs hP hD hS => ?_)
    refine lv_aload_n hx hb dX5_multiplies_45 rfl (lv_at hl 0 rfl) ?_
    refine lv_aload_n hx hb dX5_multiplies_46 rfl (lv_at hl 0 rfl) ?_
    refine gM_ac (v := (g_ac σ')) hx hb hts hown hK hP kw_452 rfl dX5_multiplies_47 ?_
    refine lv_iconst (v := (1 : Int32)) hx hb dX5_multiplies_50 (by decide) ?_
    refine lv_ishr hx hb dX5_multiplies_51 ?_
    refine pM_ac hx hb hts hown hK hP hD hS kw_452 dX5_multiplies_52 (fun H locs hP hD hS => ?_)
    have hE : m_multiplies σ a1 = (s_ac (s_io σ' (((g_io σ') >>> ((1 : Int32) &&& 31)) ||| (((g_ac σ') &&& (1 : Int32)) <<< ((17 : Int32) &&& 31)))) ((g_ac σ') >>> ((1 : Int32) &&& 31))) := (E.trans (by unfold m_multiplies_25; rfl))
    exact hret (s_ac (s_io σ' (((g_io σ') >>> ((1 : Int32) &&& 31)) ||| (((g_ac σ') &&& (1 : Int32)) <<< ((17 : Int32) &&& 31)))) ((g_ac σ') >>> ((1 : Int32) &&& 31))) _ _ _ _ hE hP hD hS dX5_multiplies_55
  suffices go : ∀ (H : Heap) (locs : List Loc), va_P D vwCl (wM h cI σ) H → va_D A (wM h cI σ) → va_S A s.heap H locs → W p l e ({ frames := 1, cells := 0, slots := 0, locals := 22 } : Room) s m (([.ref (h 0), .int a1] : List Value).toArray) below meth c H locs 0 0 Q (F0 m 0 ls []) from go _ _ hP hD hS
  intro H locs hP hD hS
  refine lv_aload_n hx hb dX5_multiplies_0 rfl (lv_at hl 0 rfl) ?_
  refine gM_io (v := (g_io σ)) hx hb hts hown hK hP kw_453 rfl dX5_multiplies_1 ?_
  refine lv_iconst (v := (1 : Int32)) hx hb dX5_multiplies_4 (by decide) ?_
  refine lv_iand hx hb dX5_multiplies_5 ?_
  refine lv_iconst (v := (1 : Int32)) hx hb dX5_multiplies_6 (by decide) ?_
  refine lv_icmp_ne (tgt := 25) hx hb dX5_multiplies_7 (by decide) (fun c_7_1 => ?_) (fun c_7_1 => ?_)
  · have c_7_1 : ¬ (((g_io σ) &&& (1 : Int32)) = (1 : Int32)) := c_7_1
    exact J_25 σ _ _ _ (by unfold m_multiplies; rw [if_neg c_7_1]) (lv_sub hl [0] rfl) hP hD hS
  · have c_7_1 : ((g_io σ) &&& (1 : Int32)) = (1 : Int32) := c_7_1
    refine lv_aload_n hx hb dX5_multiplies_10 rfl (lv_at hl 0 rfl) ?_
    refine lv_aload_n hx hb dX5_multiplies_11 rfl (lv_at hl 0 rfl) ?_
    refine gM_ac (v := (g_ac σ)) hx hb hts hown hK hP kw_452 rfl dX5_multiplies_12 ?_
    refine lv_iload_n hx hb dX5_multiplies_15 rfl (lv_at hl 1 rfl) ?_
    refine call_Si 2 (kX5_sum l D cI _ (g_ac σ) a1) ⟨hx, hb, hml, hown, hts, hK, hN, hA⟩ ⟨kw_592, kw_593, kw_6, kw_594, by decide +kernel, rfl, rfl, Nat.le_of_ble_eq_true rfl, Nat.le_of_ble_eq_true rfl⟩ rfl hP hD hS hl.1 rfl (Nat.le_of_ble_eq_true rfl) dX5_multiplies_16 ⟨Nat.zero_le _, Nat.zero_le _⟩ (fun r16 u H locs hw hP hD hS => ?_)
    have hw : (m_sum (g_ac σ) a1) = r16 := hw
    subst hw
    refine call_Si 1 (kX5_plain l D cI _ (m_sum (g_ac σ) a1)) ⟨hx, hb, hml, hown, hts, hK, hN, hA⟩ ⟨kw_595, kw_596, kw_6, kw_597, by decide +kernel, rfl, rfl, Nat.le_of_ble_eq_true rfl, Nat.le_of_ble_eq_true rfl⟩ rfl hP hD hS hl.1 rfl (Nat.le_of_ble_eq_true rfl) dX5_multiplies_19 ⟨Nat.zero_le _, Nat.zero_le _⟩ (fun r19 u H locs hw hP hD hS => ?_)
    have hw : (m_plain (m_sum (g_ac σ) a1)) = r19 := hw
    subst hw
    refine pM_ac hx hb hts hown hK hP hD hS kw_452 dX5_multiplies_22 (fun H locs hP hD hS => ?_)
    exact J_25 (s_ac σ (m_plain (m_sum (g_ac σ) a1))) _ _ _ (by unfold m_multiplies; rw [if_pos c_7_1]) (lv_sub hl [0] rfl) hP hD hS
def m_divides_78 (σ : St) (z1_78 : Int32) : St := (s_ac σ (m_plain z1_78))
def m_divides (σ : St) (a1 : Int32) : St := (if ((1 : Int32) - (m_sign (g_ac σ))) = (1 : Int32) then m_divides_78 (s_io (s_ac σ ((((g_ac σ) <<< ((1 : Int32) &&& 31)) &&& (262143 : Int32)) ||| (m_sign (g_io σ)))) ((((g_io σ) <<< ((1 : Int32) &&& 31)) &&& (262143 : Int32)) ||| ((1 : Int32) - (m_sign (g_ac σ))))) (m_sum ((((g_ac σ) <<< ((1 : Int32) &&& 31)) &&& (262143 : Int32)) ||| (m_sign (g_io σ))) (m_not a1)) else m_divides_78 (s_io (s_ac σ ((((g_ac σ) <<< ((1 : Int32) &&& 31)) &&& (262143 : Int32)) ||| (m_sign (g_io σ)))) ((((g_io σ) <<< ((1 : Int32) &&& 31)) &&& (262143 : Int32)) ||| ((1 : Int32) - (m_sign (g_ac σ))))) (m_sum (m_sum ((((g_ac σ) <<< ((1 : Int32) &&& 31)) &&& (262143 : Int32)) ||| (m_sign (g_io σ))) a1) (1 : Int32)))
set_option maxRecDepth 100000 in
set_option maxHeartbeats 8000000 in
theorem kX5_divides (l : Launch) (D : va_G) (cI : ClassId) (h : Nat → Nat) (σ : St) (a1 : Int32) : MetV l yX5_divides (wsU yX5_divides cX5_divides 3 none) { frames := 1, cells := 0, slots := 0, locals := 22 } D cI [.ref (h 0), .int a1] (wM h cI σ) (fun u : St => wM h cI u) (fun u => (m_divides σ a1) = u) := by
  refine MetV.of (by decide) (Nat.le_of_ble_eq_true rfl) ?_
  intro p e s m below meth c A Q ls hx hb hml hown hts hK hN hA hret hP hD hS hl
  have hown : s.vm.findClass RX5 = some m.cls := hown
  have hl : lv_has ls 3 [(0, .ref (h 0)), (1, .int a1)] := hl
  have J_78 : ∀ (σ' : St) (z1_78 : Int32) (H : Heap) (locs : List Loc) (ls : Array Slot), m_divides σ a1 = m_divides_78 σ' z1_78 → lv_has ls 3 [(0, .ref (h 0))] → va_P D vwCl (wM h cI σ') H → va_D A (wM h cI σ') → va_S A s.heap H locs → W p l e ({ frames := 1, cells := 0, slots := 0, locals := 22 } : Room) s m (([.ref (h 0), .int a1] : List Value).toArray) below meth c H locs 0 0 Q (F0 m 78 ls [.int z1_78, .ref (h 0)]) := by
    intro σ' z1_78 H locs ls E hl hP hD hS
    refine call_Si 1 (kX5_plain l D cI _ z1_78) ⟨hx, hb, hml, hown, hts, hK, hN, hA⟩ ⟨kw_595, kw_596, kw_6, kw_597, by decide +kernel, rfl, rfl, Nat.le_of_ble_eq_true rfl, Nat.le_of_ble_eq_true rfl⟩ rfl hP hD hS hl.1 rfl (Nat.le_of_ble_eq_true rfl) dX5_divides_78 ⟨Nat.zero_le _, Nat.zero_le _⟩ (fun r78 u H locs hw hP hD hS => ?_)
    have hw : (m_plain z1_78) = r78 := hw
    subst hw
    refine pM_ac hx hb hts hown hK hP hD hS kw_452 dX5_divides_81 (fun H locs hP hD hS => ?_)
    have hE : m_divides σ a1 = (s_ac σ' (m_plain z1_78)) := (E.trans (by unfold m_divides_78; rfl))
    exact hret (s_ac σ' (m_plain z1_78)) _ _ _ _ hE hP hD hS dX5_divides_84
  suffices go : ∀ (H : Heap) (locs : List Loc), va_P D vwCl (wM h cI σ) H → va_D A (wM h cI σ) → va_S A s.heap H locs → W p l e ({ frames := 1, cells := 0, slots := 0, locals := 22 } : Room) s m (([.ref (h 0), .int a1] : List Value).toArray) below meth c H locs 0 0 Q (F0 m 0 ls []) from go _ _ hP hD hS
  intro H locs hP hD hS
  refine lv_iconst (v := (1 : Int32)) hx hb dX5_divides_0 (by decide) ?_
  refine lv_aload_n hx hb dX5_divides_1 rfl (lv_at hl 0 rfl) ?_
  refine gM_ac (v := (g_ac σ)) hx hb hts hown hK hP kw_452 rfl dX5_divides_2 ?_
  refine call_Si 1 (kX5_sign l D cI _ (g_ac σ)) ⟨hx, hb, hml, hown, hts, hK, hN, hA⟩ ⟨kw_578, kw_579, kw_6, kw_580, by decide +kernel, rfl, rfl, Nat.le_of_ble_eq_true rfl, Nat.le_of_ble_eq_true rfl⟩ rfl hP hD hS hl.1 rfl (Nat.le_of_ble_eq_true rfl) dX5_divides_5 ⟨Nat.zero_le _, Nat.zero_le _⟩ (fun r5 u H locs hw hP hD hS => ?_)
  have hw : (m_sign (g_ac σ)) = r5 := hw
  subst hw
  refine lv_isub hx hb dX5_divides_8 ?_
  refine lv_istore_n (lv' := [(2, .int ((1 : Int32) - (m_sign (g_ac σ)))), (0, .ref (h 0)), (1, .int a1)]) hx hb dX5_divides_9 rfl hl (by decide) rfl (fun ls hl => ?_)
  refine lv_aload_n hx hb dX5_divides_10 rfl (lv_at hl 1 rfl) ?_
  refine lv_aload_n hx hb dX5_divides_11 rfl (lv_at hl 1 rfl) ?_
  refine gM_ac (v := (g_ac σ)) hx hb hts hown hK hP kw_452 rfl dX5_divides_12 ?_
  refine lv_iconst (v := (1 : Int32)) hx hb dX5_divides_15 (by decide) ?_
  refine lv_ishl hx hb dX5_divides_16 ?_
  refine lv_ldc (v := (262143 : Int32)) hx hb hown (hts _ kw_525) dX5_divides_17 ?_
  refine lv_iand hx hb dX5_divides_19 ?_
  refine lv_aload_n hx hb dX5_divides_20 rfl (lv_at hl 1 rfl) ?_
  refine gM_io (v := (g_io σ)) hx hb hts hown hK hP kw_453 rfl dX5_divides_21 ?_
  refine call_Si 1 (kX5_sign l D cI _ (g_io σ)) ⟨hx, hb, hml, hown, hts, hK, hN, hA⟩ ⟨kw_578, kw_579, kw_6, kw_580, by decide +kernel, rfl, rfl, Nat.le_of_ble_eq_true rfl, Nat.le_of_ble_eq_true rfl⟩ rfl hP hD hS hl.1 rfl (Nat.le_of_ble_eq_true rfl) dX5_divides_24 ⟨Nat.zero_le _, Nat.zero_le _⟩ (fun r24 u H locs hw hP hD hS => ?_)
  have hw : (m_sign (g_io σ)) = r24 := hw
  subst hw
  refine lv_ior hx hb dX5_divides_27 ?_
  refine pM_ac hx hb hts hown hK hP hD hS kw_452 dX5_divides_28 (fun H locs hP hD hS => ?_)
  refine lv_aload_n hx hb dX5_divides_31 rfl (lv_at hl 1 rfl) ?_
  refine lv_aload_n hx hb dX5_divides_32 rfl (lv_at hl 1 rfl) ?_
  refine gM_io (v := (g_io σ)) hx hb hts hown hK hP kw_453 rfl dX5_divides_33 ?_
  refine lv_iconst (v := (1 : Int32)) hx hb dX5_divides_36 (by decide) ?_
  refine lv_ishl hx hb dX5_divides_37 ?_
  refine lv_ldc (v := (262143 : Int32)) hx hb hown (hts _ kw_525) dX5_divides_38 ?_
  refine lv_iand hx hb dX5_divides_40 ?_
  refine lv_iload_n hx hb dX5_divides_41 rfl (lv_at hl 0 rfl) ?_
  refine lv_ior hx hb dX5_divides_42 ?_
  refine pM_io hx hb hts hown hK hP hD hS kw_453 dX5_divides_43 (fun H locs hP hD hS => ?_)
  refine lv_aload_n hx hb dX5_divides_46 rfl (lv_at hl 1 rfl) ?_
  refine lv_iload_n hx hb dX5_divides_47 rfl (lv_at hl 0 rfl) ?_
  refine lv_iconst (v := (1 : Int32)) hx hb dX5_divides_48 (by decide) ?_
  refine lv_icmp_ne (tgt := 66) hx hb dX5_divides_49 (by decide) (fun c_49_1 => ?_) (fun c_49_1 => ?_)
  · have c_49_1 : ¬ (((1 : Int32) - (m_sign (g_ac σ))) = (1 : Int32)) := c_49_1
    refine lv_aload_n hx hb dX5_divides_66 rfl (lv_at hl 1 rfl) ?_
    refine gM_ac (v := ((((g_ac σ) <<< ((1 : Int32) &&& 31)) &&& (262143 : Int32)) ||| (m_sign (g_io σ)))) hx hb hts hown hK hP kw_452 rfl dX5_divides_67 ?_
    refine lv_iload_n hx hb dX5_divides_70 rfl (lv_at hl 2 rfl) ?_
    refine call_Si 2 (kX5_sum l D cI _ ((((g_ac σ) <<< ((1 : Int32) &&& 31)) &&& (262143 : Int32)) ||| (m_sign (g_io σ))) a1) ⟨hx, hb, hml, hown, hts, hK, hN, hA⟩ ⟨kw_592, kw_593, kw_6, kw_594, by decide +kernel, rfl, rfl, Nat.le_of_ble_eq_true rfl, Nat.le_of_ble_eq_true rfl⟩ rfl hP hD hS hl.1 rfl (Nat.le_of_ble_eq_true rfl) dX5_divides_71 ⟨Nat.zero_le _, Nat.zero_le _⟩ (fun r71 u H locs hw hP hD hS => ?_)
    have hw : (m_sum ((((g_ac σ) <<< ((1 : Int32) &&& 31)) &&& (262143 : Int32)) ||| (m_sign (g_io σ))) a1) = r71 := hw
    subst hw
    refine lv_iconst (v := (1 : Int32)) hx hb dX5_divides_74 (by decide) ?_
    refine call_Si 2 (kX5_sum l D cI _ (m_sum ((((g_ac σ) <<< ((1 : Int32) &&& 31)) &&& (262143 : Int32)) ||| (m_sign (g_io σ))) a1) (1 : Int32)) ⟨hx, hb, hml, hown, hts, hK, hN, hA⟩ ⟨kw_592, kw_593, kw_6, kw_594, by decide +kernel, rfl, rfl, Nat.le_of_ble_eq_true rfl, Nat.le_of_ble_eq_true rfl⟩ rfl hP hD hS hl.1 rfl (Nat.le_of_ble_eq_true rfl) dX5_divides_75 ⟨Nat.zero_le _, Nat.zero_le _⟩ (fun r75 u H locs hw hP hD hS => ?_)
    have hw : (m_sum (m_sum ((((g_ac σ) <<< ((1 : Int32) &&& 31)) &&& (262143 : Int32)) ||| (m_sign (g_io σ))) a1) (1 : Int32)) = r75 := hw
    subst hw
    exact J_78 (s_io (s_ac σ ((((g_ac σ) <<< ((1 : Int32) &&& 31)) &&& (262143 : Int32)) ||| (m_sign (g_io σ)))) ((((g_io σ) <<< ((1 : Int32) &&& 31)) &&& (262143 : Int32)) ||| ((1 : Int32) - (m_sign (g_ac σ))))) (m_sum (m_sum ((((g_ac σ) <<< ((1 : Int32) &&& 31)) &&& (262143 : Int32)) ||| (m_sign (g_io σ))) a1) (1 : Int32)) _ _ _ (by unfold m_divides; rw [if_neg c_49_1]) (lv_sub hl [1] rfl) hP hD hS
  · have c_49_1 : ((1 : Int32) - (m_sign (g_ac σ))) = (1 : Int32) := c_49_1
    refine lv_aload_n hx hb dX5_divides_52 rfl (lv_at hl 1 rfl) ?_
    refine gM_ac (v := ((((g_ac σ) <<< ((1 : Int32) &&& 31)) &&& (262143 : Int32)) ||| (m_sign (g_io σ)))) hx hb hts hown hK hP kw_452 rfl dX5_divides_53 ?_
    refine lv_iload_n hx hb dX5_divides_56 rfl (lv_at hl 2 rfl) ?_
    refine call_Si 1 (kX5_not l D cI _ a1) ⟨hx, hb, hml, hown, hts, hK, hN, hA⟩ ⟨kw_598, kw_599, kw_6, kw_600, by decide +kernel, rfl, rfl, Nat.le_of_ble_eq_true rfl, Nat.le_of_ble_eq_true rfl⟩ rfl hP hD hS hl.1 rfl (Nat.le_of_ble_eq_true rfl) dX5_divides_57 ⟨Nat.zero_le _, Nat.zero_le _⟩ (fun r57 u H locs hw hP hD hS => ?_)
    have hw : (m_not a1) = r57 := hw
    subst hw
    refine call_Si 2 (kX5_sum l D cI _ ((((g_ac σ) <<< ((1 : Int32) &&& 31)) &&& (262143 : Int32)) ||| (m_sign (g_io σ))) (m_not a1)) ⟨hx, hb, hml, hown, hts, hK, hN, hA⟩ ⟨kw_592, kw_593, kw_6, kw_594, by decide +kernel, rfl, rfl, Nat.le_of_ble_eq_true rfl, Nat.le_of_ble_eq_true rfl⟩ rfl hP hD hS hl.1 rfl (Nat.le_of_ble_eq_true rfl) dX5_divides_60 ⟨Nat.zero_le _, Nat.zero_le _⟩ (fun r60 u H locs hw hP hD hS => ?_)
    have hw : (m_sum ((((g_ac σ) <<< ((1 : Int32) &&& 31)) &&& (262143 : Int32)) ||| (m_sign (g_io σ))) (m_not a1)) = r60 := hw
    subst hw
    refine lv_goto (tgt := 78) hx hb dX5_divides_63 (by decide) ?_
    exact J_78 (s_io (s_ac σ ((((g_ac σ) <<< ((1 : Int32) &&& 31)) &&& (262143 : Int32)) ||| (m_sign (g_io σ)))) ((((g_io σ) <<< ((1 : Int32) &&& 31)) &&& (262143 : Int32)) ||| ((1 : Int32) - (m_sign (g_ac σ))))) (m_sum ((((g_ac σ) <<< ((1 : Int32) &&& 31)) &&& (262143 : Int32)) ||| (m_sign (g_io σ))) (m_not a1)) _ _ _ (by unfold m_divides; rw [if_pos c_49_1]) (lv_sub hl [1] rfl) hP hD hS
