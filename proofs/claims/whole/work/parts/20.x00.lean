def x0_show (σ : St) (a1 : Int32) (a2 : Int32) : St := (s_pts (s_py (s_px σ (upd (g_px σ) (Int32.toNatClampNeg ((g_pts σ) &&& (63 : Int32))) a1)) (upd (g_py σ) (Int32.toNatClampNeg ((g_pts σ) &&& (63 : Int32))) a2)) ((g_pts σ) + (1 : Int32)))
set_option maxRecDepth 100000 in
set_option maxHeartbeats 8000000 in
theorem kX0_show (l : Launch) (D : va_G) (cI : ClassId) (h : Nat → Nat) (σ : St) (a1 : Int32) (a2 : Int32) : MetV l yX0_show (wsU yX0_show cX0_show 4 none) { frames := 0, cells := 0, slots := 0, locals := 0 } D cI [.ref (h 6), .int a1, .int a2] (wX h cI σ) (fun u : St => wX h cI u) (fun u => (x0_show σ a1 a2) = u) := by
  refine MetV.of (by decide) (Nat.le_of_ble_eq_true rfl) ?_
  intro p e s m below meth c A Q ls hx hb hml hown hts hK hN hA hret hP hD hS hl
  have hown : s.vm.findClass RX0 = some m.cls := hown
  have hl : lv_has ls 4 [(0, .ref (h 6)), (1, .int a1), (2, .int a2)] := hl
  suffices go : ∀ (H : Heap) (locs : List Loc), va_P D vwCl (wX h cI σ) H → va_D A (wX h cI σ) → va_S A s.heap H locs → W p l e ({ frames := 0, cells := 0, slots := 0, locals := 0 } : Room) s m (([.ref (h 6), .int a1, .int a2] : List Value).toArray) below meth c H locs 0 0 Q (F0 m 0 ls []) from go _ _ hP hD hS
  intro H locs hP hD hS
  refine lv_aload_n hx hb dX0_show_0 rfl (lv_at hl 0 rfl) ?_
  refine gX_pts (v := (g_pts σ)) hx hb hts hown hK hP kw_59 rfl dX0_show_1 ?_
  refine lv_bipush (v := (63 : Int32)) hx hb dX0_show_4 (by decide) ?_
  refine lv_iand hx hb dX0_show_6 ?_
  refine lv_istore_n (lv' := [(3, .int ((g_pts σ) &&& (63 : Int32))), (0, .ref (h 6)), (1, .int a1), (2, .int a2)]) hx hb dX0_show_7 rfl hl (by decide) rfl (fun ls hl => ?_)
  refine lv_aload_n hx hb dX0_show_8 rfl (lv_at hl 1 rfl) ?_
  refine gX_ref7 hx hb hts hown hK hP kw_57 dX0_show_9 ?_
  refine lv_iload_n hx hb dX0_show_12 rfl (lv_at hl 0 rfl) ?_
  refine lv_iload_n hx hb dX0_show_13 rfl (lv_at hl 2 rfl) ?_
  refine bX_px (f := (g_px σ)) hx hb hK hP hD hS (by first | exact vp_l (K := 64) (by assumption) (by assumption) (by decide) | exact vp_g (K := 64) (by assumption) (by assumption) (by decide) | exact pk_andIn _ 6 (by decide) (by decide)) rfl dX0_show_14 (fun H locs hP hD hS => ?_)
  refine lv_aload_n hx hb dX0_show_15 rfl (lv_at hl 1 rfl) ?_
  refine gX_ref8 hx hb hts hown hK hP kw_58 dX0_show_16 ?_
  refine lv_iload_n hx hb dX0_show_19 rfl (lv_at hl 0 rfl) ?_
  refine lv_iload_n hx hb dX0_show_20 rfl (lv_at hl 3 rfl) ?_
  refine bX_py (f := (g_py σ)) hx hb hK hP hD hS (by first | exact vp_l (K := 64) (by assumption) (by assumption) (by decide) | exact vp_g (K := 64) (by assumption) (by assumption) (by decide) | exact pk_andIn _ 6 (by decide) (by decide)) rfl dX0_show_21 (fun H locs hP hD hS => ?_)
  refine lv_aload_n hx hb dX0_show_22 rfl (lv_at hl 1 rfl) ?_
  refine lv_dup hx hb dX0_show_23 rfl ?_
  refine gX_pts (v := (g_pts σ)) hx hb hts hown hK hP kw_59 rfl dX0_show_24 ?_
  refine lv_iconst (v := (1 : Int32)) hx hb dX0_show_27 (by decide) ?_
  refine lv_iadd hx hb dX0_show_28 ?_
  refine pX_pts hx hb hts hown hK hP hD hS kw_59 dX0_show_29 (fun H locs hP hD hS => ?_)
  have hE : x0_show σ a1 a2 = (s_pts (s_py (s_px σ (upd (g_px σ) (Int32.toNatClampNeg ((g_pts σ) &&& (63 : Int32))) a1)) (upd (g_py σ) (Int32.toNatClampNeg ((g_pts σ) &&& (63 : Int32))) a2)) ((g_pts σ) + (1 : Int32))) := (by unfold x0_show; rfl)
  exact hret (s_pts (s_py (s_px σ (upd (g_px σ) (Int32.toNatClampNeg ((g_pts σ) &&& (63 : Int32))) a1)) (upd (g_py σ) (Int32.toNatClampNeg ((g_pts σ) &&& (63 : Int32))) a2)) ((g_pts σ) + (1 : Int32))) _ _ _ _ hE hP hD hS dX0_show_32
def x0_keeps (σ : St) (a1 : Int32) : Int32 := (if a1 < (0 : Int32) then (0 : Int32) else (if (64 : Int32) ≤ a1 then (0 : Int32) else (if (g_pts σ) ≤ a1 then (0 : Int32) else (1 : Int32))))
set_option maxRecDepth 100000 in
set_option maxHeartbeats 8000000 in
theorem kX0_keeps (l : Launch) (D : va_G) (cI : ClassId) (h : Nat → Nat) (σ : St) (a1 : Int32) : MetI l yX0_keeps (wsU yX0_keeps cX0_keeps 2 (some .boolean)) { frames := 0, cells := 0, slots := 0, locals := 0 } D cI [.ref (h 6), .int a1] (wX h cI σ) (fun _ : Unit => wX h cI σ) (fun r _ => (x0_keeps σ a1) = r) := by
  refine MetI.of (by decide) (Nat.le_of_ble_eq_true rfl) ?_
  intro p e s m below meth c A Q ls hx hb hml hown hts hK hN hA hret hP hD hS hl
  have hown : s.vm.findClass RX0 = some m.cls := hown
  have hl : lv_has ls 2 [(0, .ref (h 6)), (1, .int a1)] := hl
  suffices go : ∀ (H : Heap) (locs : List Loc), va_P D vwCl (wX h cI σ) H → va_D A (wX h cI σ) → va_S A s.heap H locs → W p l e ({ frames := 0, cells := 0, slots := 0, locals := 0 } : Room) s m (([.ref (h 6), .int a1] : List Value).toArray) below meth c H locs 0 0 Q (F0 m 0 ls []) from go _ _ hP hD hS
  intro H locs hP hD hS
  refine lv_iload_n hx hb dX0_keeps_0 rfl (lv_at hl 1 rfl) ?_
  refine lv_if_lt (tgt := 22) hx hb dX0_keeps_1 (by decide) (fun c_1_1 => ?_) (fun c_1_1 => ?_)
  · have c_1_1 : a1 < (0 : Int32) := c_1_1
    refine lv_iconst (v := (0 : Int32)) hx hb dX0_keeps_22 (by decide) ?_
    have hE : x0_keeps σ a1 = (0 : Int32) := (by unfold x0_keeps; rw [if_pos c_1_1])
    exact hret (0 : Int32) () _ _ _ _ rfl hE hP hD hS dX0_keeps_23
  · have c_1_1 : ¬ (a1 < (0 : Int32)) := c_1_1
    refine lv_iload_n hx hb dX0_keeps_4 rfl (lv_at hl 1 rfl) ?_
    refine lv_bipush (v := (64 : Int32)) hx hb dX0_keeps_5 (by decide) ?_
    refine lv_icmp_ge (tgt := 22) hx hb dX0_keeps_7 (by decide) (fun c_7_2 => ?_) (fun c_7_2 => ?_)
    · have c_7_2 : (64 : Int32) ≤ a1 := c_7_2
      refine lv_iconst (v := (0 : Int32)) hx hb dX0_keeps_22 (by decide) ?_
      have hE : x0_keeps σ a1 = (0 : Int32) := (by unfold x0_keeps; rw [if_neg c_1_1, if_pos c_7_2])
      exact hret (0 : Int32) () _ _ _ _ rfl hE hP hD hS dX0_keeps_23
    · have c_7_2 : ¬ ((64 : Int32) ≤ a1) := c_7_2
      refine lv_iload_n hx hb dX0_keeps_10 rfl (lv_at hl 1 rfl) ?_
      refine lv_aload_n hx hb dX0_keeps_11 rfl (lv_at hl 0 rfl) ?_
      refine gX_pts (v := (g_pts σ)) hx hb hts hown hK hP kw_59 rfl dX0_keeps_12 ?_
      refine lv_icmp_ge (tgt := 22) hx hb dX0_keeps_15 (by decide) (fun c_15_3 => ?_) (fun c_15_3 => ?_)
      · have c_15_3 : (g_pts σ) ≤ a1 := c_15_3
        refine lv_iconst (v := (0 : Int32)) hx hb dX0_keeps_22 (by decide) ?_
        have hE : x0_keeps σ a1 = (0 : Int32) := (by unfold x0_keeps; rw [if_neg c_1_1, if_neg c_7_2, if_pos c_15_3])
        exact hret (0 : Int32) () _ _ _ _ rfl hE hP hD hS dX0_keeps_23
      · have c_15_3 : ¬ ((g_pts σ) ≤ a1) := c_15_3
        refine lv_iconst (v := (1 : Int32)) hx hb dX0_keeps_18 (by decide) ?_
        refine lv_goto (tgt := 23) hx hb dX0_keeps_19 (by decide) ?_
        have hE : x0_keeps σ a1 = (1 : Int32) := (by unfold x0_keeps; rw [if_neg c_1_1, if_neg c_7_2, if_neg c_15_3])
        exact hret (1 : Int32) () _ _ _ _ rfl hE hP hD hS dX0_keeps_23
def x0_slotOf (σ : St) (a1 : Int32) : Int32 := ((((g_pts σ) - (1 : Int32)) - a1) &&& (63 : Int32))
set_option maxRecDepth 100000 in
set_option maxHeartbeats 8000000 in
theorem kX0_slotOf (l : Launch) (D : va_G) (cI : ClassId) (h : Nat → Nat) (σ : St) (a1 : Int32) : MetI l yX0_slotOf (wsU yX0_slotOf cX0_slotOf 2 (some .int)) { frames := 0, cells := 0, slots := 0, locals := 0 } D cI [.ref (h 6), .int a1] (wX h cI σ) (fun _ : Unit => wX h cI σ) (fun r _ => (x0_slotOf σ a1) = r) := by
  refine MetI.of (by decide) (Nat.le_of_ble_eq_true rfl) ?_
  intro p e s m below meth c A Q ls hx hb hml hown hts hK hN hA hret hP hD hS hl
  have hown : s.vm.findClass RX0 = some m.cls := hown
  have hl : lv_has ls 2 [(0, .ref (h 6)), (1, .int a1)] := hl
  suffices go : ∀ (H : Heap) (locs : List Loc), va_P D vwCl (wX h cI σ) H → va_D A (wX h cI σ) → va_S A s.heap H locs → W p l e ({ frames := 0, cells := 0, slots := 0, locals := 0 } : Room) s m (([.ref (h 6), .int a1] : List Value).toArray) below meth c H locs 0 0 Q (F0 m 0 ls []) from go _ _ hP hD hS
  intro H locs hP hD hS
  refine lv_aload_n hx hb dX0_slotOf_0 rfl (lv_at hl 0 rfl) ?_
  refine gX_pts (v := (g_pts σ)) hx hb hts hown hK hP kw_59 rfl dX0_slotOf_1 ?_
  refine lv_iconst (v := (1 : Int32)) hx hb dX0_slotOf_4 (by decide) ?_
  refine lv_isub hx hb dX0_slotOf_5 ?_
  refine lv_iload_n hx hb dX0_slotOf_6 rfl (lv_at hl 1 rfl) ?_
  refine lv_isub hx hb dX0_slotOf_7 ?_
  refine lv_bipush (v := (63 : Int32)) hx hb dX0_slotOf_8 (by decide) ?_
  refine lv_iand hx hb dX0_slotOf_10 ?_
  have hE : x0_slotOf σ a1 = ((((g_pts σ) - (1 : Int32)) - a1) &&& (63 : Int32)) := (by unfold x0_slotOf; rfl)
  exact hret ((((g_pts σ) - (1 : Int32)) - a1) &&& (63 : Int32)) () _ _ _ _ rfl hE hP hD hS dX0_slotOf_11
def x0_xOf (σ : St) (a1 : Int32) : Int32 := ((g_px σ) (Int32.toNatClampNeg (x0_slotOf σ a1)))
set_option maxRecDepth 100000 in
set_option maxHeartbeats 8000000 in
theorem kX0_xOf (l : Launch) (D : va_G) (cI : ClassId) (h : Nat → Nat) (σ : St) (a1 : Int32) : MetI l yX0_xOf (wsU yX0_xOf cX0_xOf 2 (some .int)) { frames := 1, cells := 0, slots := 0, locals := 21 } D cI [.ref (h 6), .int a1] (wX h cI σ) (fun _ : Unit => wX h cI σ) (fun r _ => (x0_xOf σ a1) = r) := by
  refine MetI.of (by decide) (Nat.le_of_ble_eq_true rfl) ?_
  intro p e s m below meth c A Q ls hx hb hml hown hts hK hN hA hret hP hD hS hl
  have hown : s.vm.findClass RX0 = some m.cls := hown
  have hl : lv_has ls 2 [(0, .ref (h 6)), (1, .int a1)] := hl
  suffices go : ∀ (H : Heap) (locs : List Loc), va_P D vwCl (wX h cI σ) H → va_D A (wX h cI σ) → va_S A s.heap H locs → W p l e ({ frames := 1, cells := 0, slots := 0, locals := 21 } : Room) s m (([.ref (h 6), .int a1] : List Value).toArray) below meth c H locs 0 0 Q (F0 m 0 ls []) from go _ _ hP hD hS
  intro H locs hP hD hS
  refine lv_aload_n hx hb dX0_xOf_0 rfl (lv_at hl 0 rfl) ?_
  refine gX_ref7 hx hb hts hown hK hP kw_57 dX0_xOf_1 ?_
  refine lv_aload_n hx hb dX0_xOf_4 rfl (lv_at hl 0 rfl) ?_
  refine lv_iload_n hx hb dX0_xOf_5 rfl (lv_at hl 1 rfl) ?_
  refine call_Vi 1 (kX0_slotOf l D cI h _ a1) ⟨hx, hb, hml, hown, hts, hK, hN, hA⟩ ⟨kw_406, kw_408, ks_yX0_slotOf, kw_4, kw_409, by decide +kernel, rfl, rfl, Nat.le_of_ble_eq_true rfl, Nat.le_of_ble_eq_true rfl⟩ rfl (va_recv hK hP (ci := 0) (q0 := 6) rfl rfl) hP hD hS hl.1 rfl (Nat.le_of_ble_eq_true rfl) dX0_xOf_6 ⟨Nat.zero_le _, Nat.zero_le _⟩ (fun r6 u H locs hw hP hD hS => ?_)
  have hw : (x0_slotOf σ a1) = r6 := hw
  subst hw
  refine aX_px (v := ((g_px σ) (Int32.toNatClampNeg (x0_slotOf σ a1)))) hx hb hK hP (by first | exact vp_l (K := 64) (by assumption) (by assumption) (by decide) | exact vp_g (K := 64) (by assumption) (by assumption) (by decide) | exact pk_andIn _ 6 (by decide) (by decide)) rfl dX0_xOf_9 ?_
  have hE : x0_xOf σ a1 = ((g_px σ) (Int32.toNatClampNeg (x0_slotOf σ a1))) := (by unfold x0_xOf; rfl)
  exact hret ((g_px σ) (Int32.toNatClampNeg (x0_slotOf σ a1))) () _ _ _ _ rfl hE hP hD hS dX0_xOf_10
def x0_yOf (σ : St) (a1 : Int32) : Int32 := ((g_py σ) (Int32.toNatClampNeg (x0_slotOf σ a1)))
set_option maxRecDepth 100000 in
set_option maxHeartbeats 8000000 in
theorem kX0_yOf (l : Launch) (D : va_G) (cI : ClassId) (h : Nat → Nat) (σ : St) (a1 : Int32) : MetI l yX0_yOf (wsU yX0_yOf cX0_yOf 2 (some .int)) { frames := 1, cells := 0, slots := 0, locals := 21 } D cI [.ref (h 6), .int a1] (wX h cI σ) (fun _ : Unit => wX h cI σ) (fun r _ => (x0_yOf σ a1) = r) := by
  refine MetI.of (by decide) (Nat.le_of_ble_eq_true rfl) ?_
  intro p e s m below meth c A Q ls hx hb hml hown hts hK hN hA hret hP hD hS hl
  have hown : s.vm.findClass RX0 = some m.cls := hown
  have hl : lv_has ls 2 [(0, .ref (h 6)), (1, .int a1)] := hl
  suffices go : ∀ (H : Heap) (locs : List Loc), va_P D vwCl (wX h cI σ) H → va_D A (wX h cI σ) → va_S A s.heap H locs → W p l e ({ frames := 1, cells := 0, slots := 0, locals := 21 } : Room) s m (([.ref (h 6), .int a1] : List Value).toArray) below meth c H locs 0 0 Q (F0 m 0 ls []) from go _ _ hP hD hS
  intro H locs hP hD hS
  refine lv_aload_n hx hb dX0_yOf_0 rfl (lv_at hl 0 rfl) ?_
  refine gX_ref8 hx hb hts hown hK hP kw_58 dX0_yOf_1 ?_
  refine lv_aload_n hx hb dX0_yOf_4 rfl (lv_at hl 0 rfl) ?_
  refine lv_iload_n hx hb dX0_yOf_5 rfl (lv_at hl 1 rfl) ?_
  refine call_Vi 1 (kX0_slotOf l D cI h _ a1) ⟨hx, hb, hml, hown, hts, hK, hN, hA⟩ ⟨kw_406, kw_408, ks_yX0_slotOf, kw_4, kw_409, by decide +kernel, rfl, rfl, Nat.le_of_ble_eq_true rfl, Nat.le_of_ble_eq_true rfl⟩ rfl (va_recv hK hP (ci := 0) (q0 := 6) rfl rfl) hP hD hS hl.1 rfl (Nat.le_of_ble_eq_true rfl) dX0_yOf_6 ⟨Nat.zero_le _, Nat.zero_le _⟩ (fun r6 u H locs hw hP hD hS => ?_)
  have hw : (x0_slotOf σ a1) = r6 := hw
  subst hw
  refine aX_py (v := ((g_py σ) (Int32.toNatClampNeg (x0_slotOf σ a1)))) hx hb hK hP (by first | exact vp_l (K := 64) (by assumption) (by assumption) (by decide) | exact vp_g (K := 64) (by assumption) (by assumption) (by decide) | exact pk_andIn _ 6 (by decide) (by decide)) rfl dX0_yOf_9 ?_
  have hE : x0_yOf σ a1 = ((g_py σ) (Int32.toNatClampNeg (x0_slotOf σ a1))) := (by unfold x0_yOf; rfl)
  exact hret ((g_py σ) (Int32.toNatClampNeg (x0_slotOf σ a1))) () _ _ _ _ rfl hE hP hD hS dX0_yOf_10
def x1_append_16 (σ : St)  : St := (s_lost σ ((g_lost σ) + (1 : Int32)))
def x1_append (σ : St) (a1 : Int32) : St := (if (g_outs σ) < (0 : Int32) then x1_append_16 σ else (if (g_outs σ) < (64 : Int32) then (s_outs (s_out σ (upd (g_out σ) (Int32.toNatClampNeg (g_outs σ)) a1)) ((g_outs σ) + (1 : Int32))) else x1_append_16 σ))
set_option maxRecDepth 100000 in
set_option maxHeartbeats 8000000 in
theorem kX1_append (l : Launch) (D : va_G) (cI : ClassId) (h : Nat → Nat) (σ : St) (a1 : Int32) : MetV l yX1_append (wsU yX1_append cX1_append 2 none) { frames := 0, cells := 0, slots := 0, locals := 0 } D cI [.ref (h 4), .int a1] (wX h cI σ) (fun u : St => wX h cI u) (fun u => (x1_append σ a1) = u) := by
  refine MetV.of (by decide) (Nat.le_of_ble_eq_true rfl) ?_
  intro p e s m below meth c A Q ls hx hb hml hown hts hK hN hA hret hP hD hS hl
  have hown : s.vm.findClass RX1 = some m.cls := hown
  have hl : lv_has ls 2 [(0, .ref (h 4)), (1, .int a1)] := hl
  have J_16 : ∀ (σ' : St) (H : Heap) (locs : List Loc) (ls : Array Slot), x1_append σ a1 = x1_append_16 σ' → lv_has ls 2 [(0, .ref (h 4))] → va_P D vwCl (wX h cI σ') H → va_D A (wX h cI σ') → va_S A s.heap H locs → W p l e ({ frames := 0, cells := 0, slots := 0, locals := 0 } : Room) s m (([.ref (h 4), .int a1] : List Value).toArray) below meth c H locs 0 0 Q (F0 m 16 ls []) := by
    intro σ'  H locs ls E hl hP hD hS
    refine lv_aload_n hx hb dX1_append_16 rfl (lv_at hl 0 rfl) ?_
    refine lv_dup hx hb dX1_append_17 rfl ?_
    refine gX_lost (v := (g_lost σ')) hx hb hts hown hK hP kw_42 rfl dX1_append_18 ?_
    refine lv_iconst (v := (1 : Int32)) hx hb dX1_append_21 (by decide) ?_
    refine lv_iadd hx hb dX1_append_22 ?_
    refine pX_lost hx hb hts hown hK hP hD hS kw_42 dX1_append_23 (fun H locs hP hD hS => ?_)
    have hE : x1_append σ a1 = (s_lost σ' ((g_lost σ') + (1 : Int32))) := (E.trans (by unfold x1_append_16; rfl))
    exact hret (s_lost σ' ((g_lost σ') + (1 : Int32))) _ _ _ _ hE hP hD hS dX1_append_26
  suffices go : ∀ (H : Heap) (locs : List Loc), va_P D vwCl (wX h cI σ) H → va_D A (wX h cI σ) → va_S A s.heap H locs → W p l e ({ frames := 0, cells := 0, slots := 0, locals := 0 } : Room) s m (([.ref (h 4), .int a1] : List Value).toArray) below meth c H locs 0 0 Q (F0 m 0 ls []) from go _ _ hP hD hS
  intro H locs hP hD hS
  refine lv_aload_n hx hb dX1_append_0 rfl (lv_at hl 0 rfl) ?_
  refine gX_outs (v := (g_outs σ)) hx hb hts hown hK hP kw_40 rfl dX1_append_1 ?_
  refine lv_if_lt (tgt := 16) hx hb dX1_append_4 (by decide) (fun c_4_1 => ?_) (fun c_4_1 => ?_)
  · have c_4_1 : (g_outs σ) < (0 : Int32) := c_4_1
    exact J_16 σ _ _ _ (by unfold x1_append; rw [if_pos c_4_1]) (lv_sub hl [0] rfl) hP hD hS
  · have c_4_1 : ¬ ((g_outs σ) < (0 : Int32)) := c_4_1
    refine lv_aload_n hx hb dX1_append_7 rfl (lv_at hl 0 rfl) ?_
    refine gX_outs (v := (g_outs σ)) hx hb hts hown hK hP kw_40 rfl dX1_append_8 ?_
    refine lv_bipush (v := (64 : Int32)) hx hb dX1_append_11 (by decide) ?_
    refine lv_icmp_lt (tgt := 27) hx hb dX1_append_13 (by decide) (fun c_13_2 => ?_) (fun c_13_2 => ?_)
    · have c_13_2 : (g_outs σ) < (64 : Int32) := c_13_2
      refine lv_aload_n hx hb dX1_append_27 rfl (lv_at hl 0 rfl) ?_
      refine gX_ref5 hx hb hts hown hK hP kw_39 dX1_append_28 ?_
      refine lv_aload_n hx hb dX1_append_31 rfl (lv_at hl 0 rfl) ?_
      refine gX_outs (v := (g_outs σ)) hx hb hts hown hK hP kw_40 rfl dX1_append_32 ?_
      refine lv_iload_n hx hb dX1_append_35 rfl (lv_at hl 1 rfl) ?_
      refine bX_out (f := (g_out σ)) hx hb hK hP hD hS (by first | exact vp_l (K := 64) (by assumption) (by assumption) (by decide) | exact vp_g (K := 64) (by assumption) (by assumption) (by decide) | exact pk_andIn _ 6 (by decide) (by decide)) rfl dX1_append_36 (fun H locs hP hD hS => ?_)
      refine lv_aload_n hx hb dX1_append_37 rfl (lv_at hl 0 rfl) ?_
      refine lv_dup hx hb dX1_append_38 rfl ?_
      refine gX_outs (v := (g_outs σ)) hx hb hts hown hK hP kw_40 rfl dX1_append_39 ?_
      refine lv_iconst (v := (1 : Int32)) hx hb dX1_append_42 (by decide) ?_
      refine lv_iadd hx hb dX1_append_43 ?_
      refine pX_outs hx hb hts hown hK hP hD hS kw_40 dX1_append_44 (fun H locs hP hD hS => ?_)
      have hE : x1_append σ a1 = (s_outs (s_out σ (upd (g_out σ) (Int32.toNatClampNeg (g_outs σ)) a1)) ((g_outs σ) + (1 : Int32))) := (by unfold x1_append; rw [if_neg c_4_1, if_pos c_13_2])
      exact hret (s_outs (s_out σ (upd (g_out σ) (Int32.toNatClampNeg (g_outs σ)) a1)) ((g_outs σ) + (1 : Int32))) _ _ _ _ hE hP hD hS dX1_append_47
    · have c_13_2 : ¬ ((g_outs σ) < (64 : Int32)) := c_13_2
      exact J_16 σ _ _ _ (by unfold x1_append; rw [if_neg c_4_1, if_neg c_13_2]) (lv_sub hl [0] rfl) hP hD hS
def x1_signAt (σ : St) (a1 : Int32) : Int32 := (if a1 < (0 : Int32) then (-9 : Int32) else (if (g_outs σ) ≤ a1 then (-9 : Int32) else (if a1 < (64 : Int32) then ((g_out σ) (Int32.toNatClampNeg a1)) else (-9 : Int32))))
set_option maxRecDepth 100000 in
set_option maxHeartbeats 8000000 in
theorem kX1_signAt (l : Launch) (D : va_G) (cI : ClassId) (h : Nat → Nat) (σ : St) (a1 : Int32) : MetI l yX1_signAt (wsU yX1_signAt cX1_signAt 2 (some .int)) { frames := 0, cells := 0, slots := 0, locals := 0 } D cI [.ref (h 4), .int a1] (wX h cI σ) (fun _ : Unit => wX h cI σ) (fun r _ => (x1_signAt σ a1) = r) := by
  refine MetI.of (by decide) (Nat.le_of_ble_eq_true rfl) ?_
  intro p e s m below meth c A Q ls hx hb hml hown hts hK hN hA hret hP hD hS hl
  have hown : s.vm.findClass RX1 = some m.cls := hown
  have hl : lv_has ls 2 [(0, .ref (h 4)), (1, .int a1)] := hl
  suffices go : ∀ (H : Heap) (locs : List Loc), va_P D vwCl (wX h cI σ) H → va_D A (wX h cI σ) → va_S A s.heap H locs → W p l e ({ frames := 0, cells := 0, slots := 0, locals := 0 } : Room) s m (([.ref (h 4), .int a1] : List Value).toArray) below meth c H locs 0 0 Q (F0 m 0 ls []) from go _ _ hP hD hS
  intro H locs hP hD hS
  refine lv_iload_n hx hb dX1_signAt_0 rfl (lv_at hl 1 rfl) ?_
  refine lv_if_lt (tgt := 18) hx hb dX1_signAt_1 (by decide) (fun c_1_1 => ?_) (fun c_1_1 => ?_)
  · have c_1_1 : a1 < (0 : Int32) := c_1_1
    refine lv_bipush (v := (-9 : Int32)) hx hb dX1_signAt_18 (by decide) ?_
    refine lv_goto (tgt := 29) hx hb dX1_signAt_20 (by decide) ?_
    have hE : x1_signAt σ a1 = (-9 : Int32) := (by unfold x1_signAt; rw [if_pos c_1_1])
    exact hret (-9 : Int32) () _ _ _ _ rfl hE hP hD hS dX1_signAt_29
  · have c_1_1 : ¬ (a1 < (0 : Int32)) := c_1_1
    refine lv_iload_n hx hb dX1_signAt_4 rfl (lv_at hl 1 rfl) ?_
    refine lv_aload_n hx hb dX1_signAt_5 rfl (lv_at hl 0 rfl) ?_
    refine gX_outs (v := (g_outs σ)) hx hb hts hown hK hP kw_40 rfl dX1_signAt_6 ?_
    refine lv_icmp_ge (tgt := 18) hx hb dX1_signAt_9 (by decide) (fun c_9_2 => ?_) (fun c_9_2 => ?_)
    · have c_9_2 : (g_outs σ) ≤ a1 := c_9_2
      refine lv_bipush (v := (-9 : Int32)) hx hb dX1_signAt_18 (by decide) ?_
      refine lv_goto (tgt := 29) hx hb dX1_signAt_20 (by decide) ?_
      have hE : x1_signAt σ a1 = (-9 : Int32) := (by unfold x1_signAt; rw [if_neg c_1_1, if_pos c_9_2])
      exact hret (-9 : Int32) () _ _ _ _ rfl hE hP hD hS dX1_signAt_29
    · have c_9_2 : ¬ ((g_outs σ) ≤ a1) := c_9_2
      refine lv_iload_n hx hb dX1_signAt_12 rfl (lv_at hl 1 rfl) ?_
      refine lv_bipush (v := (64 : Int32)) hx hb dX1_signAt_13 (by decide) ?_
      refine lv_icmp_lt (tgt := 23) hx hb dX1_signAt_15 (by decide) (fun c_15_3 => ?_) (fun c_15_3 => ?_)
      · have c_15_3 : a1 < (64 : Int32) := c_15_3
        refine lv_aload_n hx hb dX1_signAt_23 rfl (lv_at hl 0 rfl) ?_
        refine gX_ref5 hx hb hts hown hK hP kw_39 dX1_signAt_24 ?_
        refine lv_iload_n hx hb dX1_signAt_27 rfl (lv_at hl 1 rfl) ?_
        refine aX_out (v := ((g_out σ) (Int32.toNatClampNeg a1))) hx hb hK hP (by first | exact vp_l (K := 64) (by assumption) (by assumption) (by decide) | exact vp_g (K := 64) (by assumption) (by assumption) (by decide) | exact pk_andIn _ 6 (by decide) (by decide)) rfl dX1_signAt_28 ?_
        have hE : x1_signAt σ a1 = ((g_out σ) (Int32.toNatClampNeg a1)) := (by unfold x1_signAt; rw [if_neg c_1_1, if_neg c_9_2, if_pos c_15_3])
        exact hret ((g_out σ) (Int32.toNatClampNeg a1)) () _ _ _ _ rfl hE hP hD hS dX1_signAt_29
      · have c_15_3 : ¬ (a1 < (64 : Int32)) := c_15_3
        refine lv_bipush (v := (-9 : Int32)) hx hb dX1_signAt_18 (by decide) ?_
        refine lv_goto (tgt := 29) hx hb dX1_signAt_20 (by decide) ?_
        have hE : x1_signAt σ a1 = (-9 : Int32) := (by unfold x1_signAt; rw [if_neg c_1_1, if_neg c_9_2, if_neg c_15_3])
        exact hret (-9 : Int32) () _ _ _ _ rfl hE hP hD hS dX1_signAt_29
