def m_ran (σ : St) (a1 : Int32) : Int32 := (if (m_in a1 (0 : Int32) (7 : Int32)) = (0 : Int32) then (-1 : Int32) else ((ranf σ) (Int32.toNatClampNeg a1)))
set_option maxRecDepth 100000 in
set_option maxHeartbeats 8000000 in
theorem kX5_ran (l : Launch) (D : va_G) (cI : ClassId) (h : Nat → Nat) (σ : St) (a1 : Int32) : MetI l yX5_ran (wsU yX5_ran cX5_ran 2 (some .int)) { frames := 1, cells := 0, slots := 0, locals := 22 } D cI [.ref (h 0), .int a1] (wM h cI σ) (fun _ : Unit => wM h cI σ) (fun r _ => (m_ran σ a1) = r) := by
  refine MetI.of (by decide) (Nat.le_of_ble_eq_true rfl) ?_
  intro p e s m below meth c A Q ls hx hb hml hown hts hK hN hA hret hP hD hS hl
  have hown : s.vm.findClass RX5 = some m.cls := hown
  have hl : lv_has ls 2 [(0, .ref (h 0)), (1, .int a1)] := hl
  suffices go : ∀ (H : Heap) (locs : List Loc), va_P D vwCl (wM h cI σ) H → va_D A (wM h cI σ) → va_S A s.heap H locs → W p l e ({ frames := 1, cells := 0, slots := 0, locals := 22 } : Room) s m (([.ref (h 0), .int a1] : List Value).toArray) below meth c H locs 0 0 Q (F0 m 0 ls []) from go _ _ hP hD hS
  intro H locs hP hD hS
  refine lv_iload_n hx hb dX5_ran_0 rfl (lv_at hl 1 rfl) ?_
  refine lv_iconst (v := (0 : Int32)) hx hb dX5_ran_1 (by decide) ?_
  refine lv_bipush (v := (7 : Int32)) hx hb dX5_ran_2 (by decide) ?_
  refine call_Si 3 (kX5_in l D cI _ a1 (0 : Int32) (7 : Int32)) ⟨hx, hb, hml, hown, hts, hK, hN, hA⟩ ⟨kw_522, kw_523, kw_6, kw_524, by decide +kernel, rfl, rfl, Nat.le_of_ble_eq_true rfl, Nat.le_of_ble_eq_true rfl⟩ rfl hP hD hS hl.1 rfl (Nat.le_of_ble_eq_true rfl) dX5_ran_4 ⟨Nat.zero_le _, Nat.zero_le _⟩ (fun r4 u H locs hw hP hD hS => ?_)
  have hw : (m_in a1 (0 : Int32) (7 : Int32)) = r4 := hw
  subst hw
  refine lv_if_eq (tgt := 19) hx hb dX5_ran_7 (by decide) (fun c_7_1 => ?_) (fun c_7_1 => ?_)
  · have c_7_1 : (m_in a1 (0 : Int32) (7 : Int32)) = (0 : Int32) := c_7_1
    refine lv_iconst (v := (-1 : Int32)) hx hb dX5_ran_19 (by decide) ?_
    have hE : m_ran σ a1 = (-1 : Int32) := (by unfold m_ran; rw [if_pos c_7_1])
    exact hret (-1 : Int32) () _ _ _ _ rfl hE hP hD hS dX5_ran_20
  · have c_7_1 : ¬ ((m_in a1 (0 : Int32) (7 : Int32)) = (0 : Int32)) := c_7_1
    refine lv_aload_n hx hb dX5_ran_10 rfl (lv_at hl 0 rfl) ?_
    refine gM_ref6 hx hb hts hown hK hP kw_471 dX5_ran_11 ?_
    refine lv_iload_n hx hb dX5_ran_14 rfl (lv_at hl 1 rfl) ?_
    refine aM_RAN (v := ((ranf σ) (Int32.toNatClampNeg a1))) hx hb hK hP (by exact m_in_vp (by assumption) (by decide)) rfl dX5_ran_15 ?_
    refine lv_goto (tgt := 20) hx hb dX5_ran_16 (by decide) ?_
    have hE : m_ran σ a1 = ((ranf σ) (Int32.toNatClampNeg a1)) := (by unfold m_ran; rw [if_neg c_7_1])
    exact hret ((ranf σ) (Int32.toNatClampNeg a1)) () _ _ _ _ rfl hE hP hD hS dX5_ran_20
def m_point (σ : St) (a1 : Int32) (a2 : Int32) : Int32 := (if (m_in a2 (0 : Int32) (1 : Int32)) = (0 : Int32) then (-1 : Int32) else (if (m_in a1 (0 : Int32) (63 : Int32)) = (0 : Int32) then (-9 : Int32) else (if a1 < (g_pts σ) then (if a2 = (0 : Int32) then ((g_px σ) (Int32.toNatClampNeg ((((g_pts σ) - (1 : Int32)) - a1) - (((g_pts σ) - (1 : Int32)) - a1) / (64 : Int32) * (64 : Int32)))) else ((g_py σ) (Int32.toNatClampNeg ((((g_pts σ) - (1 : Int32)) - a1) - (((g_pts σ) - (1 : Int32)) - a1) / (64 : Int32) * (64 : Int32))))) else (-9 : Int32))))
theorem vp_pt {x i : Int32} (hx : vp_in x 2147483647) (hi : ¬ m_in i (0 : Int32) (63 : Int32) = (0 : Int32)) (h : i < x) : vp_in ((x - 1 - i) - (x - 1 - i) / 64 * 64) 64 := by
  obtain ⟨j, hj, rfl⟩ := vp_in_of (m_in_vp (N := 64) hi (by decide)) (by decide)
  obtain ⟨q, hq, rfl⟩ := vp_in_of hx (by decide)
  have h1 := (nI_ltI (by omega) (by omega)).mp h
  apply vp_rem
  rw [show (1 : Int32) = nI 1 from rfl, pk_sub (by omega), pk_sub (by omega)]
  exact vp_in_nI (by omega) (by decide)
set_option maxRecDepth 100000 in
set_option maxHeartbeats 8000000 in
theorem kX5_point (l : Launch) (D : va_G) (cI : ClassId) (h : Nat → Nat) (σ : St) (a1 : Int32) (a2 : Int32) (hM : MI σ) : MetI l yX5_point (wsU yX5_point cX5_point 4 (some .int)) { frames := 1, cells := 0, slots := 0, locals := 22 } D cI [.ref (h 0), .int a1, .int a2] (wM h cI σ) (fun _ : Unit => wM h cI σ) (fun r _ => (m_point σ a1 a2) = r) := by
  refine MetI.of (by decide) (Nat.le_of_ble_eq_true rfl) ?_
  intro p e s m below meth c A Q ls hx hb hml hown hts hK hN hA hret hP hD hS hl
  have hown : s.vm.findClass RX5 = some m.cls := hown
  have hl : lv_has ls 4 [(0, .ref (h 0)), (1, .int a1), (2, .int a2)] := hl
  suffices go : ∀ (H : Heap) (locs : List Loc), va_P D vwCl (wM h cI σ) H → va_D A (wM h cI σ) → va_S A s.heap H locs → W p l e ({ frames := 1, cells := 0, slots := 0, locals := 22 } : Room) s m (([.ref (h 0), .int a1, .int a2] : List Value).toArray) below meth c H locs 0 0 Q (F0 m 0 ls []) from go _ _ hP hD hS
  intro H locs hP hD hS
  refine lv_iload_n hx hb dX5_point_0 rfl (lv_at hl 2 rfl) ?_
  refine lv_iconst (v := (0 : Int32)) hx hb dX5_point_1 (by decide) ?_
  refine lv_iconst (v := (1 : Int32)) hx hb dX5_point_2 (by decide) ?_
  refine call_Si 3 (kX5_in l D cI _ a2 (0 : Int32) (1 : Int32)) ⟨hx, hb, hml, hown, hts, hK, hN, hA⟩ ⟨kw_522, kw_523, kw_6, kw_524, by decide +kernel, rfl, rfl, Nat.le_of_ble_eq_true rfl, Nat.le_of_ble_eq_true rfl⟩ rfl hP hD hS hl.1 rfl (Nat.le_of_ble_eq_true rfl) dX5_point_3 ⟨Nat.zero_le _, Nat.zero_le _⟩ (fun r3 u H locs hw hP hD hS => ?_)
  have hw : (m_in a2 (0 : Int32) (1 : Int32)) = r3 := hw
  subst hw
  refine lv_if_ne (tgt := 11) hx hb dX5_point_6 (by decide) (fun c_6_1 => ?_) (fun c_6_1 => ?_)
  · have c_6_1 : ¬ ((m_in a2 (0 : Int32) (1 : Int32)) = (0 : Int32)) := c_6_1
    refine lv_iload_n hx hb dX5_point_11 rfl (lv_at hl 1 rfl) ?_
    refine lv_iconst (v := (0 : Int32)) hx hb dX5_point_12 (by decide) ?_
    refine lv_bipush (v := (63 : Int32)) hx hb dX5_point_13 (by decide) ?_
    refine call_Si 3 (kX5_in l D cI _ a1 (0 : Int32) (63 : Int32)) ⟨hx, hb, hml, hown, hts, hK, hN, hA⟩ ⟨kw_522, kw_523, kw_6, kw_524, by decide +kernel, rfl, rfl, Nat.le_of_ble_eq_true rfl, Nat.le_of_ble_eq_true rfl⟩ rfl hP hD hS hl.1 rfl (Nat.le_of_ble_eq_true rfl) dX5_point_15 ⟨Nat.zero_le _, Nat.zero_le _⟩ (fun r15 u H locs hw hP hD hS => ?_)
    have hw : (m_in a1 (0 : Int32) (63 : Int32)) = r15 := hw
    subst hw
    refine lv_if_eq (tgt := 29) hx hb dX5_point_18 (by decide) (fun c_18_2 => ?_) (fun c_18_2 => ?_)
    · have c_18_2 : (m_in a1 (0 : Int32) (63 : Int32)) = (0 : Int32) := c_18_2
      refine lv_bipush (v := (-9 : Int32)) hx hb dX5_point_29 (by decide) ?_
      have hE : m_point σ a1 a2 = (-9 : Int32) := (by unfold m_point; rw [if_neg c_6_1, if_pos c_18_2])
      exact hret (-9 : Int32) () _ _ _ _ rfl hE hP hD hS dX5_point_31
    · have c_18_2 : ¬ ((m_in a1 (0 : Int32) (63 : Int32)) = (0 : Int32)) := c_18_2
      refine lv_iload_n hx hb dX5_point_21 rfl (lv_at hl 1 rfl) ?_
      refine lv_aload_n hx hb dX5_point_22 rfl (lv_at hl 0 rfl) ?_
      refine gM_pts (v := (g_pts σ)) hx hb hts hown hK hP kw_470 rfl dX5_point_23 ?_
      refine lv_icmp_lt (tgt := 32) hx hb dX5_point_26 (by decide) (fun c_26_3 => ?_) (fun c_26_3 => ?_)
      · have c_26_3 : a1 < (g_pts σ) := c_26_3
        refine lv_aload_n hx hb dX5_point_32 rfl (lv_at hl 0 rfl) ?_
        refine gM_pts (v := (g_pts σ)) hx hb hts hown hK hP kw_470 rfl dX5_point_33 ?_
        refine lv_iconst (v := (1 : Int32)) hx hb dX5_point_36 (by decide) ?_
        refine lv_isub hx hb dX5_point_37 ?_
        refine lv_iload_n hx hb dX5_point_38 rfl (lv_at hl 1 rfl) ?_
        refine lv_isub hx hb dX5_point_39 ?_
        refine lv_bipush (v := (64 : Int32)) hx hb dX5_point_40 (by decide) ?_
        refine lv_irem hx hb dX5_point_42 (by decide) ?_
        refine lv_istore_n (lv' := [(3, .int ((((g_pts σ) - (1 : Int32)) - a1) - (((g_pts σ) - (1 : Int32)) - a1) / (64 : Int32) * (64 : Int32))), (0, .ref (h 0)), (1, .int a1), (2, .int a2)]) hx hb dX5_point_43 rfl hl (by decide) rfl (fun ls hl => ?_)
        refine lv_iload_n hx hb dX5_point_44 rfl (lv_at hl 3 rfl) ?_
        refine lv_if_ne (tgt := 57) hx hb dX5_point_45 (by decide) (fun c_45_4 => ?_) (fun c_45_4 => ?_)
        · have c_45_4 : ¬ (a2 = (0 : Int32)) := c_45_4
          refine lv_aload_n hx hb dX5_point_57 rfl (lv_at hl 1 rfl) ?_
          refine gM_ref5 hx hb hts hown hK hP kw_469 dX5_point_58 ?_
          refine lv_iload_n hx hb dX5_point_61 rfl (lv_at hl 0 rfl) ?_
          refine aM_py (v := ((g_py σ) (Int32.toNatClampNeg ((((g_pts σ) - (1 : Int32)) - a1) - (((g_pts σ) - (1 : Int32)) - a1) / (64 : Int32) * (64 : Int32))))) hx hb hK hP (by exact vp_pt hM.2.2.2 (by assumption) (by assumption)) rfl dX5_point_62 ?_
          have hE : m_point σ a1 a2 = ((g_py σ) (Int32.toNatClampNeg ((((g_pts σ) - (1 : Int32)) - a1) - (((g_pts σ) - (1 : Int32)) - a1) / (64 : Int32) * (64 : Int32)))) := (by unfold m_point; rw [if_neg c_6_1, if_neg c_18_2, if_pos c_26_3, if_neg c_45_4])
          exact hret ((g_py σ) (Int32.toNatClampNeg ((((g_pts σ) - (1 : Int32)) - a1) - (((g_pts σ) - (1 : Int32)) - a1) / (64 : Int32) * (64 : Int32)))) () _ _ _ _ rfl hE hP hD hS dX5_point_63
        · have c_45_4 : a2 = (0 : Int32) := c_45_4
          refine lv_aload_n hx hb dX5_point_48 rfl (lv_at hl 1 rfl) ?_
          refine gM_ref4 hx hb hts hown hK hP kw_468 dX5_point_49 ?_
          refine lv_iload_n hx hb dX5_point_52 rfl (lv_at hl 0 rfl) ?_
          refine aM_px (v := ((g_px σ) (Int32.toNatClampNeg ((((g_pts σ) - (1 : Int32)) - a1) - (((g_pts σ) - (1 : Int32)) - a1) / (64 : Int32) * (64 : Int32))))) hx hb hK hP (by exact vp_pt hM.2.2.2 (by assumption) (by assumption)) rfl dX5_point_53 ?_
          refine lv_goto (tgt := 63) hx hb dX5_point_54 (by decide) ?_
          have hE : m_point σ a1 a2 = ((g_px σ) (Int32.toNatClampNeg ((((g_pts σ) - (1 : Int32)) - a1) - (((g_pts σ) - (1 : Int32)) - a1) / (64 : Int32) * (64 : Int32)))) := (by unfold m_point; rw [if_neg c_6_1, if_neg c_18_2, if_pos c_26_3, if_pos c_45_4])
          exact hret ((g_px σ) (Int32.toNatClampNeg ((((g_pts σ) - (1 : Int32)) - a1) - (((g_pts σ) - (1 : Int32)) - a1) / (64 : Int32) * (64 : Int32)))) () _ _ _ _ rfl hE hP hD hS dX5_point_63
      · have c_26_3 : ¬ (a1 < (g_pts σ)) := c_26_3
        refine lv_bipush (v := (-9 : Int32)) hx hb dX5_point_29 (by decide) ?_
        have hE : m_point σ a1 a2 = (-9 : Int32) := (by unfold m_point; rw [if_neg c_6_1, if_neg c_18_2, if_neg c_26_3])
        exact hret (-9 : Int32) () _ _ _ _ rfl hE hP hD hS dX5_point_31
  · have c_6_1 : (m_in a2 (0 : Int32) (1 : Int32)) = (0 : Int32) := c_6_1
    refine lv_iconst (v := (-1 : Int32)) hx hb dX5_point_9 (by decide) ?_
    have hE : m_point σ a1 a2 = (-1 : Int32) := (by unfold m_point; rw [if_pos c_6_1])
    exact hret (-1 : Int32) () _ _ _ _ rfl hE hP hD hS dX5_point_10
def m_points (σ : St)  : Int32 := (g_pts σ)
set_option maxRecDepth 100000 in
set_option maxHeartbeats 8000000 in
theorem kX5_points (l : Launch) (D : va_G) (cI : ClassId) (h : Nat → Nat) (σ : St)  : MetI l yX5_points (wsU yX5_points cX5_points 1 (some .int)) { frames := 0, cells := 0, slots := 0, locals := 0 } D cI [.ref (h 0)] (wM h cI σ) (fun _ : Unit => wM h cI σ) (fun r _ => (m_points σ) = r) := by
  refine MetI.of (by decide) (Nat.le_of_ble_eq_true rfl) ?_
  intro p e s m below meth c A Q ls hx hb hml hown hts hK hN hA hret hP hD hS hl
  have hown : s.vm.findClass RX5 = some m.cls := hown
  have hl : lv_has ls 1 [(0, .ref (h 0))] := hl
  suffices go : ∀ (H : Heap) (locs : List Loc), va_P D vwCl (wM h cI σ) H → va_D A (wM h cI σ) → va_S A s.heap H locs → W p l e ({ frames := 0, cells := 0, slots := 0, locals := 0 } : Room) s m (([.ref (h 0)] : List Value).toArray) below meth c H locs 0 0 Q (F0 m 0 ls []) from go _ _ hP hD hS
  intro H locs hP hD hS
  refine lv_aload_n hx hb dX5_points_0 rfl (lv_at hl 0 rfl) ?_
  refine gM_pts (v := (g_pts σ)) hx hb hts hown hK hP kw_470 rfl dX5_points_1 ?_
  have hE : m_points σ = (g_pts σ) := (by unfold m_points; rfl)
  exact hret (g_pts σ) () _ _ _ _ rfl hE hP hD hS dX5_points_4
def m_out (σ : St) (a1 : Int32) : Int32 := (if (0 : Int32) ≤ a1 then (if (g_outs σ) ≤ a1 then (-9 : Int32) else ((g_out σ) (Int32.toNatClampNeg a1))) else (if a1 = (-1 : Int32) then (g_outs σ) else (if a1 = (-2 : Int32) then (g_lost σ) else (-1 : Int32))))
set_option maxRecDepth 100000 in
set_option maxHeartbeats 8000000 in
theorem kX5_out (l : Launch) (D : va_G) (cI : ClassId) (h : Nat → Nat) (σ : St) (a1 : Int32) (hM : MI σ) : MetI l yX5_out (wsU yX5_out cX5_out 2 (some .int)) { frames := 0, cells := 0, slots := 0, locals := 0 } D cI [.ref (h 0), .int a1] (wM h cI σ) (fun _ : Unit => wM h cI σ) (fun r _ => (m_out σ a1) = r) := by
  refine MetI.of (by decide) (Nat.le_of_ble_eq_true rfl) ?_
  intro p e s m below meth c A Q ls hx hb hml hown hts hK hN hA hret hP hD hS hl
  have hown : s.vm.findClass RX5 = some m.cls := hown
  have hl : lv_has ls 2 [(0, .ref (h 0)), (1, .int a1)] := hl
  suffices go : ∀ (H : Heap) (locs : List Loc), va_P D vwCl (wM h cI σ) H → va_D A (wM h cI σ) → va_S A s.heap H locs → W p l e ({ frames := 0, cells := 0, slots := 0, locals := 0 } : Room) s m (([.ref (h 0), .int a1] : List Value).toArray) below meth c H locs 0 0 Q (F0 m 0 ls []) from go _ _ hP hD hS
  intro H locs hP hD hS
  refine lv_iload_n hx hb dX5_out_0 rfl (lv_at hl 1 rfl) ?_
  refine lv_if_ge (tgt := 31) hx hb dX5_out_1 (by decide) (fun c_1_1 => ?_) (fun c_1_1 => ?_)
  · have c_1_1 : (0 : Int32) ≤ a1 := c_1_1
    refine lv_iload_n hx hb dX5_out_31 rfl (lv_at hl 1 rfl) ?_
    refine lv_aload_n hx hb dX5_out_32 rfl (lv_at hl 0 rfl) ?_
    refine gM_outs (v := (g_outs σ)) hx hb hts hown hK hP kw_466 rfl dX5_out_33 ?_
    refine lv_icmp_ge (tgt := 48) hx hb dX5_out_36 (by decide) (fun c_36_2 => ?_) (fun c_36_2 => ?_)
    · have c_36_2 : (g_outs σ) ≤ a1 := c_36_2
      refine lv_bipush (v := (-9 : Int32)) hx hb dX5_out_48 (by decide) ?_
      have hE : m_out σ a1 = (-9 : Int32) := (by unfold m_out; rw [if_pos c_1_1, if_pos c_36_2])
      exact hret (-9 : Int32) () _ _ _ _ rfl hE hP hD hS dX5_out_50
    · have c_36_2 : ¬ ((g_outs σ) ≤ a1) := c_36_2
      refine lv_aload_n hx hb dX5_out_39 rfl (lv_at hl 0 rfl) ?_
      refine gM_ref3 hx hb hts hown hK hP kw_465 dX5_out_40 ?_
      refine lv_iload_n hx hb dX5_out_43 rfl (lv_at hl 1 rfl) ?_
      refine aM_out (v := ((g_out σ) (Int32.toNatClampNeg a1))) hx hb hK hP (by exact vp_below1 (by assumption) hM.2.2.1 (by assumption)) rfl dX5_out_44 ?_
      refine lv_goto (tgt := 50) hx hb dX5_out_45 (by decide) ?_
      have hE : m_out σ a1 = ((g_out σ) (Int32.toNatClampNeg a1)) := (by unfold m_out; rw [if_pos c_1_1, if_neg c_36_2])
      exact hret ((g_out σ) (Int32.toNatClampNeg a1)) () _ _ _ _ rfl hE hP hD hS dX5_out_50
  · have c_1_1 : ¬ ((0 : Int32) ≤ a1) := c_1_1
    refine lv_iload_n hx hb dX5_out_4 rfl (lv_at hl 1 rfl) ?_
    refine lv_iconst (v := (-1 : Int32)) hx hb dX5_out_5 (by decide) ?_
    refine lv_icmp_ne (tgt := 16) hx hb dX5_out_6 (by decide) (fun c_6_3 => ?_) (fun c_6_3 => ?_)
    · have c_6_3 : ¬ (a1 = (-1 : Int32)) := c_6_3
      refine lv_iload_n hx hb dX5_out_16 rfl (lv_at hl 1 rfl) ?_
      refine lv_bipush (v := (-2 : Int32)) hx hb dX5_out_17 (by decide) ?_
      refine lv_icmp_ne (tgt := 29) hx hb dX5_out_19 (by decide) (fun c_19_4 => ?_) (fun c_19_4 => ?_)
      · have c_19_4 : ¬ (a1 = (-2 : Int32)) := c_19_4
        refine lv_iconst (v := (-1 : Int32)) hx hb dX5_out_29 (by decide) ?_
        have hE : m_out σ a1 = (-1 : Int32) := (by unfold m_out; rw [if_neg c_1_1, if_neg c_6_3, if_neg c_19_4])
        exact hret (-1 : Int32) () _ _ _ _ rfl hE hP hD hS dX5_out_30
      · have c_19_4 : a1 = (-2 : Int32) := c_19_4
        refine lv_aload_n hx hb dX5_out_22 rfl (lv_at hl 0 rfl) ?_
        refine gM_lost (v := (g_lost σ)) hx hb hts hown hK hP kw_467 rfl dX5_out_23 ?_
        refine lv_goto (tgt := 30) hx hb dX5_out_26 (by decide) ?_
        have hE : m_out σ a1 = (g_lost σ) := (by unfold m_out; rw [if_neg c_1_1, if_neg c_6_3, if_pos c_19_4])
        exact hret (g_lost σ) () _ _ _ _ rfl hE hP hD hS dX5_out_30
    · have c_6_3 : a1 = (-1 : Int32) := c_6_3
      refine lv_aload_n hx hb dX5_out_9 rfl (lv_at hl 0 rfl) ?_
      refine gM_outs (v := (g_outs σ)) hx hb hts hown hK hP kw_466 rfl dX5_out_10 ?_
      refine lv_goto (tgt := 30) hx hb dX5_out_13 (by decide) ?_
      have hE : m_out σ a1 = (g_outs σ) := (by unfold m_out; rw [if_neg c_1_1, if_pos c_6_3])
      exact hret (g_outs σ) () _ _ _ _ rfl hE hP hD hS dX5_out_30
def m_value (σ : St) (a1 : Int32) : Int32 := (if (m_in a1 (0 : Int32) (262143 : Int32)) = (0 : Int32) then (-1000000 : Int32) else (if (m_sign a1) = (0 : Int32) then a1 else (a1 - (262143 : Int32))))
set_option maxRecDepth 100000 in
set_option maxHeartbeats 8000000 in
theorem kX5_value (l : Launch) (D : va_G) (cI : ClassId) (h : Nat → Nat) (σ : St) (a1 : Int32) : MetI l yX5_value (wsU yX5_value cX5_value 2 (some .int)) { frames := 1, cells := 0, slots := 0, locals := 22 } D cI [.ref (h 0), .int a1] (wM h cI σ) (fun _ : Unit => wM h cI σ) (fun r _ => (m_value σ a1) = r) := by
  refine MetI.of (by decide) (Nat.le_of_ble_eq_true rfl) ?_
  intro p e s m below meth c A Q ls hx hb hml hown hts hK hN hA hret hP hD hS hl
  have hown : s.vm.findClass RX5 = some m.cls := hown
  have hl : lv_has ls 2 [(0, .ref (h 0)), (1, .int a1)] := hl
  suffices go : ∀ (H : Heap) (locs : List Loc), va_P D vwCl (wM h cI σ) H → va_D A (wM h cI σ) → va_S A s.heap H locs → W p l e ({ frames := 1, cells := 0, slots := 0, locals := 22 } : Room) s m (([.ref (h 0), .int a1] : List Value).toArray) below meth c H locs 0 0 Q (F0 m 0 ls []) from go _ _ hP hD hS
  intro H locs hP hD hS
  refine lv_iload_n hx hb dX5_value_0 rfl (lv_at hl 1 rfl) ?_
  refine lv_iconst (v := (0 : Int32)) hx hb dX5_value_1 (by decide) ?_
  refine lv_ldc (v := (262143 : Int32)) hx hb hown (hts _ kw_525) dX5_value_2 ?_
  refine call_Si 3 (kX5_in l D cI _ a1 (0 : Int32) (262143 : Int32)) ⟨hx, hb, hml, hown, hts, hK, hN, hA⟩ ⟨kw_522, kw_523, kw_6, kw_524, by decide +kernel, rfl, rfl, Nat.le_of_ble_eq_true rfl, Nat.le_of_ble_eq_true rfl⟩ rfl hP hD hS hl.1 rfl (Nat.le_of_ble_eq_true rfl) dX5_value_4 ⟨Nat.zero_le _, Nat.zero_le _⟩ (fun r4 u H locs hw hP hD hS => ?_)
  have hw : (m_in a1 (0 : Int32) (262143 : Int32)) = r4 := hw
  subst hw
  refine lv_if_ne (tgt := 15) hx hb dX5_value_7 (by decide) (fun c_7_1 => ?_) (fun c_7_1 => ?_)
  · have c_7_1 : ¬ ((m_in a1 (0 : Int32) (262143 : Int32)) = (0 : Int32)) := c_7_1
    refine lv_iload_n hx hb dX5_value_15 rfl (lv_at hl 1 rfl) ?_
    refine call_Si 1 (kX5_sign l D cI _ a1) ⟨hx, hb, hml, hown, hts, hK, hN, hA⟩ ⟨kw_578, kw_579, kw_6, kw_580, by decide +kernel, rfl, rfl, Nat.le_of_ble_eq_true rfl, Nat.le_of_ble_eq_true rfl⟩ rfl hP hD hS hl.1 rfl (Nat.le_of_ble_eq_true rfl) dX5_value_16 ⟨Nat.zero_le _, Nat.zero_le _⟩ (fun r16 u H locs hw hP hD hS => ?_)
    have hw : (m_sign a1) = r16 := hw
    subst hw
    refine lv_if_ne (tgt := 26) hx hb dX5_value_19 (by decide) (fun c_19_2 => ?_) (fun c_19_2 => ?_)
    · have c_19_2 : ¬ ((m_sign a1) = (0 : Int32)) := c_19_2
      refine lv_iload_n hx hb dX5_value_26 rfl (lv_at hl 1 rfl) ?_
      refine lv_ldc (v := (262143 : Int32)) hx hb hown (hts _ kw_525) dX5_value_27 ?_
      refine lv_isub hx hb dX5_value_29 ?_
      have hE : m_value σ a1 = (a1 - (262143 : Int32)) := (by unfold m_value; rw [if_neg c_7_1, if_neg c_19_2])
      exact hret (a1 - (262143 : Int32)) () _ _ _ _ rfl hE hP hD hS dX5_value_30
    · have c_19_2 : (m_sign a1) = (0 : Int32) := c_19_2
      refine lv_iload_n hx hb dX5_value_22 rfl (lv_at hl 1 rfl) ?_
      refine lv_goto (tgt := 30) hx hb dX5_value_23 (by decide) ?_
      have hE : m_value σ a1 = a1 := (by unfold m_value; rw [if_neg c_7_1, if_pos c_19_2])
      exact hret a1 () _ _ _ _ rfl hE hP hD hS dX5_value_30
  · have c_7_1 : (m_in a1 (0 : Int32) (262143 : Int32)) = (0 : Int32) := c_7_1
    refine lv_ldc (v := (-1000000 : Int32)) hx hb hown (hts _ kw_665) dX5_value_10 ?_
    refine lv_goto (tgt := 30) hx hb dX5_value_12 (by decide) ?_
    have hE : m_value σ a1 = (-1000000 : Int32) := (by unfold m_value; rw [if_pos c_7_1])
    exact hret (-1000000 : Int32) () _ _ _ _ rfl hE hP hD hS dX5_value_30
def m_word (σ : St) (a1 : Int32) : Int32 := (if (m_in a1 (-131071 : Int32) (131071 : Int32)) = (0 : Int32) then (-1 : Int32) else (if (0 : Int32) ≤ a1 then a1 else (a1 + (262143 : Int32))))
set_option maxRecDepth 100000 in
set_option maxHeartbeats 8000000 in
theorem kX5_word (l : Launch) (D : va_G) (cI : ClassId) (h : Nat → Nat) (σ : St) (a1 : Int32) : MetI l yX5_word (wsU yX5_word cX5_word 2 (some .int)) { frames := 1, cells := 0, slots := 0, locals := 22 } D cI [.ref (h 0), .int a1] (wM h cI σ) (fun _ : Unit => wM h cI σ) (fun r _ => (m_word σ a1) = r) := by
  refine MetI.of (by decide) (Nat.le_of_ble_eq_true rfl) ?_
  intro p e s m below meth c A Q ls hx hb hml hown hts hK hN hA hret hP hD hS hl
  have hown : s.vm.findClass RX5 = some m.cls := hown
  have hl : lv_has ls 2 [(0, .ref (h 0)), (1, .int a1)] := hl
  suffices go : ∀ (H : Heap) (locs : List Loc), va_P D vwCl (wM h cI σ) H → va_D A (wM h cI σ) → va_S A s.heap H locs → W p l e ({ frames := 1, cells := 0, slots := 0, locals := 22 } : Room) s m (([.ref (h 0), .int a1] : List Value).toArray) below meth c H locs 0 0 Q (F0 m 0 ls []) from go _ _ hP hD hS
  intro H locs hP hD hS
  refine lv_iload_n hx hb dX5_word_0 rfl (lv_at hl 1 rfl) ?_
  refine lv_ldc (v := (-131071 : Int32)) hx hb hown (hts _ kw_670) dX5_word_1 ?_
  refine lv_ldc (v := (131071 : Int32)) hx hb hown (hts _ kw_671) dX5_word_3 ?_
  refine call_Si 3 (kX5_in l D cI _ a1 (-131071 : Int32) (131071 : Int32)) ⟨hx, hb, hml, hown, hts, hK, hN, hA⟩ ⟨kw_522, kw_523, kw_6, kw_524, by decide +kernel, rfl, rfl, Nat.le_of_ble_eq_true rfl, Nat.le_of_ble_eq_true rfl⟩ rfl hP hD hS hl.1 rfl (Nat.le_of_ble_eq_true rfl) dX5_word_5 ⟨Nat.zero_le _, Nat.zero_le _⟩ (fun r5 u H locs hw hP hD hS => ?_)
  have hw : (m_in a1 (-131071 : Int32) (131071 : Int32)) = r5 := hw
  subst hw
  refine lv_if_ne (tgt := 15) hx hb dX5_word_8 (by decide) (fun c_8_1 => ?_) (fun c_8_1 => ?_)
  · have c_8_1 : ¬ ((m_in a1 (-131071 : Int32) (131071 : Int32)) = (0 : Int32)) := c_8_1
    refine lv_iload_n hx hb dX5_word_15 rfl (lv_at hl 1 rfl) ?_
    refine lv_if_ge (tgt := 26) hx hb dX5_word_16 (by decide) (fun c_16_2 => ?_) (fun c_16_2 => ?_)
    · have c_16_2 : (0 : Int32) ≤ a1 := c_16_2
      refine lv_iload_n hx hb dX5_word_26 rfl (lv_at hl 1 rfl) ?_
      have hE : m_word σ a1 = a1 := (by unfold m_word; rw [if_neg c_8_1, if_pos c_16_2])
      exact hret a1 () _ _ _ _ rfl hE hP hD hS dX5_word_27
    · have c_16_2 : ¬ ((0 : Int32) ≤ a1) := c_16_2
      refine lv_iload_n hx hb dX5_word_19 rfl (lv_at hl 1 rfl) ?_
      refine lv_ldc (v := (262143 : Int32)) hx hb hown (hts _ kw_525) dX5_word_20 ?_
      refine lv_iadd hx hb dX5_word_22 ?_
      refine lv_goto (tgt := 27) hx hb dX5_word_23 (by decide) ?_
      have hE : m_word σ a1 = (a1 + (262143 : Int32)) := (by unfold m_word; rw [if_neg c_8_1, if_neg c_16_2])
      exact hret (a1 + (262143 : Int32)) () _ _ _ _ rfl hE hP hD hS dX5_word_27
  · have c_8_1 : (m_in a1 (-131071 : Int32) (131071 : Int32)) = (0 : Int32) := c_8_1
    refine lv_iconst (v := (-1 : Int32)) hx hb dX5_word_11 (by decide) ?_
    refine lv_goto (tgt := 27) hx hb dX5_word_12 (by decide) ?_
    have hE : m_word σ a1 = (-1 : Int32) := (by unfold m_word; rw [if_pos c_8_1])
    exact hret (-1 : Int32) () _ _ _ _ rfl hE hP hD hS dX5_word_27
