def x4_divideStep_54 (σ : St) (z0_54 : Int32) : St := (s_ac σ (x4_withoutMinusZero z0_54))
def x4_divideStep (σ : St) (a1 : Int32) : St := (if ((1 : Int32) - (x4_signOf (g_ac σ))) = (1 : Int32) then x4_divideStep_54 (x4_setBoth σ (((x4_both σ) <<< (Int32.toInt64 (1 : Int32) &&& 63)) ||| (Int32.toInt64 ((1 : Int32) - (x4_signOf (g_ac σ)))))) (x4_sum (g_ac (x4_setBoth σ (((x4_both σ) <<< (Int32.toInt64 (1 : Int32) &&& 63)) ||| (Int32.toInt64 ((1 : Int32) - (x4_signOf (g_ac σ))))))) (x4_not a1)) else x4_divideStep_54 (x4_setBoth σ (((x4_both σ) <<< (Int32.toInt64 (1 : Int32) &&& 63)) ||| (Int32.toInt64 ((1 : Int32) - (x4_signOf (g_ac σ)))))) (x4_sum (x4_sum (g_ac (x4_setBoth σ (((x4_both σ) <<< (Int32.toInt64 (1 : Int32) &&& 63)) ||| (Int32.toInt64 ((1 : Int32) - (x4_signOf (g_ac σ))))))) a1) (1 : Int32)))
set_option maxRecDepth 100000 in
set_option maxHeartbeats 8000000 in
theorem kX4_divideStep (l : Launch) (D : va_G) (cI : ClassId) (h : Nat → Nat) (σ : St) (a1 : Int32) : MetV l yX4_divideStep (wsU yX4_divideStep cX4_divideStep 4 none) { frames := 1, cells := 0, slots := 0, locals := 22 } D cI [.ref (h 0), .int a1] (wX h cI σ) (fun u : St => wX h cI u) (fun u => (x4_divideStep σ a1) = u) := by
  refine MetV.of (by decide) (Nat.le_of_ble_eq_true rfl) ?_
  intro p e s m below meth c A Q ls hx hb hml hown hts hK hN hA hret hP hD hS hl
  have hown : s.vm.findClass RX4 = some m.cls := hown
  have hl : lv_has ls 4 [(0, .ref (h 0)), (1, .int a1)] := hl
  have J_54 : ∀ (σ' : St) (z0_54 : Int32) (H : Heap) (locs : List Loc) (ls : Array Slot), x4_divideStep σ a1 = x4_divideStep_54 σ' z0_54 → lv_has ls 4 [(0, .ref (h 0))] → va_P D vwCl (wX h cI σ') H → va_D A (wX h cI σ') → va_S A s.heap H locs → W p l e ({ frames := 1, cells := 0, slots := 0, locals := 22 } : Room) s m (([.ref (h 0), .int a1] : List Value).toArray) below meth c H locs 0 0 Q (F0 m 54 ls [.int z0_54]) := by
    intro σ' z0_54 H locs ls E hl hP hD hS
    refine lv_istore_n (lv' := [(3, .int z0_54), (0, .ref (h 0))]) hx hb dX4_divideStep_54 rfl hl (by decide) rfl (fun ls hl => ?_)
    refine lv_aload_n hx hb dX4_divideStep_55 rfl (lv_at hl 1 rfl) ?_
    refine lv_iload_n hx hb dX4_divideStep_56 rfl (lv_at hl 0 rfl) ?_
    refine call_Si 1 (kX4_withoutMinusZero l D cI _ z0_54) ⟨hx, hb, hml, hown, hts, hK, hN, hA⟩ ⟨kw_367, kw_368, kw_1, kw_369, by decide +kernel, rfl, rfl, Nat.le_of_ble_eq_true rfl, Nat.le_of_ble_eq_true rfl⟩ rfl hP hD hS hl.1 rfl (Nat.le_of_ble_eq_true rfl) dX4_divideStep_57 ⟨Nat.zero_le _, Nat.zero_le _⟩ (fun r57 u H locs hw hP hD hS => ?_)
    have hw : (x4_withoutMinusZero z0_54) = r57 := hw
    subst hw
    refine pX_ac hx hb hts hown hK hP hD hS kw_108 dX4_divideStep_60 (fun H locs hP hD hS => ?_)
    have hE : x4_divideStep σ a1 = (s_ac σ' (x4_withoutMinusZero z0_54)) := (E.trans (by unfold x4_divideStep_54; rfl))
    exact hret (s_ac σ' (x4_withoutMinusZero z0_54)) _ _ _ _ hE hP hD hS dX4_divideStep_63
  suffices go : ∀ (H : Heap) (locs : List Loc), va_P D vwCl (wX h cI σ) H → va_D A (wX h cI σ) → va_S A s.heap H locs → W p l e ({ frames := 1, cells := 0, slots := 0, locals := 22 } : Room) s m (([.ref (h 0), .int a1] : List Value).toArray) below meth c H locs 0 0 Q (F0 m 0 ls []) from go _ _ hP hD hS
  intro H locs hP hD hS
  refine lv_iconst (v := (1 : Int32)) hx hb dX4_divideStep_0 (by decide) ?_
  refine lv_aload_n hx hb dX4_divideStep_1 rfl (lv_at hl 0 rfl) ?_
  refine gX_ac (v := (g_ac σ)) hx hb hts hown hK hP kw_108 rfl dX4_divideStep_2 ?_
  refine call_Si 1 (kX4_signOf l D cI _ (g_ac σ)) ⟨hx, hb, hml, hown, hts, hK, hN, hA⟩ ⟨kw_273, kw_274, kw_1, kw_275, by decide +kernel, rfl, rfl, Nat.le_of_ble_eq_true rfl, Nat.le_of_ble_eq_true rfl⟩ rfl hP hD hS hl.1 rfl (Nat.le_of_ble_eq_true rfl) dX4_divideStep_5 ⟨Nat.zero_le _, Nat.zero_le _⟩ (fun r5 u H locs hw hP hD hS => ?_)
  have hw : (x4_signOf (g_ac σ)) = r5 := hw
  subst hw
  refine lv_isub hx hb dX4_divideStep_8 ?_
  refine lv_istore_n (lv' := [(2, .int ((1 : Int32) - (x4_signOf (g_ac σ)))), (0, .ref (h 0)), (1, .int a1)]) hx hb dX4_divideStep_9 rfl hl (by decide) rfl (fun ls hl => ?_)
  refine lv_aload_n hx hb dX4_divideStep_10 rfl (lv_at hl 1 rfl) ?_
  refine lv_aload_n hx hb dX4_divideStep_11 rfl (lv_at hl 1 rfl) ?_
  refine call_Vl 0 (kX4_both l D cI h _) ⟨hx, hb, hml, hown, hts, hK, hN, hA⟩ ⟨kw_317, kw_319, ks_yX4_both, kw_1, kw_320, by decide +kernel, rfl, rfl, Nat.le_of_ble_eq_true rfl, Nat.le_of_ble_eq_true rfl⟩ rfl (va_recv hK hP (ci := 4) (q0 := 0) rfl rfl) hP hD hS hl.1 rfl (Nat.le_of_ble_eq_true rfl) dX4_divideStep_12 ⟨Nat.zero_le _, Nat.zero_le _⟩ (fun r12 u H locs hw hP hD hS => ?_)
  have hw : (x4_both σ) = r12 := hw
  subst hw
  refine lv_iconst (v := (1 : Int32)) hx hb dX4_divideStep_15 (by decide) ?_
  refine lv_lshl (v := ((x4_both σ) <<< (Int32.toInt64 (1 : Int32) &&& 63))) hx hb dX4_divideStep_16 rfl ?_
  refine lv_iload_n hx hb dX4_divideStep_17 rfl (lv_at hl 0 rfl) ?_
  refine lv_i2l (v := (Int32.toInt64 ((1 : Int32) - (x4_signOf (g_ac σ))))) hx hb dX4_divideStep_18 rfl ?_
  refine lv_lor hx hb dX4_divideStep_19 ?_
  refine call_Vv 1 (kX4_setBoth l D cI h _ (((x4_both σ) <<< (Int32.toInt64 (1 : Int32) &&& 63)) ||| (Int32.toInt64 ((1 : Int32) - (x4_signOf (g_ac σ)))))) ⟨hx, hb, hml, hown, hts, hK, hN, hA⟩ ⟨kw_321, kw_323, ks_yX4_setBoth, kw_1, kw_324, by decide +kernel, rfl, rfl, Nat.le_of_ble_eq_true rfl, Nat.le_of_ble_eq_true rfl⟩ rfl (va_recv hK hP (ci := 4) (q0 := 0) rfl rfl) hP hD hS hl.1 rfl (Nat.le_of_ble_eq_true rfl) dX4_divideStep_20 ⟨Nat.zero_le _, Nat.zero_le _⟩ (fun u H locs hw hP hD hS => ?_)
  have hw : (x4_setBoth σ (((x4_both σ) <<< (Int32.toInt64 (1 : Int32) &&& 63)) ||| (Int32.toInt64 ((1 : Int32) - (x4_signOf (g_ac σ)))))) = u := hw
  subst hw
  refine lv_iload_n hx hb dX4_divideStep_23 rfl (lv_at hl 0 rfl) ?_
  refine lv_iconst (v := (1 : Int32)) hx hb dX4_divideStep_24 (by decide) ?_
  refine lv_icmp_ne (tgt := 42) hx hb dX4_divideStep_25 (by decide) (fun c_25_1 => ?_) (fun c_25_1 => ?_)
  · have c_25_1 : ¬ (((1 : Int32) - (x4_signOf (g_ac σ))) = (1 : Int32)) := c_25_1
    refine lv_aload_n hx hb dX4_divideStep_42 rfl (lv_at hl 1 rfl) ?_
    refine gX_ac (v := (g_ac (x4_setBoth σ (((x4_both σ) <<< (Int32.toInt64 (1 : Int32) &&& 63)) ||| (Int32.toInt64 ((1 : Int32) - (x4_signOf (g_ac σ)))))))) hx hb hts hown hK hP kw_108 rfl dX4_divideStep_43 ?_
    refine lv_iload_n hx hb dX4_divideStep_46 rfl (lv_at hl 2 rfl) ?_
    refine call_Si 2 (kX4_sum l D cI _ (g_ac (x4_setBoth σ (((x4_both σ) <<< (Int32.toInt64 (1 : Int32) &&& 63)) ||| (Int32.toInt64 ((1 : Int32) - (x4_signOf (g_ac σ))))))) a1) ⟨hx, hb, hml, hown, hts, hK, hN, hA⟩ ⟨kw_360, kw_361, kw_1, kw_362, by decide +kernel, rfl, rfl, Nat.le_of_ble_eq_true rfl, Nat.le_of_ble_eq_true rfl⟩ rfl hP hD hS hl.1 rfl (Nat.le_of_ble_eq_true rfl) dX4_divideStep_47 ⟨Nat.zero_le _, Nat.zero_le _⟩ (fun r47 u H locs hw hP hD hS => ?_)
    have hw : (x4_sum (g_ac (x4_setBoth σ (((x4_both σ) <<< (Int32.toInt64 (1 : Int32) &&& 63)) ||| (Int32.toInt64 ((1 : Int32) - (x4_signOf (g_ac σ))))))) a1) = r47 := hw
    subst hw
    refine lv_iconst (v := (1 : Int32)) hx hb dX4_divideStep_50 (by decide) ?_
    refine call_Si 2 (kX4_sum l D cI _ (x4_sum (g_ac (x4_setBoth σ (((x4_both σ) <<< (Int32.toInt64 (1 : Int32) &&& 63)) ||| (Int32.toInt64 ((1 : Int32) - (x4_signOf (g_ac σ))))))) a1) (1 : Int32)) ⟨hx, hb, hml, hown, hts, hK, hN, hA⟩ ⟨kw_360, kw_361, kw_1, kw_362, by decide +kernel, rfl, rfl, Nat.le_of_ble_eq_true rfl, Nat.le_of_ble_eq_true rfl⟩ rfl hP hD hS hl.1 rfl (Nat.le_of_ble_eq_true rfl) dX4_divideStep_51 ⟨Nat.zero_le _, Nat.zero_le _⟩ (fun r51 u H locs hw hP hD hS => ?_)
    have hw : (x4_sum (x4_sum (g_ac (x4_setBoth σ (((x4_both σ) <<< (Int32.toInt64 (1 : Int32) &&& 63)) ||| (Int32.toInt64 ((1 : Int32) - (x4_signOf (g_ac σ))))))) a1) (1 : Int32)) = r51 := hw
    subst hw
    exact J_54 (x4_setBoth σ (((x4_both σ) <<< (Int32.toInt64 (1 : Int32) &&& 63)) ||| (Int32.toInt64 ((1 : Int32) - (x4_signOf (g_ac σ)))))) (x4_sum (x4_sum (g_ac (x4_setBoth σ (((x4_both σ) <<< (Int32.toInt64 (1 : Int32) &&& 63)) ||| (Int32.toInt64 ((1 : Int32) - (x4_signOf (g_ac σ))))))) a1) (1 : Int32)) _ _ _ (by unfold x4_divideStep; rw [if_neg c_25_1]) (lv_sub hl [1] rfl) hP hD hS
  · have c_25_1 : ((1 : Int32) - (x4_signOf (g_ac σ))) = (1 : Int32) := c_25_1
    refine lv_aload_n hx hb dX4_divideStep_28 rfl (lv_at hl 1 rfl) ?_
    refine gX_ac (v := (g_ac (x4_setBoth σ (((x4_both σ) <<< (Int32.toInt64 (1 : Int32) &&& 63)) ||| (Int32.toInt64 ((1 : Int32) - (x4_signOf (g_ac σ)))))))) hx hb hts hown hK hP kw_108 rfl dX4_divideStep_29 ?_
    refine lv_iload_n hx hb dX4_divideStep_32 rfl (lv_at hl 2 rfl) ?_
    refine call_Si 1 (kX4_not l D cI _ a1) ⟨hx, hb, hml, hown, hts, hK, hN, hA⟩ ⟨kw_325, kw_326, kw_1, kw_327, by decide +kernel, rfl, rfl, Nat.le_of_ble_eq_true rfl, Nat.le_of_ble_eq_true rfl⟩ rfl hP hD hS hl.1 rfl (Nat.le_of_ble_eq_true rfl) dX4_divideStep_33 ⟨Nat.zero_le _, Nat.zero_le _⟩ (fun r33 u H locs hw hP hD hS => ?_)
    have hw : (x4_not a1) = r33 := hw
    subst hw
    refine call_Si 2 (kX4_sum l D cI _ (g_ac (x4_setBoth σ (((x4_both σ) <<< (Int32.toInt64 (1 : Int32) &&& 63)) ||| (Int32.toInt64 ((1 : Int32) - (x4_signOf (g_ac σ))))))) (x4_not a1)) ⟨hx, hb, hml, hown, hts, hK, hN, hA⟩ ⟨kw_360, kw_361, kw_1, kw_362, by decide +kernel, rfl, rfl, Nat.le_of_ble_eq_true rfl, Nat.le_of_ble_eq_true rfl⟩ rfl hP hD hS hl.1 rfl (Nat.le_of_ble_eq_true rfl) dX4_divideStep_36 ⟨Nat.zero_le _, Nat.zero_le _⟩ (fun r36 u H locs hw hP hD hS => ?_)
    have hw : (x4_sum (g_ac (x4_setBoth σ (((x4_both σ) <<< (Int32.toInt64 (1 : Int32) &&& 63)) ||| (Int32.toInt64 ((1 : Int32) - (x4_signOf (g_ac σ))))))) (x4_not a1)) = r36 := hw
    subst hw
    refine lv_goto (tgt := 54) hx hb dX4_divideStep_39 (by decide) ?_
    exact J_54 (x4_setBoth σ (((x4_both σ) <<< (Int32.toInt64 (1 : Int32) &&& 63)) ||| (Int32.toInt64 ((1 : Int32) - (x4_signOf (g_ac σ)))))) (x4_sum (g_ac (x4_setBoth σ (((x4_both σ) <<< (Int32.toInt64 (1 : Int32) &&& 63)) ||| (Int32.toInt64 ((1 : Int32) - (x4_signOf (g_ac σ))))))) (x4_not a1)) _ _ _ (by unfold x4_divideStep; rw [if_pos c_25_1]) (lv_sub hl [1] rfl) hP hD hS
def x4_performAt_297 (σ : St) (z1_297 : Int32) : St := (x4_skipIf σ z1_297)
def x4_performAt_317 (σ : St) (z1_317 : Int32) : St := (x4_skipIf σ z1_317)
def x4_performAt_337 (σ : St) (z1_337 : Int32) : St := (x4_skipIf σ z1_337)
def x4_performAt (σ : St) (a1 : Int32) (a2 : Int32) : St := (if a1 = (1 : Int32) then (s_ac σ ((g_ac σ) &&& (x4_fetch σ a2))) else (if a1 = (2 : Int32) then (s_ac σ ((g_ac σ) ||| (x4_fetch σ a2))) else (if a1 = (3 : Int32) then (s_ac σ ((g_ac σ) ^^^ (x4_fetch σ a2))) else (if a1 = (8 : Int32) then (s_ac σ (x4_fetch σ a2)) else (if a1 = (9 : Int32) then (s_io σ (x4_fetch σ a2)) else (if a1 = (10 : Int32) then (x4_store σ a2 (g_ac σ)) else (if a1 = (11 : Int32) then (x4_store σ a2 (((x4_fetch σ a2) &&& (-4096 : Int32)) ||| ((g_ac σ) &&& (4095 : Int32)))) else (if a1 = (12 : Int32) then (x4_store σ a2 (((x4_fetch σ a2) &&& (4095 : Int32)) ||| ((g_ac σ) &&& (-4096 : Int32)))) else (if a1 = (13 : Int32) then (x4_store σ a2 (g_io σ)) else (if a1 = (14 : Int32) then (x4_store σ a2 (0 : Int32)) else (if a1 = (16 : Int32) then (x4_add σ (x4_fetch σ a2)) else (if a1 = (17 : Int32) then (x4_subtract σ (x4_fetch σ a2)) else (if a1 = (18 : Int32) then (x4_index σ a2) else (if a1 = (19 : Int32) then (if (x4_signOf (g_ac (x4_index σ a2))) = (0 : Int32) then x4_performAt_297 (x4_index σ a2) (1 : Int32) else x4_performAt_297 (x4_index σ a2) (0 : Int32)) else (if a1 = (20 : Int32) then (if (g_ac σ) = (x4_fetch σ a2) then x4_performAt_317 σ (0 : Int32) else x4_performAt_317 σ (1 : Int32)) else (if a1 = (21 : Int32) then (if (g_ac σ) = (x4_fetch σ a2) then x4_performAt_337 σ (1 : Int32) else x4_performAt_337 σ (0 : Int32)) else (if a1 = (22 : Int32) then (x4_multiplyStep σ (x4_fetch σ a2)) else (if a1 = (23 : Int32) then (x4_divideStep σ (x4_fetch σ a2)) else (if a1 = (24 : Int32) then (s_pc σ a2) else (if a1 = (25 : Int32) then (s_pc (s_ac σ (x4_place σ)) a2) else σ))))))))))))))))))))
set_option maxRecDepth 100000 in
set_option maxHeartbeats 8000000 in
theorem kX4_performAt (l : Launch) (D : va_G) (cI : ClassId) (h : Nat → Nat) (σ : St) (a1 : Int32) (a2 : Int32) : MetV l yX4_performAt (wsU yX4_performAt cX4_performAt 4 none) { frames := 3, cells := 0, slots := 0, locals := 65 } D cI [.ref (h 0), .int a1, .int a2] (wX h cI σ) (fun u : St => wX h cI u) (fun u => (x4_performAt σ a1 a2) = u) := by
  refine MetV.of (by decide) (Nat.le_of_ble_eq_true rfl) ?_
  intro p e s m below meth c A Q ls hx hb hml hown hts hK hN hA hret hP hD hS hl
  have hown : s.vm.findClass RX4 = some m.cls := hown
  have hl : lv_has ls 4 [(0, .ref (h 0)), (1, .int a1), (2, .int a2)] := hl
  have J_297 : ∀ (σ' : St) (z1_297 : Int32) (H : Heap) (locs : List Loc) (ls : Array Slot), x4_performAt σ a1 a2 = x4_performAt_297 σ' z1_297 → lv_has ls 4 [(0, .ref (h 0))] → va_P D vwCl (wX h cI σ') H → va_D A (wX h cI σ') → va_S A s.heap H locs → W p l e ({ frames := 3, cells := 0, slots := 0, locals := 65 } : Room) s m (([.ref (h 0), .int a1, .int a2] : List Value).toArray) below meth c H locs 0 0 Q (F0 m 297 ls [.int z1_297, .ref (h 0)]) := by
    intro σ' z1_297 H locs ls E hl hP hD hS
    refine call_Vv 1 (kX4_skipIf l D cI h _ z1_297) ⟨hx, hb, hml, hown, hts, hK, hN, hA⟩ ⟨kw_294, kw_296, ks_yX4_skipIf, kw_1, kw_297, by decide +kernel, rfl, rfl, Nat.le_of_ble_eq_true rfl, Nat.le_of_ble_eq_true rfl⟩ rfl (va_recv hK hP (ci := 4) (q0 := 0) rfl rfl) hP hD hS hl.1 rfl (Nat.le_of_ble_eq_true rfl) dX4_performAt_297 ⟨Nat.zero_le _, Nat.zero_le _⟩ (fun u H locs hw hP hD hS => ?_)
    have hw : (x4_skipIf σ' z1_297) = u := hw
    subst hw
    refine lv_goto (tgt := 383) hx hb dX4_performAt_300 (by decide) ?_
    have hE : x4_performAt σ a1 a2 = (x4_skipIf σ' z1_297) := (E.trans (by unfold x4_performAt_297; rfl))
    exact hret (x4_skipIf σ' z1_297) _ _ _ _ hE hP hD hS dX4_performAt_383
  have J_317 : ∀ (σ' : St) (z1_317 : Int32) (H : Heap) (locs : List Loc) (ls : Array Slot), x4_performAt σ a1 a2 = x4_performAt_317 σ' z1_317 → lv_has ls 4 [(0, .ref (h 0))] → va_P D vwCl (wX h cI σ') H → va_D A (wX h cI σ') → va_S A s.heap H locs → W p l e ({ frames := 3, cells := 0, slots := 0, locals := 65 } : Room) s m (([.ref (h 0), .int a1, .int a2] : List Value).toArray) below meth c H locs 0 0 Q (F0 m 317 ls [.int z1_317, .ref (h 0)]) := by
    intro σ' z1_317 H locs ls E hl hP hD hS
    refine call_Vv 1 (kX4_skipIf l D cI h _ z1_317) ⟨hx, hb, hml, hown, hts, hK, hN, hA⟩ ⟨kw_294, kw_296, ks_yX4_skipIf, kw_1, kw_297, by decide +kernel, rfl, rfl, Nat.le_of_ble_eq_true rfl, Nat.le_of_ble_eq_true rfl⟩ rfl (va_recv hK hP (ci := 4) (q0 := 0) rfl rfl) hP hD hS hl.1 rfl (Nat.le_of_ble_eq_true rfl) dX4_performAt_317 ⟨Nat.zero_le _, Nat.zero_le _⟩ (fun u H locs hw hP hD hS => ?_)
    have hw : (x4_skipIf σ' z1_317) = u := hw
    subst hw
    refine lv_goto (tgt := 383) hx hb dX4_performAt_320 (by decide) ?_
    have hE : x4_performAt σ a1 a2 = (x4_skipIf σ' z1_317) := (E.trans (by unfold x4_performAt_317; rfl))
    exact hret (x4_skipIf σ' z1_317) _ _ _ _ hE hP hD hS dX4_performAt_383
  have J_337 : ∀ (σ' : St) (z1_337 : Int32) (H : Heap) (locs : List Loc) (ls : Array Slot), x4_performAt σ a1 a2 = x4_performAt_337 σ' z1_337 → lv_has ls 4 [(0, .ref (h 0))] → va_P D vwCl (wX h cI σ') H → va_D A (wX h cI σ') → va_S A s.heap H locs → W p l e ({ frames := 3, cells := 0, slots := 0, locals := 65 } : Room) s m (([.ref (h 0), .int a1, .int a2] : List Value).toArray) below meth c H locs 0 0 Q (F0 m 337 ls [.int z1_337, .ref (h 0)]) := by
    intro σ' z1_337 H locs ls E hl hP hD hS
    refine call_Vv 1 (kX4_skipIf l D cI h _ z1_337) ⟨hx, hb, hml, hown, hts, hK, hN, hA⟩ ⟨kw_294, kw_296, ks_yX4_skipIf, kw_1, kw_297, by decide +kernel, rfl, rfl, Nat.le_of_ble_eq_true rfl, Nat.le_of_ble_eq_true rfl⟩ rfl (va_recv hK hP (ci := 4) (q0 := 0) rfl rfl) hP hD hS hl.1 rfl (Nat.le_of_ble_eq_true rfl) dX4_performAt_337 ⟨Nat.zero_le _, Nat.zero_le _⟩ (fun u H locs hw hP hD hS => ?_)
    have hw : (x4_skipIf σ' z1_337) = u := hw
    subst hw
    refine lv_goto (tgt := 383) hx hb dX4_performAt_340 (by decide) ?_
    have hE : x4_performAt σ a1 a2 = (x4_skipIf σ' z1_337) := (E.trans (by unfold x4_performAt_337; rfl))
    exact hret (x4_skipIf σ' z1_337) _ _ _ _ hE hP hD hS dX4_performAt_383
  suffices go : ∀ (H : Heap) (locs : List Loc), va_P D vwCl (wX h cI σ) H → va_D A (wX h cI σ) → va_S A s.heap H locs → W p l e ({ frames := 3, cells := 0, slots := 0, locals := 65 } : Room) s m (([.ref (h 0), .int a1, .int a2] : List Value).toArray) below meth c H locs 0 0 Q (F0 m 0 ls []) from go _ _ hP hD hS
  intro H locs hP hD hS
  refine lv_aload_n hx hb dX4_performAt_0 rfl (lv_at hl 0 rfl) ?_
  refine lv_iload_n hx hb dX4_performAt_1 rfl (lv_at hl 2 rfl) ?_
  refine call_Vi 1 (kX4_fetch l D cI h _ a2) ⟨hx, hb, hml, hown, hts, hK, hN, hA⟩ ⟨kw_164, kw_166, ks_yX4_fetch, kw_1, kw_167, by decide +kernel, rfl, rfl, Nat.le_of_ble_eq_true rfl, Nat.le_of_ble_eq_true rfl⟩ rfl (va_recv hK hP (ci := 4) (q0 := 0) rfl rfl) hP hD hS hl.1 rfl (Nat.le_of_ble_eq_true rfl) dX4_performAt_2 ⟨Nat.zero_le _, Nat.zero_le _⟩ (fun r2 u H locs hw hP hD hS => ?_)
  have hw : (x4_fetch σ a2) = r2 := hw
  subst hw
  refine lv_istore_n (lv' := [(3, .int (x4_fetch σ a2)), (0, .ref (h 0)), (1, .int a1), (2, .int a2)]) hx hb dX4_performAt_5 rfl hl (by decide) rfl (fun ls hl => ?_)
  refine lv_iload_n hx hb dX4_performAt_6 rfl (lv_at hl 2 rfl) ?_
  by_cases s_7_1_0 : a1 = (1 : Int32)
  · refine lv_tableIn (off := 113) (tgt := 120) hx hb dX4_performAt_7 (by rw [s_7_1_0]; decide) (by rw [s_7_1_0]; decide) (by rw [s_7_1_0]; rfl) (by decide) ?_
    refine lv_aload_n hx hb dX4_performAt_120 rfl (lv_at hl 1 rfl) ?_
    refine lv_aload_n hx hb dX4_performAt_121 rfl (lv_at hl 1 rfl) ?_
    refine gX_ac (v := (g_ac σ)) hx hb hts hown hK hP kw_108 rfl dX4_performAt_122 ?_
    refine lv_iload_n hx hb dX4_performAt_125 rfl (lv_at hl 0 rfl) ?_
    refine lv_iand hx hb dX4_performAt_126 ?_
    refine pX_ac hx hb hts hown hK hP hD hS kw_108 dX4_performAt_127 (fun H locs hP hD hS => ?_)
    refine lv_goto (tgt := 383) hx hb dX4_performAt_130 (by decide) ?_
    have hE : x4_performAt σ a1 a2 = (s_ac σ ((g_ac σ) &&& (x4_fetch σ a2))) := (by unfold x4_performAt; rw [if_pos s_7_1_0])
    exact hret (s_ac σ ((g_ac σ) &&& (x4_fetch σ a2))) _ _ _ _ hE hP hD hS dX4_performAt_383
  by_cases s_7_1_1 : a1 = (2 : Int32)
  · refine lv_tableIn (off := 126) (tgt := 133) hx hb dX4_performAt_7 (by rw [s_7_1_1]; decide) (by rw [s_7_1_1]; decide) (by rw [s_7_1_1]; rfl) (by decide) ?_
    refine lv_aload_n hx hb dX4_performAt_133 rfl (lv_at hl 1 rfl) ?_
    refine lv_aload_n hx hb dX4_performAt_134 rfl (lv_at hl 1 rfl) ?_
    refine gX_ac (v := (g_ac σ)) hx hb hts hown hK hP kw_108 rfl dX4_performAt_135 ?_
    refine lv_iload_n hx hb dX4_performAt_138 rfl (lv_at hl 0 rfl) ?_
    refine lv_ior hx hb dX4_performAt_139 ?_
    refine pX_ac hx hb hts hown hK hP hD hS kw_108 dX4_performAt_140 (fun H locs hP hD hS => ?_)
    refine lv_goto (tgt := 383) hx hb dX4_performAt_143 (by decide) ?_
    have hE : x4_performAt σ a1 a2 = (s_ac σ ((g_ac σ) ||| (x4_fetch σ a2))) := (by unfold x4_performAt; rw [if_neg s_7_1_0, if_pos s_7_1_1])
    exact hret (s_ac σ ((g_ac σ) ||| (x4_fetch σ a2))) _ _ _ _ hE hP hD hS dX4_performAt_383
  by_cases s_7_1_2 : a1 = (3 : Int32)
  · refine lv_tableIn (off := 139) (tgt := 146) hx hb dX4_performAt_7 (by rw [s_7_1_2]; decide) (by rw [s_7_1_2]; decide) (by rw [s_7_1_2]; rfl) (by decide) ?_
    refine lv_aload_n hx hb dX4_performAt_146 rfl (lv_at hl 1 rfl) ?_
    refine lv_aload_n hx hb dX4_performAt_147 rfl (lv_at hl 1 rfl) ?_
    refine gX_ac (v := (g_ac σ)) hx hb hts hown hK hP kw_108 rfl dX4_performAt_148 ?_
    refine lv_iload_n hx hb dX4_performAt_151 rfl (lv_at hl 0 rfl) ?_
    refine lv_ixor hx hb dX4_performAt_152 ?_
    refine pX_ac hx hb hts hown hK hP hD hS kw_108 dX4_performAt_153 (fun H locs hP hD hS => ?_)
    refine lv_goto (tgt := 383) hx hb dX4_performAt_156 (by decide) ?_
    have hE : x4_performAt σ a1 a2 = (s_ac σ ((g_ac σ) ^^^ (x4_fetch σ a2))) := (by unfold x4_performAt; rw [if_neg s_7_1_0, if_neg s_7_1_1, if_pos s_7_1_2])
    exact hret (s_ac σ ((g_ac σ) ^^^ (x4_fetch σ a2))) _ _ _ _ hE hP hD hS dX4_performAt_383
  by_cases s_7_1_3 : a1 = (8 : Int32)
  · refine lv_tableIn (off := 152) (tgt := 159) hx hb dX4_performAt_7 (by rw [s_7_1_3]; decide) (by rw [s_7_1_3]; decide) (by rw [s_7_1_3]; rfl) (by decide) ?_
    refine lv_aload_n hx hb dX4_performAt_159 rfl (lv_at hl 1 rfl) ?_
    refine lv_iload_n hx hb dX4_performAt_160 rfl (lv_at hl 0 rfl) ?_
    refine pX_ac hx hb hts hown hK hP hD hS kw_108 dX4_performAt_161 (fun H locs hP hD hS => ?_)
    refine lv_goto (tgt := 383) hx hb dX4_performAt_164 (by decide) ?_
    have hE : x4_performAt σ a1 a2 = (s_ac σ (x4_fetch σ a2)) := (by unfold x4_performAt; rw [if_neg s_7_1_0, if_neg s_7_1_1, if_neg s_7_1_2, if_pos s_7_1_3])
    exact hret (s_ac σ (x4_fetch σ a2)) _ _ _ _ hE hP hD hS dX4_performAt_383
  by_cases s_7_1_4 : a1 = (9 : Int32)
  · refine lv_tableIn (off := 160) (tgt := 167) hx hb dX4_performAt_7 (by rw [s_7_1_4]; decide) (by rw [s_7_1_4]; decide) (by rw [s_7_1_4]; rfl) (by decide) ?_
    refine lv_aload_n hx hb dX4_performAt_167 rfl (lv_at hl 1 rfl) ?_
    refine lv_iload_n hx hb dX4_performAt_168 rfl (lv_at hl 0 rfl) ?_
    refine pX_io hx hb hts hown hK hP hD hS kw_109 dX4_performAt_169 (fun H locs hP hD hS => ?_)
    refine lv_goto (tgt := 383) hx hb dX4_performAt_172 (by decide) ?_
    have hE : x4_performAt σ a1 a2 = (s_io σ (x4_fetch σ a2)) := (by unfold x4_performAt; rw [if_neg s_7_1_0, if_neg s_7_1_1, if_neg s_7_1_2, if_neg s_7_1_3, if_pos s_7_1_4])
    exact hret (s_io σ (x4_fetch σ a2)) _ _ _ _ hE hP hD hS dX4_performAt_383
  by_cases s_7_1_5 : a1 = (10 : Int32)
  · refine lv_tableIn (off := 168) (tgt := 175) hx hb dX4_performAt_7 (by rw [s_7_1_5]; decide) (by rw [s_7_1_5]; decide) (by rw [s_7_1_5]; rfl) (by decide) ?_
    refine lv_aload_n hx hb dX4_performAt_175 rfl (lv_at hl 1 rfl) ?_
    refine lv_iload_n hx hb dX4_performAt_176 rfl (lv_at hl 3 rfl) ?_
    refine lv_aload_n hx hb dX4_performAt_177 rfl (lv_at hl 1 rfl) ?_
    refine gX_ac (v := (g_ac σ)) hx hb hts hown hK hP kw_108 rfl dX4_performAt_178 ?_
    refine call_Vv 2 (kX4_store l D cI h _ a2 (g_ac σ)) ⟨hx, hb, hml, hown, hts, hK, hN, hA⟩ ⟨kw_168, kw_170, ks_yX4_store, kw_1, kw_171, by decide +kernel, rfl, rfl, Nat.le_of_ble_eq_true rfl, Nat.le_of_ble_eq_true rfl⟩ rfl (va_recv hK hP (ci := 4) (q0 := 0) rfl rfl) hP hD hS hl.1 rfl (Nat.le_of_ble_eq_true rfl) dX4_performAt_181 ⟨Nat.zero_le _, Nat.zero_le _⟩ (fun u H locs hw hP hD hS => ?_)
    have hw : (x4_store σ a2 (g_ac σ)) = u := hw
    subst hw
    refine lv_goto (tgt := 383) hx hb dX4_performAt_184 (by decide) ?_
    have hE : x4_performAt σ a1 a2 = (x4_store σ a2 (g_ac σ)) := (by unfold x4_performAt; rw [if_neg s_7_1_0, if_neg s_7_1_1, if_neg s_7_1_2, if_neg s_7_1_3, if_neg s_7_1_4, if_pos s_7_1_5])
    exact hret (x4_store σ a2 (g_ac σ)) _ _ _ _ hE hP hD hS dX4_performAt_383
  by_cases s_7_1_6 : a1 = (11 : Int32)
  · refine lv_tableIn (off := 180) (tgt := 187) hx hb dX4_performAt_7 (by rw [s_7_1_6]; decide) (by rw [s_7_1_6]; decide) (by rw [s_7_1_6]; rfl) (by decide) ?_
    refine lv_aload_n hx hb dX4_performAt_187 rfl (lv_at hl 1 rfl) ?_
    refine lv_iload_n hx hb dX4_performAt_188 rfl (lv_at hl 3 rfl) ?_
    refine lv_iload_n hx hb dX4_performAt_189 rfl (lv_at hl 0 rfl) ?_
    refine lv_sipush (v := (-4096 : Int32)) hx hb dX4_performAt_190 (by decide) ?_
    refine lv_iand hx hb dX4_performAt_193 ?_
    refine lv_aload_n hx hb dX4_performAt_194 rfl (lv_at hl 1 rfl) ?_
    refine gX_ac (v := (g_ac σ)) hx hb hts hown hK hP kw_108 rfl dX4_performAt_195 ?_
    refine lv_sipush (v := (4095 : Int32)) hx hb dX4_performAt_198 (by decide) ?_
    refine lv_iand hx hb dX4_performAt_201 ?_
    refine lv_ior hx hb dX4_performAt_202 ?_
    refine call_Vv 2 (kX4_store l D cI h _ a2 (((x4_fetch σ a2) &&& (-4096 : Int32)) ||| ((g_ac σ) &&& (4095 : Int32)))) ⟨hx, hb, hml, hown, hts, hK, hN, hA⟩ ⟨kw_168, kw_170, ks_yX4_store, kw_1, kw_171, by decide +kernel, rfl, rfl, Nat.le_of_ble_eq_true rfl, Nat.le_of_ble_eq_true rfl⟩ rfl (va_recv hK hP (ci := 4) (q0 := 0) rfl rfl) hP hD hS hl.1 rfl (Nat.le_of_ble_eq_true rfl) dX4_performAt_203 ⟨Nat.zero_le _, Nat.zero_le _⟩ (fun u H locs hw hP hD hS => ?_)
    have hw : (x4_store σ a2 (((x4_fetch σ a2) &&& (-4096 : Int32)) ||| ((g_ac σ) &&& (4095 : Int32)))) = u := hw
    subst hw
    refine lv_goto (tgt := 383) hx hb dX4_performAt_206 (by decide) ?_
    have hE : x4_performAt σ a1 a2 = (x4_store σ a2 (((x4_fetch σ a2) &&& (-4096 : Int32)) ||| ((g_ac σ) &&& (4095 : Int32)))) := (by unfold x4_performAt; rw [if_neg s_7_1_0, if_neg s_7_1_1, if_neg s_7_1_2, if_neg s_7_1_3, if_neg s_7_1_4, if_neg s_7_1_5, if_pos s_7_1_6])
    exact hret (x4_store σ a2 (((x4_fetch σ a2) &&& (-4096 : Int32)) ||| ((g_ac σ) &&& (4095 : Int32)))) _ _ _ _ hE hP hD hS dX4_performAt_383
  by_cases s_7_1_7 : a1 = (12 : Int32)
  · refine lv_tableIn (off := 202) (tgt := 209) hx hb dX4_performAt_7 (by rw [s_7_1_7]; decide) (by rw [s_7_1_7]; decide) (by rw [s_7_1_7]; rfl) (by decide) ?_
    refine lv_aload_n hx hb dX4_performAt_209 rfl (lv_at hl 1 rfl) ?_
    refine lv_iload_n hx hb dX4_performAt_210 rfl (lv_at hl 3 rfl) ?_
    refine lv_iload_n hx hb dX4_performAt_211 rfl (lv_at hl 0 rfl) ?_
    refine lv_sipush (v := (4095 : Int32)) hx hb dX4_performAt_212 (by decide) ?_
    refine lv_iand hx hb dX4_performAt_215 ?_
    refine lv_aload_n hx hb dX4_performAt_216 rfl (lv_at hl 1 rfl) ?_
    refine gX_ac (v := (g_ac σ)) hx hb hts hown hK hP kw_108 rfl dX4_performAt_217 ?_
    refine lv_sipush (v := (-4096 : Int32)) hx hb dX4_performAt_220 (by decide) ?_
    refine lv_iand hx hb dX4_performAt_223 ?_
    refine lv_ior hx hb dX4_performAt_224 ?_
    refine call_Vv 2 (kX4_store l D cI h _ a2 (((x4_fetch σ a2) &&& (4095 : Int32)) ||| ((g_ac σ) &&& (-4096 : Int32)))) ⟨hx, hb, hml, hown, hts, hK, hN, hA⟩ ⟨kw_168, kw_170, ks_yX4_store, kw_1, kw_171, by decide +kernel, rfl, rfl, Nat.le_of_ble_eq_true rfl, Nat.le_of_ble_eq_true rfl⟩ rfl (va_recv hK hP (ci := 4) (q0 := 0) rfl rfl) hP hD hS hl.1 rfl (Nat.le_of_ble_eq_true rfl) dX4_performAt_225 ⟨Nat.zero_le _, Nat.zero_le _⟩ (fun u H locs hw hP hD hS => ?_)
    have hw : (x4_store σ a2 (((x4_fetch σ a2) &&& (4095 : Int32)) ||| ((g_ac σ) &&& (-4096 : Int32)))) = u := hw
    subst hw
    refine lv_goto (tgt := 383) hx hb dX4_performAt_228 (by decide) ?_
    have hE : x4_performAt σ a1 a2 = (x4_store σ a2 (((x4_fetch σ a2) &&& (4095 : Int32)) ||| ((g_ac σ) &&& (-4096 : Int32)))) := (by unfold x4_performAt; rw [if_neg s_7_1_0, if_neg s_7_1_1, if_neg s_7_1_2, if_neg s_7_1_3, if_neg s_7_1_4, if_neg s_7_1_5, if_neg s_7_1_6, if_pos s_7_1_7])
    exact hret (x4_store σ a2 (((x4_fetch σ a2) &&& (4095 : Int32)) ||| ((g_ac σ) &&& (-4096 : Int32)))) _ _ _ _ hE hP hD hS dX4_performAt_383
  by_cases s_7_1_8 : a1 = (13 : Int32)
  · refine lv_tableIn (off := 224) (tgt := 231) hx hb dX4_performAt_7 (by rw [s_7_1_8]; decide) (by rw [s_7_1_8]; decide) (by rw [s_7_1_8]; rfl) (by decide) ?_
    refine lv_aload_n hx hb dX4_performAt_231 rfl (lv_at hl 1 rfl) ?_
    refine lv_iload_n hx hb dX4_performAt_232 rfl (lv_at hl 3 rfl) ?_
    refine lv_aload_n hx hb dX4_performAt_233 rfl (lv_at hl 1 rfl) ?_
    refine gX_io (v := (g_io σ)) hx hb hts hown hK hP kw_109 rfl dX4_performAt_234 ?_
    refine call_Vv 2 (kX4_store l D cI h _ a2 (g_io σ)) ⟨hx, hb, hml, hown, hts, hK, hN, hA⟩ ⟨kw_168, kw_170, ks_yX4_store, kw_1, kw_171, by decide +kernel, rfl, rfl, Nat.le_of_ble_eq_true rfl, Nat.le_of_ble_eq_true rfl⟩ rfl (va_recv hK hP (ci := 4) (q0 := 0) rfl rfl) hP hD hS hl.1 rfl (Nat.le_of_ble_eq_true rfl) dX4_performAt_237 ⟨Nat.zero_le _, Nat.zero_le _⟩ (fun u H locs hw hP hD hS => ?_)
    have hw : (x4_store σ a2 (g_io σ)) = u := hw
    subst hw
    refine lv_goto (tgt := 383) hx hb dX4_performAt_240 (by decide) ?_
    have hE : x4_performAt σ a1 a2 = (x4_store σ a2 (g_io σ)) := (by unfold x4_performAt; rw [if_neg s_7_1_0, if_neg s_7_1_1, if_neg s_7_1_2, if_neg s_7_1_3, if_neg s_7_1_4, if_neg s_7_1_5, if_neg s_7_1_6, if_neg s_7_1_7, if_pos s_7_1_8])
    exact hret (x4_store σ a2 (g_io σ)) _ _ _ _ hE hP hD hS dX4_performAt_383
  by_cases s_7_1_9 : a1 = (14 : Int32)
  · refine lv_tableIn (off := 236) (tgt := 243) hx hb dX4_performAt_7 (by rw [s_7_1_9]; decide) (by rw [s_7_1_9]; decide) (by rw [s_7_1_9]; rfl) (by decide) ?_
    refine lv_aload_n hx hb dX4_performAt_243 rfl (lv_at hl 1 rfl) ?_
    refine lv_iload_n hx hb dX4_performAt_244 rfl (lv_at hl 3 rfl) ?_
    refine lv_iconst (v := (0 : Int32)) hx hb dX4_performAt_245 (by decide) ?_
    refine call_Vv 2 (kX4_store l D cI h _ a2 (0 : Int32)) ⟨hx, hb, hml, hown, hts, hK, hN, hA⟩ ⟨kw_168, kw_170, ks_yX4_store, kw_1, kw_171, by decide +kernel, rfl, rfl, Nat.le_of_ble_eq_true rfl, Nat.le_of_ble_eq_true rfl⟩ rfl (va_recv hK hP (ci := 4) (q0 := 0) rfl rfl) hP hD hS hl.1 rfl (Nat.le_of_ble_eq_true rfl) dX4_performAt_246 ⟨Nat.zero_le _, Nat.zero_le _⟩ (fun u H locs hw hP hD hS => ?_)
    have hw : (x4_store σ a2 (0 : Int32)) = u := hw
    subst hw
    refine lv_goto (tgt := 383) hx hb dX4_performAt_249 (by decide) ?_
    have hE : x4_performAt σ a1 a2 = (x4_store σ a2 (0 : Int32)) := (by unfold x4_performAt; rw [if_neg s_7_1_0, if_neg s_7_1_1, if_neg s_7_1_2, if_neg s_7_1_3, if_neg s_7_1_4, if_neg s_7_1_5, if_neg s_7_1_6, if_neg s_7_1_7, if_neg s_7_1_8, if_pos s_7_1_9])
    exact hret (x4_store σ a2 (0 : Int32)) _ _ _ _ hE hP hD hS dX4_performAt_383
  by_cases s_7_1_10 : a1 = (16 : Int32)
  · refine lv_tableIn (off := 245) (tgt := 252) hx hb dX4_performAt_7 (by rw [s_7_1_10]; decide) (by rw [s_7_1_10]; decide) (by rw [s_7_1_10]; rfl) (by decide) ?_
    refine lv_aload_n hx hb dX4_performAt_252 rfl (lv_at hl 1 rfl) ?_
    refine lv_iload_n hx hb dX4_performAt_253 rfl (lv_at hl 0 rfl) ?_
    refine call_Vv 1 (kX4_add l D cI h _ (x4_fetch σ a2)) ⟨hx, hb, hml, hown, hts, hK, hN, hA⟩ ⟨kw_356, kw_358, ks_yX4_add, kw_1, kw_359, by decide +kernel, rfl, rfl, Nat.le_of_ble_eq_true rfl, Nat.le_of_ble_eq_true rfl⟩ rfl (va_recv hK hP (ci := 4) (q0 := 0) rfl rfl) hP hD hS hl.1 rfl (Nat.le_of_ble_eq_true rfl) dX4_performAt_254 ⟨Nat.zero_le _, Nat.zero_le _⟩ (fun u H locs hw hP hD hS => ?_)
    have hw : (x4_add σ (x4_fetch σ a2)) = u := hw
    subst hw
    refine lv_goto (tgt := 383) hx hb dX4_performAt_257 (by decide) ?_
    have hE : x4_performAt σ a1 a2 = (x4_add σ (x4_fetch σ a2)) := (by unfold x4_performAt; rw [if_neg s_7_1_0, if_neg s_7_1_1, if_neg s_7_1_2, if_neg s_7_1_3, if_neg s_7_1_4, if_neg s_7_1_5, if_neg s_7_1_6, if_neg s_7_1_7, if_neg s_7_1_8, if_neg s_7_1_9, if_pos s_7_1_10])
    exact hret (x4_add σ (x4_fetch σ a2)) _ _ _ _ hE hP hD hS dX4_performAt_383
  by_cases s_7_1_11 : a1 = (17 : Int32)
  · refine lv_tableIn (off := 253) (tgt := 260) hx hb dX4_performAt_7 (by rw [s_7_1_11]; decide) (by rw [s_7_1_11]; decide) (by rw [s_7_1_11]; rfl) (by decide) ?_
    refine lv_aload_n hx hb dX4_performAt_260 rfl (lv_at hl 1 rfl) ?_
    refine lv_iload_n hx hb dX4_performAt_261 rfl (lv_at hl 0 rfl) ?_
    refine call_Vv 1 (kX4_subtract l D cI h _ (x4_fetch σ a2)) ⟨hx, hb, hml, hown, hts, hK, hN, hA⟩ ⟨kw_370, kw_372, ks_yX4_subtract, kw_1, kw_373, by decide +kernel, rfl, rfl, Nat.le_of_ble_eq_true rfl, Nat.le_of_ble_eq_true rfl⟩ rfl (va_recv hK hP (ci := 4) (q0 := 0) rfl rfl) hP hD hS hl.1 rfl (Nat.le_of_ble_eq_true rfl) dX4_performAt_262 ⟨Nat.zero_le _, Nat.zero_le _⟩ (fun u H locs hw hP hD hS => ?_)
    have hw : (x4_subtract σ (x4_fetch σ a2)) = u := hw
    subst hw
    refine lv_goto (tgt := 383) hx hb dX4_performAt_265 (by decide) ?_
    have hE : x4_performAt σ a1 a2 = (x4_subtract σ (x4_fetch σ a2)) := (by unfold x4_performAt; rw [if_neg s_7_1_0, if_neg s_7_1_1, if_neg s_7_1_2, if_neg s_7_1_3, if_neg s_7_1_4, if_neg s_7_1_5, if_neg s_7_1_6, if_neg s_7_1_7, if_neg s_7_1_8, if_neg s_7_1_9, if_neg s_7_1_10, if_pos s_7_1_11])
    exact hret (x4_subtract σ (x4_fetch σ a2)) _ _ _ _ hE hP hD hS dX4_performAt_383
  by_cases s_7_1_12 : a1 = (18 : Int32)
  · refine lv_tableIn (off := 261) (tgt := 268) hx hb dX4_performAt_7 (by rw [s_7_1_12]; decide) (by rw [s_7_1_12]; decide) (by rw [s_7_1_12]; rfl) (by decide) ?_
    refine lv_aload_n hx hb dX4_performAt_268 rfl (lv_at hl 1 rfl) ?_
    refine lv_iload_n hx hb dX4_performAt_269 rfl (lv_at hl 3 rfl) ?_
    refine call_Vv 1 (kX4_index l D cI h _ a2) ⟨hx, hb, hml, hown, hts, hK, hN, hA⟩ ⟨kw_374, kw_376, ks_yX4_index, kw_1, kw_377, by decide +kernel, rfl, rfl, Nat.le_of_ble_eq_true rfl, Nat.le_of_ble_eq_true rfl⟩ rfl (va_recv hK hP (ci := 4) (q0 := 0) rfl rfl) hP hD hS hl.1 rfl (Nat.le_of_ble_eq_true rfl) dX4_performAt_270 ⟨Nat.zero_le _, Nat.zero_le _⟩ (fun u H locs hw hP hD hS => ?_)
    have hw : (x4_index σ a2) = u := hw
    subst hw
    refine lv_goto (tgt := 383) hx hb dX4_performAt_273 (by decide) ?_
    have hE : x4_performAt σ a1 a2 = (x4_index σ a2) := (by unfold x4_performAt; rw [if_neg s_7_1_0, if_neg s_7_1_1, if_neg s_7_1_2, if_neg s_7_1_3, if_neg s_7_1_4, if_neg s_7_1_5, if_neg s_7_1_6, if_neg s_7_1_7, if_neg s_7_1_8, if_neg s_7_1_9, if_neg s_7_1_10, if_neg s_7_1_11, if_pos s_7_1_12])
    exact hret (x4_index σ a2) _ _ _ _ hE hP hD hS dX4_performAt_383
  by_cases s_7_1_13 : a1 = (19 : Int32)
  · refine lv_tableIn (off := 269) (tgt := 276) hx hb dX4_performAt_7 (by rw [s_7_1_13]; decide) (by rw [s_7_1_13]; decide) (by rw [s_7_1_13]; rfl) (by decide) ?_
    refine lv_aload_n hx hb dX4_performAt_276 rfl (lv_at hl 1 rfl) ?_
    refine lv_iload_n hx hb dX4_performAt_277 rfl (lv_at hl 3 rfl) ?_
    refine call_Vv 1 (kX4_index l D cI h _ a2) ⟨hx, hb, hml, hown, hts, hK, hN, hA⟩ ⟨kw_374, kw_376, ks_yX4_index, kw_1, kw_377, by decide +kernel, rfl, rfl, Nat.le_of_ble_eq_true rfl, Nat.le_of_ble_eq_true rfl⟩ rfl (va_recv hK hP (ci := 4) (q0 := 0) rfl rfl) hP hD hS hl.1 rfl (Nat.le_of_ble_eq_true rfl) dX4_performAt_278 ⟨Nat.zero_le _, Nat.zero_le _⟩ (fun u H locs hw hP hD hS => ?_)
    have hw : (x4_index σ a2) = u := hw
    subst hw
    refine lv_aload_n hx hb dX4_performAt_281 rfl (lv_at hl 1 rfl) ?_
    refine lv_aload_n hx hb dX4_performAt_282 rfl (lv_at hl 1 rfl) ?_
    refine gX_ac (v := (g_ac (x4_index σ a2))) hx hb hts hown hK hP kw_108 rfl dX4_performAt_283 ?_
    refine call_Si 1 (kX4_signOf l D cI _ (g_ac (x4_index σ a2))) ⟨hx, hb, hml, hown, hts, hK, hN, hA⟩ ⟨kw_273, kw_274, kw_1, kw_275, by decide +kernel, rfl, rfl, Nat.le_of_ble_eq_true rfl, Nat.le_of_ble_eq_true rfl⟩ rfl hP hD hS hl.1 rfl (Nat.le_of_ble_eq_true rfl) dX4_performAt_286 ⟨Nat.zero_le _, Nat.zero_le _⟩ (fun r286 u H locs hw hP hD hS => ?_)
    have hw : (x4_signOf (g_ac (x4_index σ a2))) = r286 := hw
    subst hw
    refine lv_if_ne (tgt := 296) hx hb dX4_performAt_289 (by decide) (fun c_289_2 => ?_) (fun c_289_2 => ?_)
    · have c_289_2 : ¬ ((x4_signOf (g_ac (x4_index σ a2))) = (0 : Int32)) := c_289_2
      refine lv_iconst (v := (0 : Int32)) hx hb dX4_performAt_296 (by decide) ?_
      exact J_297 (x4_index σ a2) (0 : Int32) _ _ _ (by unfold x4_performAt; rw [if_neg s_7_1_0, if_neg s_7_1_1, if_neg s_7_1_2, if_neg s_7_1_3, if_neg s_7_1_4, if_neg s_7_1_5, if_neg s_7_1_6, if_neg s_7_1_7, if_neg s_7_1_8, if_neg s_7_1_9, if_neg s_7_1_10, if_neg s_7_1_11, if_neg s_7_1_12, if_pos s_7_1_13, if_neg c_289_2]) (lv_sub hl [1] rfl) hP hD hS
    · have c_289_2 : (x4_signOf (g_ac (x4_index σ a2))) = (0 : Int32) := c_289_2
      refine lv_iconst (v := (1 : Int32)) hx hb dX4_performAt_292 (by decide) ?_
      refine lv_goto (tgt := 297) hx hb dX4_performAt_293 (by decide) ?_
      exact J_297 (x4_index σ a2) (1 : Int32) _ _ _ (by unfold x4_performAt; rw [if_neg s_7_1_0, if_neg s_7_1_1, if_neg s_7_1_2, if_neg s_7_1_3, if_neg s_7_1_4, if_neg s_7_1_5, if_neg s_7_1_6, if_neg s_7_1_7, if_neg s_7_1_8, if_neg s_7_1_9, if_neg s_7_1_10, if_neg s_7_1_11, if_neg s_7_1_12, if_pos s_7_1_13, if_pos c_289_2]) (lv_sub hl [1] rfl) hP hD hS
  by_cases s_7_1_14 : a1 = (20 : Int32)
  · refine lv_tableIn (off := 296) (tgt := 303) hx hb dX4_performAt_7 (by rw [s_7_1_14]; decide) (by rw [s_7_1_14]; decide) (by rw [s_7_1_14]; rfl) (by decide) ?_
    refine lv_aload_n hx hb dX4_performAt_303 rfl (lv_at hl 1 rfl) ?_
    refine lv_aload_n hx hb dX4_performAt_304 rfl (lv_at hl 1 rfl) ?_
    refine gX_ac (v := (g_ac σ)) hx hb hts hown hK hP kw_108 rfl dX4_performAt_305 ?_
    refine lv_iload_n hx hb dX4_performAt_308 rfl (lv_at hl 0 rfl) ?_
    refine lv_icmp_eq (tgt := 316) hx hb dX4_performAt_309 (by decide) (fun c_309_3 => ?_) (fun c_309_3 => ?_)
    · have c_309_3 : (g_ac σ) = (x4_fetch σ a2) := c_309_3
      refine lv_iconst (v := (0 : Int32)) hx hb dX4_performAt_316 (by decide) ?_
      exact J_317 σ (0 : Int32) _ _ _ (by unfold x4_performAt; rw [if_neg s_7_1_0, if_neg s_7_1_1, if_neg s_7_1_2, if_neg s_7_1_3, if_neg s_7_1_4, if_neg s_7_1_5, if_neg s_7_1_6, if_neg s_7_1_7, if_neg s_7_1_8, if_neg s_7_1_9, if_neg s_7_1_10, if_neg s_7_1_11, if_neg s_7_1_12, if_neg s_7_1_13, if_pos s_7_1_14, if_pos c_309_3]) (lv_sub hl [1] rfl) hP hD hS
    · have c_309_3 : ¬ ((g_ac σ) = (x4_fetch σ a2)) := c_309_3
      refine lv_iconst (v := (1 : Int32)) hx hb dX4_performAt_312 (by decide) ?_
      refine lv_goto (tgt := 317) hx hb dX4_performAt_313 (by decide) ?_
      exact J_317 σ (1 : Int32) _ _ _ (by unfold x4_performAt; rw [if_neg s_7_1_0, if_neg s_7_1_1, if_neg s_7_1_2, if_neg s_7_1_3, if_neg s_7_1_4, if_neg s_7_1_5, if_neg s_7_1_6, if_neg s_7_1_7, if_neg s_7_1_8, if_neg s_7_1_9, if_neg s_7_1_10, if_neg s_7_1_11, if_neg s_7_1_12, if_neg s_7_1_13, if_pos s_7_1_14, if_neg c_309_3]) (lv_sub hl [1] rfl) hP hD hS
  by_cases s_7_1_15 : a1 = (21 : Int32)
  · refine lv_tableIn (off := 316) (tgt := 323) hx hb dX4_performAt_7 (by rw [s_7_1_15]; decide) (by rw [s_7_1_15]; decide) (by rw [s_7_1_15]; rfl) (by decide) ?_
    refine lv_aload_n hx hb dX4_performAt_323 rfl (lv_at hl 1 rfl) ?_
    refine lv_aload_n hx hb dX4_performAt_324 rfl (lv_at hl 1 rfl) ?_
    refine gX_ac (v := (g_ac σ)) hx hb hts hown hK hP kw_108 rfl dX4_performAt_325 ?_
    refine lv_iload_n hx hb dX4_performAt_328 rfl (lv_at hl 0 rfl) ?_
    refine lv_icmp_ne (tgt := 336) hx hb dX4_performAt_329 (by decide) (fun c_329_4 => ?_) (fun c_329_4 => ?_)
    · have c_329_4 : ¬ ((g_ac σ) = (x4_fetch σ a2)) := c_329_4
      refine lv_iconst (v := (0 : Int32)) hx hb dX4_performAt_336 (by decide) ?_
      exact J_337 σ (0 : Int32) _ _ _ (by unfold x4_performAt; rw [if_neg s_7_1_0, if_neg s_7_1_1, if_neg s_7_1_2, if_neg s_7_1_3, if_neg s_7_1_4, if_neg s_7_1_5, if_neg s_7_1_6, if_neg s_7_1_7, if_neg s_7_1_8, if_neg s_7_1_9, if_neg s_7_1_10, if_neg s_7_1_11, if_neg s_7_1_12, if_neg s_7_1_13, if_neg s_7_1_14, if_pos s_7_1_15, if_neg c_329_4]) (lv_sub hl [1] rfl) hP hD hS
    · have c_329_4 : (g_ac σ) = (x4_fetch σ a2) := c_329_4
      refine lv_iconst (v := (1 : Int32)) hx hb dX4_performAt_332 (by decide) ?_
      refine lv_goto (tgt := 337) hx hb dX4_performAt_333 (by decide) ?_
      exact J_337 σ (1 : Int32) _ _ _ (by unfold x4_performAt; rw [if_neg s_7_1_0, if_neg s_7_1_1, if_neg s_7_1_2, if_neg s_7_1_3, if_neg s_7_1_4, if_neg s_7_1_5, if_neg s_7_1_6, if_neg s_7_1_7, if_neg s_7_1_8, if_neg s_7_1_9, if_neg s_7_1_10, if_neg s_7_1_11, if_neg s_7_1_12, if_neg s_7_1_13, if_neg s_7_1_14, if_pos s_7_1_15, if_pos c_329_4]) (lv_sub hl [1] rfl) hP hD hS
  by_cases s_7_1_16 : a1 = (22 : Int32)
  · refine lv_tableIn (off := 336) (tgt := 343) hx hb dX4_performAt_7 (by rw [s_7_1_16]; decide) (by rw [s_7_1_16]; decide) (by rw [s_7_1_16]; rfl) (by decide) ?_
    refine lv_aload_n hx hb dX4_performAt_343 rfl (lv_at hl 1 rfl) ?_
    refine lv_iload_n hx hb dX4_performAt_344 rfl (lv_at hl 0 rfl) ?_
    refine call_Vv 1 (kX4_multiplyStep l D cI h _ (x4_fetch σ a2)) ⟨hx, hb, hml, hown, hts, hK, hN, hA⟩ ⟨kw_378, kw_380, ks_yX4_multiplyStep, kw_1, kw_381, by decide +kernel, rfl, rfl, Nat.le_of_ble_eq_true rfl, Nat.le_of_ble_eq_true rfl⟩ rfl (va_recv hK hP (ci := 4) (q0 := 0) rfl rfl) hP hD hS hl.1 rfl (Nat.le_of_ble_eq_true rfl) dX4_performAt_345 ⟨Nat.zero_le _, Nat.zero_le _⟩ (fun u H locs hw hP hD hS => ?_)
    have hw : (x4_multiplyStep σ (x4_fetch σ a2)) = u := hw
    subst hw
    refine lv_goto (tgt := 383) hx hb dX4_performAt_348 (by decide) ?_
    have hE : x4_performAt σ a1 a2 = (x4_multiplyStep σ (x4_fetch σ a2)) := (by unfold x4_performAt; rw [if_neg s_7_1_0, if_neg s_7_1_1, if_neg s_7_1_2, if_neg s_7_1_3, if_neg s_7_1_4, if_neg s_7_1_5, if_neg s_7_1_6, if_neg s_7_1_7, if_neg s_7_1_8, if_neg s_7_1_9, if_neg s_7_1_10, if_neg s_7_1_11, if_neg s_7_1_12, if_neg s_7_1_13, if_neg s_7_1_14, if_neg s_7_1_15, if_pos s_7_1_16])
    exact hret (x4_multiplyStep σ (x4_fetch σ a2)) _ _ _ _ hE hP hD hS dX4_performAt_383
  by_cases s_7_1_17 : a1 = (23 : Int32)
  · refine lv_tableIn (off := 344) (tgt := 351) hx hb dX4_performAt_7 (by rw [s_7_1_17]; decide) (by rw [s_7_1_17]; decide) (by rw [s_7_1_17]; rfl) (by decide) ?_
    refine lv_aload_n hx hb dX4_performAt_351 rfl (lv_at hl 1 rfl) ?_
    refine lv_iload_n hx hb dX4_performAt_352 rfl (lv_at hl 0 rfl) ?_
    refine call_Vv 1 (kX4_divideStep l D cI h _ (x4_fetch σ a2)) ⟨hx, hb, hml, hown, hts, hK, hN, hA⟩ ⟨kw_382, kw_384, ks_yX4_divideStep, kw_1, kw_385, by decide +kernel, rfl, rfl, Nat.le_of_ble_eq_true rfl, Nat.le_of_ble_eq_true rfl⟩ rfl (va_recv hK hP (ci := 4) (q0 := 0) rfl rfl) hP hD hS hl.1 rfl (Nat.le_of_ble_eq_true rfl) dX4_performAt_353 ⟨Nat.zero_le _, Nat.zero_le _⟩ (fun u H locs hw hP hD hS => ?_)
    have hw : (x4_divideStep σ (x4_fetch σ a2)) = u := hw
    subst hw
    refine lv_goto (tgt := 383) hx hb dX4_performAt_356 (by decide) ?_
    have hE : x4_performAt σ a1 a2 = (x4_divideStep σ (x4_fetch σ a2)) := (by unfold x4_performAt; rw [if_neg s_7_1_0, if_neg s_7_1_1, if_neg s_7_1_2, if_neg s_7_1_3, if_neg s_7_1_4, if_neg s_7_1_5, if_neg s_7_1_6, if_neg s_7_1_7, if_neg s_7_1_8, if_neg s_7_1_9, if_neg s_7_1_10, if_neg s_7_1_11, if_neg s_7_1_12, if_neg s_7_1_13, if_neg s_7_1_14, if_neg s_7_1_15, if_neg s_7_1_16, if_pos s_7_1_17])
    exact hret (x4_divideStep σ (x4_fetch σ a2)) _ _ _ _ hE hP hD hS dX4_performAt_383
  by_cases s_7_1_18 : a1 = (24 : Int32)
  · refine lv_tableIn (off := 352) (tgt := 359) hx hb dX4_performAt_7 (by rw [s_7_1_18]; decide) (by rw [s_7_1_18]; decide) (by rw [s_7_1_18]; rfl) (by decide) ?_
    refine lv_aload_n hx hb dX4_performAt_359 rfl (lv_at hl 1 rfl) ?_
    refine lv_iload_n hx hb dX4_performAt_360 rfl (lv_at hl 3 rfl) ?_
    refine pX_pc hx hb hts hown hK hP hD hS kw_110 dX4_performAt_361 (fun H locs hP hD hS => ?_)
    refine lv_goto (tgt := 383) hx hb dX4_performAt_364 (by decide) ?_
    have hE : x4_performAt σ a1 a2 = (s_pc σ a2) := (by unfold x4_performAt; rw [if_neg s_7_1_0, if_neg s_7_1_1, if_neg s_7_1_2, if_neg s_7_1_3, if_neg s_7_1_4, if_neg s_7_1_5, if_neg s_7_1_6, if_neg s_7_1_7, if_neg s_7_1_8, if_neg s_7_1_9, if_neg s_7_1_10, if_neg s_7_1_11, if_neg s_7_1_12, if_neg s_7_1_13, if_neg s_7_1_14, if_neg s_7_1_15, if_neg s_7_1_16, if_neg s_7_1_17, if_pos s_7_1_18])
    exact hret (s_pc σ a2) _ _ _ _ hE hP hD hS dX4_performAt_383
  by_cases s_7_1_19 : a1 = (25 : Int32)
  · refine lv_tableIn (off := 360) (tgt := 367) hx hb dX4_performAt_7 (by rw [s_7_1_19]; decide) (by rw [s_7_1_19]; decide) (by rw [s_7_1_19]; rfl) (by decide) ?_
    refine lv_aload_n hx hb dX4_performAt_367 rfl (lv_at hl 1 rfl) ?_
    refine lv_aload_n hx hb dX4_performAt_368 rfl (lv_at hl 1 rfl) ?_
    refine call_Vi 0 (kX4_place l D cI h _) ⟨hx, hb, hml, hown, hts, hK, hN, hA⟩ ⟨kw_229, kw_231, ks_yX4_place, kw_1, kw_232, by decide +kernel, rfl, rfl, Nat.le_of_ble_eq_true rfl, Nat.le_of_ble_eq_true rfl⟩ rfl (va_recv hK hP (ci := 4) (q0 := 0) rfl rfl) hP hD hS hl.1 rfl (Nat.le_of_ble_eq_true rfl) dX4_performAt_369 ⟨Nat.zero_le _, Nat.zero_le _⟩ (fun r369 u H locs hw hP hD hS => ?_)
    have hw : (x4_place σ) = r369 := hw
    subst hw
    refine pX_ac hx hb hts hown hK hP hD hS kw_108 dX4_performAt_372 (fun H locs hP hD hS => ?_)
    refine lv_aload_n hx hb dX4_performAt_375 rfl (lv_at hl 1 rfl) ?_
    refine lv_iload_n hx hb dX4_performAt_376 rfl (lv_at hl 3 rfl) ?_
    refine pX_pc hx hb hts hown hK hP hD hS kw_110 dX4_performAt_377 (fun H locs hP hD hS => ?_)
    refine lv_goto (tgt := 383) hx hb dX4_performAt_380 (by decide) ?_
    have hE : x4_performAt σ a1 a2 = (s_pc (s_ac σ (x4_place σ)) a2) := (by unfold x4_performAt; rw [if_neg s_7_1_0, if_neg s_7_1_1, if_neg s_7_1_2, if_neg s_7_1_3, if_neg s_7_1_4, if_neg s_7_1_5, if_neg s_7_1_6, if_neg s_7_1_7, if_neg s_7_1_8, if_neg s_7_1_9, if_neg s_7_1_10, if_neg s_7_1_11, if_neg s_7_1_12, if_neg s_7_1_13, if_neg s_7_1_14, if_neg s_7_1_15, if_neg s_7_1_16, if_neg s_7_1_17, if_neg s_7_1_18, if_pos s_7_1_19])
    exact hret (s_pc (s_ac σ (x4_place σ)) a2) _ _ _ _ hE hP hD hS dX4_performAt_383
  have dflt_7_4 : W p l e ({ frames := 3, cells := 0, slots := 0, locals := 65 } : Room) s m (([.ref (h 0), .int a1, .int a2] : List Value).toArray) below meth c H locs 0 0 Q (F0 m 383 ls []) := by
    have hE : x4_performAt σ a1 a2 = σ := (by unfold x4_performAt; rw [if_neg s_7_1_0, if_neg s_7_1_1, if_neg s_7_1_2, if_neg s_7_1_3, if_neg s_7_1_4, if_neg s_7_1_5, if_neg s_7_1_6, if_neg s_7_1_7, if_neg s_7_1_8, if_neg s_7_1_9, if_neg s_7_1_10, if_neg s_7_1_11, if_neg s_7_1_12, if_neg s_7_1_13, if_neg s_7_1_14, if_neg s_7_1_15, if_neg s_7_1_16, if_neg s_7_1_17, if_neg s_7_1_18, if_neg s_7_1_19])
    exact hret σ _ _ _ _ hE hP hD hS dX4_performAt_383
  by_cases s_7_1_d0 : a1 = (4 : Int32)
  · exact lv_tableIn (off := 376) (tgt := 383) hx hb dX4_performAt_7 (by rw [s_7_1_d0]; decide) (by rw [s_7_1_d0]; decide) (by rw [s_7_1_d0]; rfl) (by decide) dflt_7_4
  by_cases s_7_1_d1 : a1 = (5 : Int32)
  · exact lv_tableIn (off := 376) (tgt := 383) hx hb dX4_performAt_7 (by rw [s_7_1_d1]; decide) (by rw [s_7_1_d1]; decide) (by rw [s_7_1_d1]; rfl) (by decide) dflt_7_4
  by_cases s_7_1_d2 : a1 = (6 : Int32)
  · exact lv_tableIn (off := 376) (tgt := 383) hx hb dX4_performAt_7 (by rw [s_7_1_d2]; decide) (by rw [s_7_1_d2]; decide) (by rw [s_7_1_d2]; rfl) (by decide) dflt_7_4
  by_cases s_7_1_d3 : a1 = (7 : Int32)
  · exact lv_tableIn (off := 376) (tgt := 383) hx hb dX4_performAt_7 (by rw [s_7_1_d3]; decide) (by rw [s_7_1_d3]; decide) (by rw [s_7_1_d3]; rfl) (by decide) dflt_7_4
  by_cases s_7_1_d4 : a1 = (15 : Int32)
  · exact lv_tableIn (off := 376) (tgt := 383) hx hb dX4_performAt_7 (by rw [s_7_1_d4]; decide) (by rw [s_7_1_d4]; decide) (by rw [s_7_1_d4]; rfl) (by decide) dflt_7_4
  exact lv_tableOut (tgt := 383) hx hb dX4_performAt_7 (by have q0 := lv_neT s_7_1_0 (show (1 : Int32).toInt = 1 by decide); have q1 := lv_neT s_7_1_1 (show (2 : Int32).toInt = 2 by decide); have q2 := lv_neT s_7_1_2 (show (3 : Int32).toInt = 3 by decide); have q3 := lv_neT s_7_1_3 (show (8 : Int32).toInt = 8 by decide); have q4 := lv_neT s_7_1_4 (show (9 : Int32).toInt = 9 by decide); have q5 := lv_neT s_7_1_5 (show (10 : Int32).toInt = 10 by decide); have q6 := lv_neT s_7_1_6 (show (11 : Int32).toInt = 11 by decide); have q7 := lv_neT s_7_1_7 (show (12 : Int32).toInt = 12 by decide); have q8 := lv_neT s_7_1_8 (show (13 : Int32).toInt = 13 by decide); have q9 := lv_neT s_7_1_9 (show (14 : Int32).toInt = 14 by decide); have q10 := lv_neT s_7_1_10 (show (16 : Int32).toInt = 16 by decide); have q11 := lv_neT s_7_1_11 (show (17 : Int32).toInt = 17 by decide); have q12 := lv_neT s_7_1_12 (show (18 : Int32).toInt = 18 by decide); have q13 := lv_neT s_7_1_13 (show (19 : Int32).toInt = 19 by decide); have q14 := lv_neT s_7_1_14 (show (20 : Int32).toInt = 20 by decide); have q15 := lv_neT s_7_1_15 (show (21 : Int32).toInt = 21 by decide); have q16 := lv_neT s_7_1_16 (show (22 : Int32).toInt = 22 by decide); have q17 := lv_neT s_7_1_17 (show (23 : Int32).toInt = 23 by decide); have q18 := lv_neT s_7_1_18 (show (24 : Int32).toInt = 24 by decide); have q19 := lv_neT s_7_1_19 (show (25 : Int32).toInt = 25 by decide); have q20 := lv_neT s_7_1_d0 (show (4 : Int32).toInt = 4 by decide); have q21 := lv_neT s_7_1_d1 (show (5 : Int32).toInt = 5 by decide); have q22 := lv_neT s_7_1_d2 (show (6 : Int32).toInt = 6 by decide); have q23 := lv_neT s_7_1_d3 (show (7 : Int32).toInt = 7 by decide); have q24 := lv_neT s_7_1_d4 (show (15 : Int32).toInt = 15 by decide); omega) (by decide) dflt_7_4
