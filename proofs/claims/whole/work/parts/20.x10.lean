def x4_sum (a1 : Int32) (a2 : Int32) : Int32 := (if (a1 + a2) ≤ (262143 : Int32) then (a1 + a2) else ((a1 + a2) - (262143 : Int32)))
set_option maxRecDepth 100000 in
set_option maxHeartbeats 8000000 in
theorem kX4_sum (l : Launch) (D : va_G) (cI : ClassId) (w : va_W) (a1 : Int32) (a2 : Int32) : MetI l yX4_sum (wsU yX4_sum cX4_sum 3 (some .int)) { frames := 0, cells := 0, slots := 0, locals := 0 } D cI [.int a1, .int a2] w (fun _ : Unit => w) (fun r _ => (x4_sum a1 a2) = r) := by
  refine MetI.of (by decide) (Nat.le_of_ble_eq_true rfl) ?_
  intro p e s m below meth c A Q ls hx hb hml hown hts hK hN hA hret hP hD hS hl
  have hown : s.vm.findClass RX4 = some m.cls := hown
  have hl : lv_has ls 3 [(0, .int a1), (1, .int a2)] := hl
  suffices go : ∀ (H : Heap) (locs : List Loc), va_P D vwCl w H → va_D A w → va_S A s.heap H locs → W p l e ({ frames := 0, cells := 0, slots := 0, locals := 0 } : Room) s m (([.int a1, .int a2] : List Value).toArray) below meth c H locs 0 0 Q (F0 m 0 ls []) from go _ _ hP hD hS
  intro H locs hP hD hS
  refine lv_iload_n hx hb dX4_sum_0 rfl (lv_at hl 0 rfl) ?_
  refine lv_iload_n hx hb dX4_sum_1 rfl (lv_at hl 1 rfl) ?_
  refine lv_iadd hx hb dX4_sum_2 ?_
  refine lv_istore_n (lv' := [(2, .int (a1 + a2)), (0, .int a1), (1, .int a2)]) hx hb dX4_sum_3 rfl hl (by decide) rfl (fun ls hl => ?_)
  refine lv_iload_n hx hb dX4_sum_4 rfl (lv_at hl 0 rfl) ?_
  refine lv_ldc (v := (262143 : Int32)) hx hb hown (hts _ kw_163) dX4_sum_5 ?_
  refine lv_icmp_le (tgt := 17) hx hb dX4_sum_7 (by decide) (fun c_7_1 => ?_) (fun c_7_1 => ?_)
  · have c_7_1 : (a1 + a2) ≤ (262143 : Int32) := c_7_1
    refine lv_iload_n hx hb dX4_sum_17 rfl (lv_at hl 0 rfl) ?_
    have hE : x4_sum a1 a2 = (a1 + a2) := (by unfold x4_sum; rw [if_pos c_7_1])
    exact hret (a1 + a2) () _ _ _ _ rfl hE hP hD hS dX4_sum_18
  · have c_7_1 : ¬ ((a1 + a2) ≤ (262143 : Int32)) := c_7_1
    refine lv_iload_n hx hb dX4_sum_10 rfl (lv_at hl 0 rfl) ?_
    refine lv_ldc (v := (262143 : Int32)) hx hb hown (hts _ kw_163) dX4_sum_11 ?_
    refine lv_isub hx hb dX4_sum_13 ?_
    refine lv_goto (tgt := 18) hx hb dX4_sum_14 (by decide) ?_
    have hE : x4_sum a1 a2 = ((a1 + a2) - (262143 : Int32)) := (by unfold x4_sum; rw [if_neg c_7_1])
    exact hret ((a1 + a2) - (262143 : Int32)) () _ _ _ _ rfl hE hP hD hS dX4_sum_18
def x4_noteOverflow (σ : St) (a1 : Int32) (a2 : Int32) (a3 : Int32) : St := (if (x4_signOf a1) = (x4_signOf a2) then (if (x4_signOf a3) = (x4_signOf a1) then σ else (s_t5 (s_ov σ (1 : Int32)) ((g_t5 σ) + (1 : Int32)))) else σ)
set_option maxRecDepth 100000 in
set_option maxHeartbeats 8000000 in
theorem kX4_noteOverflow (l : Launch) (D : va_G) (cI : ClassId) (h : Nat → Nat) (σ : St) (a1 : Int32) (a2 : Int32) (a3 : Int32) : MetV l yX4_noteOverflow (wsU yX4_noteOverflow cX4_noteOverflow 4 none) { frames := 1, cells := 0, slots := 0, locals := 20 } D cI [.ref (h 0), .int a1, .int a2, .int a3] (wX h cI σ) (fun u : St => wX h cI u) (fun u => (x4_noteOverflow σ a1 a2 a3) = u) := by
  refine MetV.of (by decide) (Nat.le_of_ble_eq_true rfl) ?_
  intro p e s m below meth c A Q ls hx hb hml hown hts hK hN hA hret hP hD hS hl
  have hown : s.vm.findClass RX4 = some m.cls := hown
  have hl : lv_has ls 4 [(0, .ref (h 0)), (1, .int a1), (2, .int a2), (3, .int a3)] := hl
  suffices go : ∀ (H : Heap) (locs : List Loc), va_P D vwCl (wX h cI σ) H → va_D A (wX h cI σ) → va_S A s.heap H locs → W p l e ({ frames := 1, cells := 0, slots := 0, locals := 20 } : Room) s m (([.ref (h 0), .int a1, .int a2, .int a3] : List Value).toArray) below meth c H locs 0 0 Q (F0 m 0 ls []) from go _ _ hP hD hS
  intro H locs hP hD hS
  refine lv_iload_n hx hb dX4_noteOverflow_0 rfl (lv_at hl 1 rfl) ?_
  refine call_Si 1 (kX4_signOf l D cI _ a1) ⟨hx, hb, hml, hown, hts, hK, hN, hA⟩ ⟨kw_273, kw_274, kw_1, kw_275, by decide +kernel, rfl, rfl, Nat.le_of_ble_eq_true rfl, Nat.le_of_ble_eq_true rfl⟩ rfl hP hD hS hl.1 rfl (Nat.le_of_ble_eq_true rfl) dX4_noteOverflow_1 ⟨Nat.zero_le _, Nat.zero_le _⟩ (fun r1 u H locs hw hP hD hS => ?_)
  have hw : (x4_signOf a1) = r1 := hw
  subst hw
  refine lv_iload_n hx hb dX4_noteOverflow_4 rfl (lv_at hl 2 rfl) ?_
  refine call_Si 1 (kX4_signOf l D cI _ a2) ⟨hx, hb, hml, hown, hts, hK, hN, hA⟩ ⟨kw_273, kw_274, kw_1, kw_275, by decide +kernel, rfl, rfl, Nat.le_of_ble_eq_true rfl, Nat.le_of_ble_eq_true rfl⟩ rfl hP hD hS hl.1 rfl (Nat.le_of_ble_eq_true rfl) dX4_noteOverflow_5 ⟨Nat.zero_le _, Nat.zero_le _⟩ (fun r5 u H locs hw hP hD hS => ?_)
  have hw : (x4_signOf a2) = r5 := hw
  subst hw
  refine lv_icmp_ne (tgt := 40) hx hb dX4_noteOverflow_8 (by decide) (fun c_8_1 => ?_) (fun c_8_1 => ?_)
  · have c_8_1 : ¬ ((x4_signOf a1) = (x4_signOf a2)) := c_8_1
    have hE : x4_noteOverflow σ a1 a2 a3 = σ := (by unfold x4_noteOverflow; rw [if_neg c_8_1])
    exact hret σ _ _ _ _ hE hP hD hS dX4_noteOverflow_40
  · have c_8_1 : (x4_signOf a1) = (x4_signOf a2) := c_8_1
    refine lv_iload_n hx hb dX4_noteOverflow_11 rfl (lv_at hl 3 rfl) ?_
    refine call_Si 1 (kX4_signOf l D cI _ a3) ⟨hx, hb, hml, hown, hts, hK, hN, hA⟩ ⟨kw_273, kw_274, kw_1, kw_275, by decide +kernel, rfl, rfl, Nat.le_of_ble_eq_true rfl, Nat.le_of_ble_eq_true rfl⟩ rfl hP hD hS hl.1 rfl (Nat.le_of_ble_eq_true rfl) dX4_noteOverflow_12 ⟨Nat.zero_le _, Nat.zero_le _⟩ (fun r12 u H locs hw hP hD hS => ?_)
    have hw : (x4_signOf a3) = r12 := hw
    subst hw
    refine lv_iload_n hx hb dX4_noteOverflow_15 rfl (lv_at hl 1 rfl) ?_
    refine call_Si 1 (kX4_signOf l D cI _ a1) ⟨hx, hb, hml, hown, hts, hK, hN, hA⟩ ⟨kw_273, kw_274, kw_1, kw_275, by decide +kernel, rfl, rfl, Nat.le_of_ble_eq_true rfl, Nat.le_of_ble_eq_true rfl⟩ rfl hP hD hS hl.1 rfl (Nat.le_of_ble_eq_true rfl) dX4_noteOverflow_16 ⟨Nat.zero_le _, Nat.zero_le _⟩ (fun r16 u H locs hw hP hD hS => ?_)
    have hw : (x4_signOf a1) = r16 := hw
    subst hw
    refine lv_icmp_eq (tgt := 40) hx hb dX4_noteOverflow_19 (by decide) (fun c_19_2 => ?_) (fun c_19_2 => ?_)
    · have c_19_2 : (x4_signOf a3) = (x4_signOf a1) := c_19_2
      have hE : x4_noteOverflow σ a1 a2 a3 = σ := (by unfold x4_noteOverflow; rw [if_pos c_8_1, if_pos c_19_2])
      exact hret σ _ _ _ _ hE hP hD hS dX4_noteOverflow_40
    · have c_19_2 : ¬ ((x4_signOf a3) = (x4_signOf a1)) := c_19_2
      refine lv_aload_n hx hb dX4_noteOverflow_22 rfl (lv_at hl 0 rfl) ?_
      refine lv_iconst (v := (1 : Int32)) hx hb dX4_noteOverflow_23 (by decide) ?_
      refine pX_ov hx hb hts hown hK hP hD hS kw_111 dX4_noteOverflow_24 (fun H locs hP hD hS => ?_)
      refine lv_aload_n hx hb dX4_noteOverflow_27 rfl (lv_at hl 0 rfl) ?_
      refine gX_ref9 hx hb hts hown hK hP kw_121 dX4_noteOverflow_28 ?_
      refine lv_dup hx hb dX4_noteOverflow_31 rfl ?_
      refine gXN_t5 (v := (g_t5 σ)) hx hb hts hown hK hP (nc_at hN 6 rfl) rfl dX4_noteOverflow_32 ?_
      refine lv_iconst (v := (1 : Int32)) hx hb dX4_noteOverflow_35 (by decide) ?_
      refine lv_iadd hx hb dX4_noteOverflow_36 ?_
      refine pXN_t5 hx hb hts hown hK hP hD hS (nc_at hN 6 rfl) dX4_noteOverflow_37 (fun H locs hP hD hS => ?_)
      have hE : x4_noteOverflow σ a1 a2 a3 = (s_t5 (s_ov σ (1 : Int32)) ((g_t5 σ) + (1 : Int32))) := (by unfold x4_noteOverflow; rw [if_pos c_8_1, if_neg c_19_2])
      exact hret (s_t5 (s_ov σ (1 : Int32)) ((g_t5 σ) + (1 : Int32))) _ _ _ _ hE hP hD hS dX4_noteOverflow_40
def x4_withoutMinusZero (a1 : Int32) : Int32 := (if a1 = (262143 : Int32) then (0 : Int32) else a1)
set_option maxRecDepth 100000 in
set_option maxHeartbeats 8000000 in
theorem kX4_withoutMinusZero (l : Launch) (D : va_G) (cI : ClassId) (w : va_W) (a1 : Int32) : MetI l yX4_withoutMinusZero (wsU yX4_withoutMinusZero cX4_withoutMinusZero 1 (some .int)) { frames := 0, cells := 0, slots := 0, locals := 0 } D cI [.int a1] w (fun _ : Unit => w) (fun r _ => (x4_withoutMinusZero a1) = r) := by
  refine MetI.of (by decide) (Nat.le_of_ble_eq_true rfl) ?_
  intro p e s m below meth c A Q ls hx hb hml hown hts hK hN hA hret hP hD hS hl
  have hown : s.vm.findClass RX4 = some m.cls := hown
  have hl : lv_has ls 1 [(0, .int a1)] := hl
  suffices go : ∀ (H : Heap) (locs : List Loc), va_P D vwCl w H → va_D A w → va_S A s.heap H locs → W p l e ({ frames := 0, cells := 0, slots := 0, locals := 0 } : Room) s m (([.int a1] : List Value).toArray) below meth c H locs 0 0 Q (F0 m 0 ls []) from go _ _ hP hD hS
  intro H locs hP hD hS
  refine lv_iload_n hx hb dX4_withoutMinusZero_0 rfl (lv_at hl 0 rfl) ?_
  refine lv_ldc (v := (262143 : Int32)) hx hb hown (hts _ kw_163) dX4_withoutMinusZero_1 ?_
  refine lv_icmp_ne (tgt := 10) hx hb dX4_withoutMinusZero_3 (by decide) (fun c_3_1 => ?_) (fun c_3_1 => ?_)
  · have c_3_1 : ¬ (a1 = (262143 : Int32)) := c_3_1
    refine lv_iload_n hx hb dX4_withoutMinusZero_10 rfl (lv_at hl 0 rfl) ?_
    have hE : x4_withoutMinusZero a1 = a1 := (by unfold x4_withoutMinusZero; rw [if_neg c_3_1])
    exact hret a1 () _ _ _ _ rfl hE hP hD hS dX4_withoutMinusZero_11
  · have c_3_1 : a1 = (262143 : Int32) := c_3_1
    refine lv_iconst (v := (0 : Int32)) hx hb dX4_withoutMinusZero_6 (by decide) ?_
    refine lv_goto (tgt := 11) hx hb dX4_withoutMinusZero_7 (by decide) ?_
    have hE : x4_withoutMinusZero a1 = (0 : Int32) := (by unfold x4_withoutMinusZero; rw [if_pos c_3_1])
    exact hret (0 : Int32) () _ _ _ _ rfl hE hP hD hS dX4_withoutMinusZero_11
def x4_add (σ : St) (a1 : Int32) : St := (s_ac (x4_noteOverflow σ (g_ac σ) a1 (x4_sum (g_ac σ) a1)) (x4_withoutMinusZero (x4_sum (g_ac σ) a1)))
set_option maxRecDepth 100000 in
set_option maxHeartbeats 8000000 in
theorem kX4_add (l : Launch) (D : va_G) (cI : ClassId) (h : Nat → Nat) (σ : St) (a1 : Int32) : MetV l yX4_add (wsU yX4_add cX4_add 3 none) { frames := 2, cells := 0, slots := 0, locals := 43 } D cI [.ref (h 0), .int a1] (wX h cI σ) (fun u : St => wX h cI u) (fun u => (x4_add σ a1) = u) := by
  refine MetV.of (by decide) (Nat.le_of_ble_eq_true rfl) ?_
  intro p e s m below meth c A Q ls hx hb hml hown hts hK hN hA hret hP hD hS hl
  have hown : s.vm.findClass RX4 = some m.cls := hown
  have hl : lv_has ls 3 [(0, .ref (h 0)), (1, .int a1)] := hl
  suffices go : ∀ (H : Heap) (locs : List Loc), va_P D vwCl (wX h cI σ) H → va_D A (wX h cI σ) → va_S A s.heap H locs → W p l e ({ frames := 2, cells := 0, slots := 0, locals := 43 } : Room) s m (([.ref (h 0), .int a1] : List Value).toArray) below meth c H locs 0 0 Q (F0 m 0 ls []) from go _ _ hP hD hS
  intro H locs hP hD hS
  refine lv_aload_n hx hb dX4_add_0 rfl (lv_at hl 0 rfl) ?_
  refine gX_ac (v := (g_ac σ)) hx hb hts hown hK hP kw_108 rfl dX4_add_1 ?_
  refine lv_iload_n hx hb dX4_add_4 rfl (lv_at hl 1 rfl) ?_
  refine call_Si 2 (kX4_sum l D cI _ (g_ac σ) a1) ⟨hx, hb, hml, hown, hts, hK, hN, hA⟩ ⟨kw_360, kw_361, kw_1, kw_362, by decide +kernel, rfl, rfl, Nat.le_of_ble_eq_true rfl, Nat.le_of_ble_eq_true rfl⟩ rfl hP hD hS hl.1 rfl (Nat.le_of_ble_eq_true rfl) dX4_add_5 ⟨Nat.zero_le _, Nat.zero_le _⟩ (fun r5 u H locs hw hP hD hS => ?_)
  have hw : (x4_sum (g_ac σ) a1) = r5 := hw
  subst hw
  refine lv_istore_n (lv' := [(2, .int (x4_sum (g_ac σ) a1)), (0, .ref (h 0)), (1, .int a1)]) hx hb dX4_add_8 rfl hl (by decide) rfl (fun ls hl => ?_)
  refine lv_aload_n hx hb dX4_add_9 rfl (lv_at hl 1 rfl) ?_
  refine lv_aload_n hx hb dX4_add_10 rfl (lv_at hl 1 rfl) ?_
  refine gX_ac (v := (g_ac σ)) hx hb hts hown hK hP kw_108 rfl dX4_add_11 ?_
  refine lv_iload_n hx hb dX4_add_14 rfl (lv_at hl 2 rfl) ?_
  refine lv_iload_n hx hb dX4_add_15 rfl (lv_at hl 0 rfl) ?_
  refine call_Vv 3 (kX4_noteOverflow l D cI h _ (g_ac σ) a1 (x4_sum (g_ac σ) a1)) ⟨hx, hb, hml, hown, hts, hK, hN, hA⟩ ⟨kw_363, kw_365, ks_yX4_noteOverflow, kw_1, kw_366, by decide +kernel, rfl, rfl, Nat.le_of_ble_eq_true rfl, Nat.le_of_ble_eq_true rfl⟩ rfl (va_recv hK hP (ci := 4) (q0 := 0) rfl rfl) hP hD hS hl.1 rfl (Nat.le_of_ble_eq_true rfl) dX4_add_16 ⟨Nat.zero_le _, Nat.zero_le _⟩ (fun u H locs hw hP hD hS => ?_)
  have hw : (x4_noteOverflow σ (g_ac σ) a1 (x4_sum (g_ac σ) a1)) = u := hw
  subst hw
  refine lv_aload_n hx hb dX4_add_19 rfl (lv_at hl 1 rfl) ?_
  refine lv_iload_n hx hb dX4_add_20 rfl (lv_at hl 0 rfl) ?_
  refine call_Si 1 (kX4_withoutMinusZero l D cI _ (x4_sum (g_ac σ) a1)) ⟨hx, hb, hml, hown, hts, hK, hN, hA⟩ ⟨kw_367, kw_368, kw_1, kw_369, by decide +kernel, rfl, rfl, Nat.le_of_ble_eq_true rfl, Nat.le_of_ble_eq_true rfl⟩ rfl hP hD hS hl.1 rfl (Nat.le_of_ble_eq_true rfl) dX4_add_21 ⟨Nat.zero_le _, Nat.zero_le _⟩ (fun r21 u H locs hw hP hD hS => ?_)
  have hw : (x4_withoutMinusZero (x4_sum (g_ac σ) a1)) = r21 := hw
  subst hw
  refine pX_ac hx hb hts hown hK hP hD hS kw_108 dX4_add_24 (fun H locs hP hD hS => ?_)
  have hE : x4_add σ a1 = (s_ac (x4_noteOverflow σ (g_ac σ) a1 (x4_sum (g_ac σ) a1)) (x4_withoutMinusZero (x4_sum (g_ac σ) a1))) := (by unfold x4_add; rfl)
  exact hret (s_ac (x4_noteOverflow σ (g_ac σ) a1 (x4_sum (g_ac σ) a1)) (x4_withoutMinusZero (x4_sum (g_ac σ) a1))) _ _ _ _ hE hP hD hS dX4_add_27
def x4_subtract (σ : St) (a1 : Int32) : St := (s_ac (x4_noteOverflow σ (x4_not (g_ac σ)) a1 (x4_sum (x4_not (g_ac σ)) a1)) (x4_not (x4_sum (x4_not (g_ac σ)) a1)))
set_option maxRecDepth 100000 in
set_option maxHeartbeats 8000000 in
theorem kX4_subtract (l : Launch) (D : va_G) (cI : ClassId) (h : Nat → Nat) (σ : St) (a1 : Int32) : MetV l yX4_subtract (wsU yX4_subtract cX4_subtract 3 none) { frames := 2, cells := 0, slots := 0, locals := 43 } D cI [.ref (h 0), .int a1] (wX h cI σ) (fun u : St => wX h cI u) (fun u => (x4_subtract σ a1) = u) := by
  refine MetV.of (by decide) (Nat.le_of_ble_eq_true rfl) ?_
  intro p e s m below meth c A Q ls hx hb hml hown hts hK hN hA hret hP hD hS hl
  have hown : s.vm.findClass RX4 = some m.cls := hown
  have hl : lv_has ls 3 [(0, .ref (h 0)), (1, .int a1)] := hl
  suffices go : ∀ (H : Heap) (locs : List Loc), va_P D vwCl (wX h cI σ) H → va_D A (wX h cI σ) → va_S A s.heap H locs → W p l e ({ frames := 2, cells := 0, slots := 0, locals := 43 } : Room) s m (([.ref (h 0), .int a1] : List Value).toArray) below meth c H locs 0 0 Q (F0 m 0 ls []) from go _ _ hP hD hS
  intro H locs hP hD hS
  refine lv_aload_n hx hb dX4_subtract_0 rfl (lv_at hl 0 rfl) ?_
  refine gX_ac (v := (g_ac σ)) hx hb hts hown hK hP kw_108 rfl dX4_subtract_1 ?_
  refine call_Si 1 (kX4_not l D cI _ (g_ac σ)) ⟨hx, hb, hml, hown, hts, hK, hN, hA⟩ ⟨kw_325, kw_326, kw_1, kw_327, by decide +kernel, rfl, rfl, Nat.le_of_ble_eq_true rfl, Nat.le_of_ble_eq_true rfl⟩ rfl hP hD hS hl.1 rfl (Nat.le_of_ble_eq_true rfl) dX4_subtract_4 ⟨Nat.zero_le _, Nat.zero_le _⟩ (fun r4 u H locs hw hP hD hS => ?_)
  have hw : (x4_not (g_ac σ)) = r4 := hw
  subst hw
  refine lv_iload_n hx hb dX4_subtract_7 rfl (lv_at hl 1 rfl) ?_
  refine call_Si 2 (kX4_sum l D cI _ (x4_not (g_ac σ)) a1) ⟨hx, hb, hml, hown, hts, hK, hN, hA⟩ ⟨kw_360, kw_361, kw_1, kw_362, by decide +kernel, rfl, rfl, Nat.le_of_ble_eq_true rfl, Nat.le_of_ble_eq_true rfl⟩ rfl hP hD hS hl.1 rfl (Nat.le_of_ble_eq_true rfl) dX4_subtract_8 ⟨Nat.zero_le _, Nat.zero_le _⟩ (fun r8 u H locs hw hP hD hS => ?_)
  have hw : (x4_sum (x4_not (g_ac σ)) a1) = r8 := hw
  subst hw
  refine lv_istore_n (lv' := [(2, .int (x4_sum (x4_not (g_ac σ)) a1)), (0, .ref (h 0)), (1, .int a1)]) hx hb dX4_subtract_11 rfl hl (by decide) rfl (fun ls hl => ?_)
  refine lv_aload_n hx hb dX4_subtract_12 rfl (lv_at hl 1 rfl) ?_
  refine lv_aload_n hx hb dX4_subtract_13 rfl (lv_at hl 1 rfl) ?_
  refine gX_ac (v := (g_ac σ)) hx hb hts hown hK hP kw_108 rfl dX4_subtract_14 ?_
  refine call_Si 1 (kX4_not l D cI _ (g_ac σ)) ⟨hx, hb, hml, hown, hts, hK, hN, hA⟩ ⟨kw_325, kw_326, kw_1, kw_327, by decide +kernel, rfl, rfl, Nat.le_of_ble_eq_true rfl, Nat.le_of_ble_eq_true rfl⟩ rfl hP hD hS hl.1 rfl (Nat.le_of_ble_eq_true rfl) dX4_subtract_17 ⟨Nat.zero_le _, Nat.zero_le _⟩ (fun r17 u H locs hw hP hD hS => ?_)
  have hw : (x4_not (g_ac σ)) = r17 := hw
  subst hw
  refine lv_iload_n hx hb dX4_subtract_20 rfl (lv_at hl 2 rfl) ?_
  refine lv_iload_n hx hb dX4_subtract_21 rfl (lv_at hl 0 rfl) ?_
  refine call_Vv 3 (kX4_noteOverflow l D cI h _ (x4_not (g_ac σ)) a1 (x4_sum (x4_not (g_ac σ)) a1)) ⟨hx, hb, hml, hown, hts, hK, hN, hA⟩ ⟨kw_363, kw_365, ks_yX4_noteOverflow, kw_1, kw_366, by decide +kernel, rfl, rfl, Nat.le_of_ble_eq_true rfl, Nat.le_of_ble_eq_true rfl⟩ rfl (va_recv hK hP (ci := 4) (q0 := 0) rfl rfl) hP hD hS hl.1 rfl (Nat.le_of_ble_eq_true rfl) dX4_subtract_22 ⟨Nat.zero_le _, Nat.zero_le _⟩ (fun u H locs hw hP hD hS => ?_)
  have hw : (x4_noteOverflow σ (x4_not (g_ac σ)) a1 (x4_sum (x4_not (g_ac σ)) a1)) = u := hw
  subst hw
  refine lv_aload_n hx hb dX4_subtract_25 rfl (lv_at hl 1 rfl) ?_
  refine lv_iload_n hx hb dX4_subtract_26 rfl (lv_at hl 0 rfl) ?_
  refine call_Si 1 (kX4_not l D cI _ (x4_sum (x4_not (g_ac σ)) a1)) ⟨hx, hb, hml, hown, hts, hK, hN, hA⟩ ⟨kw_325, kw_326, kw_1, kw_327, by decide +kernel, rfl, rfl, Nat.le_of_ble_eq_true rfl, Nat.le_of_ble_eq_true rfl⟩ rfl hP hD hS hl.1 rfl (Nat.le_of_ble_eq_true rfl) dX4_subtract_27 ⟨Nat.zero_le _, Nat.zero_le _⟩ (fun r27 u H locs hw hP hD hS => ?_)
  have hw : (x4_not (x4_sum (x4_not (g_ac σ)) a1)) = r27 := hw
  subst hw
  refine pX_ac hx hb hts hown hK hP hD hS kw_108 dX4_subtract_30 (fun H locs hP hD hS => ?_)
  have hE : x4_subtract σ a1 = (s_ac (x4_noteOverflow σ (x4_not (g_ac σ)) a1 (x4_sum (x4_not (g_ac σ)) a1)) (x4_not (x4_sum (x4_not (g_ac σ)) a1))) := (by unfold x4_subtract; rfl)
  exact hret (s_ac (x4_noteOverflow σ (x4_not (g_ac σ)) a1 (x4_sum (x4_not (g_ac σ)) a1)) (x4_not (x4_sum (x4_not (g_ac σ)) a1))) _ _ _ _ hE hP hD hS dX4_subtract_33
def x4_index_23 (σ : St) (x1_23 : Int32) (z1_23 : Int32) : St := (x4_store (s_ac σ z1_23) x1_23 z1_23)
def x4_index (σ : St) (a1 : Int32) : St := (if ((x4_fetch σ a1) + (1 : Int32)) < (262143 : Int32) then x4_index_23 σ a1 ((x4_fetch σ a1) + (1 : Int32)) else x4_index_23 σ a1 (((x4_fetch σ a1) + (1 : Int32)) - (262143 : Int32)))
set_option maxRecDepth 100000 in
set_option maxHeartbeats 8000000 in
theorem kX4_index (l : Launch) (D : va_G) (cI : ClassId) (h : Nat → Nat) (σ : St) (a1 : Int32) : MetV l yX4_index (wsU yX4_index cX4_index 3 none) { frames := 1, cells := 0, slots := 0, locals := 22 } D cI [.ref (h 0), .int a1] (wX h cI σ) (fun u : St => wX h cI u) (fun u => (x4_index σ a1) = u) := by
  refine MetV.of (by decide) (Nat.le_of_ble_eq_true rfl) ?_
  intro p e s m below meth c A Q ls hx hb hml hown hts hK hN hA hret hP hD hS hl
  have hown : s.vm.findClass RX4 = some m.cls := hown
  have hl : lv_has ls 3 [(0, .ref (h 0)), (1, .int a1)] := hl
  have J_23 : ∀ (σ' : St) (x1_23 : Int32) (z1_23 : Int32) (H : Heap) (locs : List Loc) (ls : Array Slot), x4_index σ a1 = x4_index_23 σ' x1_23 z1_23 → lv_has ls 3 [(0, .ref (h 0)), (1, .int x1_23)] → va_P D vwCl (wX h cI σ') H → va_D A (wX h cI σ') → va_S A s.heap H locs → W p l e ({ frames := 1, cells := 0, slots := 0, locals := 22 } : Room) s m (([.ref (h 0), .int a1] : List Value).toArray) below meth c H locs 0 0 Q (F0 m 23 ls [.int z1_23, .ref (h 0)]) := by
    intro σ' x1_23 z1_23 H locs ls E hl hP hD hS
    refine pX_ac hx hb hts hown hK hP hD hS kw_108 dX4_index_23 (fun H locs hP hD hS => ?_)
    refine lv_aload_n hx hb dX4_index_26 rfl (lv_at hl 0 rfl) ?_
    refine lv_iload_n hx hb dX4_index_27 rfl (lv_at hl 1 rfl) ?_
    refine lv_aload_n hx hb dX4_index_28 rfl (lv_at hl 0 rfl) ?_
    refine gX_ac (v := z1_23) hx hb hts hown hK hP kw_108 rfl dX4_index_29 ?_
    refine call_Vv 2 (kX4_store l D cI h _ x1_23 z1_23) ⟨hx, hb, hml, hown, hts, hK, hN, hA⟩ ⟨kw_168, kw_170, ks_yX4_store, kw_1, kw_171, by decide +kernel, rfl, rfl, Nat.le_of_ble_eq_true rfl, Nat.le_of_ble_eq_true rfl⟩ rfl (va_recv hK hP (ci := 4) (q0 := 0) rfl rfl) hP hD hS hl.1 rfl (Nat.le_of_ble_eq_true rfl) dX4_index_32 ⟨Nat.zero_le _, Nat.zero_le _⟩ (fun u H locs hw hP hD hS => ?_)
    have hw : (x4_store (s_ac σ' z1_23) x1_23 z1_23) = u := hw
    subst hw
    have hE : x4_index σ a1 = (x4_store (s_ac σ' z1_23) x1_23 z1_23) := (E.trans (by unfold x4_index_23; rfl))
    exact hret (x4_store (s_ac σ' z1_23) x1_23 z1_23) _ _ _ _ hE hP hD hS dX4_index_35
  suffices go : ∀ (H : Heap) (locs : List Loc), va_P D vwCl (wX h cI σ) H → va_D A (wX h cI σ) → va_S A s.heap H locs → W p l e ({ frames := 1, cells := 0, slots := 0, locals := 22 } : Room) s m (([.ref (h 0), .int a1] : List Value).toArray) below meth c H locs 0 0 Q (F0 m 0 ls []) from go _ _ hP hD hS
  intro H locs hP hD hS
  refine lv_aload_n hx hb dX4_index_0 rfl (lv_at hl 0 rfl) ?_
  refine lv_iload_n hx hb dX4_index_1 rfl (lv_at hl 1 rfl) ?_
  refine call_Vi 1 (kX4_fetch l D cI h _ a1) ⟨hx, hb, hml, hown, hts, hK, hN, hA⟩ ⟨kw_164, kw_166, ks_yX4_fetch, kw_1, kw_167, by decide +kernel, rfl, rfl, Nat.le_of_ble_eq_true rfl, Nat.le_of_ble_eq_true rfl⟩ rfl (va_recv hK hP (ci := 4) (q0 := 0) rfl rfl) hP hD hS hl.1 rfl (Nat.le_of_ble_eq_true rfl) dX4_index_2 ⟨Nat.zero_le _, Nat.zero_le _⟩ (fun r2 u H locs hw hP hD hS => ?_)
  have hw : (x4_fetch σ a1) = r2 := hw
  subst hw
  refine lv_iconst (v := (1 : Int32)) hx hb dX4_index_5 (by decide) ?_
  refine lv_iadd hx hb dX4_index_6 ?_
  refine lv_istore_n (lv' := [(2, .int ((x4_fetch σ a1) + (1 : Int32))), (0, .ref (h 0)), (1, .int a1)]) hx hb dX4_index_7 rfl hl (by decide) rfl (fun ls hl => ?_)
  refine lv_aload_n hx hb dX4_index_8 rfl (lv_at hl 1 rfl) ?_
  refine lv_iload_n hx hb dX4_index_9 rfl (lv_at hl 0 rfl) ?_
  refine lv_ldc (v := (262143 : Int32)) hx hb hown (hts _ kw_163) dX4_index_10 ?_
  refine lv_icmp_lt (tgt := 22) hx hb dX4_index_12 (by decide) (fun c_12_1 => ?_) (fun c_12_1 => ?_)
  · have c_12_1 : ((x4_fetch σ a1) + (1 : Int32)) < (262143 : Int32) := c_12_1
    refine lv_iload_n hx hb dX4_index_22 rfl (lv_at hl 0 rfl) ?_
    exact J_23 σ a1 ((x4_fetch σ a1) + (1 : Int32)) _ _ _ (by unfold x4_index; rw [if_pos c_12_1]) (lv_sub hl [1, 2] rfl) hP hD hS
  · have c_12_1 : ¬ (((x4_fetch σ a1) + (1 : Int32)) < (262143 : Int32)) := c_12_1
    refine lv_iload_n hx hb dX4_index_15 rfl (lv_at hl 0 rfl) ?_
    refine lv_ldc (v := (262143 : Int32)) hx hb hown (hts _ kw_163) dX4_index_16 ?_
    refine lv_isub hx hb dX4_index_18 ?_
    refine lv_goto (tgt := 23) hx hb dX4_index_19 (by decide) ?_
    exact J_23 σ a1 (((x4_fetch σ a1) + (1 : Int32)) - (262143 : Int32)) _ _ _ (by unfold x4_index; rw [if_neg c_12_1]) (lv_sub hl [1, 2] rfl) hP hD hS
def x4_multiplyStep_25 (σ : St)  : St := (x4_setBoth σ ((x4_both σ) >>> (Int32.toInt64 (1 : Int32) &&& 63)))
def x4_multiplyStep (σ : St) (a1 : Int32) : St := (if ((g_io σ) &&& (1 : Int32)) = (1 : Int32) then x4_multiplyStep_25 (s_ac σ (x4_withoutMinusZero (x4_sum (g_ac σ) a1))) else x4_multiplyStep_25 σ)
set_option maxRecDepth 100000 in
set_option maxHeartbeats 8000000 in
theorem kX4_multiplyStep (l : Launch) (D : va_G) (cI : ClassId) (h : Nat → Nat) (σ : St) (a1 : Int32) : MetV l yX4_multiplyStep (wsU yX4_multiplyStep cX4_multiplyStep 2 none) { frames := 1, cells := 0, slots := 0, locals := 22 } D cI [.ref (h 0), .int a1] (wX h cI σ) (fun u : St => wX h cI u) (fun u => (x4_multiplyStep σ a1) = u) := by
  refine MetV.of (by decide) (Nat.le_of_ble_eq_true rfl) ?_
  intro p e s m below meth c A Q ls hx hb hml hown hts hK hN hA hret hP hD hS hl
  have hown : s.vm.findClass RX4 = some m.cls := hown
  have hl : lv_has ls 2 [(0, .ref (h 0)), (1, .int a1)] := hl
  have J_25 : ∀ (σ' : St) (H : Heap) (locs : List Loc) (ls : Array Slot), x4_multiplyStep σ a1 = x4_multiplyStep_25 σ' → lv_has ls 2 [(0, .ref (h 0))] → va_P D vwCl (wX h cI σ') H → va_D A (wX h cI σ') → va_S A s.heap H locs → W p l e ({ frames := 1, cells := 0, slots := 0, locals := 22 } : Room) s m (([.ref (h 0), .int a1] : List Value).toArray) below meth c H locs 0 0 Q (F0 m 25 ls []) := by
    intro σ'  H locs ls E hl hP hD hS
    refine lv_aload_n hx hb dX4_multiplyStep_25 rfl (lv_at hl 0 rfl) ?_
    refine lv_aload_n hx hb dX4_multiplyStep_26 rfl (lv_at hl 0 rfl) ?_
    refine call_Vl 0 (kX4_both l D cI h _) ⟨hx, hb, hml, hown, hts, hK, hN, hA⟩ ⟨kw_317, kw_319, ks_yX4_both, kw_1, kw_320, by decide +kernel, rfl, rfl, Nat.le_of_ble_eq_true rfl, Nat.le_of_ble_eq_true rfl⟩ rfl (va_recv hK hP (ci := 4) (q0 := 0) rfl rfl) hP hD hS hl.1 rfl (Nat.le_of_ble_eq_true rfl) dX4_multiplyStep_27 ⟨Nat.zero_le _, Nat.zero_le _⟩ (fun r27 u H locs hw hP hD hS => ?_)
    have hw : (x4_both σ') = r27 := hw
    subst hw
    refine lv_iconst (v := (1 : Int32)) hx hb dX4_multiplyStep_30 (by decide) ?_
    refine lv_lshr (v := ((x4_both σ') >>> (Int32.toInt64 (1 : Int32) &&& 63))) hx hb dX4_multiplyStep_31 rfl ?_
    refine call_Vv 1 (kX4_setBoth l D cI h _ ((x4_both σ') >>> (Int32.toInt64 (1 : Int32) &&& 63))) ⟨hx, hb, hml, hown, hts, hK, hN, hA⟩ ⟨kw_321, kw_323, ks_yX4_setBoth, kw_1, kw_324, by decide +kernel, rfl, rfl, Nat.le_of_ble_eq_true rfl, Nat.le_of_ble_eq_true rfl⟩ rfl (va_recv hK hP (ci := 4) (q0 := 0) rfl rfl) hP hD hS hl.1 rfl (Nat.le_of_ble_eq_true rfl) dX4_multiplyStep_32 ⟨Nat.zero_le _, Nat.zero_le _⟩ (fun u H locs hw hP hD hS => ?_)
    have hw : (x4_setBoth σ' ((x4_both σ') >>> (Int32.toInt64 (1 : Int32) &&& 63))) = u := hw
    subst hw
    have hE : x4_multiplyStep σ a1 = (x4_setBoth σ' ((x4_both σ') >>> (Int32.toInt64 (1 : Int32) &&& 63))) := (E.trans (by unfold x4_multiplyStep_25; rfl))
    exact hret (x4_setBoth σ' ((x4_both σ') >>> (Int32.toInt64 (1 : Int32) &&& 63))) _ _ _ _ hE hP hD hS dX4_multiplyStep_35
  suffices go : ∀ (H : Heap) (locs : List Loc), va_P D vwCl (wX h cI σ) H → va_D A (wX h cI σ) → va_S A s.heap H locs → W p l e ({ frames := 1, cells := 0, slots := 0, locals := 22 } : Room) s m (([.ref (h 0), .int a1] : List Value).toArray) below meth c H locs 0 0 Q (F0 m 0 ls []) from go _ _ hP hD hS
  intro H locs hP hD hS
  refine lv_aload_n hx hb dX4_multiplyStep_0 rfl (lv_at hl 0 rfl) ?_
  refine gX_io (v := (g_io σ)) hx hb hts hown hK hP kw_109 rfl dX4_multiplyStep_1 ?_
  refine lv_iconst (v := (1 : Int32)) hx hb dX4_multiplyStep_4 (by decide) ?_
  refine lv_iand hx hb dX4_multiplyStep_5 ?_
  refine lv_iconst (v := (1 : Int32)) hx hb dX4_multiplyStep_6 (by decide) ?_
  refine lv_icmp_ne (tgt := 25) hx hb dX4_multiplyStep_7 (by decide) (fun c_7_1 => ?_) (fun c_7_1 => ?_)
  · have c_7_1 : ¬ (((g_io σ) &&& (1 : Int32)) = (1 : Int32)) := c_7_1
    exact J_25 σ _ _ _ (by unfold x4_multiplyStep; rw [if_neg c_7_1]) (lv_sub hl [0] rfl) hP hD hS
  · have c_7_1 : ((g_io σ) &&& (1 : Int32)) = (1 : Int32) := c_7_1
    refine lv_aload_n hx hb dX4_multiplyStep_10 rfl (lv_at hl 0 rfl) ?_
    refine lv_aload_n hx hb dX4_multiplyStep_11 rfl (lv_at hl 0 rfl) ?_
    refine gX_ac (v := (g_ac σ)) hx hb hts hown hK hP kw_108 rfl dX4_multiplyStep_12 ?_
    refine lv_iload_n hx hb dX4_multiplyStep_15 rfl (lv_at hl 1 rfl) ?_
    refine call_Si 2 (kX4_sum l D cI _ (g_ac σ) a1) ⟨hx, hb, hml, hown, hts, hK, hN, hA⟩ ⟨kw_360, kw_361, kw_1, kw_362, by decide +kernel, rfl, rfl, Nat.le_of_ble_eq_true rfl, Nat.le_of_ble_eq_true rfl⟩ rfl hP hD hS hl.1 rfl (Nat.le_of_ble_eq_true rfl) dX4_multiplyStep_16 ⟨Nat.zero_le _, Nat.zero_le _⟩ (fun r16 u H locs hw hP hD hS => ?_)
    have hw : (x4_sum (g_ac σ) a1) = r16 := hw
    subst hw
    refine call_Si 1 (kX4_withoutMinusZero l D cI _ (x4_sum (g_ac σ) a1)) ⟨hx, hb, hml, hown, hts, hK, hN, hA⟩ ⟨kw_367, kw_368, kw_1, kw_369, by decide +kernel, rfl, rfl, Nat.le_of_ble_eq_true rfl, Nat.le_of_ble_eq_true rfl⟩ rfl hP hD hS hl.1 rfl (Nat.le_of_ble_eq_true rfl) dX4_multiplyStep_19 ⟨Nat.zero_le _, Nat.zero_le _⟩ (fun r19 u H locs hw hP hD hS => ?_)
    have hw : (x4_withoutMinusZero (x4_sum (g_ac σ) a1)) = r19 := hw
    subst hw
    refine pX_ac hx hb hts hown hK hP hD hS kw_108 dX4_multiplyStep_22 (fun H locs hP hD hS => ?_)
    exact J_25 (s_ac σ (x4_withoutMinusZero (x4_sum (g_ac σ) a1))) _ _ _ (by unfold x4_multiplyStep; rw [if_pos c_7_1]) (lv_sub hl [0] rfl) hP hD hS
