def x2_begin (σ : St)  : St := (s_t6 (s_t5 (s_t4 (s_t3 (s_t2 (s_t1 (s_t0 σ (0 : Int32)) (0 : Int32)) (0 : Int32)) (0 : Int32)) (0 : Int32)) (0 : Int32)) (-9 : Int32))
set_option maxRecDepth 100000 in
set_option maxHeartbeats 8000000 in
theorem kX2_begin (l : Launch) (D : va_G) (cI : ClassId) (h : Nat → Nat) (σ : St)  : MetV l yX2_begin (wsU yX2_begin cX2_begin 1 none) { frames := 0, cells := 0, slots := 0, locals := 0 } D cI [.ref (h 9)] (wX h cI σ) (fun u : St => wX h cI u) (fun u => (x2_begin σ) = u) := by
  refine MetV.of (by decide) (Nat.le_of_ble_eq_true rfl) ?_
  intro p e s m below meth c A Q ls hx hb hml hown hts hK hN hA hret hP hD hS hl
  have hown : s.vm.findClass RX2 = some m.cls := hown
  have hl : lv_has ls 1 [(0, .ref (h 9))] := hl
  suffices go : ∀ (H : Heap) (locs : List Loc), va_P D vwCl (wX h cI σ) H → va_D A (wX h cI σ) → va_S A s.heap H locs → W p l e ({ frames := 0, cells := 0, slots := 0, locals := 0 } : Room) s m (([.ref (h 9)] : List Value).toArray) below meth c H locs 0 0 Q (F0 m 0 ls []) from go _ _ hP hD hS
  intro H locs hP hD hS
  refine lv_aload_n hx hb dX2_begin_0 rfl (lv_at hl 0 rfl) ?_
  refine lv_iconst (v := (0 : Int32)) hx hb dX2_begin_1 (by decide) ?_
  refine pX_t0 hx hb hts hown hK hP hD hS kw_74 dX2_begin_2 (fun H locs hP hD hS => ?_)
  refine lv_aload_n hx hb dX2_begin_5 rfl (lv_at hl 0 rfl) ?_
  refine lv_iconst (v := (0 : Int32)) hx hb dX2_begin_6 (by decide) ?_
  refine pX_t1 hx hb hts hown hK hP hD hS kw_76 dX2_begin_7 (fun H locs hP hD hS => ?_)
  refine lv_aload_n hx hb dX2_begin_10 rfl (lv_at hl 0 rfl) ?_
  refine lv_iconst (v := (0 : Int32)) hx hb dX2_begin_11 (by decide) ?_
  refine pX_t2 hx hb hts hown hK hP hD hS kw_78 dX2_begin_12 (fun H locs hP hD hS => ?_)
  refine lv_aload_n hx hb dX2_begin_15 rfl (lv_at hl 0 rfl) ?_
  refine lv_iconst (v := (0 : Int32)) hx hb dX2_begin_16 (by decide) ?_
  refine pX_t3 hx hb hts hown hK hP hD hS kw_80 dX2_begin_17 (fun H locs hP hD hS => ?_)
  refine lv_aload_n hx hb dX2_begin_20 rfl (lv_at hl 0 rfl) ?_
  refine lv_iconst (v := (0 : Int32)) hx hb dX2_begin_21 (by decide) ?_
  refine pX_t4 hx hb hts hown hK hP hD hS kw_82 dX2_begin_22 (fun H locs hP hD hS => ?_)
  refine lv_aload_n hx hb dX2_begin_25 rfl (lv_at hl 0 rfl) ?_
  refine lv_iconst (v := (0 : Int32)) hx hb dX2_begin_26 (by decide) ?_
  refine pX_t5 hx hb hts hown hK hP hD hS kw_84 dX2_begin_27 (fun H locs hP hD hS => ?_)
  refine lv_aload_n hx hb dX2_begin_30 rfl (lv_at hl 0 rfl) ?_
  refine lv_bipush (v := (-9 : Int32)) hx hb dX2_begin_31 (by decide) ?_
  refine pX_t6 hx hb hts hown hK hP hD hS kw_86 dX2_begin_33 (fun H locs hP hD hS => ?_)
  have hE : x2_begin σ = (s_t6 (s_t5 (s_t4 (s_t3 (s_t2 (s_t1 (s_t0 σ (0 : Int32)) (0 : Int32)) (0 : Int32)) (0 : Int32)) (0 : Int32)) (0 : Int32)) (-9 : Int32)) := (by unfold x2_begin; rfl)
  exact hret (s_t6 (s_t5 (s_t4 (s_t3 (s_t2 (s_t1 (s_t0 σ (0 : Int32)) (0 : Int32)) (0 : Int32)) (0 : Int32)) (0 : Int32)) (0 : Int32)) (-9 : Int32)) _ _ _ _ hE hP hD hS dX2_begin_36
def x2_countStep (σ : St)  : St := (s_t7 (s_t0 σ ((g_t0 σ) + (1 : Int32))) ((g_t7 σ) + (1 : Int32)))
set_option maxRecDepth 100000 in
set_option maxHeartbeats 8000000 in
theorem kX2_countStep (l : Launch) (D : va_G) (cI : ClassId) (h : Nat → Nat) (σ : St)  : MetV l yX2_countStep (wsU yX2_countStep cX2_countStep 1 none) { frames := 0, cells := 0, slots := 0, locals := 0 } D cI [.ref (h 9)] (wX h cI σ) (fun u : St => wX h cI u) (fun u => (x2_countStep σ) = u) := by
  refine MetV.of (by decide) (Nat.le_of_ble_eq_true rfl) ?_
  intro p e s m below meth c A Q ls hx hb hml hown hts hK hN hA hret hP hD hS hl
  have hown : s.vm.findClass RX2 = some m.cls := hown
  have hl : lv_has ls 1 [(0, .ref (h 9))] := hl
  suffices go : ∀ (H : Heap) (locs : List Loc), va_P D vwCl (wX h cI σ) H → va_D A (wX h cI σ) → va_S A s.heap H locs → W p l e ({ frames := 0, cells := 0, slots := 0, locals := 0 } : Room) s m (([.ref (h 9)] : List Value).toArray) below meth c H locs 0 0 Q (F0 m 0 ls []) from go _ _ hP hD hS
  intro H locs hP hD hS
  refine lv_aload_n hx hb dX2_countStep_0 rfl (lv_at hl 0 rfl) ?_
  refine lv_dup hx hb dX2_countStep_1 rfl ?_
  refine gX_t0 (v := (g_t0 σ)) hx hb hts hown hK hP kw_74 rfl dX2_countStep_2 ?_
  refine lv_iconst (v := (1 : Int32)) hx hb dX2_countStep_5 (by decide) ?_
  refine lv_iadd hx hb dX2_countStep_6 ?_
  refine pX_t0 hx hb hts hown hK hP hD hS kw_74 dX2_countStep_7 (fun H locs hP hD hS => ?_)
  refine lv_aload_n hx hb dX2_countStep_10 rfl (lv_at hl 0 rfl) ?_
  refine lv_dup hx hb dX2_countStep_11 rfl ?_
  refine gX_t7 (v := (g_t7 σ)) hx hb hts hown hK hP kw_88 rfl dX2_countStep_12 ?_
  refine lv_iconst (v := (1 : Int32)) hx hb dX2_countStep_15 (by decide) ?_
  refine lv_iadd hx hb dX2_countStep_16 ?_
  refine pX_t7 hx hb hts hown hK hP hD hS kw_88 dX2_countStep_17 (fun H locs hP hD hS => ?_)
  have hE : x2_countStep σ = (s_t7 (s_t0 σ ((g_t0 σ) + (1 : Int32))) ((g_t7 σ) + (1 : Int32))) := (by unfold x2_countStep; rfl)
  exact hret (s_t7 (s_t0 σ ((g_t0 σ) + (1 : Int32))) ((g_t7 σ) + (1 : Int32))) _ _ _ _ hE hP hD hS dX2_countStep_20
def x3_append (σ : St) (a1 : Int32) : Int32 × St := (if (g_cnt σ) < (0 : Int32) then ((0 : Int32), σ) else (if (g_cnt σ) < (100 : Int32) then ((1 : Int32), (s_cnt (s_row σ (upd (g_row σ) (Int32.toNatClampNeg (g_cnt σ)) a1)) ((g_cnt σ) + (1 : Int32)))) else ((0 : Int32), σ)))
set_option maxRecDepth 100000 in
set_option maxHeartbeats 8000000 in
theorem kX3_append (l : Launch) (D : va_G) (cI : ClassId) (h : Nat → Nat) (σ : St) (a1 : Int32) : MetI l yX3_append (wsU yX3_append cX3_append 2 (some .boolean)) { frames := 0, cells := 0, slots := 0, locals := 0 } D cI [.ref (h 2), .int a1] (wX h cI σ) (fun u : St => wX h cI u) (fun r u => (x3_append σ a1).1 = r ∧ (x3_append σ a1).2 = u) := by
  refine MetI.of (by decide) (Nat.le_of_ble_eq_true rfl) ?_
  intro p e s m below meth c A Q ls hx hb hml hown hts hK hN hA hret hP hD hS hl
  have hown : s.vm.findClass RX3 = some m.cls := hown
  have hl : lv_has ls 2 [(0, .ref (h 2)), (1, .int a1)] := hl
  suffices go : ∀ (H : Heap) (locs : List Loc), va_P D vwCl (wX h cI σ) H → va_D A (wX h cI σ) → va_S A s.heap H locs → W p l e ({ frames := 0, cells := 0, slots := 0, locals := 0 } : Room) s m (([.ref (h 2), .int a1] : List Value).toArray) below meth c H locs 0 0 Q (F0 m 0 ls []) from go _ _ hP hD hS
  intro H locs hP hD hS
  refine lv_aload_n hx hb dX3_append_0 rfl (lv_at hl 0 rfl) ?_
  refine gX_cnt (v := (g_cnt σ)) hx hb hts hown hK hP kw_23 rfl dX3_append_1 ?_
  refine lv_if_lt (tgt := 16) hx hb dX3_append_4 (by decide) (fun c_4_1 => ?_) (fun c_4_1 => ?_)
  · have c_4_1 : (g_cnt σ) < (0 : Int32) := c_4_1
    refine lv_iconst (v := (0 : Int32)) hx hb dX3_append_16 (by decide) ?_
    have hE : x3_append σ a1 = ((0 : Int32), σ) := (by unfold x3_append; rw [if_pos c_4_1])
    exact hret (0 : Int32) σ _ _ _ _ rfl ⟨by rw [hE], by rw [hE]⟩ hP hD hS dX3_append_17
  · have c_4_1 : ¬ ((g_cnt σ) < (0 : Int32)) := c_4_1
    refine lv_aload_n hx hb dX3_append_7 rfl (lv_at hl 0 rfl) ?_
    refine gX_cnt (v := (g_cnt σ)) hx hb hts hown hK hP kw_23 rfl dX3_append_8 ?_
    refine lv_bipush (v := (100 : Int32)) hx hb dX3_append_11 (by decide) ?_
    refine lv_icmp_lt (tgt := 18) hx hb dX3_append_13 (by decide) (fun c_13_2 => ?_) (fun c_13_2 => ?_)
    · have c_13_2 : (g_cnt σ) < (100 : Int32) := c_13_2
      refine lv_aload_n hx hb dX3_append_18 rfl (lv_at hl 0 rfl) ?_
      refine gX_ref3 hx hb hts hown hK hP kw_22 dX3_append_19 ?_
      refine lv_aload_n hx hb dX3_append_22 rfl (lv_at hl 0 rfl) ?_
      refine gX_cnt (v := (g_cnt σ)) hx hb hts hown hK hP kw_23 rfl dX3_append_23 ?_
      refine lv_iload_n hx hb dX3_append_26 rfl (lv_at hl 1 rfl) ?_
      refine bX_row (f := (g_row σ)) hx hb hK hP hD hS (by first | exact vp_l (K := 100) (by assumption) (by assumption) (by decide) | exact vp_g (K := 100) (by assumption) (by assumption) (by decide) | exact pk_andIn _ 6 (by decide) (by decide)) rfl dX3_append_27 (fun H locs hP hD hS => ?_)
      refine lv_aload_n hx hb dX3_append_28 rfl (lv_at hl 0 rfl) ?_
      refine lv_dup hx hb dX3_append_29 rfl ?_
      refine gX_cnt (v := (g_cnt σ)) hx hb hts hown hK hP kw_23 rfl dX3_append_30 ?_
      refine lv_iconst (v := (1 : Int32)) hx hb dX3_append_33 (by decide) ?_
      refine lv_iadd hx hb dX3_append_34 ?_
      refine pX_cnt hx hb hts hown hK hP hD hS kw_23 dX3_append_35 (fun H locs hP hD hS => ?_)
      refine lv_iconst (v := (1 : Int32)) hx hb dX3_append_38 (by decide) ?_
      have hE : x3_append σ a1 = ((1 : Int32), (s_cnt (s_row σ (upd (g_row σ) (Int32.toNatClampNeg (g_cnt σ)) a1)) ((g_cnt σ) + (1 : Int32)))) := (by unfold x3_append; rw [if_neg c_4_1, if_pos c_13_2])
      exact hret (1 : Int32) (s_cnt (s_row σ (upd (g_row σ) (Int32.toNatClampNeg (g_cnt σ)) a1)) ((g_cnt σ) + (1 : Int32))) _ _ _ _ rfl ⟨by rw [hE], by rw [hE]⟩ hP hD hS dX3_append_39
    · have c_13_2 : ¬ ((g_cnt σ) < (100 : Int32)) := c_13_2
      refine lv_iconst (v := (0 : Int32)) hx hb dX3_append_16 (by decide) ?_
      have hE : x3_append σ a1 = ((0 : Int32), σ) := (by unfold x3_append; rw [if_neg c_4_1, if_neg c_13_2])
      exact hret (0 : Int32) σ _ _ _ _ rfl ⟨by rw [hE], by rw [hE]⟩ hP hD hS dX3_append_17
def x3_waiting (σ : St)  : Int32 := ((g_cnt σ) - (g_taken σ))
set_option maxRecDepth 100000 in
set_option maxHeartbeats 8000000 in
theorem kX3_waiting (l : Launch) (D : va_G) (cI : ClassId) (h : Nat → Nat) (σ : St)  : MetI l yX3_waiting (wsU yX3_waiting cX3_waiting 1 (some .int)) { frames := 0, cells := 0, slots := 0, locals := 0 } D cI [.ref (h 2)] (wX h cI σ) (fun _ : Unit => wX h cI σ) (fun r _ => (x3_waiting σ) = r) := by
  refine MetI.of (by decide) (Nat.le_of_ble_eq_true rfl) ?_
  intro p e s m below meth c A Q ls hx hb hml hown hts hK hN hA hret hP hD hS hl
  have hown : s.vm.findClass RX3 = some m.cls := hown
  have hl : lv_has ls 1 [(0, .ref (h 2))] := hl
  suffices go : ∀ (H : Heap) (locs : List Loc), va_P D vwCl (wX h cI σ) H → va_D A (wX h cI σ) → va_S A s.heap H locs → W p l e ({ frames := 0, cells := 0, slots := 0, locals := 0 } : Room) s m (([.ref (h 2)] : List Value).toArray) below meth c H locs 0 0 Q (F0 m 0 ls []) from go _ _ hP hD hS
  intro H locs hP hD hS
  refine lv_aload_n hx hb dX3_waiting_0 rfl (lv_at hl 0 rfl) ?_
  refine gX_cnt (v := (g_cnt σ)) hx hb hts hown hK hP kw_23 rfl dX3_waiting_1 ?_
  refine lv_aload_n hx hb dX3_waiting_4 rfl (lv_at hl 0 rfl) ?_
  refine gX_taken (v := (g_taken σ)) hx hb hts hown hK hP kw_24 rfl dX3_waiting_5 ?_
  refine lv_isub hx hb dX3_waiting_8 ?_
  have hE : x3_waiting σ = ((g_cnt σ) - (g_taken σ)) := (by unfold x3_waiting; rfl)
  exact hret ((g_cnt σ) - (g_taken σ)) () _ _ _ _ rfl hE hP hD hS dX3_waiting_9
def x3_take (σ : St)  : Int32 × St := (if (g_taken σ) < (0 : Int32) then ((0 : Int32), σ) else (if (g_cnt σ) ≤ (g_taken σ) then ((0 : Int32), σ) else (if (g_taken σ) < (100 : Int32) then (((g_row σ) (Int32.toNatClampNeg (g_taken σ))), (s_taken σ ((g_taken σ) + (1 : Int32)))) else ((0 : Int32), σ))))
set_option maxRecDepth 100000 in
set_option maxHeartbeats 8000000 in
theorem kX3_take (l : Launch) (D : va_G) (cI : ClassId) (h : Nat → Nat) (σ : St)  : MetI l yX3_take (wsU yX3_take cX3_take 2 (some .int)) { frames := 0, cells := 0, slots := 0, locals := 0 } D cI [.ref (h 2)] (wX h cI σ) (fun u : St => wX h cI u) (fun r u => (x3_take σ).1 = r ∧ (x3_take σ).2 = u) := by
  refine MetI.of (by decide) (Nat.le_of_ble_eq_true rfl) ?_
  intro p e s m below meth c A Q ls hx hb hml hown hts hK hN hA hret hP hD hS hl
  have hown : s.vm.findClass RX3 = some m.cls := hown
  have hl : lv_has ls 2 [(0, .ref (h 2))] := hl
  suffices go : ∀ (H : Heap) (locs : List Loc), va_P D vwCl (wX h cI σ) H → va_D A (wX h cI σ) → va_S A s.heap H locs → W p l e ({ frames := 0, cells := 0, slots := 0, locals := 0 } : Room) s m (([.ref (h 2)] : List Value).toArray) below meth c H locs 0 0 Q (F0 m 0 ls []) from go _ _ hP hD hS
  intro H locs hP hD hS
  refine lv_aload_n hx hb dX3_take_0 rfl (lv_at hl 0 rfl) ?_
  refine gX_taken (v := (g_taken σ)) hx hb hts hown hK hP kw_24 rfl dX3_take_1 ?_
  refine lv_if_lt (tgt := 27) hx hb dX3_take_4 (by decide) (fun c_4_1 => ?_) (fun c_4_1 => ?_)
  · have c_4_1 : (g_taken σ) < (0 : Int32) := c_4_1
    refine lv_iconst (v := (0 : Int32)) hx hb dX3_take_27 (by decide) ?_
    have hE : x3_take σ = ((0 : Int32), σ) := (by unfold x3_take; rw [if_pos c_4_1])
    exact hret (0 : Int32) σ _ _ _ _ rfl ⟨by rw [hE], by rw [hE]⟩ hP hD hS dX3_take_28
  · have c_4_1 : ¬ ((g_taken σ) < (0 : Int32)) := c_4_1
    refine lv_aload_n hx hb dX3_take_7 rfl (lv_at hl 0 rfl) ?_
    refine gX_taken (v := (g_taken σ)) hx hb hts hown hK hP kw_24 rfl dX3_take_8 ?_
    refine lv_aload_n hx hb dX3_take_11 rfl (lv_at hl 0 rfl) ?_
    refine gX_cnt (v := (g_cnt σ)) hx hb hts hown hK hP kw_23 rfl dX3_take_12 ?_
    refine lv_icmp_ge (tgt := 27) hx hb dX3_take_15 (by decide) (fun c_15_2 => ?_) (fun c_15_2 => ?_)
    · have c_15_2 : (g_cnt σ) ≤ (g_taken σ) := c_15_2
      refine lv_iconst (v := (0 : Int32)) hx hb dX3_take_27 (by decide) ?_
      have hE : x3_take σ = ((0 : Int32), σ) := (by unfold x3_take; rw [if_neg c_4_1, if_pos c_15_2])
      exact hret (0 : Int32) σ _ _ _ _ rfl ⟨by rw [hE], by rw [hE]⟩ hP hD hS dX3_take_28
    · have c_15_2 : ¬ ((g_cnt σ) ≤ (g_taken σ)) := c_15_2
      refine lv_aload_n hx hb dX3_take_18 rfl (lv_at hl 0 rfl) ?_
      refine gX_taken (v := (g_taken σ)) hx hb hts hown hK hP kw_24 rfl dX3_take_19 ?_
      refine lv_bipush (v := (100 : Int32)) hx hb dX3_take_22 (by decide) ?_
      refine lv_icmp_lt (tgt := 29) hx hb dX3_take_24 (by decide) (fun c_24_3 => ?_) (fun c_24_3 => ?_)
      · have c_24_3 : (g_taken σ) < (100 : Int32) := c_24_3
        refine lv_aload_n hx hb dX3_take_29 rfl (lv_at hl 0 rfl) ?_
        refine gX_ref3 hx hb hts hown hK hP kw_22 dX3_take_30 ?_
        refine lv_aload_n hx hb dX3_take_33 rfl (lv_at hl 0 rfl) ?_
        refine gX_taken (v := (g_taken σ)) hx hb hts hown hK hP kw_24 rfl dX3_take_34 ?_
        refine aX_row (v := ((g_row σ) (Int32.toNatClampNeg (g_taken σ)))) hx hb hK hP (by first | exact vp_l (K := 100) (by assumption) (by assumption) (by decide) | exact vp_g (K := 100) (by assumption) (by assumption) (by decide) | exact pk_andIn _ 6 (by decide) (by decide)) rfl dX3_take_37 ?_
        refine lv_istore_n (lv' := [(1, .int ((g_row σ) (Int32.toNatClampNeg (g_taken σ)))), (0, .ref (h 2))]) hx hb dX3_take_38 rfl hl (by decide) rfl (fun ls hl => ?_)
        refine lv_aload_n hx hb dX3_take_39 rfl (lv_at hl 1 rfl) ?_
        refine lv_dup hx hb dX3_take_40 rfl ?_
        refine gX_taken (v := (g_taken σ)) hx hb hts hown hK hP kw_24 rfl dX3_take_41 ?_
        refine lv_iconst (v := (1 : Int32)) hx hb dX3_take_44 (by decide) ?_
        refine lv_iadd hx hb dX3_take_45 ?_
        refine pX_taken hx hb hts hown hK hP hD hS kw_24 dX3_take_46 (fun H locs hP hD hS => ?_)
        refine lv_iload_n hx hb dX3_take_49 rfl (lv_at hl 0 rfl) ?_
        have hE : x3_take σ = (((g_row σ) (Int32.toNatClampNeg (g_taken σ))), (s_taken σ ((g_taken σ) + (1 : Int32)))) := (by unfold x3_take; rw [if_neg c_4_1, if_neg c_15_2, if_pos c_24_3])
        exact hret ((g_row σ) (Int32.toNatClampNeg (g_taken σ))) (s_taken σ ((g_taken σ) + (1 : Int32))) _ _ _ _ rfl ⟨by rw [hE], by rw [hE]⟩ hP hD hS dX3_take_50
      · have c_24_3 : ¬ ((g_taken σ) < (100 : Int32)) := c_24_3
        refine lv_iconst (v := (0 : Int32)) hx hb dX3_take_27 (by decide) ?_
        have hE : x3_take σ = ((0 : Int32), σ) := (by unfold x3_take; rw [if_neg c_4_1, if_neg c_15_2, if_neg c_24_3])
        exact hret (0 : Int32) σ _ _ _ _ rfl ⟨by rw [hE], by rw [hE]⟩ hP hD hS dX3_take_28
def x4_isAddress (a1 : Int32) : Int32 := (if a1 < (0 : Int32) then (0 : Int32) else (if (4095 : Int32) < a1 then (0 : Int32) else (1 : Int32)))
set_option maxRecDepth 100000 in
set_option maxHeartbeats 8000000 in
theorem kX4_isAddress (l : Launch) (D : va_G) (cI : ClassId) (w : va_W) (a1 : Int32) : MetI l yX4_isAddress (wsU yX4_isAddress cX4_isAddress 1 (some .boolean)) { frames := 0, cells := 0, slots := 0, locals := 0 } D cI [.int a1] w (fun _ : Unit => w) (fun r _ => (x4_isAddress a1) = r) := by
  refine MetI.of (by decide) (Nat.le_of_ble_eq_true rfl) ?_
  intro p e s m below meth c A Q ls hx hb hml hown hts hK hN hA hret hP hD hS hl
  have hown : s.vm.findClass RX4 = some m.cls := hown
  have hl : lv_has ls 1 [(0, .int a1)] := hl
  suffices go : ∀ (H : Heap) (locs : List Loc), va_P D vwCl w H → va_D A w → va_S A s.heap H locs → W p l e ({ frames := 0, cells := 0, slots := 0, locals := 0 } : Room) s m (([.int a1] : List Value).toArray) below meth c H locs 0 0 Q (F0 m 0 ls []) from go _ _ hP hD hS
  intro H locs hP hD hS
  refine lv_iload_n hx hb dX4_isAddress_0 rfl (lv_at hl 0 rfl) ?_
  refine lv_if_lt (tgt := 15) hx hb dX4_isAddress_1 (by decide) (fun c_1_1 => ?_) (fun c_1_1 => ?_)
  · have c_1_1 : a1 < (0 : Int32) := c_1_1
    refine lv_iconst (v := (0 : Int32)) hx hb dX4_isAddress_15 (by decide) ?_
    have hE : x4_isAddress a1 = (0 : Int32) := (by unfold x4_isAddress; rw [if_pos c_1_1])
    exact hret (0 : Int32) () _ _ _ _ rfl hE hP hD hS dX4_isAddress_16
  · have c_1_1 : ¬ (a1 < (0 : Int32)) := c_1_1
    refine lv_iload_n hx hb dX4_isAddress_4 rfl (lv_at hl 0 rfl) ?_
    refine lv_sipush (v := (4095 : Int32)) hx hb dX4_isAddress_5 (by decide) ?_
    refine lv_icmp_gt (tgt := 15) hx hb dX4_isAddress_8 (by decide) (fun c_8_2 => ?_) (fun c_8_2 => ?_)
    · have c_8_2 : (4095 : Int32) < a1 := c_8_2
      refine lv_iconst (v := (0 : Int32)) hx hb dX4_isAddress_15 (by decide) ?_
      have hE : x4_isAddress a1 = (0 : Int32) := (by unfold x4_isAddress; rw [if_neg c_1_1, if_pos c_8_2])
      exact hret (0 : Int32) () _ _ _ _ rfl hE hP hD hS dX4_isAddress_16
    · have c_8_2 : ¬ ((4095 : Int32) < a1) := c_8_2
      refine lv_iconst (v := (1 : Int32)) hx hb dX4_isAddress_11 (by decide) ?_
      refine lv_goto (tgt := 16) hx hb dX4_isAddress_12 (by decide) ?_
      have hE : x4_isAddress a1 = (1 : Int32) := (by unfold x4_isAddress; rw [if_neg c_1_1, if_neg c_8_2])
      exact hret (1 : Int32) () _ _ _ _ rfl hE hP hD hS dX4_isAddress_16
