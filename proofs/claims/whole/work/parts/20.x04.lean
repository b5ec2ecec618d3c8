def x4_place (σ : St)  : Int32 := (if (g_ov σ) = (0 : Int32) then (g_pc σ) else ((g_pc σ) + (131072 : Int32)))
set_option maxRecDepth 100000 in
set_option maxHeartbeats 8000000 in
theorem kX4_place (l : Launch) (D : va_G) (cI : ClassId) (h : Nat → Nat) (σ : St)  : MetI l yX4_place (wsU yX4_place cX4_place 1 (some .int)) { frames := 0, cells := 0, slots := 0, locals := 0 } D cI [.ref (h 0)] (wX h cI σ) (fun _ : Unit => wX h cI σ) (fun r _ => (x4_place σ) = r) := by
  refine MetI.of (by decide) (Nat.le_of_ble_eq_true rfl) ?_
  intro p e s m below meth c A Q ls hx hb hml hown hts hK hN hA hret hP hD hS hl
  have hown : s.vm.findClass RX4 = some m.cls := hown
  have hl : lv_has ls 1 [(0, .ref (h 0))] := hl
  suffices go : ∀ (H : Heap) (locs : List Loc), va_P D vwCl (wX h cI σ) H → va_D A (wX h cI σ) → va_S A s.heap H locs → W p l e ({ frames := 0, cells := 0, slots := 0, locals := 0 } : Room) s m (([.ref (h 0)] : List Value).toArray) below meth c H locs 0 0 Q (F0 m 0 ls []) from go _ _ hP hD hS
  intro H locs hP hD hS
  refine lv_aload_n hx hb dX4_place_0 rfl (lv_at hl 0 rfl) ?_
  refine gX_ov (v := (g_ov σ)) hx hb hts hown hK hP kw_111 rfl dX4_place_1 ?_
  refine lv_if_ne (tgt := 14) hx hb dX4_place_4 (by decide) (fun c_4_1 => ?_) (fun c_4_1 => ?_)
  · have c_4_1 : ¬ ((g_ov σ) = (0 : Int32)) := c_4_1
    refine lv_aload_n hx hb dX4_place_14 rfl (lv_at hl 0 rfl) ?_
    refine gX_pc (v := (g_pc σ)) hx hb hts hown hK hP kw_110 rfl dX4_place_15 ?_
    refine lv_ldc (v := (131072 : Int32)) hx hb hown (hts _ kw_233) dX4_place_18 ?_
    refine lv_iadd hx hb dX4_place_20 ?_
    have hE : x4_place σ = ((g_pc σ) + (131072 : Int32)) := (by unfold x4_place; rw [if_neg c_4_1])
    exact hret ((g_pc σ) + (131072 : Int32)) () _ _ _ _ rfl hE hP hD hS dX4_place_21
  · have c_4_1 : (g_ov σ) = (0 : Int32) := c_4_1
    refine lv_aload_n hx hb dX4_place_7 rfl (lv_at hl 0 rfl) ?_
    refine gX_pc (v := (g_pc σ)) hx hb hts hown hK hP kw_110 rfl dX4_place_8 ?_
    refine lv_goto (tgt := 21) hx hb dX4_place_11 (by decide) ?_
    have hE : x4_place σ = (g_pc σ) := (by unfold x4_place; rw [if_pos c_4_1])
    exact hret (g_pc σ) () _ _ _ _ rfl hE hP hD hS dX4_place_21
def x4_beginBreak (σ : St)  : St := (s_t1 (s_asked (s_under (s_pc (x4_store (x4_store (x4_store σ (0 : Int32) (g_ac σ)) (1 : Int32) (x4_place (x4_store σ (0 : Int32) (g_ac σ)))) (2 : Int32) (g_io (x4_store (x4_store σ (0 : Int32) (g_ac σ)) (1 : Int32) (x4_place (x4_store σ (0 : Int32) (g_ac σ)))))) (3 : Int32)) (1 : Int32)) (0 : Int32)) ((g_t1 (x4_store (x4_store (x4_store σ (0 : Int32) (g_ac σ)) (1 : Int32) (x4_place (x4_store σ (0 : Int32) (g_ac σ)))) (2 : Int32) (g_io (x4_store (x4_store σ (0 : Int32) (g_ac σ)) (1 : Int32) (x4_place (x4_store σ (0 : Int32) (g_ac σ))))))) + (1 : Int32)))
set_option maxRecDepth 100000 in
set_option maxHeartbeats 8000000 in
theorem kX4_beginBreak (l : Launch) (D : va_G) (cI : ClassId) (h : Nat → Nat) (σ : St)  : MetV l yX4_beginBreak (wsU yX4_beginBreak cX4_beginBreak 1 none) { frames := 1, cells := 0, slots := 0, locals := 22 } D cI [.ref (h 0)] (wX h cI σ) (fun u : St => wX h cI u) (fun u => (x4_beginBreak σ) = u) := by
  refine MetV.of (by decide) (Nat.le_of_ble_eq_true rfl) ?_
  intro p e s m below meth c A Q ls hx hb hml hown hts hK hN hA hret hP hD hS hl
  have hown : s.vm.findClass RX4 = some m.cls := hown
  have hl : lv_has ls 1 [(0, .ref (h 0))] := hl
  suffices go : ∀ (H : Heap) (locs : List Loc), va_P D vwCl (wX h cI σ) H → va_D A (wX h cI σ) → va_S A s.heap H locs → W p l e ({ frames := 1, cells := 0, slots := 0, locals := 22 } : Room) s m (([.ref (h 0)] : List Value).toArray) below meth c H locs 0 0 Q (F0 m 0 ls []) from go _ _ hP hD hS
  intro H locs hP hD hS
  refine lv_aload_n hx hb dX4_beginBreak_0 rfl (lv_at hl 0 rfl) ?_
  refine lv_iconst (v := (0 : Int32)) hx hb dX4_beginBreak_1 (by decide) ?_
  refine lv_aload_n hx hb dX4_beginBreak_2 rfl (lv_at hl 0 rfl) ?_
  refine gX_ac (v := (g_ac σ)) hx hb hts hown hK hP kw_108 rfl dX4_beginBreak_3 ?_
  refine call_Vv 2 (kX4_store l D cI h _ (0 : Int32) (g_ac σ)) ⟨hx, hb, hml, hown, hts, hK, hN, hA⟩ ⟨kw_168, kw_170, ks_yX4_store, kw_1, kw_171, by decide +kernel, rfl, rfl, Nat.le_of_ble_eq_true rfl, Nat.le_of_ble_eq_true rfl⟩ rfl (va_recv hK hP (ci := 4) (q0 := 0) rfl rfl) hP hD hS hl.1 rfl (Nat.le_of_ble_eq_true rfl) dX4_beginBreak_6 ⟨Nat.zero_le _, Nat.zero_le _⟩ (fun u H locs hw hP hD hS => ?_)
  have hw : (x4_store σ (0 : Int32) (g_ac σ)) = u := hw
  subst hw
  refine lv_aload_n hx hb dX4_beginBreak_9 rfl (lv_at hl 0 rfl) ?_
  refine lv_iconst (v := (1 : Int32)) hx hb dX4_beginBreak_10 (by decide) ?_
  refine lv_aload_n hx hb dX4_beginBreak_11 rfl (lv_at hl 0 rfl) ?_
  refine call_Vi 0 (kX4_place l D cI h _) ⟨hx, hb, hml, hown, hts, hK, hN, hA⟩ ⟨kw_229, kw_231, ks_yX4_place, kw_1, kw_232, by decide +kernel, rfl, rfl, Nat.le_of_ble_eq_true rfl, Nat.le_of_ble_eq_true rfl⟩ rfl (va_recv hK hP (ci := 4) (q0 := 0) rfl rfl) hP hD hS hl.1 rfl (Nat.le_of_ble_eq_true rfl) dX4_beginBreak_12 ⟨Nat.zero_le _, Nat.zero_le _⟩ (fun r12 u H locs hw hP hD hS => ?_)
  have hw : (x4_place (x4_store σ (0 : Int32) (g_ac σ))) = r12 := hw
  subst hw
  refine call_Vv 2 (kX4_store l D cI h _ (1 : Int32) (x4_place (x4_store σ (0 : Int32) (g_ac σ)))) ⟨hx, hb, hml, hown, hts, hK, hN, hA⟩ ⟨kw_168, kw_170, ks_yX4_store, kw_1, kw_171, by decide +kernel, rfl, rfl, Nat.le_of_ble_eq_true rfl, Nat.le_of_ble_eq_true rfl⟩ rfl (va_recv hK hP (ci := 4) (q0 := 0) rfl rfl) hP hD hS hl.1 rfl (Nat.le_of_ble_eq_true rfl) dX4_beginBreak_15 ⟨Nat.zero_le _, Nat.zero_le _⟩ (fun u H locs hw hP hD hS => ?_)
  have hw : (x4_store (x4_store σ (0 : Int32) (g_ac σ)) (1 : Int32) (x4_place (x4_store σ (0 : Int32) (g_ac σ)))) = u := hw
  subst hw
  refine lv_aload_n hx hb dX4_beginBreak_18 rfl (lv_at hl 0 rfl) ?_
  refine lv_iconst (v := (2 : Int32)) hx hb dX4_beginBreak_19 (by decide) ?_
  refine lv_aload_n hx hb dX4_beginBreak_20 rfl (lv_at hl 0 rfl) ?_
  refine gX_io (v := (g_io (x4_store (x4_store σ (0 : Int32) (g_ac σ)) (1 : Int32) (x4_place (x4_store σ (0 : Int32) (g_ac σ)))))) hx hb hts hown hK hP kw_109 rfl dX4_beginBreak_21 ?_
  refine call_Vv 2 (kX4_store l D cI h _ (2 : Int32) (g_io (x4_store (x4_store σ (0 : Int32) (g_ac σ)) (1 : Int32) (x4_place (x4_store σ (0 : Int32) (g_ac σ)))))) ⟨hx, hb, hml, hown, hts, hK, hN, hA⟩ ⟨kw_168, kw_170, ks_yX4_store, kw_1, kw_171, by decide +kernel, rfl, rfl, Nat.le_of_ble_eq_true rfl, Nat.le_of_ble_eq_true rfl⟩ rfl (va_recv hK hP (ci := 4) (q0 := 0) rfl rfl) hP hD hS hl.1 rfl (Nat.le_of_ble_eq_true rfl) dX4_beginBreak_24 ⟨Nat.zero_le _, Nat.zero_le _⟩ (fun u H locs hw hP hD hS => ?_)
  have hw : (x4_store (x4_store (x4_store σ (0 : Int32) (g_ac σ)) (1 : Int32) (x4_place (x4_store σ (0 : Int32) (g_ac σ)))) (2 : Int32) (g_io (x4_store (x4_store σ (0 : Int32) (g_ac σ)) (1 : Int32) (x4_place (x4_store σ (0 : Int32) (g_ac σ)))))) = u := hw
  subst hw
  refine lv_aload_n hx hb dX4_beginBreak_27 rfl (lv_at hl 0 rfl) ?_
  refine lv_iconst (v := (3 : Int32)) hx hb dX4_beginBreak_28 (by decide) ?_
  refine pX_pc hx hb hts hown hK hP hD hS kw_110 dX4_beginBreak_29 (fun H locs hP hD hS => ?_)
  refine lv_aload_n hx hb dX4_beginBreak_32 rfl (lv_at hl 0 rfl) ?_
  refine lv_iconst (v := (1 : Int32)) hx hb dX4_beginBreak_33 (by decide) ?_
  refine pX_under hx hb hts hown hK hP hD hS kw_115 dX4_beginBreak_34 (fun H locs hP hD hS => ?_)
  refine lv_aload_n hx hb dX4_beginBreak_37 rfl (lv_at hl 0 rfl) ?_
  refine lv_iconst (v := (0 : Int32)) hx hb dX4_beginBreak_38 (by decide) ?_
  refine pX_asked hx hb hts hown hK hP hD hS kw_114 dX4_beginBreak_39 (fun H locs hP hD hS => ?_)
  refine lv_aload_n hx hb dX4_beginBreak_42 rfl (lv_at hl 0 rfl) ?_
  refine gX_ref9 hx hb hts hown hK hP kw_121 dX4_beginBreak_43 ?_
  refine lv_dup hx hb dX4_beginBreak_46 rfl ?_
  refine gXN_t1 (v := (g_t1 (x4_store (x4_store (x4_store σ (0 : Int32) (g_ac σ)) (1 : Int32) (x4_place (x4_store σ (0 : Int32) (g_ac σ)))) (2 : Int32) (g_io (x4_store (x4_store σ (0 : Int32) (g_ac σ)) (1 : Int32) (x4_place (x4_store σ (0 : Int32) (g_ac σ)))))))) hx hb hts hown hK hP (nc_at hN 2 rfl) rfl dX4_beginBreak_47 ?_
  refine lv_iconst (v := (1 : Int32)) hx hb dX4_beginBreak_50 (by decide) ?_
  refine lv_iadd hx hb dX4_beginBreak_51 ?_
  refine pXN_t1 hx hb hts hown hK hP hD hS (nc_at hN 2 rfl) dX4_beginBreak_52 (fun H locs hP hD hS => ?_)
  have hE : x4_beginBreak σ = (s_t1 (s_asked (s_under (s_pc (x4_store (x4_store (x4_store σ (0 : Int32) (g_ac σ)) (1 : Int32) (x4_place (x4_store σ (0 : Int32) (g_ac σ)))) (2 : Int32) (g_io (x4_store (x4_store σ (0 : Int32) (g_ac σ)) (1 : Int32) (x4_place (x4_store σ (0 : Int32) (g_ac σ)))))) (3 : Int32)) (1 : Int32)) (0 : Int32)) ((g_t1 (x4_store (x4_store (x4_store σ (0 : Int32) (g_ac σ)) (1 : Int32) (x4_place (x4_store σ (0 : Int32) (g_ac σ)))) (2 : Int32) (g_io (x4_store (x4_store σ (0 : Int32) (g_ac σ)) (1 : Int32) (x4_place (x4_store σ (0 : Int32) (g_ac σ))))))) + (1 : Int32))) := (by unfold x4_beginBreak; rfl)
  exact hret (s_t1 (s_asked (s_under (s_pc (x4_store (x4_store (x4_store σ (0 : Int32) (g_ac σ)) (1 : Int32) (x4_place (x4_store σ (0 : Int32) (g_ac σ)))) (2 : Int32) (g_io (x4_store (x4_store σ (0 : Int32) (g_ac σ)) (1 : Int32) (x4_place (x4_store σ (0 : Int32) (g_ac σ)))))) (3 : Int32)) (1 : Int32)) (0 : Int32)) ((g_t1 (x4_store (x4_store (x4_store σ (0 : Int32) (g_ac σ)) (1 : Int32) (x4_place (x4_store σ (0 : Int32) (g_ac σ)))) (2 : Int32) (g_io (x4_store (x4_store σ (0 : Int32) (g_ac σ)) (1 : Int32) (x4_place (x4_store σ (0 : Int32) (g_ac σ))))))) + (1 : Int32))) _ _ _ _ hE hP hD hS dX4_beginBreak_55
def x4_advance (σ : St)  : St := (s_pc σ (((g_pc σ) + (1 : Int32)) &&& (4095 : Int32)))
set_option maxRecDepth 100000 in
set_option maxHeartbeats 8000000 in
theorem kX4_advance (l : Launch) (D : va_G) (cI : ClassId) (h : Nat → Nat) (σ : St)  : MetV l yX4_advance (wsU yX4_advance cX4_advance 1 none) { frames := 0, cells := 0, slots := 0, locals := 0 } D cI [.ref (h 0)] (wX h cI σ) (fun u : St => wX h cI u) (fun u => (x4_advance σ) = u) := by
  refine MetV.of (by decide) (Nat.le_of_ble_eq_true rfl) ?_
  intro p e s m below meth c A Q ls hx hb hml hown hts hK hN hA hret hP hD hS hl
  have hown : s.vm.findClass RX4 = some m.cls := hown
  have hl : lv_has ls 1 [(0, .ref (h 0))] := hl
  suffices go : ∀ (H : Heap) (locs : List Loc), va_P D vwCl (wX h cI σ) H → va_D A (wX h cI σ) → va_S A s.heap H locs → W p l e ({ frames := 0, cells := 0, slots := 0, locals := 0 } : Room) s m (([.ref (h 0)] : List Value).toArray) below meth c H locs 0 0 Q (F0 m 0 ls []) from go _ _ hP hD hS
  intro H locs hP hD hS
  refine lv_aload_n hx hb dX4_advance_0 rfl (lv_at hl 0 rfl) ?_
  refine lv_aload_n hx hb dX4_advance_1 rfl (lv_at hl 0 rfl) ?_
  refine gX_pc (v := (g_pc σ)) hx hb hts hown hK hP kw_110 rfl dX4_advance_2 ?_
  refine lv_iconst (v := (1 : Int32)) hx hb dX4_advance_5 (by decide) ?_
  refine lv_iadd hx hb dX4_advance_6 ?_
  refine lv_sipush (v := (4095 : Int32)) hx hb dX4_advance_7 (by decide) ?_
  refine lv_iand hx hb dX4_advance_10 ?_
  refine pX_pc hx hb hts hown hK hP hD hS kw_110 dX4_advance_11 (fun H locs hP hD hS => ?_)
  have hE : x4_advance σ = (s_pc σ (((g_pc σ) + (1 : Int32)) &&& (4095 : Int32))) := (by unfold x4_advance; rfl)
  exact hret (s_pc σ (((g_pc σ) + (1 : Int32)) &&& (4095 : Int32))) _ _ _ _ hE hP hD hS dX4_advance_14
def x4_codeOf (a1 : Int32) : Int32 := (a1 >>> ((13 : Int32) &&& 31))
set_option maxRecDepth 100000 in
set_option maxHeartbeats 8000000 in
theorem kX4_codeOf (l : Launch) (D : va_G) (cI : ClassId) (w : va_W) (a1 : Int32) : MetI l yX4_codeOf (wsU yX4_codeOf cX4_codeOf 1 (some .int)) { frames := 0, cells := 0, slots := 0, locals := 0 } D cI [.int a1] w (fun _ : Unit => w) (fun r _ => (x4_codeOf a1) = r) := by
  refine MetI.of (by decide) (Nat.le_of_ble_eq_true rfl) ?_
  intro p e s m below meth c A Q ls hx hb hml hown hts hK hN hA hret hP hD hS hl
  have hown : s.vm.findClass RX4 = some m.cls := hown
  have hl : lv_has ls 1 [(0, .int a1)] := hl
  suffices go : ∀ (H : Heap) (locs : List Loc), va_P D vwCl w H → va_D A w → va_S A s.heap H locs → W p l e ({ frames := 0, cells := 0, slots := 0, locals := 0 } : Room) s m (([.int a1] : List Value).toArray) below meth c H locs 0 0 Q (F0 m 0 ls []) from go _ _ hP hD hS
  intro H locs hP hD hS
  refine lv_iload_n hx hb dX4_codeOf_0 rfl (lv_at hl 0 rfl) ?_
  refine lv_bipush (v := (13 : Int32)) hx hb dX4_codeOf_1 (by decide) ?_
  refine lv_ishr hx hb dX4_codeOf_3 ?_
  have hE : x4_codeOf a1 = (a1 >>> ((13 : Int32) &&& 31)) := (by unfold x4_codeOf; rfl)
  exact hret (a1 >>> ((13 : Int32) &&& 31)) () _ _ _ _ rfl hE hP hD hS dX4_codeOf_4
def x4_hasI (a1 : Int32) : Int32 := (if (a1 &&& (4096 : Int32)) = (0 : Int32) then (0 : Int32) else (1 : Int32))
set_option maxRecDepth 100000 in
set_option maxHeartbeats 8000000 in
theorem kX4_hasI (l : Launch) (D : va_G) (cI : ClassId) (w : va_W) (a1 : Int32) : MetI l yX4_hasI (wsU yX4_hasI cX4_hasI 1 (some .boolean)) { frames := 0, cells := 0, slots := 0, locals := 0 } D cI [.int a1] w (fun _ : Unit => w) (fun r _ => (x4_hasI a1) = r) := by
  refine MetI.of (by decide) (Nat.le_of_ble_eq_true rfl) ?_
  intro p e s m below meth c A Q ls hx hb hml hown hts hK hN hA hret hP hD hS hl
  have hown : s.vm.findClass RX4 = some m.cls := hown
  have hl : lv_has ls 1 [(0, .int a1)] := hl
  suffices go : ∀ (H : Heap) (locs : List Loc), va_P D vwCl w H → va_D A w → va_S A s.heap H locs → W p l e ({ frames := 0, cells := 0, slots := 0, locals := 0 } : Room) s m (([.int a1] : List Value).toArray) below meth c H locs 0 0 Q (F0 m 0 ls []) from go _ _ hP hD hS
  intro H locs hP hD hS
  refine lv_iload_n hx hb dX4_hasI_0 rfl (lv_at hl 0 rfl) ?_
  refine lv_sipush (v := (4096 : Int32)) hx hb dX4_hasI_1 (by decide) ?_
  refine lv_iand hx hb dX4_hasI_4 ?_
  refine lv_if_eq (tgt := 12) hx hb dX4_hasI_5 (by decide) (fun c_5_1 => ?_) (fun c_5_1 => ?_)
  · have c_5_1 : (a1 &&& (4096 : Int32)) = (0 : Int32) := c_5_1
    refine lv_iconst (v := (0 : Int32)) hx hb dX4_hasI_12 (by decide) ?_
    have hE : x4_hasI a1 = (0 : Int32) := (by unfold x4_hasI; rw [if_pos c_5_1])
    exact hret (0 : Int32) () _ _ _ _ rfl hE hP hD hS dX4_hasI_13
  · have c_5_1 : ¬ ((a1 &&& (4096 : Int32)) = (0 : Int32)) := c_5_1
    refine lv_iconst (v := (1 : Int32)) hx hb dX4_hasI_8 (by decide) ?_
    refine lv_goto (tgt := 13) hx hb dX4_hasI_9 (by decide) ?_
    have hE : x4_hasI a1 = (1 : Int32) := (by unfold x4_hasI; rw [if_neg c_5_1])
    exact hret (1 : Int32) () _ _ _ _ rfl hE hP hD hS dX4_hasI_13
def x4_yOf (a1 : Int32) : Int32 := (a1 &&& (4095 : Int32))
set_option maxRecDepth 100000 in
set_option maxHeartbeats 8000000 in
theorem kX4_yOf (l : Launch) (D : va_G) (cI : ClassId) (w : va_W) (a1 : Int32) : MetI l yX4_yOf (wsU yX4_yOf cX4_yOf 1 (some .int)) { frames := 0, cells := 0, slots := 0, locals := 0 } D cI [.int a1] w (fun _ : Unit => w) (fun r _ => (x4_yOf a1) = r) := by
  refine MetI.of (by decide) (Nat.le_of_ble_eq_true rfl) ?_
  intro p e s m below meth c A Q ls hx hb hml hown hts hK hN hA hret hP hD hS hl
  have hown : s.vm.findClass RX4 = some m.cls := hown
  have hl : lv_has ls 1 [(0, .int a1)] := hl
  suffices go : ∀ (H : Heap) (locs : List Loc), va_P D vwCl w H → va_D A w → va_S A s.heap H locs → W p l e ({ frames := 0, cells := 0, slots := 0, locals := 0 } : Room) s m (([.int a1] : List Value).toArray) below meth c H locs 0 0 Q (F0 m 0 ls []) from go _ _ hP hD hS
  intro H locs hP hD hS
  refine lv_iload_n hx hb dX4_yOf_0 rfl (lv_at hl 0 rfl) ?_
  refine lv_sipush (v := (4095 : Int32)) hx hb dX4_yOf_1 (by decide) ?_
  refine lv_iand hx hb dX4_yOf_4 ?_
  have hE : x4_yOf a1 = (a1 &&& (4095 : Int32)) := (by unfold x4_yOf; rfl)
  exact hret (a1 &&& (4095 : Int32)) () _ _ _ _ rfl hE hP hD hS dX4_yOf_5
def x4_addressOf_45 (σ : St) (x2_45 : Int32) : Int32 × St := (if (x4_hasI x2_45) = (0 : Int32) then ((x4_yOf x2_45), σ) else ((-9 : Int32), σ))
def x4_addressOf_4 : Nat → St → Int32 → Int32 → Int32 × St
  | 0, σ, _, _ => (0, σ)
  | n + 1, σ, x2_4, x3_4 => (if (32 : Int32) ≤ x3_4 then x4_addressOf_45 σ x2_4 else (if (x4_hasI x2_4) = (0 : Int32) then x4_addressOf_45 σ x2_4 else x4_addressOf_4 n (s_t2 σ ((g_t2 σ) + (1 : Int32))) (x4_fetch σ (x4_yOf x2_4)) (x3_4 + (1 : Int32))))
def x4_addressOf (σ : St) (a1 : Int32) : Int32 × St := x4_addressOf_4 (33) σ a1 (0 : Int32)
set_option maxRecDepth 100000 in
set_option maxHeartbeats 8000000 in
theorem kX4_addressOf (l : Launch) (D : va_G) (cI : ClassId) (h : Nat → Nat) (σ : St) (a1 : Int32) : MetI l yX4_addressOf (wsU yX4_addressOf cX4_addressOf 4 (some .int)) { frames := 1, cells := 0, slots := 0, locals := 21 } D cI [.ref (h 0), .int a1] (wX h cI σ) (fun u : St => wX h cI u) (fun r u => (x4_addressOf σ a1).1 = r ∧ (x4_addressOf σ a1).2 = u) := by
  refine MetI.of (by decide) (Nat.le_of_ble_eq_true rfl) ?_
  intro p e s m below meth c A Q ls hx hb hml hown hts hK hN hA hret hP hD hS hl
  have hown : s.vm.findClass RX4 = some m.cls := hown
  have hl : lv_has ls 4 [(0, .ref (h 0)), (1, .int a1)] := hl
  have J_45 : ∀ (σ' : St) (x2_45 : Int32) (H : Heap) (locs : List Loc) (ls : Array Slot), x4_addressOf σ a1 = x4_addressOf_45 σ' x2_45 → lv_has ls 4 [(0, .ref (h 0)), (2, .int x2_45)] → va_P D vwCl (wX h cI σ') H → va_D A (wX h cI σ') → va_S A s.heap H locs → W p l e ({ frames := 1, cells := 0, slots := 0, locals := 21 } : Room) s m (([.ref (h 0), .int a1] : List Value).toArray) below meth c H locs 0 0 Q (F0 m 45 ls []) := by
    intro σ' x2_45 H locs ls E hl hP hD hS
    refine lv_iload_n hx hb dX4_addressOf_45 rfl (lv_at hl 1 rfl) ?_
    refine call_Si 1 (kX4_hasI l D cI _ x2_45) ⟨hx, hb, hml, hown, hts, hK, hN, hA⟩ ⟨kw_249, kw_250, kw_1, kw_251, by decide +kernel, rfl, rfl, Nat.le_of_ble_eq_true rfl, Nat.le_of_ble_eq_true rfl⟩ rfl hP hD hS hl.1 rfl (Nat.le_of_ble_eq_true rfl) dX4_addressOf_46 ⟨Nat.zero_le _, Nat.zero_le _⟩ (fun r46 u H locs hw hP hD hS => ?_)
    have hw : (x4_hasI x2_45) = r46 := hw
    subst hw
    refine lv_if_eq (tgt := 57) hx hb dX4_addressOf_49 (by decide) (fun c_49_2 => ?_) (fun c_49_2 => ?_)
    · have c_49_2 : (x4_hasI x2_45) = (0 : Int32) := c_49_2
      refine lv_iload_n hx hb dX4_addressOf_57 rfl (lv_at hl 1 rfl) ?_
      refine call_Si 1 (kX4_yOf l D cI _ x2_45) ⟨hx, hb, hml, hown, hts, hK, hN, hA⟩ ⟨kw_252, kw_253, kw_1, kw_254, by decide +kernel, rfl, rfl, Nat.le_of_ble_eq_true rfl, Nat.le_of_ble_eq_true rfl⟩ rfl hP hD hS hl.1 rfl (Nat.le_of_ble_eq_true rfl) dX4_addressOf_58 ⟨Nat.zero_le _, Nat.zero_le _⟩ (fun r58 u H locs hw hP hD hS => ?_)
      have hw : (x4_yOf x2_45) = r58 := hw
      subst hw
      have hE : x4_addressOf σ a1 = ((x4_yOf x2_45), σ') := (E.trans (by unfold x4_addressOf_45; rw [if_pos c_49_2]))
      exact hret (x4_yOf x2_45) σ' _ _ _ _ rfl ⟨by rw [hE], by rw [hE]⟩ hP hD hS dX4_addressOf_61
    · have c_49_2 : ¬ ((x4_hasI x2_45) = (0 : Int32)) := c_49_2
      refine lv_bipush (v := (-9 : Int32)) hx hb dX4_addressOf_52 (by decide) ?_
      refine lv_goto (tgt := 61) hx hb dX4_addressOf_54 (by decide) ?_
      have hE : x4_addressOf σ a1 = ((-9 : Int32), σ') := (E.trans (by unfold x4_addressOf_45; rw [if_neg c_49_2]))
      exact hret (-9 : Int32) σ' _ _ _ _ rfl ⟨by rw [hE], by rw [hE]⟩ hP hD hS dX4_addressOf_61
  have J_4 : ∀ (n : Nat) (σ' : St) (x2_4 : Int32) (x3_4 : Int32) (H : Heap) (locs : List Loc) (ls : Array Slot), (∃ k : Nat, x3_4 = nI k ∧ k ≤ 32 ∧ k + n = 33) → x4_addressOf σ a1 = x4_addressOf_4 n σ' x2_4 x3_4 → lv_has ls 4 [(0, .ref (h 0)), (2, .int x2_4), (3, .int x3_4)] → va_P D vwCl (wX h cI σ') H → va_D A (wX h cI σ') → va_S A s.heap H locs → W p l e ({ frames := 1, cells := 0, slots := 0, locals := 21 } : Room) s m (([.ref (h 0), .int a1] : List Value).toArray) below meth c H locs 0 0 Q (F0 m 4 ls []) := by
    intro n
    induction n with
    | zero => intro σ' x2_4 x3_4 H locs ls hI E hl hP hD hS; obtain ⟨k, hk1, hk2, hk3⟩ := hI; omega
    | succ n ih =>
      intro σ' x2_4 x3_4 H locs ls hI E hl hP hD hS
      obtain ⟨k, hk1, hk2, hk3⟩ := hI
      refine lv_iload_n hx hb dX4_addressOf_4 rfl (lv_at hl 2 rfl) ?_
      refine lv_bipush (v := (32 : Int32)) hx hb dX4_addressOf_5 (by decide) ?_
      refine lv_icmp_ge (tgt := 45) hx hb dX4_addressOf_7 (by decide) (fun c_7_1 => ?_) (fun c_7_1 => ?_)
      · have c_7_1 : (32 : Int32) ≤ x3_4 := c_7_1
        exact J_45 σ' x2_4 _ _ _ (E.trans (by rw [x4_addressOf_4, if_pos c_7_1])) (lv_sub hl [0, 1] rfl) hP hD hS
      · have c_7_1 : ¬ ((32 : Int32) ≤ x3_4) := c_7_1
        refine lv_iload_n hx hb dX4_addressOf_10 rfl (lv_at hl 1 rfl) ?_
        refine call_Si 1 (kX4_hasI l D cI _ x2_4) ⟨hx, hb, hml, hown, hts, hK, hN, hA⟩ ⟨kw_249, kw_250, kw_1, kw_251, by decide +kernel, rfl, rfl, Nat.le_of_ble_eq_true rfl, Nat.le_of_ble_eq_true rfl⟩ rfl hP hD hS hl.1 rfl (Nat.le_of_ble_eq_true rfl) dX4_addressOf_11 ⟨Nat.zero_le _, Nat.zero_le _⟩ (fun r11 u H locs hw hP hD hS => ?_)
        have hw : (x4_hasI x2_4) = r11 := hw
        subst hw
        refine lv_if_eq (tgt := 45) hx hb dX4_addressOf_14 (by decide) (fun c_14_3 => ?_) (fun c_14_3 => ?_)
        · have c_14_3 : (x4_hasI x2_4) = (0 : Int32) := c_14_3
          exact J_45 σ' x2_4 _ _ _ (E.trans (by rw [x4_addressOf_4, if_neg c_7_1, if_pos c_14_3])) (lv_sub hl [0, 1] rfl) hP hD hS
        · have c_14_3 : ¬ ((x4_hasI x2_4) = (0 : Int32)) := c_14_3
          refine lv_aload_n hx hb dX4_addressOf_17 rfl (lv_at hl 0 rfl) ?_
          refine lv_iload_n hx hb dX4_addressOf_18 rfl (lv_at hl 1 rfl) ?_
          refine call_Si 1 (kX4_yOf l D cI _ x2_4) ⟨hx, hb, hml, hown, hts, hK, hN, hA⟩ ⟨kw_252, kw_253, kw_1, kw_254, by decide +kernel, rfl, rfl, Nat.le_of_ble_eq_true rfl, Nat.le_of_ble_eq_true rfl⟩ rfl hP hD hS hl.1 rfl (Nat.le_of_ble_eq_true rfl) dX4_addressOf_19 ⟨Nat.zero_le _, Nat.zero_le _⟩ (fun r19 u H locs hw hP hD hS => ?_)
          have hw : (x4_yOf x2_4) = r19 := hw
          subst hw
          refine call_Vi 1 (kX4_fetch l D cI h _ (x4_yOf x2_4)) ⟨hx, hb, hml, hown, hts, hK, hN, hA⟩ ⟨kw_164, kw_166, ks_yX4_fetch, kw_1, kw_167, by decide +kernel, rfl, rfl, Nat.le_of_ble_eq_true rfl, Nat.le_of_ble_eq_true rfl⟩ rfl (va_recv hK hP (ci := 4) (q0 := 0) rfl rfl) hP hD hS hl.1 rfl (Nat.le_of_ble_eq_true rfl) dX4_addressOf_22 ⟨Nat.zero_le _, Nat.zero_le _⟩ (fun r22 u H locs hw hP hD hS => ?_)
          have hw : (x4_fetch σ' (x4_yOf x2_4)) = r22 := hw
          subst hw
          refine lv_istore_n (lv' := [(2, .int (x4_fetch σ' (x4_yOf x2_4))), (0, .ref (h 0)), (3, .int x3_4)]) hx hb dX4_addressOf_25 rfl hl (by decide) rfl (fun ls hl => ?_)
          refine lv_aload_n hx hb dX4_addressOf_26 rfl (lv_at hl 1 rfl) ?_
          refine gX_ref9 hx hb hts hown hK hP kw_121 dX4_addressOf_27 ?_
          refine lv_dup hx hb dX4_addressOf_30 rfl ?_
          refine gXN_t2 (v := (g_t2 σ')) hx hb hts hown hK hP (nc_at hN 3 rfl) rfl dX4_addressOf_31 ?_
          refine lv_iconst (v := (1 : Int32)) hx hb dX4_addressOf_34 (by decide) ?_
          refine lv_iadd hx hb dX4_addressOf_35 ?_
          refine pXN_t2 hx hb hts hown hK hP hD hS (nc_at hN 3 rfl) dX4_addressOf_36 (fun H locs hP hD hS => ?_)
          refine lv_iinc (v := (x3_4 + (1 : Int32))) (lv' := [(3, .int (x3_4 + (1 : Int32))), (2, .int (x4_fetch σ' (x4_yOf x2_4))), (0, .ref (h 0))]) hx hb dX4_addressOf_39 hl (k := 2) rfl (rfl) (by decide) rfl (fun ls hl => ?_)
          refine lv_goto (tgt := 4) hx hb dX4_addressOf_42 (by decide) ?_
          exact ih (s_t2 σ' ((g_t2 σ') + (1 : Int32))) (x4_fetch σ' (x4_yOf x2_4)) (x3_4 + (1 : Int32)) _ _ _ (⟨k + 1, by rw [hk1]; exact nI_1 k, lp_c (by assumption) hk1 hk2 (by decide), by omega⟩) (E.trans (by rw [x4_addressOf_4, if_neg c_7_1, if_neg c_14_3])) (lv_sub hl [2, 1, 0] rfl) hP hD hS
  suffices go : ∀ (H : Heap) (locs : List Loc), va_P D vwCl (wX h cI σ) H → va_D A (wX h cI σ) → va_S A s.heap H locs → W p l e ({ frames := 1, cells := 0, slots := 0, locals := 21 } : Room) s m (([.ref (h 0), .int a1] : List Value).toArray) below meth c H locs 0 0 Q (F0 m 0 ls []) from go _ _ hP hD hS
  intro H locs hP hD hS
  refine lv_iload_n hx hb dX4_addressOf_0 rfl (lv_at hl 1 rfl) ?_
  refine lv_istore_n (lv' := [(2, .int a1), (0, .ref (h 0)), (1, .int a1)]) hx hb dX4_addressOf_1 rfl hl (by decide) rfl (fun ls hl => ?_)
  refine lv_iconst (v := (0 : Int32)) hx hb dX4_addressOf_2 (by decide) ?_
  refine lv_istore_n (lv' := [(3, .int (0 : Int32)), (2, .int a1), (0, .ref (h 0)), (1, .int a1)]) hx hb dX4_addressOf_3 rfl hl (by decide) rfl (fun ls hl => ?_)
  exact J_4 (33) σ a1 (0 : Int32) _ _ _ (⟨0, rfl, Nat.zero_le _, rfl⟩) (by unfold x4_addressOf; rfl) (lv_sub hl [2, 1, 0] rfl) hP hD hS
def x4_followXct_4 : Nat → St → Int32 → Int32 → Int32 × St
  | 0, σ, _, _ => (0, σ)
  | n + 1, σ, x2_4, x3_4 => (if (32 : Int32) < x3_4 then ((-9 : Int32), σ) else (if (x4_codeOf x2_4) = (4 : Int32) then (if (x4_addressOf σ x2_4).1 = (-9 : Int32) then ((-9 : Int32), (x4_addressOf σ x2_4).2) else x4_followXct_4 n (x4_addressOf σ x2_4).2 (x4_fetch (x4_addressOf σ x2_4).2 (x4_addressOf σ x2_4).1) (x3_4 + (1 : Int32))) else (x2_4, σ)))
def x4_followXct (σ : St) (a1 : Int32) : Int32 × St := x4_followXct_4 (34) σ a1 (0 : Int32)
set_option maxRecDepth 100000 in
set_option maxHeartbeats 8000000 in
theorem kX4_followXct (l : Launch) (D : va_G) (cI : ClassId) (h : Nat → Nat) (σ : St) (a1 : Int32) : MetI l yX4_followXct (wsU yX4_followXct cX4_followXct 5 (some .int)) { frames := 2, cells := 0, slots := 0, locals := 44 } D cI [.ref (h 0), .int a1] (wX h cI σ) (fun u : St => wX h cI u) (fun r u => (x4_followXct σ a1).1 = r ∧ (x4_followXct σ a1).2 = u) := by
  refine MetI.of (by decide) (Nat.le_of_ble_eq_true rfl) ?_
  intro p e s m below meth c A Q ls hx hb hml hown hts hK hN hA hret hP hD hS hl
  have hown : s.vm.findClass RX4 = some m.cls := hown
  have hl : lv_has ls 5 [(0, .ref (h 0)), (1, .int a1)] := hl
  have J_4 : ∀ (n : Nat) (σ' : St) (x2_4 : Int32) (x3_4 : Int32) (H : Heap) (locs : List Loc) (ls : Array Slot), (∃ k : Nat, x3_4 = nI k ∧ k ≤ 33 ∧ k + n = 34) → x4_followXct σ a1 = x4_followXct_4 n σ' x2_4 x3_4 → lv_has ls 5 [(0, .ref (h 0)), (2, .int x2_4), (3, .int x3_4)] → va_P D vwCl (wX h cI σ') H → va_D A (wX h cI σ') → va_S A s.heap H locs → W p l e ({ frames := 2, cells := 0, slots := 0, locals := 44 } : Room) s m (([.ref (h 0), .int a1] : List Value).toArray) below meth c H locs 0 0 Q (F0 m 4 ls []) := by
    intro n
    induction n with
    | zero => intro σ' x2_4 x3_4 H locs ls hI E hl hP hD hS; obtain ⟨k, hk1, hk2, hk3⟩ := hI; omega
    | succ n ih =>
      intro σ' x2_4 x3_4 H locs ls hI E hl hP hD hS
      obtain ⟨k, hk1, hk2, hk3⟩ := hI
      refine lv_iload_n hx hb dX4_followXct_4 rfl (lv_at hl 2 rfl) ?_
      refine lv_bipush (v := (32 : Int32)) hx hb dX4_followXct_5 (by decide) ?_
      refine lv_icmp_gt (tgt := 50) hx hb dX4_followXct_7 (by decide) (fun c_7_1 => ?_) (fun c_7_1 => ?_)
      · have c_7_1 : (32 : Int32) < x3_4 := c_7_1
        refine lv_bipush (v := (-9 : Int32)) hx hb dX4_followXct_50 (by decide) ?_
        have hE : x4_followXct σ a1 = ((-9 : Int32), σ') := (E.trans (by rw [x4_followXct_4, if_pos c_7_1]))
        exact hret (-9 : Int32) σ' _ _ _ _ rfl ⟨by rw [hE], by rw [hE]⟩ hP hD hS dX4_followXct_52
      · have c_7_1 : ¬ ((32 : Int32) < x3_4) := c_7_1
        refine lv_iload_n hx hb dX4_followXct_10 rfl (lv_at hl 1 rfl) ?_
        refine call_Si 1 (kX4_codeOf l D cI _ x2_4) ⟨hx, hb, hml, hown, hts, hK, hN, hA⟩ ⟨kw_242, kw_243, kw_1, kw_244, by decide +kernel, rfl, rfl, Nat.le_of_ble_eq_true rfl, Nat.le_of_ble_eq_true rfl⟩ rfl hP hD hS hl.1 rfl (Nat.le_of_ble_eq_true rfl) dX4_followXct_11 ⟨Nat.zero_le _, Nat.zero_le _⟩ (fun r11 u H locs hw hP hD hS => ?_)
        have hw : (x4_codeOf x2_4) = r11 := hw
        subst hw
        refine lv_iconst (v := (4 : Int32)) hx hb dX4_followXct_14 (by decide) ?_
        refine lv_icmp_eq (tgt := 20) hx hb dX4_followXct_15 (by decide) (fun c_15_2 => ?_) (fun c_15_2 => ?_)
        · have c_15_2 : (x4_codeOf x2_4) = (4 : Int32) := c_15_2
          refine lv_aload_n hx hb dX4_followXct_20 rfl (lv_at hl 0 rfl) ?_
          refine lv_iload_n hx hb dX4_followXct_21 rfl (lv_at hl 1 rfl) ?_
          refine call_Vi 1 (kX4_addressOf l D cI h _ x2_4) ⟨hx, hb, hml, hown, hts, hK, hN, hA⟩ ⟨kw_245, kw_247, ks_yX4_addressOf, kw_1, kw_248, by decide +kernel, rfl, rfl, Nat.le_of_ble_eq_true rfl, Nat.le_of_ble_eq_true rfl⟩ rfl (va_recv hK hP (ci := 4) (q0 := 0) rfl rfl) hP hD hS hl.1 rfl (Nat.le_of_ble_eq_true rfl) dX4_followXct_22 ⟨Nat.zero_le _, Nat.zero_le _⟩ (fun r22 u H locs hw hP hD hS => ?_)
          obtain ⟨hw, hw2⟩ : (x4_addressOf σ' x2_4).1 = r22 ∧ (x4_addressOf σ' x2_4).2 = u := hw
          subst hw
          subst hw2
          refine lv_istore (lv' := [(4, .int (x4_addressOf σ' x2_4).1), (0, .ref (h 0)), (2, .int x2_4), (3, .int x3_4)]) hx hb dX4_followXct_25 hl (by decide) rfl (fun ls hl => ?_)
          refine lv_iload hx hb dX4_followXct_27 (lv_at hl 0 rfl) ?_
          refine lv_bipush (v := (-9 : Int32)) hx hb dX4_followXct_29 (by decide) ?_
          refine lv_icmp_ne (tgt := 37) hx hb dX4_followXct_31 (by decide) (fun c_31_3 => ?_) (fun c_31_3 => ?_)
          · have c_31_3 : ¬ ((x4_addressOf σ' x2_4).1 = (-9 : Int32)) := c_31_3
            refine lv_aload_n hx hb dX4_followXct_37 rfl (lv_at hl 1 rfl) ?_
            refine lv_iload hx hb dX4_followXct_38 (lv_at hl 0 rfl) ?_
            refine call_Vi 1 (kX4_fetch l D cI h _ (x4_addressOf σ' x2_4).1) ⟨hx, hb, hml, hown, hts, hK, hN, hA⟩ ⟨kw_164, kw_166, ks_yX4_fetch, kw_1, kw_167, by decide +kernel, rfl, rfl, Nat.le_of_ble_eq_true rfl, Nat.le_of_ble_eq_true rfl⟩ rfl (va_recv hK hP (ci := 4) (q0 := 0) rfl rfl) hP hD hS hl.1 rfl (Nat.le_of_ble_eq_true rfl) dX4_followXct_40 ⟨Nat.zero_le _, Nat.zero_le _⟩ (fun r40 u H locs hw hP hD hS => ?_)
            have hw : (x4_fetch (x4_addressOf σ' x2_4).2 (x4_addressOf σ' x2_4).1) = r40 := hw
            subst hw
            refine lv_istore_n (lv' := [(2, .int (x4_fetch (x4_addressOf σ' x2_4).2 (x4_addressOf σ' x2_4).1)), (4, .int (x4_addressOf σ' x2_4).1), (0, .ref (h 0)), (3, .int x3_4)]) hx hb dX4_followXct_43 rfl hl (by decide) rfl (fun ls hl => ?_)
            refine lv_iinc (v := (x3_4 + (1 : Int32))) (lv' := [(3, .int (x3_4 + (1 : Int32))), (2, .int (x4_fetch (x4_addressOf σ' x2_4).2 (x4_addressOf σ' x2_4).1)), (4, .int (x4_addressOf σ' x2_4).1), (0, .ref (h 0))]) hx hb dX4_followXct_44 hl (k := 3) rfl (rfl) (by decide) rfl (fun ls hl => ?_)
            refine lv_goto (tgt := 4) hx hb dX4_followXct_47 (by decide) ?_
            exact ih (x4_addressOf σ' x2_4).2 (x4_fetch (x4_addressOf σ' x2_4).2 (x4_addressOf σ' x2_4).1) (x3_4 + (1 : Int32)) _ _ _ (⟨k + 1, by rw [hk1]; exact nI_1 k, lp_c2 (N := 32) (by assumption) hk1 hk2 (by decide) (by decide), by omega⟩) (E.trans (by rw [x4_followXct_4, if_neg c_7_1, if_pos c_15_2, if_neg c_31_3])) (lv_sub hl [3, 1, 0] rfl) hP hD hS
          · have c_31_3 : (x4_addressOf σ' x2_4).1 = (-9 : Int32) := c_31_3
            refine lv_bipush (v := (-9 : Int32)) hx hb dX4_followXct_34 (by decide) ?_
            have hE : x4_followXct σ a1 = ((-9 : Int32), (x4_addressOf σ' x2_4).2) := (E.trans (by rw [x4_followXct_4, if_neg c_7_1, if_pos c_15_2, if_pos c_31_3]))
            exact hret (-9 : Int32) (x4_addressOf σ' x2_4).2 _ _ _ _ rfl ⟨by rw [hE], by rw [hE]⟩ hP hD hS dX4_followXct_36
        · have c_15_2 : ¬ ((x4_codeOf x2_4) = (4 : Int32)) := c_15_2
          refine lv_iload_n hx hb dX4_followXct_18 rfl (lv_at hl 1 rfl) ?_
          have hE : x4_followXct σ a1 = (x2_4, σ') := (E.trans (by rw [x4_followXct_4, if_neg c_7_1, if_neg c_15_2]))
          exact hret x2_4 σ' _ _ _ _ rfl ⟨by rw [hE], by rw [hE]⟩ hP hD hS dX4_followXct_19
  suffices go : ∀ (H : Heap) (locs : List Loc), va_P D vwCl (wX h cI σ) H → va_D A (wX h cI σ) → va_S A s.heap H locs → W p l e ({ frames := 2, cells := 0, slots := 0, locals := 44 } : Room) s m (([.ref (h 0), .int a1] : List Value).toArray) below meth c H locs 0 0 Q (F0 m 0 ls []) from go _ _ hP hD hS
  intro H locs hP hD hS
  refine lv_iload_n hx hb dX4_followXct_0 rfl (lv_at hl 1 rfl) ?_
  refine lv_istore_n (lv' := [(2, .int a1), (0, .ref (h 0)), (1, .int a1)]) hx hb dX4_followXct_1 rfl hl (by decide) rfl (fun ls hl => ?_)
  refine lv_iconst (v := (0 : Int32)) hx hb dX4_followXct_2 (by decide) ?_
  refine lv_istore_n (lv' := [(3, .int (0 : Int32)), (2, .int a1), (0, .ref (h 0)), (1, .int a1)]) hx hb dX4_followXct_3 rfl hl (by decide) rfl (fun ls hl => ?_)
  exact J_4 (34) σ a1 (0 : Int32) _ _ _ (⟨0, rfl, Nat.zero_le _, rfl⟩) (by unfold x4_followXct; rfl) (lv_sub hl [2, 1, 0] rfl) hP hD hS
