def j_bitCount_0f7a4_48 (x0_48 : Int32) : Int32 := (x0_48 &&& (63 : Int32))
def j_bitCount_0f7a4_41 (x0_41 : Int32) : Int32 := j_bitCount_0f7a4_48 (x0_41 + (j_iushr x0_41 (16 : Int32)))
def j_bitCount_0f7a4_34 (x0_34 : Int32) : Int32 := j_bitCount_0f7a4_41 (x0_34 + (j_iushr x0_34 (8 : Int32)))
def j_bitCount_0f7a4_24 (x0_24 : Int32) : Int32 := j_bitCount_0f7a4_34 ((x0_24 + (j_iushr x0_24 (4 : Int32))) &&& (252645135 : Int32))
def j_bitCount_0f7a4_10 (x0_10 : Int32) : Int32 := j_bitCount_0f7a4_24 ((x0_10 &&& (858993459 : Int32)) + ((j_iushr x0_10 (2 : Int32)) &&& (858993459 : Int32)))
def j_bitCount_0f7a4 (a1 : Int32) : Int32 := j_bitCount_0f7a4_10 (a1 - ((j_iushr a1 (1 : Int32)) &&& (1431655765 : Int32)))
set_option maxRecDepth 100000 in
set_option maxHeartbeats 8000000 in
theorem kJ6_bitCount_0f7a4 (l : Launch) (D : va_G) (cI : ClassId) (w : va_W) (a1 : Int32) : MetI l yJ6_bitCount_0f7a4 (wsU yJ6_bitCount_0f7a4 cJ6_bitCount_0f7a4 1 (some .int)) { frames := 0, cells := 0, slots := 0, locals := 0 } D cI [.int a1] w (fun _ : Unit => w) (fun r _ => (j_bitCount_0f7a4 a1) = r) := by
  refine MetI.of (by decide) (Nat.le_of_ble_eq_true rfl) ?_
  intro p e s m below meth c A Q ls hx hb hml hown hts hK hN hA hret hP hD hS hl
  have hown : s.vm.findClass RJ6 = some m.cls := hown
  have hl : lv_has ls 1 [(0, .int a1)] := hl
  have J_48 : ∀ (x0_48 : Int32) (H : Heap) (locs : List Loc) (ls : Array Slot), j_bitCount_0f7a4 a1 = j_bitCount_0f7a4_48 x0_48 → lv_has ls 1 [(0, .int x0_48)] → va_P D vwCl w H → va_D A w → va_S A s.heap H locs → W p l e ({ frames := 0, cells := 0, slots := 0, locals := 0 } : Room) s m (([.int a1] : List Value).toArray) below meth c H locs 0 0 Q (F0 m 48 ls []) := by
    intro x0_48 H locs ls E hl hP hD hS
    refine lv_iload_n hx hb dJ6_bitCount_0f7a4_48 rfl (lv_at hl 0 rfl) ?_
    refine lv_bipush (v := (63 : Int32)) hx hb dJ6_bitCount_0f7a4_49 (by decide) ?_
    refine lv_iand hx hb dJ6_bitCount_0f7a4_51 ?_
    have hE : j_bitCount_0f7a4 a1 = (x0_48 &&& (63 : Int32)) := (E.trans (by unfold j_bitCount_0f7a4_48; rfl))
    exact hret (x0_48 &&& (63 : Int32)) () _ _ _ _ rfl hE hP hD hS dJ6_bitCount_0f7a4_52
  have J_41 : ∀ (x0_41 : Int32) (H : Heap) (locs : List Loc) (ls : Array Slot), j_bitCount_0f7a4 a1 = j_bitCount_0f7a4_41 x0_41 → lv_has ls 1 [(0, .int x0_41)] → va_P D vwCl w H → va_D A w → va_S A s.heap H locs → W p l e ({ frames := 0, cells := 0, slots := 0, locals := 0 } : Room) s m (([.int a1] : List Value).toArray) below meth c H locs 0 0 Q (F0 m 41 ls []) := by
    intro x0_41 H locs ls E hl hP hD hS
    refine lv_iload_n hx hb dJ6_bitCount_0f7a4_41 rfl (lv_at hl 0 rfl) ?_
    refine lv_iload_n hx hb dJ6_bitCount_0f7a4_42 rfl (lv_at hl 0 rfl) ?_
    refine lv_bipush (v := (16 : Int32)) hx hb dJ6_bitCount_0f7a4_43 (by decide) ?_
    refine lv_iushr (v := (j_iushr x0_41 (16 : Int32))) hx hb dJ6_bitCount_0f7a4_45 rfl ?_
    refine lv_iadd hx hb dJ6_bitCount_0f7a4_46 ?_
    refine lv_istore_n (lv' := [(0, .int (x0_41 + (j_iushr x0_41 (16 : Int32))))]) hx hb dJ6_bitCount_0f7a4_47 rfl hl (by decide) rfl (fun ls hl => ?_)
    exact J_48 (x0_41 + (j_iushr x0_41 (16 : Int32))) _ _ _ (E.trans (by unfold j_bitCount_0f7a4_41; rfl)) (lv_sub hl [0] rfl) hP hD hS
  have J_34 : ∀ (x0_34 : Int32) (H : Heap) (locs : List Loc) (ls : Array Slot), j_bitCount_0f7a4 a1 = j_bitCount_0f7a4_34 x0_34 → lv_has ls 1 [(0, .int x0_34)] → va_P D vwCl w H → va_D A w → va_S A s.heap H locs → W p l e ({ frames := 0, cells := 0, slots := 0, locals := 0 } : Room) s m (([.int a1] : List Value).toArray) below meth c H locs 0 0 Q (F0 m 34 ls []) := by
    intro x0_34 H locs ls E hl hP hD hS
    refine lv_iload_n hx hb dJ6_bitCount_0f7a4_34 rfl (lv_at hl 0 rfl) ?_
    refine lv_iload_n hx hb dJ6_bitCount_0f7a4_35 rfl (lv_at hl 0 rfl) ?_
    refine lv_bipush (v := (8 : Int32)) hx hb dJ6_bitCount_0f7a4_36 (by decide) ?_
    refine lv_iushr (v := (j_iushr x0_34 (8 : Int32))) hx hb dJ6_bitCount_0f7a4_38 rfl ?_
    refine lv_iadd hx hb dJ6_bitCount_0f7a4_39 ?_
    refine lv_istore_n (lv' := [(0, .int (x0_34 + (j_iushr x0_34 (8 : Int32))))]) hx hb dJ6_bitCount_0f7a4_40 rfl hl (by decide) rfl (fun ls hl => ?_)
    exact J_41 (x0_34 + (j_iushr x0_34 (8 : Int32))) _ _ _ (E.trans (by unfold j_bitCount_0f7a4_34; rfl)) (lv_sub hl [0] rfl) hP hD hS
  have J_24 : ∀ (x0_24 : Int32) (H : Heap) (locs : List Loc) (ls : Array Slot), j_bitCount_0f7a4 a1 = j_bitCount_0f7a4_24 x0_24 → lv_has ls 1 [(0, .int x0_24)] → va_P D vwCl w H → va_D A w → va_S A s.heap H locs → W p l e ({ frames := 0, cells := 0, slots := 0, locals := 0 } : Room) s m (([.int a1] : List Value).toArray) below meth c H locs 0 0 Q (F0 m 24 ls []) := by
    intro x0_24 H locs ls E hl hP hD hS
    refine lv_iload_n hx hb dJ6_bitCount_0f7a4_24 rfl (lv_at hl 0 rfl) ?_
    refine lv_iload_n hx hb dJ6_bitCount_0f7a4_25 rfl (lv_at hl 0 rfl) ?_
    refine lv_iconst (v := (4 : Int32)) hx hb dJ6_bitCount_0f7a4_26 (by decide) ?_
    refine lv_iushr (v := (j_iushr x0_24 (4 : Int32))) hx hb dJ6_bitCount_0f7a4_27 rfl ?_
    refine lv_iadd hx hb dJ6_bitCount_0f7a4_28 ?_
    refine lv_ldcw (v := (252645135 : Int32)) hx hb hown (hts _ kw_306) dJ6_bitCount_0f7a4_29 ?_
    refine lv_iand hx hb dJ6_bitCount_0f7a4_32 ?_
    refine lv_istore_n (lv' := [(0, .int ((x0_24 + (j_iushr x0_24 (4 : Int32))) &&& (252645135 : Int32)))]) hx hb dJ6_bitCount_0f7a4_33 rfl hl (by decide) rfl (fun ls hl => ?_)
    exact J_34 ((x0_24 + (j_iushr x0_24 (4 : Int32))) &&& (252645135 : Int32)) _ _ _ (E.trans (by unfold j_bitCount_0f7a4_24; rfl)) (lv_sub hl [0] rfl) hP hD hS
  have J_10 : ∀ (x0_10 : Int32) (H : Heap) (locs : List Loc) (ls : Array Slot), j_bitCount_0f7a4 a1 = j_bitCount_0f7a4_10 x0_10 → lv_has ls 1 [(0, .int x0_10)] → va_P D vwCl w H → va_D A w → va_S A s.heap H locs → W p l e ({ frames := 0, cells := 0, slots := 0, locals := 0 } : Room) s m (([.int a1] : List Value).toArray) below meth c H locs 0 0 Q (F0 m 10 ls []) := by
    intro x0_10 H locs ls E hl hP hD hS
    refine lv_iload_n hx hb dJ6_bitCount_0f7a4_10 rfl (lv_at hl 0 rfl) ?_
    refine lv_ldcw (v := (858993459 : Int32)) hx hb hown (hts _ kw_305) dJ6_bitCount_0f7a4_11 ?_
    refine lv_iand hx hb dJ6_bitCount_0f7a4_14 ?_
    refine lv_iload_n hx hb dJ6_bitCount_0f7a4_15 rfl (lv_at hl 0 rfl) ?_
    refine lv_iconst (v := (2 : Int32)) hx hb dJ6_bitCount_0f7a4_16 (by decide) ?_
    refine lv_iushr (v := (j_iushr x0_10 (2 : Int32))) hx hb dJ6_bitCount_0f7a4_17 rfl ?_
    refine lv_ldcw (v := (858993459 : Int32)) hx hb hown (hts _ kw_305) dJ6_bitCount_0f7a4_18 ?_
    refine lv_iand hx hb dJ6_bitCount_0f7a4_21 ?_
    refine lv_iadd hx hb dJ6_bitCount_0f7a4_22 ?_
    refine lv_istore_n (lv' := [(0, .int ((x0_10 &&& (858993459 : Int32)) + ((j_iushr x0_10 (2 : Int32)) &&& (858993459 : Int32))))]) hx hb dJ6_bitCount_0f7a4_23 rfl hl (by decide) rfl (fun ls hl => ?_)
    exact J_24 ((x0_10 &&& (858993459 : Int32)) + ((j_iushr x0_10 (2 : Int32)) &&& (858993459 : Int32))) _ _ _ (E.trans (by unfold j_bitCount_0f7a4_10; rfl)) (lv_sub hl [0] rfl) hP hD hS
  suffices go : ∀ (H : Heap) (locs : List Loc), va_P D vwCl w H → va_D A w → va_S A s.heap H locs → W p l e ({ frames := 0, cells := 0, slots := 0, locals := 0 } : Room) s m (([.int a1] : List Value).toArray) below meth c H locs 0 0 Q (F0 m 0 ls []) from go _ _ hP hD hS
  intro H locs hP hD hS
  refine lv_iload_n hx hb dJ6_bitCount_0f7a4_0 rfl (lv_at hl 0 rfl) ?_
  refine lv_iload_n hx hb dJ6_bitCount_0f7a4_1 rfl (lv_at hl 0 rfl) ?_
  refine lv_iconst (v := (1 : Int32)) hx hb dJ6_bitCount_0f7a4_2 (by decide) ?_
  refine lv_iushr (v := (j_iushr a1 (1 : Int32))) hx hb dJ6_bitCount_0f7a4_3 rfl ?_
  refine lv_ldcw (v := (1431655765 : Int32)) hx hb hown (hts _ kw_304) dJ6_bitCount_0f7a4_4 ?_
  refine lv_iand hx hb dJ6_bitCount_0f7a4_7 ?_
  refine lv_isub hx hb dJ6_bitCount_0f7a4_8 ?_
  refine lv_istore_n (lv' := [(0, .int (a1 - ((j_iushr a1 (1 : Int32)) &&& (1431655765 : Int32))))]) hx hb dJ6_bitCount_0f7a4_9 rfl hl (by decide) rfl (fun ls hl => ?_)
  exact J_10 (a1 - ((j_iushr a1 (1 : Int32)) &&& (1431655765 : Int32))) _ _ _ (by unfold j_bitCount_0f7a4; rfl) (lv_sub hl [0] rfl) hP hD hS
def x4_onesOf (a1 : Int32) : Int32 := (j_bitCount_0f7a4 (a1 &&& (511 : Int32)))
set_option maxRecDepth 100000 in
set_option maxHeartbeats 8000000 in
theorem kX4_onesOf (l : Launch) (D : va_G) (cI : ClassId) (w : va_W) (a1 : Int32) : MetI l yX4_onesOf (wsU yX4_onesOf cX4_onesOf 1 (some .int)) { frames := 1, cells := 0, slots := 0, locals := 20 } D cI [.int a1] w (fun _ : Unit => w) (fun r _ => (x4_onesOf a1) = r) := by
  refine MetI.of (by decide) (Nat.le_of_ble_eq_true rfl) ?_
  intro p e s m below meth c A Q ls hx hb hml hown hts hK hN hA hret hP hD hS hl
  have hown : s.vm.findClass RX4 = some m.cls := hown
  have hl : lv_has ls 1 [(0, .int a1)] := hl
  suffices go : ∀ (H : Heap) (locs : List Loc), va_P D vwCl w H → va_D A w → va_S A s.heap H locs → W p l e ({ frames := 1, cells := 0, slots := 0, locals := 20 } : Room) s m (([.int a1] : List Value).toArray) below meth c H locs 0 0 Q (F0 m 0 ls []) from go _ _ hP hD hS
  intro H locs hP hD hS
  refine lv_iload_n hx hb dX4_onesOf_0 rfl (lv_at hl 0 rfl) ?_
  refine lv_sipush (v := (511 : Int32)) hx hb dX4_onesOf_1 (by decide) ?_
  refine lv_iand hx hb dX4_onesOf_4 ?_
  refine call_Si 1 (kJ6_bitCount_0f7a4 l D cI _ (a1 &&& (511 : Int32))) ⟨hx, hb, hml, hown, hts, hK, hN, hA⟩ ⟨kw_301, kw_302, kw_7, kw_303, by decide +kernel, rfl, rfl, Nat.le_of_ble_eq_true rfl, Nat.le_of_ble_eq_true rfl⟩ rfl hP hD hS hl.1 rfl (Nat.le_of_ble_eq_true rfl) dX4_onesOf_5 ⟨Nat.zero_le _, Nat.zero_le _⟩ (fun r5 u H locs hw hP hD hS => ?_)
  have hw : (j_bitCount_0f7a4 (a1 &&& (511 : Int32))) = r5 := hw
  subst hw
  have hE : x4_onesOf a1 = (j_bitCount_0f7a4 (a1 &&& (511 : Int32))) := (by unfold x4_onesOf; rfl)
  exact hret (j_bitCount_0f7a4 (a1 &&& (511 : Int32))) () _ _ _ _ rfl hE hP hD hS dX4_onesOf_8
def x4_movedOnce (a1 : Int64) (a2 : Int32) (a3 : Int32) : Int64 := (if a3 = (0 : Int32) then (((a1 &&& (((1 : Int64) <<< (Int32.toInt64 (a2 - (1 : Int32)) &&& 63)) - (1 : Int64))) <<< (Int32.toInt64 (1 : Int32) &&& 63)) ||| (a1 >>> (Int32.toInt64 (a2 - (1 : Int32)) &&& 63))) else (if a3 = (1 : Int32) then (((a1 &&& ((1 : Int64) <<< (Int32.toInt64 (a2 - (1 : Int32)) &&& 63))) ||| ((a1 <<< (Int32.toInt64 (1 : Int32) &&& 63)) &&& (((1 : Int64) <<< (Int32.toInt64 (a2 - (1 : Int32)) &&& 63)) - (1 : Int64)))) ||| (a1 >>> (Int32.toInt64 (a2 - (1 : Int32)) &&& 63))) else (if a3 = (2 : Int32) then ((a1 >>> (Int32.toInt64 (1 : Int32) &&& 63)) ||| ((a1 &&& (1 : Int64)) <<< (Int32.toInt64 (a2 - (1 : Int32)) &&& 63))) else ((a1 &&& ((1 : Int64) <<< (Int32.toInt64 (a2 - (1 : Int32)) &&& 63))) ||| (a1 >>> (Int32.toInt64 (1 : Int32) &&& 63))))))
set_option maxRecDepth 100000 in
set_option maxHeartbeats 8000000 in
theorem kX4_movedOnce (l : Launch) (D : va_G) (cI : ClassId) (w : va_W) (a1 : Int64) (a2 : Int32) (a3 : Int32) : MetL l yX4_movedOnce (wsU yX4_movedOnce cX4_movedOnce 8 (some .long)) { frames := 0, cells := 0, slots := 0, locals := 0 } D cI [.long a1, .int a2, .int a3] w (fun _ : Unit => w) (fun r _ => (x4_movedOnce a1 a2 a3) = r) := by
  refine MetL.of (by decide) (Nat.le_of_ble_eq_true rfl) ?_
  intro p e s m below meth c A Q ls hx hb hml hown hts hK hN hA hret hP hD hS hl
  have hown : s.vm.findClass RX4 = some m.cls := hown
  have hl : lv_has ls 8 [(0, .long a1), (2, .int a2), (3, .int a3)] := hl
  suffices go : ∀ (H : Heap) (locs : List Loc), va_P D vwCl w H → va_D A w → va_S A s.heap H locs → W p l e ({ frames := 0, cells := 0, slots := 0, locals := 0 } : Room) s m (([.long a1, .int a2, .int a3] : List Value).toArray) below meth c H locs 0 0 Q (F0 m 0 ls []) from go _ _ hP hD hS
  intro H locs hP hD hS
  refine lv_lconst (v := (1 : Int64)) hx hb dX4_movedOnce_0 (by decide) ?_
  refine lv_iload_n hx hb dX4_movedOnce_1 rfl (lv_at hl 1 rfl) ?_
  refine lv_iconst (v := (1 : Int32)) hx hb dX4_movedOnce_2 (by decide) ?_
  refine lv_isub hx hb dX4_movedOnce_3 ?_
  refine lv_lshl (v := ((1 : Int64) <<< (Int32.toInt64 (a2 - (1 : Int32)) &&& 63))) hx hb dX4_movedOnce_4 rfl ?_
  refine lv_lstore (lv' := [(4, .long ((1 : Int64) <<< (Int32.toInt64 (a2 - (1 : Int32)) &&& 63))), (0, .long a1), (2, .int a2), (3, .int a3)]) hx hb dX4_movedOnce_5 hl (by decide) rfl (fun ls hl => ?_)
  refine lv_lload hx hb dX4_movedOnce_7 (lv_at hl 0 rfl) ?_
  refine lv_lconst (v := (1 : Int64)) hx hb dX4_movedOnce_9 (by decide) ?_
  refine lv_lsub hx hb dX4_movedOnce_10 ?_
  refine lv_lstore (lv' := [(6, .long (((1 : Int64) <<< (Int32.toInt64 (a2 - (1 : Int32)) &&& 63)) - (1 : Int64))), (4, .long ((1 : Int64) <<< (Int32.toInt64 (a2 - (1 : Int32)) &&& 63))), (0, .long a1), (2, .int a2), (3, .int a3)]) hx hb dX4_movedOnce_11 hl (by decide) rfl (fun ls hl => ?_)
  refine lv_iload_n hx hb dX4_movedOnce_13 rfl (lv_at hl 4 rfl) ?_
  by_cases s_14_1_0 : a3 = (0 : Int32)
  · refine lv_tableIn (off := 26) (tgt := 40) hx hb dX4_movedOnce_14 (by rw [s_14_1_0]; decide) (by rw [s_14_1_0]; decide) (by rw [s_14_1_0]; rfl) (by decide) ?_
    refine lv_lload_n hx hb dX4_movedOnce_40 rfl (lv_at hl 2 rfl) ?_
    refine lv_lload hx hb dX4_movedOnce_41 (lv_at hl 0 rfl) ?_
    refine lv_land hx hb dX4_movedOnce_43 ?_
    refine lv_iconst (v := (1 : Int32)) hx hb dX4_movedOnce_44 (by decide) ?_
    refine lv_lshl (v := ((a1 &&& (((1 : Int64) <<< (Int32.toInt64 (a2 - (1 : Int32)) &&& 63)) - (1 : Int64))) <<< (Int32.toInt64 (1 : Int32) &&& 63))) hx hb dX4_movedOnce_45 rfl ?_
    refine lv_lload_n hx hb dX4_movedOnce_46 rfl (lv_at hl 2 rfl) ?_
    refine lv_iload_n hx hb dX4_movedOnce_47 rfl (lv_at hl 3 rfl) ?_
    refine lv_iconst (v := (1 : Int32)) hx hb dX4_movedOnce_48 (by decide) ?_
    refine lv_isub hx hb dX4_movedOnce_49 ?_
    refine lv_lshr (v := (a1 >>> (Int32.toInt64 (a2 - (1 : Int32)) &&& 63))) hx hb dX4_movedOnce_50 rfl ?_
    refine lv_lor hx hb dX4_movedOnce_51 ?_
    have hE : x4_movedOnce a1 a2 a3 = (((a1 &&& (((1 : Int64) <<< (Int32.toInt64 (a2 - (1 : Int32)) &&& 63)) - (1 : Int64))) <<< (Int32.toInt64 (1 : Int32) &&& 63)) ||| (a1 >>> (Int32.toInt64 (a2 - (1 : Int32)) &&& 63))) := (by unfold x4_movedOnce; rw [if_pos s_14_1_0])
    exact hret (((a1 &&& (((1 : Int64) <<< (Int32.toInt64 (a2 - (1 : Int32)) &&& 63)) - (1 : Int64))) <<< (Int32.toInt64 (1 : Int32) &&& 63)) ||| (a1 >>> (Int32.toInt64 (a2 - (1 : Int32)) &&& 63))) () _ _ _ _ hE hP hD hS dX4_movedOnce_52
  by_cases s_14_1_1 : a3 = (1 : Int32)
  · refine lv_tableIn (off := 39) (tgt := 53) hx hb dX4_movedOnce_14 (by rw [s_14_1_1]; decide) (by rw [s_14_1_1]; decide) (by rw [s_14_1_1]; rfl) (by decide) ?_
    refine lv_lload_n hx hb dX4_movedOnce_53 rfl (lv_at hl 2 rfl) ?_
    refine lv_lload hx hb dX4_movedOnce_54 (lv_at hl 1 rfl) ?_
    refine lv_land hx hb dX4_movedOnce_56 ?_
    refine lv_lload_n hx hb dX4_movedOnce_57 rfl (lv_at hl 2 rfl) ?_
    refine lv_iconst (v := (1 : Int32)) hx hb dX4_movedOnce_58 (by decide) ?_
    refine lv_lshl (v := (a1 <<< (Int32.toInt64 (1 : Int32) &&& 63))) hx hb dX4_movedOnce_59 rfl ?_
    refine lv_lload hx hb dX4_movedOnce_60 (lv_at hl 0 rfl) ?_
    refine lv_land hx hb dX4_movedOnce_62 ?_
    refine lv_lor hx hb dX4_movedOnce_63 ?_
    refine lv_lload_n hx hb dX4_movedOnce_64 rfl (lv_at hl 2 rfl) ?_
    refine lv_iload_n hx hb dX4_movedOnce_65 rfl (lv_at hl 3 rfl) ?_
    refine lv_iconst (v := (1 : Int32)) hx hb dX4_movedOnce_66 (by decide) ?_
    refine lv_isub hx hb dX4_movedOnce_67 ?_
    refine lv_lshr (v := (a1 >>> (Int32.toInt64 (a2 - (1 : Int32)) &&& 63))) hx hb dX4_movedOnce_68 rfl ?_
    refine lv_lor hx hb dX4_movedOnce_69 ?_
    have hE : x4_movedOnce a1 a2 a3 = (((a1 &&& ((1 : Int64) <<< (Int32.toInt64 (a2 - (1 : Int32)) &&& 63))) ||| ((a1 <<< (Int32.toInt64 (1 : Int32) &&& 63)) &&& (((1 : Int64) <<< (Int32.toInt64 (a2 - (1 : Int32)) &&& 63)) - (1 : Int64)))) ||| (a1 >>> (Int32.toInt64 (a2 - (1 : Int32)) &&& 63))) := (by unfold x4_movedOnce; rw [if_neg s_14_1_0, if_pos s_14_1_1])
    exact hret (((a1 &&& ((1 : Int64) <<< (Int32.toInt64 (a2 - (1 : Int32)) &&& 63))) ||| ((a1 <<< (Int32.toInt64 (1 : Int32) &&& 63)) &&& (((1 : Int64) <<< (Int32.toInt64 (a2 - (1 : Int32)) &&& 63)) - (1 : Int64)))) ||| (a1 >>> (Int32.toInt64 (a2 - (1 : Int32)) &&& 63))) () _ _ _ _ hE hP hD hS dX4_movedOnce_70
  by_cases s_14_1_2 : a3 = (2 : Int32)
  · refine lv_tableIn (off := 57) (tgt := 71) hx hb dX4_movedOnce_14 (by rw [s_14_1_2]; decide) (by rw [s_14_1_2]; decide) (by rw [s_14_1_2]; rfl) (by decide) ?_
    refine lv_lload_n hx hb dX4_movedOnce_71 rfl (lv_at hl 2 rfl) ?_
    refine lv_iconst (v := (1 : Int32)) hx hb dX4_movedOnce_72 (by decide) ?_
    refine lv_lshr (v := (a1 >>> (Int32.toInt64 (1 : Int32) &&& 63))) hx hb dX4_movedOnce_73 rfl ?_
    refine lv_lload_n hx hb dX4_movedOnce_74 rfl (lv_at hl 2 rfl) ?_
    refine lv_lconst (v := (1 : Int64)) hx hb dX4_movedOnce_75 (by decide) ?_
    refine lv_land hx hb dX4_movedOnce_76 ?_
    refine lv_iload_n hx hb dX4_movedOnce_77 rfl (lv_at hl 3 rfl) ?_
    refine lv_iconst (v := (1 : Int32)) hx hb dX4_movedOnce_78 (by decide) ?_
    refine lv_isub hx hb dX4_movedOnce_79 ?_
    refine lv_lshl (v := ((a1 &&& (1 : Int64)) <<< (Int32.toInt64 (a2 - (1 : Int32)) &&& 63))) hx hb dX4_movedOnce_80 rfl ?_
    refine lv_lor hx hb dX4_movedOnce_81 ?_
    have hE : x4_movedOnce a1 a2 a3 = ((a1 >>> (Int32.toInt64 (1 : Int32) &&& 63)) ||| ((a1 &&& (1 : Int64)) <<< (Int32.toInt64 (a2 - (1 : Int32)) &&& 63))) := (by unfold x4_movedOnce; rw [if_neg s_14_1_0, if_neg s_14_1_1, if_pos s_14_1_2])
    exact hret ((a1 >>> (Int32.toInt64 (1 : Int32) &&& 63)) ||| ((a1 &&& (1 : Int64)) <<< (Int32.toInt64 (a2 - (1 : Int32)) &&& 63))) () _ _ _ _ hE hP hD hS dX4_movedOnce_82
  refine lv_tableOut (tgt := 83) hx hb dX4_movedOnce_14 (by have q0 := lv_neT s_14_1_0 (show (0 : Int32).toInt = 0 by decide); have q1 := lv_neT s_14_1_1 (show (1 : Int32).toInt = 1 by decide); have q2 := lv_neT s_14_1_2 (show (2 : Int32).toInt = 2 by decide); omega) (by decide) ?_
  refine lv_lload_n hx hb dX4_movedOnce_83 rfl (lv_at hl 2 rfl) ?_
  refine lv_lload hx hb dX4_movedOnce_84 (lv_at hl 1 rfl) ?_
  refine lv_land hx hb dX4_movedOnce_86 ?_
  refine lv_lload_n hx hb dX4_movedOnce_87 rfl (lv_at hl 2 rfl) ?_
  refine lv_iconst (v := (1 : Int32)) hx hb dX4_movedOnce_88 (by decide) ?_
  refine lv_lshr (v := (a1 >>> (Int32.toInt64 (1 : Int32) &&& 63))) hx hb dX4_movedOnce_89 rfl ?_
  refine lv_lor hx hb dX4_movedOnce_90 ?_
  have hE : x4_movedOnce a1 a2 a3 = ((a1 &&& ((1 : Int64) <<< (Int32.toInt64 (a2 - (1 : Int32)) &&& 63))) ||| (a1 >>> (Int32.toInt64 (1 : Int32) &&& 63))) := (by unfold x4_movedOnce; rw [if_neg s_14_1_0, if_neg s_14_1_1, if_neg s_14_1_2])
  exact hret ((a1 &&& ((1 : Int64) <<< (Int32.toInt64 (a2 - (1 : Int32)) &&& 63))) ||| (a1 >>> (Int32.toInt64 (1 : Int32) &&& 63))) () _ _ _ _ hE hP hD hS dX4_movedOnce_91
