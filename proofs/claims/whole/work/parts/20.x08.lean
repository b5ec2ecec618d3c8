def x4_moved_6 : Nat → Int32 → Int32 → Int32 → Int64 → Int32 → Int64
  | 0, _, _, _, _, _ => 0
  | n + 1, x2_6, x3_6, x4_6, x5_6, x7_6 => (if x4_6 ≤ x7_6 then x5_6 else x4_moved_6 n x2_6 x3_6 x4_6 (x4_movedOnce x5_6 x2_6 x3_6) (x7_6 + (1 : Int32)))
def x4_moved (a1 : Int64) (a2 : Int32) (a3 : Int32) (a4 : Int32) : Int64 := x4_moved_6 (Int32.toNatClampNeg a4 + 1) a2 a3 a4 a1 (0 : Int32)
set_option maxRecDepth 100000 in
set_option maxHeartbeats 8000000 in
theorem kX4_moved (l : Launch) (D : va_G) (cI : ClassId) (w : va_W) (a1 : Int64) (a2 : Int32) (a3 : Int32) (a4 : Int32) : MetL l yX4_moved (wsU yX4_moved cX4_moved 8 (some .long)) { frames := 1, cells := 0, slots := 0, locals := 27 } D cI [.long a1, .int a2, .int a3, .int a4] w (fun _ : Unit => w) (fun r _ => (x4_moved a1 a2 a3 a4) = r) := by
  refine MetL.of (by decide) (Nat.le_of_ble_eq_true rfl) ?_
  intro p e s m below meth c A Q ls hx hb hml hown hts hK hN hA hret hP hD hS hl
  have hown : s.vm.findClass RX4 = some m.cls := hown
  have hl : lv_has ls 8 [(0, .long a1), (2, .int a2), (3, .int a3), (4, .int a4)] := hl
  have J_6 : ∀ (n : Nat) (x2_6 : Int32) (x3_6 : Int32) (x4_6 : Int32) (x5_6 : Int64) (x7_6 : Int32) (H : Heap) (locs : List Loc) (ls : Array Slot), (∃ k : Nat, x7_6 = nI k ∧ x4_6 = a4 ∧ k ≤ Int32.toNatClampNeg a4 ∧ k + n = Int32.toNatClampNeg a4 + 1) → x4_moved a1 a2 a3 a4 = x4_moved_6 n x2_6 x3_6 x4_6 x5_6 x7_6 → lv_has ls 8 [(2, .int x2_6), (3, .int x3_6), (4, .int x4_6), (5, .long x5_6), (7, .int x7_6)] → va_P D vwCl w H → va_D A w → va_S A s.heap H locs → W p l e ({ frames := 1, cells := 0, slots := 0, locals := 27 } : Room) s m (([.long a1, .int a2, .int a3, .int a4] : List Value).toArray) below meth c H locs 0 0 Q (F0 m 6 ls []) := by
    intro n
    induction n with
    | zero => intro x2_6 x3_6 x4_6 x5_6 x7_6 H locs ls hI E hl hP hD hS; obtain ⟨k, hk1, hk2, hk3, hk4⟩ := hI; omega
    | succ n ih =>
      intro x2_6 x3_6 x4_6 x5_6 x7_6 H locs ls hI E hl hP hD hS
      obtain ⟨k, hk1, hk2, hk3, hk4⟩ := hI
      refine lv_iload hx hb dX4_moved_6 (lv_at hl 4 rfl) ?_
      refine lv_iload hx hb dX4_moved_8 (lv_at hl 2 rfl) ?_
      refine lv_icmp_ge (tgt := 28) hx hb dX4_moved_10 (by decide) (fun c_10_1 => ?_) (fun c_10_1 => ?_)
      · have c_10_1 : x4_6 ≤ x7_6 := c_10_1
        refine lv_lload hx hb dX4_moved_28 (lv_at hl 3 rfl) ?_
        have hE : x4_moved a1 a2 a3 a4 = x5_6 := (E.trans (by rw [x4_moved_6, if_pos c_10_1]))
        exact hret x5_6 () _ _ _ _ hE hP hD hS dX4_moved_30
      · have c_10_1 : ¬ (x4_6 ≤ x7_6) := c_10_1
        refine lv_lload hx hb dX4_moved_13 (lv_at hl 3 rfl) ?_
        refine lv_iload_n hx hb dX4_moved_15 rfl (lv_at hl 0 rfl) ?_
        refine lv_iload_n hx hb dX4_moved_16 rfl (lv_at hl 1 rfl) ?_
        refine call_Sl 3 (kX4_movedOnce l D cI _ x5_6 x2_6 x3_6) ⟨hx, hb, hml, hown, hts, hK, hN, hA⟩ ⟨kw_314, kw_315, kw_1, kw_316, by decide +kernel, rfl, rfl, Nat.le_of_ble_eq_true rfl, Nat.le_of_ble_eq_true rfl⟩ rfl hP hD hS hl.1 rfl (Nat.le_of_ble_eq_true rfl) dX4_moved_17 ⟨Nat.zero_le _, Nat.zero_le _⟩ (fun r17 u H locs hw hP hD hS => ?_)
        have hw : (x4_movedOnce x5_6 x2_6 x3_6) = r17 := hw
        subst hw
        refine lv_lstore (lv' := [(5, .long (x4_movedOnce x5_6 x2_6 x3_6)), (2, .int x2_6), (3, .int x3_6), (4, .int x4_6), (7, .int x7_6)]) hx hb dX4_moved_20 hl (by decide) rfl (fun ls hl => ?_)
        refine lv_iinc (v := (x7_6 + (1 : Int32))) (lv' := [(7, .int (x7_6 + (1 : Int32))), (5, .long (x4_movedOnce x5_6 x2_6 x3_6)), (2, .int x2_6), (3, .int x3_6), (4, .int x4_6)]) hx hb dX4_moved_22 hl (k := 4) rfl (rfl) (by decide) rfl (fun ls hl => ?_)
        refine lv_goto (tgt := 6) hx hb dX4_moved_25 (by decide) ?_
        exact ih x2_6 x3_6 x4_6 (x4_movedOnce x5_6 x2_6 x3_6) (x7_6 + (1 : Int32)) _ _ _ (⟨k + 1, by rw [hk1]; exact nI_1 k, hk2, hk2 ▸ lp_ge (by assumption) hk1 (by rw [hk2]; exact hk3), by omega⟩) (E.trans (by rw [x4_moved_6, if_neg c_10_1])) (lv_sub hl [2, 3, 4, 1, 0] rfl) hP hD hS
  suffices go : ∀ (H : Heap) (locs : List Loc), va_P D vwCl w H → va_D A w → va_S A s.heap H locs → W p l e ({ frames := 1, cells := 0, slots := 0, locals := 27 } : Room) s m (([.long a1, .int a2, .int a3, .int a4] : List Value).toArray) below meth c H locs 0 0 Q (F0 m 0 ls []) from go _ _ hP hD hS
  intro H locs hP hD hS
  refine lv_lload_n hx hb dX4_moved_0 rfl (lv_at hl 0 rfl) ?_
  refine lv_lstore (lv' := [(5, .long a1), (0, .long a1), (2, .int a2), (3, .int a3), (4, .int a4)]) hx hb dX4_moved_1 hl (by decide) rfl (fun ls hl => ?_)
  refine lv_iconst (v := (0 : Int32)) hx hb dX4_moved_3 (by decide) ?_
  refine lv_istore (lv' := [(7, .int (0 : Int32)), (5, .long a1), (0, .long a1), (2, .int a2), (3, .int a3), (4, .int a4)]) hx hb dX4_moved_4 hl (by decide) rfl (fun ls hl => ?_)
  exact J_6 (Int32.toNatClampNeg a4 + 1) a2 a3 a4 a1 (0 : Int32) _ _ _ (⟨0, rfl, rfl, Nat.zero_le _, by omega⟩) (by unfold x4_moved; rfl) (lv_sub hl [3, 4, 5, 1, 0] rfl) hP hD hS
def x4_both (σ : St)  : Int64 := (((Int32.toInt64 (g_ac σ)) <<< (Int32.toInt64 (18 : Int32) &&& 63)) ||| (Int32.toInt64 (g_io σ)))
set_option maxRecDepth 100000 in
set_option maxHeartbeats 8000000 in
theorem kX4_both (l : Launch) (D : va_G) (cI : ClassId) (h : Nat → Nat) (σ : St)  : MetL l yX4_both (wsU yX4_both cX4_both 1 (some .long)) { frames := 0, cells := 0, slots := 0, locals := 0 } D cI [.ref (h 0)] (wX h cI σ) (fun _ : Unit => wX h cI σ) (fun r _ => (x4_both σ) = r) := by
  refine MetL.of (by decide) (Nat.le_of_ble_eq_true rfl) ?_
  intro p e s m below meth c A Q ls hx hb hml hown hts hK hN hA hret hP hD hS hl
  have hown : s.vm.findClass RX4 = some m.cls := hown
  have hl : lv_has ls 1 [(0, .ref (h 0))] := hl
  suffices go : ∀ (H : Heap) (locs : List Loc), va_P D vwCl (wX h cI σ) H → va_D A (wX h cI σ) → va_S A s.heap H locs → W p l e ({ frames := 0, cells := 0, slots := 0, locals := 0 } : Room) s m (([.ref (h 0)] : List Value).toArray) below meth c H locs 0 0 Q (F0 m 0 ls []) from go _ _ hP hD hS
  intro H locs hP hD hS
  refine lv_aload_n hx hb dX4_both_0 rfl (lv_at hl 0 rfl) ?_
  refine gX_ac (v := (g_ac σ)) hx hb hts hown hK hP kw_108 rfl dX4_both_1 ?_
  refine lv_i2l (v := (Int32.toInt64 (g_ac σ))) hx hb dX4_both_4 rfl ?_
  refine lv_bipush (v := (18 : Int32)) hx hb dX4_both_5 (by decide) ?_
  refine lv_lshl (v := ((Int32.toInt64 (g_ac σ)) <<< (Int32.toInt64 (18 : Int32) &&& 63))) hx hb dX4_both_7 rfl ?_
  refine lv_aload_n hx hb dX4_both_8 rfl (lv_at hl 0 rfl) ?_
  refine gX_io (v := (g_io σ)) hx hb hts hown hK hP kw_109 rfl dX4_both_9 ?_
  refine lv_i2l (v := (Int32.toInt64 (g_io σ))) hx hb dX4_both_12 rfl ?_
  refine lv_lor hx hb dX4_both_13 ?_
  have hE : x4_both σ = (((Int32.toInt64 (g_ac σ)) <<< (Int32.toInt64 (18 : Int32) &&& 63)) ||| (Int32.toInt64 (g_io σ))) := (by unfold x4_both; rfl)
  exact hret (((Int32.toInt64 (g_ac σ)) <<< (Int32.toInt64 (18 : Int32) &&& 63)) ||| (Int32.toInt64 (g_io σ))) () _ _ _ _ hE hP hD hS dX4_both_14
def x4_setBoth (σ : St) (a1 : Int64) : St := (s_io (s_ac σ (Int64.toInt32 ((a1 >>> (Int32.toInt64 (18 : Int32) &&& 63)) &&& (262143 : Int64)))) (Int64.toInt32 (a1 &&& (262143 : Int64))))
set_option maxRecDepth 100000 in
set_option maxHeartbeats 8000000 in
theorem kX4_setBoth (l : Launch) (D : va_G) (cI : ClassId) (h : Nat → Nat) (σ : St) (a1 : Int64) : MetV l yX4_setBoth (wsU yX4_setBoth cX4_setBoth 3 none) { frames := 0, cells := 0, slots := 0, locals := 0 } D cI [.ref (h 0), .long a1] (wX h cI σ) (fun u : St => wX h cI u) (fun u => (x4_setBoth σ a1) = u) := by
  refine MetV.of (by decide) (Nat.le_of_ble_eq_true rfl) ?_
  intro p e s m below meth c A Q ls hx hb hml hown hts hK hN hA hret hP hD hS hl
  have hown : s.vm.findClass RX4 = some m.cls := hown
  have hl : lv_has ls 3 [(0, .ref (h 0)), (1, .long a1)] := hl
  suffices go : ∀ (H : Heap) (locs : List Loc), va_P D vwCl (wX h cI σ) H → va_D A (wX h cI σ) → va_S A s.heap H locs → W p l e ({ frames := 0, cells := 0, slots := 0, locals := 0 } : Room) s m (([.ref (h 0), .long a1] : List Value).toArray) below meth c H locs 0 0 Q (F0 m 0 ls []) from go _ _ hP hD hS
  intro H locs hP hD hS
  refine lv_aload_n hx hb dX4_setBoth_0 rfl (lv_at hl 0 rfl) ?_
  refine lv_lload_n hx hb dX4_setBoth_1 rfl (lv_at hl 1 rfl) ?_
  refine lv_bipush (v := (18 : Int32)) hx hb dX4_setBoth_2 (by decide) ?_
  refine lv_lshr (v := (a1 >>> (Int32.toInt64 (18 : Int32) &&& 63))) hx hb dX4_setBoth_4 rfl ?_
  refine lv_ldc2 (v := (262143 : Int64)) hx hb hown (hts _ kw_180) dX4_setBoth_5 ?_
  refine lv_land hx hb dX4_setBoth_8 ?_
  refine lv_l2i (v := (Int64.toInt32 ((a1 >>> (Int32.toInt64 (18 : Int32) &&& 63)) &&& (262143 : Int64)))) hx hb dX4_setBoth_9 rfl ?_
  refine pX_ac hx hb hts hown hK hP hD hS kw_108 dX4_setBoth_10 (fun H locs hP hD hS => ?_)
  refine lv_aload_n hx hb dX4_setBoth_13 rfl (lv_at hl 0 rfl) ?_
  refine lv_lload_n hx hb dX4_setBoth_14 rfl (lv_at hl 1 rfl) ?_
  refine lv_ldc2 (v := (262143 : Int64)) hx hb hown (hts _ kw_180) dX4_setBoth_15 ?_
  refine lv_land hx hb dX4_setBoth_18 ?_
  refine lv_l2i (v := (Int64.toInt32 (a1 &&& (262143 : Int64)))) hx hb dX4_setBoth_19 rfl ?_
  refine pX_io hx hb hts hown hK hP hD hS kw_109 dX4_setBoth_20 (fun H locs hP hD hS => ?_)
  have hE : x4_setBoth σ a1 = (s_io (s_ac σ (Int64.toInt32 ((a1 >>> (Int32.toInt64 (18 : Int32) &&& 63)) &&& (262143 : Int64)))) (Int64.toInt32 (a1 &&& (262143 : Int64)))) := (by unfold x4_setBoth; rfl)
  exact hret (s_io (s_ac σ (Int64.toInt32 ((a1 >>> (Int32.toInt64 (18 : Int32) &&& 63)) &&& (262143 : Int64)))) (Int64.toInt32 (a1 &&& (262143 : Int64)))) _ _ _ _ hE hP hD hS dX4_setBoth_23
def x4_shift (σ : St) (a1 : Int32) (a2 : Int32) : St := (if (a1 &&& (3 : Int32)) = (1 : Int32) then (s_ac σ (Int64.toInt32 (x4_moved (Int32.toInt64 (g_ac σ)) (18 : Int32) (a1 >>> ((2 : Int32) &&& 31)) a2))) else (if (a1 &&& (3 : Int32)) = (2 : Int32) then (s_io σ (Int64.toInt32 (x4_moved (Int32.toInt64 (g_io σ)) (18 : Int32) (a1 >>> ((2 : Int32) &&& 31)) a2))) else (x4_setBoth σ (x4_moved (x4_both σ) (36 : Int32) (a1 >>> ((2 : Int32) &&& 31)) a2))))
set_option maxRecDepth 100000 in
set_option maxHeartbeats 8000000 in
theorem kX4_shift (l : Launch) (D : va_G) (cI : ClassId) (h : Nat → Nat) (σ : St) (a1 : Int32) (a2 : Int32) : MetV l yX4_shift (wsU yX4_shift cX4_shift 4 none) { frames := 2, cells := 0, slots := 0, locals := 54 } D cI [.ref (h 0), .int a1, .int a2] (wX h cI σ) (fun u : St => wX h cI u) (fun u => (x4_shift σ a1 a2) = u) := by
  refine MetV.of (by decide) (Nat.le_of_ble_eq_true rfl) ?_
  intro p e s m below meth c A Q ls hx hb hml hown hts hK hN hA hret hP hD hS hl
  have hown : s.vm.findClass RX4 = some m.cls := hown
  have hl : lv_has ls 4 [(0, .ref (h 0)), (1, .int a1), (2, .int a2)] := hl
  suffices go : ∀ (H : Heap) (locs : List Loc), va_P D vwCl (wX h cI σ) H → va_D A (wX h cI σ) → va_S A s.heap H locs → W p l e ({ frames := 2, cells := 0, slots := 0, locals := 54 } : Room) s m (([.ref (h 0), .int a1, .int a2] : List Value).toArray) below meth c H locs 0 0 Q (F0 m 0 ls []) from go _ _ hP hD hS
  intro H locs hP hD hS
  refine lv_iload_n hx hb dX4_shift_0 rfl (lv_at hl 1 rfl) ?_
  refine lv_iconst (v := (2 : Int32)) hx hb dX4_shift_1 (by decide) ?_
  refine lv_ishr hx hb dX4_shift_2 ?_
  refine lv_istore_n (lv' := [(3, .int (a1 >>> ((2 : Int32) &&& 31))), (0, .ref (h 0)), (1, .int a1), (2, .int a2)]) hx hb dX4_shift_3 rfl hl (by decide) rfl (fun ls hl => ?_)
  refine lv_iload_n hx hb dX4_shift_4 rfl (lv_at hl 2 rfl) ?_
  refine lv_iconst (v := (3 : Int32)) hx hb dX4_shift_5 (by decide) ?_
  refine lv_iand hx hb dX4_shift_6 ?_
  by_cases s_7_1_0 : (a1 &&& (3 : Int32)) = (1 : Int32)
  · refine lv_lookup (off := 25) (tgt := 32) hx hb dX4_shift_7 (by decide) (by rw [s_7_1_0]; rfl) (by decide) ?_
    refine lv_aload_n hx hb dX4_shift_32 rfl (lv_at hl 1 rfl) ?_
    refine lv_aload_n hx hb dX4_shift_33 rfl (lv_at hl 1 rfl) ?_
    refine gX_ac (v := (g_ac σ)) hx hb hts hown hK hP kw_108 rfl dX4_shift_34 ?_
    refine lv_i2l (v := (Int32.toInt64 (g_ac σ))) hx hb dX4_shift_37 rfl ?_
    refine lv_bipush (v := (18 : Int32)) hx hb dX4_shift_38 (by decide) ?_
    refine lv_iload_n hx hb dX4_shift_40 rfl (lv_at hl 0 rfl) ?_
    refine lv_iload_n hx hb dX4_shift_41 rfl (lv_at hl 3 rfl) ?_
    refine call_Sl 4 (kX4_moved l D cI _ (Int32.toInt64 (g_ac σ)) (18 : Int32) (a1 >>> ((2 : Int32) &&& 31)) a2) ⟨hx, hb, hml, hown, hts, hK, hN, hA⟩ ⟨kw_311, kw_312, kw_1, kw_313, by decide +kernel, rfl, rfl, Nat.le_of_ble_eq_true rfl, Nat.le_of_ble_eq_true rfl⟩ rfl hP hD hS hl.1 rfl (Nat.le_of_ble_eq_true rfl) dX4_shift_42 ⟨Nat.zero_le _, Nat.zero_le _⟩ (fun r42 u H locs hw hP hD hS => ?_)
    have hw : (x4_moved (Int32.toInt64 (g_ac σ)) (18 : Int32) (a1 >>> ((2 : Int32) &&& 31)) a2) = r42 := hw
    subst hw
    refine lv_l2i (v := (Int64.toInt32 (x4_moved (Int32.toInt64 (g_ac σ)) (18 : Int32) (a1 >>> ((2 : Int32) &&& 31)) a2))) hx hb dX4_shift_45 rfl ?_
    refine pX_ac hx hb hts hown hK hP hD hS kw_108 dX4_shift_46 (fun H locs hP hD hS => ?_)
    refine lv_goto (tgt := 87) hx hb dX4_shift_49 (by decide) ?_
    have hE : x4_shift σ a1 a2 = (s_ac σ (Int64.toInt32 (x4_moved (Int32.toInt64 (g_ac σ)) (18 : Int32) (a1 >>> ((2 : Int32) &&& 31)) a2))) := (by unfold x4_shift; rw [if_pos s_7_1_0])
    exact hret (s_ac σ (Int64.toInt32 (x4_moved (Int32.toInt64 (g_ac σ)) (18 : Int32) (a1 >>> ((2 : Int32) &&& 31)) a2))) _ _ _ _ hE hP hD hS dX4_shift_87
  by_cases s_7_1_1 : (a1 &&& (3 : Int32)) = (2 : Int32)
  · refine lv_lookup (off := 45) (tgt := 52) hx hb dX4_shift_7 (by decide) (by rw [s_7_1_1]; rfl) (by decide) ?_
    refine lv_aload_n hx hb dX4_shift_52 rfl (lv_at hl 1 rfl) ?_
    refine lv_aload_n hx hb dX4_shift_53 rfl (lv_at hl 1 rfl) ?_
    refine gX_io (v := (g_io σ)) hx hb hts hown hK hP kw_109 rfl dX4_shift_54 ?_
    refine lv_i2l (v := (Int32.toInt64 (g_io σ))) hx hb dX4_shift_57 rfl ?_
    refine lv_bipush (v := (18 : Int32)) hx hb dX4_shift_58 (by decide) ?_
    refine lv_iload_n hx hb dX4_shift_60 rfl (lv_at hl 0 rfl) ?_
    refine lv_iload_n hx hb dX4_shift_61 rfl (lv_at hl 3 rfl) ?_
    refine call_Sl 4 (kX4_moved l D cI _ (Int32.toInt64 (g_io σ)) (18 : Int32) (a1 >>> ((2 : Int32) &&& 31)) a2) ⟨hx, hb, hml, hown, hts, hK, hN, hA⟩ ⟨kw_311, kw_312, kw_1, kw_313, by decide +kernel, rfl, rfl, Nat.le_of_ble_eq_true rfl, Nat.le_of_ble_eq_true rfl⟩ rfl hP hD hS hl.1 rfl (Nat.le_of_ble_eq_true rfl) dX4_shift_62 ⟨Nat.zero_le _, Nat.zero_le _⟩ (fun r62 u H locs hw hP hD hS => ?_)
    have hw : (x4_moved (Int32.toInt64 (g_io σ)) (18 : Int32) (a1 >>> ((2 : Int32) &&& 31)) a2) = r62 := hw
    subst hw
    refine lv_l2i (v := (Int64.toInt32 (x4_moved (Int32.toInt64 (g_io σ)) (18 : Int32) (a1 >>> ((2 : Int32) &&& 31)) a2))) hx hb dX4_shift_65 rfl ?_
    refine pX_io hx hb hts hown hK hP hD hS kw_109 dX4_shift_66 (fun H locs hP hD hS => ?_)
    refine lv_goto (tgt := 87) hx hb dX4_shift_69 (by decide) ?_
    have hE : x4_shift σ a1 a2 = (s_io σ (Int64.toInt32 (x4_moved (Int32.toInt64 (g_io σ)) (18 : Int32) (a1 >>> ((2 : Int32) &&& 31)) a2))) := (by unfold x4_shift; rw [if_neg s_7_1_0, if_pos s_7_1_1])
    exact hret (s_io σ (Int64.toInt32 (x4_moved (Int32.toInt64 (g_io σ)) (18 : Int32) (a1 >>> ((2 : Int32) &&& 31)) a2))) _ _ _ _ hE hP hD hS dX4_shift_87
  refine lv_lookup (off := 65) (tgt := 72) hx hb dX4_shift_7 (by decide) (by simp only []; exact (lv_osw s_7_1_0 (by decide)).trans ((lv_osw s_7_1_1 (by decide)).trans (rfl))) (by decide) ?_
  refine lv_aload_n hx hb dX4_shift_72 rfl (lv_at hl 1 rfl) ?_
  refine lv_aload_n hx hb dX4_shift_73 rfl (lv_at hl 1 rfl) ?_
  refine call_Vl 0 (kX4_both l D cI h _) ⟨hx, hb, hml, hown, hts, hK, hN, hA⟩ ⟨kw_317, kw_319, ks_yX4_both, kw_1, kw_320, by decide +kernel, rfl, rfl, Nat.le_of_ble_eq_true rfl, Nat.le_of_ble_eq_true rfl⟩ rfl (va_recv hK hP (ci := 4) (q0 := 0) rfl rfl) hP hD hS hl.1 rfl (Nat.le_of_ble_eq_true rfl) dX4_shift_74 ⟨Nat.zero_le _, Nat.zero_le _⟩ (fun r74 u H locs hw hP hD hS => ?_)
  have hw : (x4_both σ) = r74 := hw
  subst hw
  refine lv_bipush (v := (36 : Int32)) hx hb dX4_shift_77 (by decide) ?_
  refine lv_iload_n hx hb dX4_shift_79 rfl (lv_at hl 0 rfl) ?_
  refine lv_iload_n hx hb dX4_shift_80 rfl (lv_at hl 3 rfl) ?_
  refine call_Sl 4 (kX4_moved l D cI _ (x4_both σ) (36 : Int32) (a1 >>> ((2 : Int32) &&& 31)) a2) ⟨hx, hb, hml, hown, hts, hK, hN, hA⟩ ⟨kw_311, kw_312, kw_1, kw_313, by decide +kernel, rfl, rfl, Nat.le_of_ble_eq_true rfl, Nat.le_of_ble_eq_true rfl⟩ rfl hP hD hS hl.1 rfl (Nat.le_of_ble_eq_true rfl) dX4_shift_81 ⟨Nat.zero_le _, Nat.zero_le _⟩ (fun r81 u H locs hw hP hD hS => ?_)
  have hw : (x4_moved (x4_both σ) (36 : Int32) (a1 >>> ((2 : Int32) &&& 31)) a2) = r81 := hw
  subst hw
  refine call_Vv 1 (kX4_setBoth l D cI h _ (x4_moved (x4_both σ) (36 : Int32) (a1 >>> ((2 : Int32) &&& 31)) a2)) ⟨hx, hb, hml, hown, hts, hK, hN, hA⟩ ⟨kw_321, kw_323, ks_yX4_setBoth, kw_1, kw_324, by decide +kernel, rfl, rfl, Nat.le_of_ble_eq_true rfl, Nat.le_of_ble_eq_true rfl⟩ rfl (va_recv hK hP (ci := 4) (q0 := 0) rfl rfl) hP hD hS hl.1 rfl (Nat.le_of_ble_eq_true rfl) dX4_shift_84 ⟨Nat.zero_le _, Nat.zero_le _⟩ (fun u H locs hw hP hD hS => ?_)
  have hw : (x4_setBoth σ (x4_moved (x4_both σ) (36 : Int32) (a1 >>> ((2 : Int32) &&& 31)) a2)) = u := hw
  subst hw
  have hE : x4_shift σ a1 a2 = (x4_setBoth σ (x4_moved (x4_both σ) (36 : Int32) (a1 >>> ((2 : Int32) &&& 31)) a2)) := (by unfold x4_shift; rw [if_neg s_7_1_0, if_neg s_7_1_1])
  exact hret (x4_setBoth σ (x4_moved (x4_both σ) (36 : Int32) (a1 >>> ((2 : Int32) &&& 31)) a2)) _ _ _ _ hE hP hD hS dX4_shift_87
def x4_not (a1 : Int32) : Int32 := ((262143 : Int32) - a1)
set_option maxRecDepth 100000 in
set_option maxHeartbeats 8000000 in
theorem kX4_not (l : Launch) (D : va_G) (cI : ClassId) (w : va_W) (a1 : Int32) : MetI l yX4_not (wsU yX4_not cX4_not 1 (some .int)) { frames := 0, cells := 0, slots := 0, locals := 0 } D cI [.int a1] w (fun _ : Unit => w) (fun r _ => (x4_not a1) = r) := by
  refine MetI.of (by decide) (Nat.le_of_ble_eq_true rfl) ?_
  intro p e s m below meth c A Q ls hx hb hml hown hts hK hN hA hret hP hD hS hl
  have hown : s.vm.findClass RX4 = some m.cls := hown
  have hl : lv_has ls 1 [(0, .int a1)] := hl
  suffices go : ∀ (H : Heap) (locs : List Loc), va_P D vwCl w H → va_D A w → va_S A s.heap H locs → W p l e ({ frames := 0, cells := 0, slots := 0, locals := 0 } : Room) s m (([.int a1] : List Value).toArray) below meth c H locs 0 0 Q (F0 m 0 ls []) from go _ _ hP hD hS
  intro H locs hP hD hS
  refine lv_ldc (v := (262143 : Int32)) hx hb hown (hts _ kw_163) dX4_not_0 ?_
  refine lv_iload_n hx hb dX4_not_2 rfl (lv_at hl 0 rfl) ?_
  refine lv_isub hx hb dX4_not_3 ?_
  have hE : x4_not a1 = ((262143 : Int32) - a1) := (by unfold x4_not; rfl)
  exact hret ((262143 : Int32) - a1) () _ _ _ _ rfl hE hP hD hS dX4_not_4
def x4_transfer (σ : St) (a1 : Int32) : St := (if a1 = (3 : Int32) then (x1_append σ ((g_io σ) &&& (63 : Int32))) else (if a1 = (4 : Int32) then (s_io (x3_take σ).2 (x3_take σ).1) else (if a1 = (7 : Int32) then (s_t3 (x0_show σ ((g_ac σ) >>> ((8 : Int32) &&& 31)) ((g_io σ) >>> ((8 : Int32) &&& 31))) ((g_t3 (x0_show σ ((g_ac σ) >>> ((8 : Int32) &&& 31)) ((g_io σ) >>> ((8 : Int32) &&& 31)))) + (1 : Int32))) else (if a1 = (44 : Int32) then (s_on σ (0 : Int32)) else (if a1 = (45 : Int32) then (s_on σ (1 : Int32)) else (if a1 = (46 : Int32) then (s_asked σ (0 : Int32)) else σ))))))
set_option maxRecDepth 100000 in
set_option maxHeartbeats 8000000 in
theorem kX4_transfer (l : Launch) (D : va_G) (cI : ClassId) (h : Nat → Nat) (σ : St) (a1 : Int32) : MetV l yX4_transfer (wsU yX4_transfer cX4_transfer 2 none) { frames := 1, cells := 0, slots := 0, locals := 23 } D cI [.ref (h 0), .int a1] (wX h cI σ) (fun u : St => wX h cI u) (fun u => (x4_transfer σ a1) = u) := by
  refine MetV.of (by decide) (Nat.le_of_ble_eq_true rfl) ?_
  intro p e s m below meth c A Q ls hx hb hml hown hts hK hN hA hret hP hD hS hl
  have hown : s.vm.findClass RX4 = some m.cls := hown
  have hl : lv_has ls 2 [(0, .ref (h 0)), (1, .int a1)] := hl
  suffices go : ∀ (H : Heap) (locs : List Loc), va_P D vwCl (wX h cI σ) H → va_D A (wX h cI σ) → va_S A s.heap H locs → W p l e ({ frames := 1, cells := 0, slots := 0, locals := 23 } : Room) s m (([.ref (h 0), .int a1] : List Value).toArray) below meth c H locs 0 0 Q (F0 m 0 ls []) from go _ _ hP hD hS
  intro H locs hP hD hS
  refine lv_iload_n hx hb dX4_transfer_0 rfl (lv_at hl 1 rfl) ?_
  by_cases s_1_1_0 : a1 = (3 : Int32)
  · refine lv_lookup (off := 59) (tgt := 60) hx hb dX4_transfer_1 (by decide) (by rw [s_1_1_0]; rfl) (by decide) ?_
    refine lv_aload_n hx hb dX4_transfer_60 rfl (lv_at hl 0 rfl) ?_
    refine gX_ref4 hx hb hts hown hK hP kw_119 dX4_transfer_61 ?_
    refine lv_aload_n hx hb dX4_transfer_64 rfl (lv_at hl 0 rfl) ?_
    refine gX_io (v := (g_io σ)) hx hb hts hown hK hP kw_109 rfl dX4_transfer_65 ?_
    refine lv_bipush (v := (63 : Int32)) hx hb dX4_transfer_68 (by decide) ?_
    refine lv_iand hx hb dX4_transfer_70 ?_
    refine call_Vv 1 (kX1_append l D cI h _ ((g_io σ) &&& (63 : Int32))) ⟨hx, hb, hml, hown, hts, hK, hN, hA⟩ ⟨kw_332, kw_333, kw_334, kw_3, kw_335, by decide +kernel, rfl, rfl, Nat.le_of_ble_eq_true rfl, Nat.le_of_ble_eq_true rfl⟩ rfl (va_recv hK hP (ci := 1) (q0 := 4) rfl rfl) hP hD hS hl.1 rfl (Nat.le_of_ble_eq_true rfl) dX4_transfer_71 ⟨Nat.zero_le _, Nat.zero_le _⟩ (fun u H locs hw hP hD hS => ?_)
    have hw : (x1_append σ ((g_io σ) &&& (63 : Int32))) = u := hw
    subst hw
    refine lv_goto (tgt := 152) hx hb dX4_transfer_74 (by decide) ?_
    have hE : x4_transfer σ a1 = (x1_append σ ((g_io σ) &&& (63 : Int32))) := (by unfold x4_transfer; rw [if_pos s_1_1_0])
    exact hret (x1_append σ ((g_io σ) &&& (63 : Int32))) _ _ _ _ hE hP hD hS dX4_transfer_152
  by_cases s_1_1_1 : a1 = (4 : Int32)
  · refine lv_lookup (off := 76) (tgt := 77) hx hb dX4_transfer_1 (by decide) (by rw [s_1_1_1]; rfl) (by decide) ?_
    refine lv_aload_n hx hb dX4_transfer_77 rfl (lv_at hl 0 rfl) ?_
    refine lv_aload_n hx hb dX4_transfer_78 rfl (lv_at hl 0 rfl) ?_
    refine gX_ref2 hx hb hts hown hK hP kw_118 dX4_transfer_79 ?_
    refine call_Vi 0 (kX3_take l D cI h _) ⟨hx, hb, hml, hown, hts, hK, hN, hA⟩ ⟨kw_336, kw_337, kw_338, kw_2, kw_339, by decide +kernel, rfl, rfl, Nat.le_of_ble_eq_true rfl, Nat.le_of_ble_eq_true rfl⟩ rfl (va_recv hK hP (ci := 3) (q0 := 2) rfl rfl) hP hD hS hl.1 rfl (Nat.le_of_ble_eq_true rfl) dX4_transfer_82 ⟨Nat.zero_le _, Nat.zero_le _⟩ (fun r82 u H locs hw hP hD hS => ?_)
    obtain ⟨hw, hw2⟩ : (x3_take σ).1 = r82 ∧ (x3_take σ).2 = u := hw
    subst hw
    subst hw2
    refine pX_io hx hb hts hown hK hP hD hS kw_109 dX4_transfer_85 (fun H locs hP hD hS => ?_)
    refine lv_goto (tgt := 152) hx hb dX4_transfer_88 (by decide) ?_
    have hE : x4_transfer σ a1 = (s_io (x3_take σ).2 (x3_take σ).1) := (by unfold x4_transfer; rw [if_neg s_1_1_0, if_pos s_1_1_1])
    exact hret (s_io (x3_take σ).2 (x3_take σ).1) _ _ _ _ hE hP hD hS dX4_transfer_152
  by_cases s_1_1_2 : a1 = (7 : Int32)
  · refine lv_lookup (off := 90) (tgt := 91) hx hb dX4_transfer_1 (by decide) (by rw [s_1_1_2]; rfl) (by decide) ?_
    refine lv_aload_n hx hb dX4_transfer_91 rfl (lv_at hl 0 rfl) ?_
    refine gX_ref6 hx hb hts hown hK hP kw_120 dX4_transfer_92 ?_
    refine lv_aload_n hx hb dX4_transfer_95 rfl (lv_at hl 0 rfl) ?_
    refine gX_ac (v := (g_ac σ)) hx hb hts hown hK hP kw_108 rfl dX4_transfer_96 ?_
    refine lv_bipush (v := (8 : Int32)) hx hb dX4_transfer_99 (by decide) ?_
    refine lv_ishr hx hb dX4_transfer_101 ?_
    refine lv_aload_n hx hb dX4_transfer_102 rfl (lv_at hl 0 rfl) ?_
    refine gX_io (v := (g_io σ)) hx hb hts hown hK hP kw_109 rfl dX4_transfer_103 ?_
    refine lv_bipush (v := (8 : Int32)) hx hb dX4_transfer_106 (by decide) ?_
    refine lv_ishr hx hb dX4_transfer_108 ?_
    refine call_Vv 2 (kX0_show l D cI h _ ((g_ac σ) >>> ((8 : Int32) &&& 31)) ((g_io σ) >>> ((8 : Int32) &&& 31))) ⟨hx, hb, hml, hown, hts, hK, hN, hA⟩ ⟨kw_340, kw_341, kw_342, kw_4, kw_343, by decide +kernel, rfl, rfl, Nat.le_of_ble_eq_true rfl, Nat.le_of_ble_eq_true rfl⟩ rfl (va_recv hK hP (ci := 0) (q0 := 6) rfl rfl) hP hD hS hl.1 rfl (Nat.le_of_ble_eq_true rfl) dX4_transfer_109 ⟨Nat.zero_le _, Nat.zero_le _⟩ (fun u H locs hw hP hD hS => ?_)
    have hw : (x0_show σ ((g_ac σ) >>> ((8 : Int32) &&& 31)) ((g_io σ) >>> ((8 : Int32) &&& 31))) = u := hw
    subst hw
    refine lv_aload_n hx hb dX4_transfer_112 rfl (lv_at hl 0 rfl) ?_
    refine gX_ref9 hx hb hts hown hK hP kw_121 dX4_transfer_113 ?_
    refine lv_dup hx hb dX4_transfer_116 rfl ?_
    refine gXN_t3 (v := (g_t3 (x0_show σ ((g_ac σ) >>> ((8 : Int32) &&& 31)) ((g_io σ) >>> ((8 : Int32) &&& 31))))) hx hb hts hown hK hP (nc_at hN 4 rfl) rfl dX4_transfer_117 ?_
    refine lv_iconst (v := (1 : Int32)) hx hb dX4_transfer_120 (by decide) ?_
    refine lv_iadd hx hb dX4_transfer_121 ?_
    refine pXN_t3 hx hb hts hown hK hP hD hS (nc_at hN 4 rfl) dX4_transfer_122 (fun H locs hP hD hS => ?_)
    refine lv_goto (tgt := 152) hx hb dX4_transfer_125 (by decide) ?_
    have hE : x4_transfer σ a1 = (s_t3 (x0_show σ ((g_ac σ) >>> ((8 : Int32) &&& 31)) ((g_io σ) >>> ((8 : Int32) &&& 31))) ((g_t3 (x0_show σ ((g_ac σ) >>> ((8 : Int32) &&& 31)) ((g_io σ) >>> ((8 : Int32) &&& 31)))) + (1 : Int32))) := (by unfold x4_transfer; rw [if_neg s_1_1_0, if_neg s_1_1_1, if_pos s_1_1_2])
    exact hret (s_t3 (x0_show σ ((g_ac σ) >>> ((8 : Int32) &&& 31)) ((g_io σ) >>> ((8 : Int32) &&& 31))) ((g_t3 (x0_show σ ((g_ac σ) >>> ((8 : Int32) &&& 31)) ((g_io σ) >>> ((8 : Int32) &&& 31)))) + (1 : Int32))) _ _ _ _ hE hP hD hS dX4_transfer_152
  by_cases s_1_1_3 : a1 = (44 : Int32)
  · refine lv_lookup (off := 127) (tgt := 128) hx hb dX4_transfer_1 (by decide) (by rw [s_1_1_3]; rfl) (by decide) ?_
    refine lv_aload_n hx hb dX4_transfer_128 rfl (lv_at hl 0 rfl) ?_
    refine lv_iconst (v := (0 : Int32)) hx hb dX4_transfer_129 (by decide) ?_
    refine pX_on hx hb hts hown hK hP hD hS kw_113 dX4_transfer_130 (fun H locs hP hD hS => ?_)
    refine lv_goto (tgt := 152) hx hb dX4_transfer_133 (by decide) ?_
    have hE : x4_transfer σ a1 = (s_on σ (0 : Int32)) := (by unfold x4_transfer; rw [if_neg s_1_1_0, if_neg s_1_1_1, if_neg s_1_1_2, if_pos s_1_1_3])
    exact hret (s_on σ (0 : Int32)) _ _ _ _ hE hP hD hS dX4_transfer_152
  by_cases s_1_1_4 : a1 = (45 : Int32)
  · refine lv_lookup (off := 135) (tgt := 136) hx hb dX4_transfer_1 (by decide) (by rw [s_1_1_4]; rfl) (by decide) ?_
    refine lv_aload_n hx hb dX4_transfer_136 rfl (lv_at hl 0 rfl) ?_
    refine lv_iconst (v := (1 : Int32)) hx hb dX4_transfer_137 (by decide) ?_
    refine pX_on hx hb hts hown hK hP hD hS kw_113 dX4_transfer_138 (fun H locs hP hD hS => ?_)
    refine lv_goto (tgt := 152) hx hb dX4_transfer_141 (by decide) ?_
    have hE : x4_transfer σ a1 = (s_on σ (1 : Int32)) := (by unfold x4_transfer; rw [if_neg s_1_1_0, if_neg s_1_1_1, if_neg s_1_1_2, if_neg s_1_1_3, if_pos s_1_1_4])
    exact hret (s_on σ (1 : Int32)) _ _ _ _ hE hP hD hS dX4_transfer_152
  by_cases s_1_1_5 : a1 = (46 : Int32)
  · refine lv_lookup (off := 143) (tgt := 144) hx hb dX4_transfer_1 (by decide) (by rw [s_1_1_5]; rfl) (by decide) ?_
    refine lv_aload_n hx hb dX4_transfer_144 rfl (lv_at hl 0 rfl) ?_
    refine lv_iconst (v := (0 : Int32)) hx hb dX4_transfer_145 (by decide) ?_
    refine pX_asked hx hb hts hown hK hP hD hS kw_114 dX4_transfer_146 (fun H locs hP hD hS => ?_)
    refine lv_goto (tgt := 152) hx hb dX4_transfer_149 (by decide) ?_
    have hE : x4_transfer σ a1 = (s_asked σ (0 : Int32)) := (by unfold x4_transfer; rw [if_neg s_1_1_0, if_neg s_1_1_1, if_neg s_1_1_2, if_neg s_1_1_3, if_neg s_1_1_4, if_pos s_1_1_5])
    exact hret (s_asked σ (0 : Int32)) _ _ _ _ hE hP hD hS dX4_transfer_152
  refine lv_lookup (off := 151) (tgt := 152) hx hb dX4_transfer_1 (by decide) (by simp only []; exact (lv_osw s_1_1_0 (by decide)).trans ((lv_osw s_1_1_1 (by decide)).trans ((lv_osw s_1_1_2 (by decide)).trans ((lv_osw s_1_1_3 (by decide)).trans ((lv_osw s_1_1_4 (by decide)).trans ((lv_osw s_1_1_5 (by decide)).trans (rfl))))))) (by decide) ?_
  have hE : x4_transfer σ a1 = σ := (by unfold x4_transfer; rw [if_neg s_1_1_0, if_neg s_1_1_1, if_neg s_1_1_2, if_neg s_1_1_3, if_neg s_1_1_4, if_neg s_1_1_5])
  exact hret σ _ _ _ _ hE hP hD hS dX4_transfer_152
