def x4_shiftKindOf (a1 : Int32) : Int32 := ((a1 >>> ((9 : Int32) &&& 31)) &&& (15 : Int32))
set_option maxRecDepth 100000 in
set_option maxHeartbeats 8000000 in
theorem kX4_shiftKindOf (l : Launch) (D : va_G) (cI : ClassId) (w : va_W) (a1 : Int32) : MetI l yX4_shiftKindOf (wsU yX4_shiftKindOf cX4_shiftKindOf 1 (some .int)) { frames := 0, cells := 0, slots := 0, locals := 0 } D cI [.int a1] w (fun _ : Unit => w) (fun r _ => (x4_shiftKindOf a1) = r) := by
  refine MetI.of (by decide) (Nat.le_of_ble_eq_true rfl) ?_
  intro p e s m below meth c A Q ls hx hb hml hown hts hK hN hA hret hP hD hS hl
  have hown : s.vm.findClass RX4 = some m.cls := hown
  have hl : lv_has ls 1 [(0, .int a1)] := hl
  suffices go : ∀ (H : Heap) (locs : List Loc), va_P D vwCl w H → va_D A w → va_S A s.heap H locs → W p l e ({ frames := 0, cells := 0, slots := 0, locals := 0 } : Room) s m (([.int a1] : List Value).toArray) below meth c H locs 0 0 Q (F0 m 0 ls []) from go _ _ hP hD hS
  intro H locs hP hD hS
  refine lv_iload_n hx hb dX4_shiftKindOf_0 rfl (lv_at hl 0 rfl) ?_
  refine lv_bipush (v := (9 : Int32)) hx hb dX4_shiftKindOf_1 (by decide) ?_
  refine lv_ishr hx hb dX4_shiftKindOf_3 ?_
  refine lv_bipush (v := (15 : Int32)) hx hb dX4_shiftKindOf_4 (by decide) ?_
  refine lv_iand hx hb dX4_shiftKindOf_6 ?_
  have hE : x4_shiftKindOf a1 = ((a1 >>> ((9 : Int32) &&& 31)) &&& (15 : Int32)) := (by unfold x4_shiftKindOf; rfl)
  exact hret ((a1 >>> ((9 : Int32) &&& 31)) &&& (15 : Int32)) () _ _ _ _ rfl hE hP hD hS dX4_shiftKindOf_7
def x4_isIllegal (a1 : Int32) : Int32 := (if (x4_codeOf a1) = (0 : Int32) then (1 : Int32) else (if (x4_codeOf a1) = (5 : Int32) then (1 : Int32) else (if (x4_codeOf a1) = (6 : Int32) then (1 : Int32) else (if (x4_codeOf a1) = (15 : Int32) then (1 : Int32) else (if (x4_codeOf a1) = (27 : Int32) then (if ((x4_shiftKindOf a1) &&& (3 : Int32)) = (0 : Int32) then (1 : Int32) else (0 : Int32)) else (if (x4_codeOf a1) = (30 : Int32) then (1 : Int32) else (0 : Int32)))))))
set_option maxRecDepth 100000 in
set_option maxHeartbeats 8000000 in
theorem kX4_isIllegal (l : Launch) (D : va_G) (cI : ClassId) (w : va_W) (a1 : Int32) : MetI l yX4_isIllegal (wsU yX4_isIllegal cX4_isIllegal 1 (some .boolean)) { frames := 1, cells := 0, slots := 0, locals := 20 } D cI [.int a1] w (fun _ : Unit => w) (fun r _ => (x4_isIllegal a1) = r) := by
  refine MetI.of (by decide) (Nat.le_of_ble_eq_true rfl) ?_
  intro p e s m below meth c A Q ls hx hb hml hown hts hK hN hA hret hP hD hS hl
  have hown : s.vm.findClass RX4 = some m.cls := hown
  have hl : lv_has ls 1 [(0, .int a1)] := hl
  suffices go : ∀ (H : Heap) (locs : List Loc), va_P D vwCl w H → va_D A w → va_S A s.heap H locs → W p l e ({ frames := 1, cells := 0, slots := 0, locals := 20 } : Room) s m (([.int a1] : List Value).toArray) below meth c H locs 0 0 Q (F0 m 0 ls []) from go _ _ hP hD hS
  intro H locs hP hD hS
  refine lv_iload_n hx hb dX4_isIllegal_0 rfl (lv_at hl 0 rfl) ?_
  refine call_Si 1 (kX4_codeOf l D cI _ a1) ⟨hx, hb, hml, hown, hts, hK, hN, hA⟩ ⟨kw_242, kw_243, kw_1, kw_244, by decide +kernel, rfl, rfl, Nat.le_of_ble_eq_true rfl, Nat.le_of_ble_eq_true rfl⟩ rfl hP hD hS hl.1 rfl (Nat.le_of_ble_eq_true rfl) dX4_isIllegal_1 ⟨Nat.zero_le _, Nat.zero_le _⟩ (fun r1 u H locs hw hP hD hS => ?_)
  have hw : (x4_codeOf a1) = r1 := hw
  subst hw
  by_cases s_4_1_0 : (x4_codeOf a1) = (0 : Int32)
  · refine lv_lookup (off := 60) (tgt := 64) hx hb dX4_isIllegal_4 (by decide) (by rw [s_4_1_0]; rfl) (by decide) ?_
    refine lv_iconst (v := (1 : Int32)) hx hb dX4_isIllegal_64 (by decide) ?_
    have hE : x4_isIllegal a1 = (1 : Int32) := (by unfold x4_isIllegal; rw [if_pos s_4_1_0])
    exact hret (1 : Int32) () _ _ _ _ rfl hE hP hD hS dX4_isIllegal_65
  by_cases s_4_1_1 : (x4_codeOf a1) = (5 : Int32)
  · refine lv_lookup (off := 60) (tgt := 64) hx hb dX4_isIllegal_4 (by decide) (by rw [s_4_1_1]; rfl) (by decide) ?_
    refine lv_iconst (v := (1 : Int32)) hx hb dX4_isIllegal_64 (by decide) ?_
    have hE : x4_isIllegal a1 = (1 : Int32) := (by unfold x4_isIllegal; rw [if_neg s_4_1_0, if_pos s_4_1_1])
    exact hret (1 : Int32) () _ _ _ _ rfl hE hP hD hS dX4_isIllegal_65
  by_cases s_4_1_2 : (x4_codeOf a1) = (6 : Int32)
  · refine lv_lookup (off := 60) (tgt := 64) hx hb dX4_isIllegal_4 (by decide) (by rw [s_4_1_2]; rfl) (by decide) ?_
    refine lv_iconst (v := (1 : Int32)) hx hb dX4_isIllegal_64 (by decide) ?_
    have hE : x4_isIllegal a1 = (1 : Int32) := (by unfold x4_isIllegal; rw [if_neg s_4_1_0, if_neg s_4_1_1, if_pos s_4_1_2])
    exact hret (1 : Int32) () _ _ _ _ rfl hE hP hD hS dX4_isIllegal_65
  by_cases s_4_1_3 : (x4_codeOf a1) = (15 : Int32)
  · refine lv_lookup (off := 60) (tgt := 64) hx hb dX4_isIllegal_4 (by decide) (by rw [s_4_1_3]; rfl) (by decide) ?_
    refine lv_iconst (v := (1 : Int32)) hx hb dX4_isIllegal_64 (by decide) ?_
    have hE : x4_isIllegal a1 = (1 : Int32) := (by unfold x4_isIllegal; rw [if_neg s_4_1_0, if_neg s_4_1_1, if_neg s_4_1_2, if_pos s_4_1_3])
    exact hret (1 : Int32) () _ _ _ _ rfl hE hP hD hS dX4_isIllegal_65
  by_cases s_4_1_4 : (x4_codeOf a1) = (27 : Int32)
  · refine lv_lookup (off := 62) (tgt := 66) hx hb dX4_isIllegal_4 (by decide) (by rw [s_4_1_4]; rfl) (by decide) ?_
    refine lv_iload_n hx hb dX4_isIllegal_66 rfl (lv_at hl 0 rfl) ?_
    refine call_Si 1 (kX4_shiftKindOf l D cI _ a1) ⟨hx, hb, hml, hown, hts, hK, hN, hA⟩ ⟨kw_262, kw_263, kw_1, kw_264, by decide +kernel, rfl, rfl, Nat.le_of_ble_eq_true rfl, Nat.le_of_ble_eq_true rfl⟩ rfl hP hD hS hl.1 rfl (Nat.le_of_ble_eq_true rfl) dX4_isIllegal_67 ⟨Nat.zero_le _, Nat.zero_le _⟩ (fun r67 u H locs hw hP hD hS => ?_)
    have hw : (x4_shiftKindOf a1) = r67 := hw
    subst hw
    refine lv_iconst (v := (3 : Int32)) hx hb dX4_isIllegal_70 (by decide) ?_
    refine lv_iand hx hb dX4_isIllegal_71 ?_
    refine lv_if_ne (tgt := 79) hx hb dX4_isIllegal_72 (by decide) (fun c_72_2 => ?_) (fun c_72_2 => ?_)
    · have c_72_2 : ¬ (((x4_shiftKindOf a1) &&& (3 : Int32)) = (0 : Int32)) := c_72_2
      refine lv_iconst (v := (0 : Int32)) hx hb dX4_isIllegal_79 (by decide) ?_
      have hE : x4_isIllegal a1 = (0 : Int32) := (by unfold x4_isIllegal; rw [if_neg s_4_1_0, if_neg s_4_1_1, if_neg s_4_1_2, if_neg s_4_1_3, if_pos s_4_1_4, if_neg c_72_2])
      exact hret (0 : Int32) () _ _ _ _ rfl hE hP hD hS dX4_isIllegal_80
    · have c_72_2 : ((x4_shiftKindOf a1) &&& (3 : Int32)) = (0 : Int32) := c_72_2
      refine lv_iconst (v := (1 : Int32)) hx hb dX4_isIllegal_75 (by decide) ?_
      refine lv_goto (tgt := 80) hx hb dX4_isIllegal_76 (by decide) ?_
      have hE : x4_isIllegal a1 = (1 : Int32) := (by unfold x4_isIllegal; rw [if_neg s_4_1_0, if_neg s_4_1_1, if_neg s_4_1_2, if_neg s_4_1_3, if_pos s_4_1_4, if_pos c_72_2])
      exact hret (1 : Int32) () _ _ _ _ rfl hE hP hD hS dX4_isIllegal_80
  by_cases s_4_1_5 : (x4_codeOf a1) = (30 : Int32)
  · refine lv_lookup (off := 60) (tgt := 64) hx hb dX4_isIllegal_4 (by decide) (by rw [s_4_1_5]; rfl) (by decide) ?_
    refine lv_iconst (v := (1 : Int32)) hx hb dX4_isIllegal_64 (by decide) ?_
    have hE : x4_isIllegal a1 = (1 : Int32) := (by unfold x4_isIllegal; rw [if_neg s_4_1_0, if_neg s_4_1_1, if_neg s_4_1_2, if_neg s_4_1_3, if_neg s_4_1_4, if_pos s_4_1_5])
    exact hret (1 : Int32) () _ _ _ _ rfl hE hP hD hS dX4_isIllegal_65
  refine lv_lookup (off := 77) (tgt := 81) hx hb dX4_isIllegal_4 (by decide) (by simp only []; exact (lv_osw s_4_1_0 (by decide)).trans ((lv_osw s_4_1_1 (by decide)).trans ((lv_osw s_4_1_2 (by decide)).trans ((lv_osw s_4_1_3 (by decide)).trans ((lv_osw s_4_1_4 (by decide)).trans ((lv_osw s_4_1_5 (by decide)).trans (rfl))))))) (by decide) ?_
  refine lv_iconst (v := (0 : Int32)) hx hb dX4_isIllegal_81 (by decide) ?_
  have hE : x4_isIllegal a1 = (0 : Int32) := (by unfold x4_isIllegal; rw [if_neg s_4_1_0, if_neg s_4_1_1, if_neg s_4_1_2, if_neg s_4_1_3, if_neg s_4_1_4, if_neg s_4_1_5])
  exact hret (0 : Int32) () _ _ _ _ rfl hE hP hD hS dX4_isIllegal_82
def x4_endsBreak (σ : St) (a1 : Int32) : Int32 := (if (g_under σ) = (1 : Int32) then (if (x4_codeOf a1) = (24 : Int32) then (if (x4_hasI a1) = (0 : Int32) then (0 : Int32) else (if (x4_yOf a1) = (1 : Int32) then (1 : Int32) else (0 : Int32))) else (0 : Int32)) else (0 : Int32))
set_option maxRecDepth 100000 in
set_option maxHeartbeats 8000000 in
theorem kX4_endsBreak (l : Launch) (D : va_G) (cI : ClassId) (h : Nat → Nat) (σ : St) (a1 : Int32) : MetI l yX4_endsBreak (wsU yX4_endsBreak cX4_endsBreak 2 (some .boolean)) { frames := 1, cells := 0, slots := 0, locals := 20 } D cI [.ref (h 0), .int a1] (wX h cI σ) (fun _ : Unit => wX h cI σ) (fun r _ => (x4_endsBreak σ a1) = r) := by
  refine MetI.of (by decide) (Nat.le_of_ble_eq_true rfl) ?_
  intro p e s m below meth c A Q ls hx hb hml hown hts hK hN hA hret hP hD hS hl
  have hown : s.vm.findClass RX4 = some m.cls := hown
  have hl : lv_has ls 2 [(0, .ref (h 0)), (1, .int a1)] := hl
  suffices go : ∀ (H : Heap) (locs : List Loc), va_P D vwCl (wX h cI σ) H → va_D A (wX h cI σ) → va_S A s.heap H locs → W p l e ({ frames := 1, cells := 0, slots := 0, locals := 20 } : Room) s m (([.ref (h 0), .int a1] : List Value).toArray) below meth c H locs 0 0 Q (F0 m 0 ls []) from go _ _ hP hD hS
  intro H locs hP hD hS
  refine lv_aload_n hx hb dX4_endsBreak_0 rfl (lv_at hl 0 rfl) ?_
  refine gX_under (v := (g_under σ)) hx hb hts hown hK hP kw_115 rfl dX4_endsBreak_1 ?_
  refine lv_iconst (v := (1 : Int32)) hx hb dX4_endsBreak_4 (by decide) ?_
  refine lv_icmp_ne (tgt := 36) hx hb dX4_endsBreak_5 (by decide) (fun c_5_1 => ?_) (fun c_5_1 => ?_)
  · have c_5_1 : ¬ ((g_under σ) = (1 : Int32)) := c_5_1
    refine lv_iconst (v := (0 : Int32)) hx hb dX4_endsBreak_36 (by decide) ?_
    have hE : x4_endsBreak σ a1 = (0 : Int32) := (by unfold x4_endsBreak; rw [if_neg c_5_1])
    exact hret (0 : Int32) () _ _ _ _ rfl hE hP hD hS dX4_endsBreak_37
  · have c_5_1 : (g_under σ) = (1 : Int32) := c_5_1
    refine lv_iload_n hx hb dX4_endsBreak_8 rfl (lv_at hl 1 rfl) ?_
    refine call_Si 1 (kX4_codeOf l D cI _ a1) ⟨hx, hb, hml, hown, hts, hK, hN, hA⟩ ⟨kw_242, kw_243, kw_1, kw_244, by decide +kernel, rfl, rfl, Nat.le_of_ble_eq_true rfl, Nat.le_of_ble_eq_true rfl⟩ rfl hP hD hS hl.1 rfl (Nat.le_of_ble_eq_true rfl) dX4_endsBreak_9 ⟨Nat.zero_le _, Nat.zero_le _⟩ (fun r9 u H locs hw hP hD hS => ?_)
    have hw : (x4_codeOf a1) = r9 := hw
    subst hw
    refine lv_bipush (v := (24 : Int32)) hx hb dX4_endsBreak_12 (by decide) ?_
    refine lv_icmp_ne (tgt := 36) hx hb dX4_endsBreak_14 (by decide) (fun c_14_2 => ?_) (fun c_14_2 => ?_)
    · have c_14_2 : ¬ ((x4_codeOf a1) = (24 : Int32)) := c_14_2
      refine lv_iconst (v := (0 : Int32)) hx hb dX4_endsBreak_36 (by decide) ?_
      have hE : x4_endsBreak σ a1 = (0 : Int32) := (by unfold x4_endsBreak; rw [if_pos c_5_1, if_neg c_14_2])
      exact hret (0 : Int32) () _ _ _ _ rfl hE hP hD hS dX4_endsBreak_37
    · have c_14_2 : (x4_codeOf a1) = (24 : Int32) := c_14_2
      refine lv_iload_n hx hb dX4_endsBreak_17 rfl (lv_at hl 1 rfl) ?_
      refine call_Si 1 (kX4_hasI l D cI _ a1) ⟨hx, hb, hml, hown, hts, hK, hN, hA⟩ ⟨kw_249, kw_250, kw_1, kw_251, by decide +kernel, rfl, rfl, Nat.le_of_ble_eq_true rfl, Nat.le_of_ble_eq_true rfl⟩ rfl hP hD hS hl.1 rfl (Nat.le_of_ble_eq_true rfl) dX4_endsBreak_18 ⟨Nat.zero_le _, Nat.zero_le _⟩ (fun r18 u H locs hw hP hD hS => ?_)
      have hw : (x4_hasI a1) = r18 := hw
      subst hw
      refine lv_if_eq (tgt := 36) hx hb dX4_endsBreak_21 (by decide) (fun c_21_3 => ?_) (fun c_21_3 => ?_)
      · have c_21_3 : (x4_hasI a1) = (0 : Int32) := c_21_3
        refine lv_iconst (v := (0 : Int32)) hx hb dX4_endsBreak_36 (by decide) ?_
        have hE : x4_endsBreak σ a1 = (0 : Int32) := (by unfold x4_endsBreak; rw [if_pos c_5_1, if_pos c_14_2, if_pos c_21_3])
        exact hret (0 : Int32) () _ _ _ _ rfl hE hP hD hS dX4_endsBreak_37
      · have c_21_3 : ¬ ((x4_hasI a1) = (0 : Int32)) := c_21_3
        refine lv_iload_n hx hb dX4_endsBreak_24 rfl (lv_at hl 1 rfl) ?_
        refine call_Si 1 (kX4_yOf l D cI _ a1) ⟨hx, hb, hml, hown, hts, hK, hN, hA⟩ ⟨kw_252, kw_253, kw_1, kw_254, by decide +kernel, rfl, rfl, Nat.le_of_ble_eq_true rfl, Nat.le_of_ble_eq_true rfl⟩ rfl hP hD hS hl.1 rfl (Nat.le_of_ble_eq_true rfl) dX4_endsBreak_25 ⟨Nat.zero_le _, Nat.zero_le _⟩ (fun r25 u H locs hw hP hD hS => ?_)
        have hw : (x4_yOf a1) = r25 := hw
        subst hw
        refine lv_iconst (v := (1 : Int32)) hx hb dX4_endsBreak_28 (by decide) ?_
        refine lv_icmp_ne (tgt := 36) hx hb dX4_endsBreak_29 (by decide) (fun c_29_4 => ?_) (fun c_29_4 => ?_)
        · have c_29_4 : ¬ ((x4_yOf a1) = (1 : Int32)) := c_29_4
          refine lv_iconst (v := (0 : Int32)) hx hb dX4_endsBreak_36 (by decide) ?_
          have hE : x4_endsBreak σ a1 = (0 : Int32) := (by unfold x4_endsBreak; rw [if_pos c_5_1, if_pos c_14_2, if_neg c_21_3, if_neg c_29_4])
          exact hret (0 : Int32) () _ _ _ _ rfl hE hP hD hS dX4_endsBreak_37
        · have c_29_4 : (x4_yOf a1) = (1 : Int32) := c_29_4
          refine lv_iconst (v := (1 : Int32)) hx hb dX4_endsBreak_32 (by decide) ?_
          refine lv_goto (tgt := 37) hx hb dX4_endsBreak_33 (by decide) ?_
          have hE : x4_endsBreak σ a1 = (1 : Int32) := (by unfold x4_endsBreak; rw [if_pos c_5_1, if_pos c_14_2, if_neg c_21_3, if_pos c_29_4])
          exact hret (1 : Int32) () _ _ _ _ rfl hE hP hD hS dX4_endsBreak_37
def x4_signOf (a1 : Int32) : Int32 := (if (a1 &&& (131072 : Int32)) = (0 : Int32) then (0 : Int32) else (1 : Int32))
set_option maxRecDepth 100000 in
set_option maxHeartbeats 8000000 in
theorem kX4_signOf (l : Launch) (D : va_G) (cI : ClassId) (w : va_W) (a1 : Int32) : MetI l yX4_signOf (wsU yX4_signOf cX4_signOf 1 (some .int)) { frames := 0, cells := 0, slots := 0, locals := 0 } D cI [.int a1] w (fun _ : Unit => w) (fun r _ => (x4_signOf a1) = r) := by
  refine MetI.of (by decide) (Nat.le_of_ble_eq_true rfl) ?_
  intro p e s m below meth c A Q ls hx hb hml hown hts hK hN hA hret hP hD hS hl
  have hown : s.vm.findClass RX4 = some m.cls := hown
  have hl : lv_has ls 1 [(0, .int a1)] := hl
  suffices go : ∀ (H : Heap) (locs : List Loc), va_P D vwCl w H → va_D A w → va_S A s.heap H locs → W p l e ({ frames := 0, cells := 0, slots := 0, locals := 0 } : Room) s m (([.int a1] : List Value).toArray) below meth c H locs 0 0 Q (F0 m 0 ls []) from go _ _ hP hD hS
  intro H locs hP hD hS
  refine lv_iload_n hx hb dX4_signOf_0 rfl (lv_at hl 0 rfl) ?_
  refine lv_ldc (v := (131072 : Int32)) hx hb hown (hts _ kw_233) dX4_signOf_1 ?_
  refine lv_iand hx hb dX4_signOf_3 ?_
  refine lv_if_ne (tgt := 11) hx hb dX4_signOf_4 (by decide) (fun c_4_1 => ?_) (fun c_4_1 => ?_)
  · have c_4_1 : ¬ ((a1 &&& (131072 : Int32)) = (0 : Int32)) := c_4_1
    refine lv_iconst (v := (1 : Int32)) hx hb dX4_signOf_11 (by decide) ?_
    have hE : x4_signOf a1 = (1 : Int32) := (by unfold x4_signOf; rw [if_neg c_4_1])
    exact hret (1 : Int32) () _ _ _ _ rfl hE hP hD hS dX4_signOf_12
  · have c_4_1 : (a1 &&& (131072 : Int32)) = (0 : Int32) := c_4_1
    refine lv_iconst (v := (0 : Int32)) hx hb dX4_signOf_7 (by decide) ?_
    refine lv_goto (tgt := 12) hx hb dX4_signOf_8 (by decide) ?_
    have hE : x4_signOf a1 = (0 : Int32) := (by unfold x4_signOf; rw [if_pos c_4_1])
    exact hret (0 : Int32) () _ _ _ _ rfl hE hP hD hS dX4_signOf_12
def x4_endBreak (σ : St)  : St := (s_under (s_ov (s_pc σ (x4_yOf (x4_fetch σ (1 : Int32)))) (x4_signOf (x4_fetch σ (1 : Int32)))) (0 : Int32))
set_option maxRecDepth 100000 in
set_option maxHeartbeats 8000000 in
theorem kX4_endBreak (l : Launch) (D : va_G) (cI : ClassId) (h : Nat → Nat) (σ : St)  : MetV l yX4_endBreak (wsU yX4_endBreak cX4_endBreak 2 none) { frames := 1, cells := 0, slots := 0, locals := 21 } D cI [.ref (h 0)] (wX h cI σ) (fun u : St => wX h cI u) (fun u => (x4_endBreak σ) = u) := by
  refine MetV.of (by decide) (Nat.le_of_ble_eq_true rfl) ?_
  intro p e s m below meth c A Q ls hx hb hml hown hts hK hN hA hret hP hD hS hl
  have hown : s.vm.findClass RX4 = some m.cls := hown
  have hl : lv_has ls 2 [(0, .ref (h 0))] := hl
  suffices go : ∀ (H : Heap) (locs : List Loc), va_P D vwCl (wX h cI σ) H → va_D A (wX h cI σ) → va_S A s.heap H locs → W p l e ({ frames := 1, cells := 0, slots := 0, locals := 21 } : Room) s m (([.ref (h 0)] : List Value).toArray) below meth c H locs 0 0 Q (F0 m 0 ls []) from go _ _ hP hD hS
  intro H locs hP hD hS
  refine lv_aload_n hx hb dX4_endBreak_0 rfl (lv_at hl 0 rfl) ?_
  refine lv_iconst (v := (1 : Int32)) hx hb dX4_endBreak_1 (by decide) ?_
  refine call_Vi 1 (kX4_fetch l D cI h _ (1 : Int32)) ⟨hx, hb, hml, hown, hts, hK, hN, hA⟩ ⟨kw_164, kw_166, ks_yX4_fetch, kw_1, kw_167, by decide +kernel, rfl, rfl, Nat.le_of_ble_eq_true rfl, Nat.le_of_ble_eq_true rfl⟩ rfl (va_recv hK hP (ci := 4) (q0 := 0) rfl rfl) hP hD hS hl.1 rfl (Nat.le_of_ble_eq_true rfl) dX4_endBreak_2 ⟨Nat.zero_le _, Nat.zero_le _⟩ (fun r2 u H locs hw hP hD hS => ?_)
  have hw : (x4_fetch σ (1 : Int32)) = r2 := hw
  subst hw
  refine lv_istore_n (lv' := [(1, .int (x4_fetch σ (1 : Int32))), (0, .ref (h 0))]) hx hb dX4_endBreak_5 rfl hl (by decide) rfl (fun ls hl => ?_)
  refine lv_aload_n hx hb dX4_endBreak_6 rfl (lv_at hl 1 rfl) ?_
  refine lv_iload_n hx hb dX4_endBreak_7 rfl (lv_at hl 0 rfl) ?_
  refine call_Si 1 (kX4_yOf l D cI _ (x4_fetch σ (1 : Int32))) ⟨hx, hb, hml, hown, hts, hK, hN, hA⟩ ⟨kw_252, kw_253, kw_1, kw_254, by decide +kernel, rfl, rfl, Nat.le_of_ble_eq_true rfl, Nat.le_of_ble_eq_true rfl⟩ rfl hP hD hS hl.1 rfl (Nat.le_of_ble_eq_true rfl) dX4_endBreak_8 ⟨Nat.zero_le _, Nat.zero_le _⟩ (fun r8 u H locs hw hP hD hS => ?_)
  have hw : (x4_yOf (x4_fetch σ (1 : Int32))) = r8 := hw
  subst hw
  refine pX_pc hx hb hts hown hK hP hD hS kw_110 dX4_endBreak_11 (fun H locs hP hD hS => ?_)
  refine lv_aload_n hx hb dX4_endBreak_14 rfl (lv_at hl 1 rfl) ?_
  refine lv_iload_n hx hb dX4_endBreak_15 rfl (lv_at hl 0 rfl) ?_
  refine call_Si 1 (kX4_signOf l D cI _ (x4_fetch σ (1 : Int32))) ⟨hx, hb, hml, hown, hts, hK, hN, hA⟩ ⟨kw_273, kw_274, kw_1, kw_275, by decide +kernel, rfl, rfl, Nat.le_of_ble_eq_true rfl, Nat.le_of_ble_eq_true rfl⟩ rfl hP hD hS hl.1 rfl (Nat.le_of_ble_eq_true rfl) dX4_endBreak_16 ⟨Nat.zero_le _, Nat.zero_le _⟩ (fun r16 u H locs hw hP hD hS => ?_)
  have hw : (x4_signOf (x4_fetch σ (1 : Int32))) = r16 := hw
  subst hw
  refine pX_ov hx hb hts hown hK hP hD hS kw_111 dX4_endBreak_19 (fun H locs hP hD hS => ?_)
  refine lv_aload_n hx hb dX4_endBreak_22 rfl (lv_at hl 1 rfl) ?_
  refine lv_iconst (v := (0 : Int32)) hx hb dX4_endBreak_23 (by decide) ?_
  refine pX_under hx hb hts hown hK hP hD hS kw_115 dX4_endBreak_24 (fun H locs hP hD hS => ?_)
  have hE : x4_endBreak σ = (s_under (s_ov (s_pc σ (x4_yOf (x4_fetch σ (1 : Int32)))) (x4_signOf (x4_fetch σ (1 : Int32)))) (0 : Int32)) := (by unfold x4_endBreak; rfl)
  exact hret (s_under (s_ov (s_pc σ (x4_yOf (x4_fetch σ (1 : Int32)))) (x4_signOf (x4_fetch σ (1 : Int32)))) (0 : Int32)) _ _ _ _ hE hP hD hS dX4_endBreak_27
def x4_hasAddress_27 (x1_27 : Int32) : Int32 := (if x1_27 < (16 : Int32) then (0 : Int32) else (if (25 : Int32) < x1_27 then (0 : Int32) else (1 : Int32)))
def x4_hasAddress_15 (x1_15 : Int32) : Int32 := (if x1_15 < (8 : Int32) then x4_hasAddress_27 x1_15 else (if x1_15 ≤ (14 : Int32) then (1 : Int32) else x4_hasAddress_27 x1_15))
def x4_hasAddress (a1 : Int32) : Int32 := (if (x4_codeOf a1) < (1 : Int32) then x4_hasAddress_15 (x4_codeOf a1) else (if (x4_codeOf a1) ≤ (4 : Int32) then (1 : Int32) else x4_hasAddress_15 (x4_codeOf a1)))
set_option maxRecDepth 100000 in
set_option maxHeartbeats 8000000 in
theorem kX4_hasAddress (l : Launch) (D : va_G) (cI : ClassId) (w : va_W) (a1 : Int32) : MetI l yX4_hasAddress (wsU yX4_hasAddress cX4_hasAddress 2 (some .boolean)) { frames := 1, cells := 0, slots := 0, locals := 20 } D cI [.int a1] w (fun _ : Unit => w) (fun r _ => (x4_hasAddress a1) = r) := by
  refine MetI.of (by decide) (Nat.le_of_ble_eq_true rfl) ?_
  intro p e s m below meth c A Q ls hx hb hml hown hts hK hN hA hret hP hD hS hl
  have hown : s.vm.findClass RX4 = some m.cls := hown
  have hl : lv_has ls 2 [(0, .int a1)] := hl
  have J_27 : ∀ (x1_27 : Int32) (H : Heap) (locs : List Loc) (ls : Array Slot), x4_hasAddress a1 = x4_hasAddress_27 x1_27 → lv_has ls 2 [(1, .int x1_27)] → va_P D vwCl w H → va_D A w → va_S A s.heap H locs → W p l e ({ frames := 1, cells := 0, slots := 0, locals := 20 } : Room) s m (([.int a1] : List Value).toArray) below meth c H locs 0 0 Q (F0 m 27 ls []) := by
    intro x1_27 H locs ls E hl hP hD hS
    refine lv_iload_n hx hb dX4_hasAddress_27 rfl (lv_at hl 0 rfl) ?_
    refine lv_bipush (v := (16 : Int32)) hx hb dX4_hasAddress_28 (by decide) ?_
    refine lv_icmp_lt (tgt := 43) hx hb dX4_hasAddress_30 (by decide) (fun c_30_3 => ?_) (fun c_30_3 => ?_)
    · have c_30_3 : x1_27 < (16 : Int32) := c_30_3
      refine lv_iconst (v := (0 : Int32)) hx hb dX4_hasAddress_43 (by decide) ?_
      have hE : x4_hasAddress a1 = (0 : Int32) := (E.trans (by unfold x4_hasAddress_27; rw [if_pos c_30_3]))
      exact hret (0 : Int32) () _ _ _ _ rfl hE hP hD hS dX4_hasAddress_44
    · have c_30_3 : ¬ (x1_27 < (16 : Int32)) := c_30_3
      refine lv_iload_n hx hb dX4_hasAddress_33 rfl (lv_at hl 0 rfl) ?_
      refine lv_bipush (v := (25 : Int32)) hx hb dX4_hasAddress_34 (by decide) ?_
      refine lv_icmp_gt (tgt := 43) hx hb dX4_hasAddress_36 (by decide) (fun c_36_4 => ?_) (fun c_36_4 => ?_)
      · have c_36_4 : (25 : Int32) < x1_27 := c_36_4
        refine lv_iconst (v := (0 : Int32)) hx hb dX4_hasAddress_43 (by decide) ?_
        have hE : x4_hasAddress a1 = (0 : Int32) := (E.trans (by unfold x4_hasAddress_27; rw [if_neg c_30_3, if_pos c_36_4]))
        exact hret (0 : Int32) () _ _ _ _ rfl hE hP hD hS dX4_hasAddress_44
      · have c_36_4 : ¬ ((25 : Int32) < x1_27) := c_36_4
        refine lv_iconst (v := (1 : Int32)) hx hb dX4_hasAddress_39 (by decide) ?_
        refine lv_goto (tgt := 44) hx hb dX4_hasAddress_40 (by decide) ?_
        have hE : x4_hasAddress a1 = (1 : Int32) := (E.trans (by unfold x4_hasAddress_27; rw [if_neg c_30_3, if_neg c_36_4]))
        exact hret (1 : Int32) () _ _ _ _ rfl hE hP hD hS dX4_hasAddress_44
  have J_15 : ∀ (x1_15 : Int32) (H : Heap) (locs : List Loc) (ls : Array Slot), x4_hasAddress a1 = x4_hasAddress_15 x1_15 → lv_has ls 2 [(1, .int x1_15)] → va_P D vwCl w H → va_D A w → va_S A s.heap H locs → W p l e ({ frames := 1, cells := 0, slots := 0, locals := 20 } : Room) s m (([.int a1] : List Value).toArray) below meth c H locs 0 0 Q (F0 m 15 ls []) := by
    intro x1_15 H locs ls E hl hP hD hS
    refine lv_iload_n hx hb dX4_hasAddress_15 rfl (lv_at hl 0 rfl) ?_
    refine lv_bipush (v := (8 : Int32)) hx hb dX4_hasAddress_16 (by decide) ?_
    refine lv_icmp_lt (tgt := 27) hx hb dX4_hasAddress_18 (by decide) (fun c_18_2 => ?_) (fun c_18_2 => ?_)
    · have c_18_2 : x1_15 < (8 : Int32) := c_18_2
      exact J_27 x1_15 _ _ _ (E.trans (by unfold x4_hasAddress_15; rw [if_pos c_18_2])) (lv_sub hl [0] rfl) hP hD hS
    · have c_18_2 : ¬ (x1_15 < (8 : Int32)) := c_18_2
      refine lv_iload_n hx hb dX4_hasAddress_21 rfl (lv_at hl 0 rfl) ?_
      refine lv_bipush (v := (14 : Int32)) hx hb dX4_hasAddress_22 (by decide) ?_
      refine lv_icmp_le (tgt := 39) hx hb dX4_hasAddress_24 (by decide) (fun c_24_5 => ?_) (fun c_24_5 => ?_)
      · have c_24_5 : x1_15 ≤ (14 : Int32) := c_24_5
        refine lv_iconst (v := (1 : Int32)) hx hb dX4_hasAddress_39 (by decide) ?_
        refine lv_goto (tgt := 44) hx hb dX4_hasAddress_40 (by decide) ?_
        have hE : x4_hasAddress a1 = (1 : Int32) := (E.trans (by unfold x4_hasAddress_15; rw [if_neg c_18_2, if_pos c_24_5]))
        exact hret (1 : Int32) () _ _ _ _ rfl hE hP hD hS dX4_hasAddress_44
      · have c_24_5 : ¬ (x1_15 ≤ (14 : Int32)) := c_24_5
        exact J_27 x1_15 _ _ _ (E.trans (by unfold x4_hasAddress_15; rw [if_neg c_18_2, if_neg c_24_5])) (lv_sub hl [0] rfl) hP hD hS
  suffices go : ∀ (H : Heap) (locs : List Loc), va_P D vwCl w H → va_D A w → va_S A s.heap H locs → W p l e ({ frames := 1, cells := 0, slots := 0, locals := 20 } : Room) s m (([.int a1] : List Value).toArray) below meth c H locs 0 0 Q (F0 m 0 ls []) from go _ _ hP hD hS
  intro H locs hP hD hS
  refine lv_iload_n hx hb dX4_hasAddress_0 rfl (lv_at hl 0 rfl) ?_
  refine call_Si 1 (kX4_codeOf l D cI _ a1) ⟨hx, hb, hml, hown, hts, hK, hN, hA⟩ ⟨kw_242, kw_243, kw_1, kw_244, by decide +kernel, rfl, rfl, Nat.le_of_ble_eq_true rfl, Nat.le_of_ble_eq_true rfl⟩ rfl hP hD hS hl.1 rfl (Nat.le_of_ble_eq_true rfl) dX4_hasAddress_1 ⟨Nat.zero_le _, Nat.zero_le _⟩ (fun r1 u H locs hw hP hD hS => ?_)
  have hw : (x4_codeOf a1) = r1 := hw
  subst hw
  refine lv_istore_n (lv' := [(1, .int (x4_codeOf a1)), (0, .int a1)]) hx hb dX4_hasAddress_4 rfl hl (by decide) rfl (fun ls hl => ?_)
  refine lv_iload_n hx hb dX4_hasAddress_5 rfl (lv_at hl 0 rfl) ?_
  refine lv_iconst (v := (1 : Int32)) hx hb dX4_hasAddress_6 (by decide) ?_
  refine lv_icmp_lt (tgt := 15) hx hb dX4_hasAddress_7 (by decide) (fun c_7_1 => ?_) (fun c_7_1 => ?_)
  · have c_7_1 : (x4_codeOf a1) < (1 : Int32) := c_7_1
    exact J_15 (x4_codeOf a1) _ _ _ (by unfold x4_hasAddress; rw [if_pos c_7_1]) (lv_sub hl [0] rfl) hP hD hS
  · have c_7_1 : ¬ ((x4_codeOf a1) < (1 : Int32)) := c_7_1
    refine lv_iload_n hx hb dX4_hasAddress_10 rfl (lv_at hl 0 rfl) ?_
    refine lv_iconst (v := (4 : Int32)) hx hb dX4_hasAddress_11 (by decide) ?_
    refine lv_icmp_le (tgt := 39) hx hb dX4_hasAddress_12 (by decide) (fun c_12_6 => ?_) (fun c_12_6 => ?_)
    · have c_12_6 : (x4_codeOf a1) ≤ (4 : Int32) := c_12_6
      refine lv_iconst (v := (1 : Int32)) hx hb dX4_hasAddress_39 (by decide) ?_
      refine lv_goto (tgt := 44) hx hb dX4_hasAddress_40 (by decide) ?_
      have hE : x4_hasAddress a1 = (1 : Int32) := (by unfold x4_hasAddress; rw [if_neg c_7_1, if_pos c_12_6])
      exact hret (1 : Int32) () _ _ _ _ rfl hE hP hD hS dX4_hasAddress_44
    · have c_12_6 : ¬ ((x4_codeOf a1) ≤ (4 : Int32)) := c_12_6
      exact J_15 (x4_codeOf a1) _ _ _ (by unfold x4_hasAddress; rw [if_neg c_7_1, if_neg c_12_6]) (lv_sub hl [0] rfl) hP hD hS
def x4_callAt (σ : St) (a1 : Int32) : St := (s_pc (s_ac (x4_store σ a1 (g_ac σ)) (x4_place (x4_store σ a1 (g_ac σ)))) ((a1 + (1 : Int32)) &&& (4095 : Int32)))
set_option maxRecDepth 100000 in
set_option maxHeartbeats 8000000 in
theorem kX4_callAt (l : Launch) (D : va_G) (cI : ClassId) (h : Nat → Nat) (σ : St) (a1 : Int32) : MetV l yX4_callAt (wsU yX4_callAt cX4_callAt 2 none) { frames := 1, cells := 0, slots := 0, locals := 22 } D cI [.ref (h 0), .int a1] (wX h cI σ) (fun u : St => wX h cI u) (fun u => (x4_callAt σ a1) = u) := by
  refine MetV.of (by decide) (Nat.le_of_ble_eq_true rfl) ?_
  intro p e s m below meth c A Q ls hx hb hml hown hts hK hN hA hret hP hD hS hl
  have hown : s.vm.findClass RX4 = some m.cls := hown
  have hl : lv_has ls 2 [(0, .ref (h 0)), (1, .int a1)] := hl
  suffices go : ∀ (H : Heap) (locs : List Loc), va_P D vwCl (wX h cI σ) H → va_D A (wX h cI σ) → va_S A s.heap H locs → W p l e ({ frames := 1, cells := 0, slots := 0, locals := 22 } : Room) s m (([.ref (h 0), .int a1] : List Value).toArray) below meth c H locs 0 0 Q (F0 m 0 ls []) from go _ _ hP hD hS
  intro H locs hP hD hS
  refine lv_aload_n hx hb dX4_callAt_0 rfl (lv_at hl 0 rfl) ?_
  refine lv_iload_n hx hb dX4_callAt_1 rfl (lv_at hl 1 rfl) ?_
  refine lv_aload_n hx hb dX4_callAt_2 rfl (lv_at hl 0 rfl) ?_
  refine gX_ac (v := (g_ac σ)) hx hb hts hown hK hP kw_108 rfl dX4_callAt_3 ?_
  refine call_Vv 2 (kX4_store l D cI h _ a1 (g_ac σ)) ⟨hx, hb, hml, hown, hts, hK, hN, hA⟩ ⟨kw_168, kw_170, ks_yX4_store, kw_1, kw_171, by decide +kernel, rfl, rfl, Nat.le_of_ble_eq_true rfl, Nat.le_of_ble_eq_true rfl⟩ rfl (va_recv hK hP (ci := 4) (q0 := 0) rfl rfl) hP hD hS hl.1 rfl (Nat.le_of_ble_eq_true rfl) dX4_callAt_6 ⟨Nat.zero_le _, Nat.zero_le _⟩ (fun u H locs hw hP hD hS => ?_)
  have hw : (x4_store σ a1 (g_ac σ)) = u := hw
  subst hw
  refine lv_aload_n hx hb dX4_callAt_9 rfl (lv_at hl 0 rfl) ?_
  refine lv_aload_n hx hb dX4_callAt_10 rfl (lv_at hl 0 rfl) ?_
  refine call_Vi 0 (kX4_place l D cI h _) ⟨hx, hb, hml, hown, hts, hK, hN, hA⟩ ⟨kw_229, kw_231, ks_yX4_place, kw_1, kw_232, by decide +kernel, rfl, rfl, Nat.le_of_ble_eq_true rfl, Nat.le_of_ble_eq_true rfl⟩ rfl (va_recv hK hP (ci := 4) (q0 := 0) rfl rfl) hP hD hS hl.1 rfl (Nat.le_of_ble_eq_true rfl) dX4_callAt_11 ⟨Nat.zero_le _, Nat.zero_le _⟩ (fun r11 u H locs hw hP hD hS => ?_)
  have hw : (x4_place (x4_store σ a1 (g_ac σ))) = r11 := hw
  subst hw
  refine pX_ac hx hb hts hown hK hP hD hS kw_108 dX4_callAt_14 (fun H locs hP hD hS => ?_)
  refine lv_aload_n hx hb dX4_callAt_17 rfl (lv_at hl 0 rfl) ?_
  refine lv_iload_n hx hb dX4_callAt_18 rfl (lv_at hl 1 rfl) ?_
  refine lv_iconst (v := (1 : Int32)) hx hb dX4_callAt_19 (by decide) ?_
  refine lv_iadd hx hb dX4_callAt_20 ?_
  refine lv_sipush (v := (4095 : Int32)) hx hb dX4_callAt_21 (by decide) ?_
  refine lv_iand hx hb dX4_callAt_24 ?_
  refine pX_pc hx hb hts hown hK hP hD hS kw_110 dX4_callAt_25 (fun H locs hP hD hS => ?_)
  have hE : x4_callAt σ a1 = (s_pc (s_ac (x4_store σ a1 (g_ac σ)) (x4_place (x4_store σ a1 (g_ac σ)))) ((a1 + (1 : Int32)) &&& (4095 : Int32))) := (by unfold x4_callAt; rfl)
  exact hret (s_pc (s_ac (x4_store σ a1 (g_ac σ)) (x4_place (x4_store σ a1 (g_ac σ)))) ((a1 + (1 : Int32)) &&& (4095 : Int32))) _ _ _ _ hE hP hD hS dX4_callAt_28
