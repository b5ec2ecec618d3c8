def x4_setFlags_44 (σ : St) (z1_44 : Int32) : St := (s_flags σ z1_44)
def x4_setFlags_21 (σ : St) (x2_21 : Int32) (z0_21 : Int32) : St := (if x2_21 = (0 : Int32) then x4_setFlags_44 σ ((g_flags σ) &&& (z0_21 ^^^ (-1 : Int32))) else x4_setFlags_44 σ ((g_flags σ) ||| z0_21))
def x4_setFlags (σ : St) (a1 : Int32) (a2 : Int32) : St := (if a1 = (0 : Int32) then σ else (if a1 = (7 : Int32) then x4_setFlags_21 σ a2 (63 : Int32) else x4_setFlags_21 σ a2 ((1 : Int32) <<< ((a1 - (1 : Int32)) &&& 31))))
set_option maxRecDepth 100000 in
set_option maxHeartbeats 8000000 in
theorem kX4_setFlags (l : Launch) (D : va_G) (cI : ClassId) (h : Nat → Nat) (σ : St) (a1 : Int32) (a2 : Int32) : MetV l yX4_setFlags (wsU yX4_setFlags cX4_setFlags 4 none) { frames := 0, cells := 0, slots := 0, locals := 0 } D cI [.ref (h 0), .int a1, .int a2] (wX h cI σ) (fun u : St => wX h cI u) (fun u => (x4_setFlags σ a1 a2) = u) := by
  refine MetV.of (by decide) (Nat.le_of_ble_eq_true rfl) ?_
  intro p e s m below meth c A Q ls hx hb hml hown hts hK hN hA hret hP hD hS hl
  have hown : s.vm.findClass RX4 = some m.cls := hown
  have hl : lv_has ls 4 [(0, .ref (h 0)), (1, .int a1), (2, .int a2)] := hl
  have J_44 : ∀ (σ' : St) (z1_44 : Int32) (H : Heap) (locs : List Loc) (ls : Array Slot), x4_setFlags σ a1 a2 = x4_setFlags_44 σ' z1_44 → lv_has ls 4 [(0, .ref (h 0))] → va_P D vwCl (wX h cI σ') H → va_D A (wX h cI σ') → va_S A s.heap H locs → W p l e ({ frames := 0, cells := 0, slots := 0, locals := 0 } : Room) s m (([.ref (h 0), .int a1, .int a2] : List Value).toArray) below meth c H locs 0 0 Q (F0 m 44 ls [.int z1_44, .ref (h 0)]) := by
    intro σ' z1_44 H locs ls E hl hP hD hS
    refine pX_flags hx hb hts hown hK hP hD hS kw_112 dX4_setFlags_44 (fun H locs hP hD hS => ?_)
    have hE : x4_setFlags σ a1 a2 = (s_flags σ' z1_44) := (E.trans (by unfold x4_setFlags_44; rfl))
    exact hret (s_flags σ' z1_44) _ _ _ _ hE hP hD hS dX4_setFlags_47
  have J_21 : ∀ (σ' : St) (x2_21 : Int32) (z0_21 : Int32) (H : Heap) (locs : List Loc) (ls : Array Slot), x4_setFlags σ a1 a2 = x4_setFlags_21 σ' x2_21 z0_21 → lv_has ls 4 [(0, .ref (h 0)), (2, .int x2_21)] → va_P D vwCl (wX h cI σ') H → va_D A (wX h cI σ') → va_S A s.heap H locs → W p l e ({ frames := 0, cells := 0, slots := 0, locals := 0 } : Room) s m (([.ref (h 0), .int a1, .int a2] : List Value).toArray) below meth c H locs 0 0 Q (F0 m 21 ls [.int z0_21]) := by
    intro σ' x2_21 z0_21 H locs ls E hl hP hD hS
    refine lv_istore_n (lv' := [(3, .int z0_21), (0, .ref (h 0)), (2, .int x2_21)]) hx hb dX4_setFlags_21 rfl hl (by decide) rfl (fun ls hl => ?_)
    refine lv_aload_n hx hb dX4_setFlags_22 rfl (lv_at hl 1 rfl) ?_
    refine lv_iload_n hx hb dX4_setFlags_23 rfl (lv_at hl 2 rfl) ?_
    refine lv_if_eq (tgt := 36) hx hb dX4_setFlags_24 (by decide) (fun c_24_3 => ?_) (fun c_24_3 => ?_)
    · have c_24_3 : x2_21 = (0 : Int32) := c_24_3
      refine lv_aload_n hx hb dX4_setFlags_36 rfl (lv_at hl 1 rfl) ?_
      refine gX_flags (v := (g_flags σ')) hx hb hts hown hK hP kw_112 rfl dX4_setFlags_37 ?_
      refine lv_iload_n hx hb dX4_setFlags_40 rfl (lv_at hl 0 rfl) ?_
      refine lv_iconst (v := (-1 : Int32)) hx hb dX4_setFlags_41 (by decide) ?_
      refine lv_ixor hx hb dX4_setFlags_42 ?_
      refine lv_iand hx hb dX4_setFlags_43 ?_
      exact J_44 σ' ((g_flags σ') &&& (z0_21 ^^^ (-1 : Int32))) _ _ _ (E.trans (by unfold x4_setFlags_21; rw [if_pos c_24_3])) (lv_sub hl [1] rfl) hP hD hS
    · have c_24_3 : ¬ (x2_21 = (0 : Int32)) := c_24_3
      refine lv_aload_n hx hb dX4_setFlags_27 rfl (lv_at hl 1 rfl) ?_
      refine gX_flags (v := (g_flags σ')) hx hb hts hown hK hP kw_112 rfl dX4_setFlags_28 ?_
      refine lv_iload_n hx hb dX4_setFlags_31 rfl (lv_at hl 0 rfl) ?_
      refine lv_ior hx hb dX4_setFlags_32 ?_
      refine lv_goto (tgt := 44) hx hb dX4_setFlags_33 (by decide) ?_
      exact J_44 σ' ((g_flags σ') ||| z0_21) _ _ _ (E.trans (by unfold x4_setFlags_21; rw [if_neg c_24_3])) (lv_sub hl [1] rfl) hP hD hS
  suffices go : ∀ (H : Heap) (locs : List Loc), va_P D vwCl (wX h cI σ) H → va_D A (wX h cI σ) → va_S A s.heap H locs → W p l e ({ frames := 0, cells := 0, slots := 0, locals := 0 } : Room) s m (([.ref (h 0), .int a1, .int a2] : List Value).toArray) below meth c H locs 0 0 Q (F0 m 0 ls []) from go _ _ hP hD hS
  intro H locs hP hD hS
  refine lv_iload_n hx hb dX4_setFlags_0 rfl (lv_at hl 1 rfl) ?_
  refine lv_if_ne (tgt := 5) hx hb dX4_setFlags_1 (by decide) (fun c_1_1 => ?_) (fun c_1_1 => ?_)
  · have c_1_1 : ¬ (a1 = (0 : Int32)) := c_1_1
    refine lv_iload_n hx hb dX4_setFlags_5 rfl (lv_at hl 1 rfl) ?_
    refine lv_bipush (v := (7 : Int32)) hx hb dX4_setFlags_6 (by decide) ?_
    refine lv_icmp_ne (tgt := 16) hx hb dX4_setFlags_8 (by decide) (fun c_8_2 => ?_) (fun c_8_2 => ?_)
    · have c_8_2 : ¬ (a1 = (7 : Int32)) := c_8_2
      refine lv_iconst (v := (1 : Int32)) hx hb dX4_setFlags_16 (by decide) ?_
      refine lv_iload_n hx hb dX4_setFlags_17 rfl (lv_at hl 1 rfl) ?_
      refine lv_iconst (v := (1 : Int32)) hx hb dX4_setFlags_18 (by decide) ?_
      refine lv_isub hx hb dX4_setFlags_19 ?_
      refine lv_ishl hx hb dX4_setFlags_20 ?_
      exact J_21 σ a2 ((1 : Int32) <<< ((a1 - (1 : Int32)) &&& 31)) _ _ _ (by unfold x4_setFlags; rw [if_neg c_1_1, if_neg c_8_2]) (lv_sub hl [0, 2] rfl) hP hD hS
    · have c_8_2 : a1 = (7 : Int32) := c_8_2
      refine lv_bipush (v := (63 : Int32)) hx hb dX4_setFlags_11 (by decide) ?_
      refine lv_goto (tgt := 21) hx hb dX4_setFlags_13 (by decide) ?_
      exact J_21 σ a2 (63 : Int32) _ _ _ (by unfold x4_setFlags; rw [if_neg c_1_1, if_pos c_8_2]) (lv_sub hl [0, 2] rfl) hP hD hS
  · have c_1_1 : a1 = (0 : Int32) := c_1_1
    have hE : x4_setFlags σ a1 a2 = σ := (by unfold x4_setFlags; rw [if_pos c_1_1])
    exact hret σ _ _ _ _ hE hP hD hS dX4_setFlags_4
def x4_operate_103 (σ : St) (x1_103 : Int32) (z1_103 : Int32) (z2_103 : Int32) : Int32 × St := (if (x1_103 &&& (256 : Int32)) = (0 : Int32) then ((0 : Int32), (x4_setFlags σ z1_103 z2_103)) else ((1 : Int32), (x4_setFlags σ z1_103 z2_103)))
def x4_operate_86 (σ : St) (x1_86 : Int32) : Int32 × St := (if (x1_86 &&& (8 : Int32)) = (0 : Int32) then x4_operate_103 σ x1_86 (x1_86 &&& (7 : Int32)) (0 : Int32) else x4_operate_103 σ x1_86 (x1_86 &&& (7 : Int32)) (1 : Int32))
def x4_operate_67 (σ : St) (x1_67 : Int32) : Int32 × St := (if (x1_67 &&& (512 : Int32)) = (0 : Int32) then x4_operate_86 σ x1_67 else x4_operate_86 (s_ac σ (x4_not (g_ac σ))) x1_67)
def x4_operate_47 (σ : St) (x1_47 : Int32) : Int32 × St := (if (x1_47 &&& (64 : Int32)) = (0 : Int32) then x4_operate_67 σ x1_47 else x4_operate_67 (s_ac σ ((g_ac σ) ||| (x4_place σ))) x1_47)
def x4_operate_26 (σ : St) (x1_26 : Int32) : Int32 × St := (if (x1_26 &&& (1024 : Int32)) = (0 : Int32) then x4_operate_47 σ x1_26 else x4_operate_47 (s_ac σ ((g_ac σ) ||| (g_test σ))) x1_26)
def x4_operate_13 (σ : St) (x1_13 : Int32) : Int32 × St := (if (x1_13 &&& (2048 : Int32)) = (0 : Int32) then x4_operate_26 σ x1_13 else x4_operate_26 (s_io σ (0 : Int32)) x1_13)
def x4_operate (σ : St) (a1 : Int32) : Int32 × St := (if (a1 &&& (128 : Int32)) = (0 : Int32) then x4_operate_13 σ a1 else x4_operate_13 (s_ac σ (0 : Int32)) a1)
set_option maxRecDepth 100000 in
set_option maxHeartbeats 8000000 in
theorem kX4_operate (l : Launch) (D : va_G) (cI : ClassId) (h : Nat → Nat) (σ : St) (a1 : Int32) : MetI l yX4_operate (wsU yX4_operate cX4_operate 2 (some .int)) { frames := 1, cells := 0, slots := 0, locals := 23 } D cI [.ref (h 0), .int a1] (wX h cI σ) (fun u : St => wX h cI u) (fun r u => (x4_operate σ a1).1 = r ∧ (x4_operate σ a1).2 = u) := by
  refine MetI.of (by decide) (Nat.le_of_ble_eq_true rfl) ?_
  intro p e s m below meth c A Q ls hx hb hml hown hts hK hN hA hret hP hD hS hl
  have hown : s.vm.findClass RX4 = some m.cls := hown
  have hl : lv_has ls 2 [(0, .ref (h 0)), (1, .int a1)] := hl
  have J_103 : ∀ (σ' : St) (x1_103 : Int32) (z1_103 : Int32) (z2_103 : Int32) (H : Heap) (locs : List Loc) (ls : Array Slot), x4_operate σ a1 = x4_operate_103 σ' x1_103 z1_103 z2_103 → lv_has ls 2 [(0, .ref (h 0)), (1, .int x1_103)] → va_P D vwCl (wX h cI σ') H → va_D A (wX h cI σ') → va_S A s.heap H locs → W p l e ({ frames := 1, cells := 0, slots := 0, locals := 23 } : Room) s m (([.ref (h 0), .int a1] : List Value).toArray) below meth c H locs 0 0 Q (F0 m 103 ls [.int z2_103, .int z1_103, .ref (h 0)]) := by
    intro σ' x1_103 z1_103 z2_103 H locs ls E hl hP hD hS
    refine call_Vv 2 (kX4_setFlags l D cI h _ z1_103 z2_103) ⟨hx, hb, hml, hown, hts, hK, hN, hA⟩ ⟨kw_348, kw_350, ks_yX4_setFlags, kw_1, kw_351, by decide +kernel, rfl, rfl, Nat.le_of_ble_eq_true rfl, Nat.le_of_ble_eq_true rfl⟩ rfl (va_recv hK hP (ci := 4) (q0 := 0) rfl rfl) hP hD hS hl.1 rfl (Nat.le_of_ble_eq_true rfl) dX4_operate_103 ⟨Nat.zero_le _, Nat.zero_le _⟩ (fun u H locs hw hP hD hS => ?_)
    have hw : (x4_setFlags σ' z1_103 z2_103) = u := hw
    subst hw
    refine lv_iload_n hx hb dX4_operate_106 rfl (lv_at hl 1 rfl) ?_
    refine lv_sipush (v := (256 : Int32)) hx hb dX4_operate_107 (by decide) ?_
    refine lv_iand hx hb dX4_operate_110 ?_
    refine lv_if_eq (tgt := 118) hx hb dX4_operate_111 (by decide) (fun c_111_7 => ?_) (fun c_111_7 => ?_)
    · have c_111_7 : (x1_103 &&& (256 : Int32)) = (0 : Int32) := c_111_7
      refine lv_iconst (v := (0 : Int32)) hx hb dX4_operate_118 (by decide) ?_
      have hE : x4_operate σ a1 = ((0 : Int32), (x4_setFlags σ' z1_103 z2_103)) := (E.trans (by unfold x4_operate_103; rw [if_pos c_111_7]))
      exact hret (0 : Int32) (x4_setFlags σ' z1_103 z2_103) _ _ _ _ rfl ⟨by rw [hE], by rw [hE]⟩ hP hD hS dX4_operate_119
    · have c_111_7 : ¬ ((x1_103 &&& (256 : Int32)) = (0 : Int32)) := c_111_7
      refine lv_iconst (v := (1 : Int32)) hx hb dX4_operate_114 (by decide) ?_
      refine lv_goto (tgt := 119) hx hb dX4_operate_115 (by decide) ?_
      have hE : x4_operate σ a1 = ((1 : Int32), (x4_setFlags σ' z1_103 z2_103)) := (E.trans (by unfold x4_operate_103; rw [if_neg c_111_7]))
      exact hret (1 : Int32) (x4_setFlags σ' z1_103 z2_103) _ _ _ _ rfl ⟨by rw [hE], by rw [hE]⟩ hP hD hS dX4_operate_119
  have J_86 : ∀ (σ' : St) (x1_86 : Int32) (H : Heap) (locs : List Loc) (ls : Array Slot), x4_operate σ a1 = x4_operate_86 σ' x1_86 → lv_has ls 2 [(0, .ref (h 0)), (1, .int x1_86)] → va_P D vwCl (wX h cI σ') H → va_D A (wX h cI σ') → va_S A s.heap H locs → W p l e ({ frames := 1, cells := 0, slots := 0, locals := 23 } : Room) s m (([.ref (h 0), .int a1] : List Value).toArray) below meth c H locs 0 0 Q (F0 m 86 ls []) := by
    intro σ' x1_86 H locs ls E hl hP hD hS
    refine lv_aload_n hx hb dX4_operate_86 rfl (lv_at hl 0 rfl) ?_
    refine lv_iload_n hx hb dX4_operate_87 rfl (lv_at hl 1 rfl) ?_
    refine lv_bipush (v := (7 : Int32)) hx hb dX4_operate_88 (by decide) ?_
    refine lv_iand hx hb dX4_operate_90 ?_
    refine lv_iload_n hx hb dX4_operate_91 rfl (lv_at hl 1 rfl) ?_
    refine lv_bipush (v := (8 : Int32)) hx hb dX4_operate_92 (by decide) ?_
    refine lv_iand hx hb dX4_operate_94 ?_
    refine lv_if_eq (tgt := 102) hx hb dX4_operate_95 (by decide) (fun c_95_6 => ?_) (fun c_95_6 => ?_)
    · have c_95_6 : (x1_86 &&& (8 : Int32)) = (0 : Int32) := c_95_6
      refine lv_iconst (v := (0 : Int32)) hx hb dX4_operate_102 (by decide) ?_
      exact J_103 σ' x1_86 (x1_86 &&& (7 : Int32)) (0 : Int32) _ _ _ (E.trans (by unfold x4_operate_86; rw [if_pos c_95_6])) (lv_sub hl [0, 1] rfl) hP hD hS
    · have c_95_6 : ¬ ((x1_86 &&& (8 : Int32)) = (0 : Int32)) := c_95_6
      refine lv_iconst (v := (1 : Int32)) hx hb dX4_operate_98 (by decide) ?_
      refine lv_goto (tgt := 103) hx hb dX4_operate_99 (by decide) ?_
      exact J_103 σ' x1_86 (x1_86 &&& (7 : Int32)) (1 : Int32) _ _ _ (E.trans (by unfold x4_operate_86; rw [if_neg c_95_6])) (lv_sub hl [0, 1] rfl) hP hD hS
  have J_67 : ∀ (σ' : St) (x1_67 : Int32) (H : Heap) (locs : List Loc) (ls : Array Slot), x4_operate σ a1 = x4_operate_67 σ' x1_67 → lv_has ls 2 [(0, .ref (h 0)), (1, .int x1_67)] → va_P D vwCl (wX h cI σ') H → va_D A (wX h cI σ') → va_S A s.heap H locs → W p l e ({ frames := 1, cells := 0, slots := 0, locals := 23 } : Room) s m (([.ref (h 0), .int a1] : List Value).toArray) below meth c H locs 0 0 Q (F0 m 67 ls []) := by
    intro σ' x1_67 H locs ls E hl hP hD hS
    refine lv_iload_n hx hb dX4_operate_67 rfl (lv_at hl 1 rfl) ?_
    refine lv_sipush (v := (512 : Int32)) hx hb dX4_operate_68 (by decide) ?_
    refine lv_iand hx hb dX4_operate_71 ?_
    refine lv_if_eq (tgt := 86) hx hb dX4_operate_72 (by decide) (fun c_72_5 => ?_) (fun c_72_5 => ?_)
    · have c_72_5 : (x1_67 &&& (512 : Int32)) = (0 : Int32) := c_72_5
      exact J_86 σ' x1_67 _ _ _ (E.trans (by unfold x4_operate_67; rw [if_pos c_72_5])) (lv_sub hl [0, 1] rfl) hP hD hS
    · have c_72_5 : ¬ ((x1_67 &&& (512 : Int32)) = (0 : Int32)) := c_72_5
      refine lv_aload_n hx hb dX4_operate_75 rfl (lv_at hl 0 rfl) ?_
      refine lv_aload_n hx hb dX4_operate_76 rfl (lv_at hl 0 rfl) ?_
      refine gX_ac (v := (g_ac σ')) hx hb hts hown hK hP kw_108 rfl dX4_operate_77 ?_
      refine call_Si 1 (kX4_not l D cI _ (g_ac σ')) ⟨hx, hb, hml, hown, hts, hK, hN, hA⟩ ⟨kw_325, kw_326, kw_1, kw_327, by decide +kernel, rfl, rfl, Nat.le_of_ble_eq_true rfl, Nat.le_of_ble_eq_true rfl⟩ rfl hP hD hS hl.1 rfl (Nat.le_of_ble_eq_true rfl) dX4_operate_80 ⟨Nat.zero_le _, Nat.zero_le _⟩ (fun r80 u H locs hw hP hD hS => ?_)
      have hw : (x4_not (g_ac σ')) = r80 := hw
      subst hw
      refine pX_ac hx hb hts hown hK hP hD hS kw_108 dX4_operate_83 (fun H locs hP hD hS => ?_)
      exact J_86 (s_ac σ' (x4_not (g_ac σ'))) x1_67 _ _ _ (E.trans (by unfold x4_operate_67; rw [if_neg c_72_5])) (lv_sub hl [0, 1] rfl) hP hD hS
  have J_47 : ∀ (σ' : St) (x1_47 : Int32) (H : Heap) (locs : List Loc) (ls : Array Slot), x4_operate σ a1 = x4_operate_47 σ' x1_47 → lv_has ls 2 [(0, .ref (h 0)), (1, .int x1_47)] → va_P D vwCl (wX h cI σ') H → va_D A (wX h cI σ') → va_S A s.heap H locs → W p l e ({ frames := 1, cells := 0, slots := 0, locals := 23 } : Room) s m (([.ref (h 0), .int a1] : List Value).toArray) below meth c H locs 0 0 Q (F0 m 47 ls []) := by
    intro σ' x1_47 H locs ls E hl hP hD hS
    refine lv_iload_n hx hb dX4_operate_47 rfl (lv_at hl 1 rfl) ?_
    refine lv_bipush (v := (64 : Int32)) hx hb dX4_operate_48 (by decide) ?_
    refine lv_iand hx hb dX4_operate_50 ?_
    refine lv_if_eq (tgt := 67) hx hb dX4_operate_51 (by decide) (fun c_51_4 => ?_) (fun c_51_4 => ?_)
    · have c_51_4 : (x1_47 &&& (64 : Int32)) = (0 : Int32) := c_51_4
      exact J_67 σ' x1_47 _ _ _ (E.trans (by unfold x4_operate_47; rw [if_pos c_51_4])) (lv_sub hl [0, 1] rfl) hP hD hS
    · have c_51_4 : ¬ ((x1_47 &&& (64 : Int32)) = (0 : Int32)) := c_51_4
      refine lv_aload_n hx hb dX4_operate_54 rfl (lv_at hl 0 rfl) ?_
      refine lv_aload_n hx hb dX4_operate_55 rfl (lv_at hl 0 rfl) ?_
      refine gX_ac (v := (g_ac σ')) hx hb hts hown hK hP kw_108 rfl dX4_operate_56 ?_
      refine lv_aload_n hx hb dX4_operate_59 rfl (lv_at hl 0 rfl) ?_
      refine call_Vi 0 (kX4_place l D cI h _) ⟨hx, hb, hml, hown, hts, hK, hN, hA⟩ ⟨kw_229, kw_231, ks_yX4_place, kw_1, kw_232, by decide +kernel, rfl, rfl, Nat.le_of_ble_eq_true rfl, Nat.le_of_ble_eq_true rfl⟩ rfl (va_recv hK hP (ci := 4) (q0 := 0) rfl rfl) hP hD hS hl.1 rfl (Nat.le_of_ble_eq_true rfl) dX4_operate_60 ⟨Nat.zero_le _, Nat.zero_le _⟩ (fun r60 u H locs hw hP hD hS => ?_)
      have hw : (x4_place σ') = r60 := hw
      subst hw
      refine lv_ior hx hb dX4_operate_63 ?_
      refine pX_ac hx hb hts hown hK hP hD hS kw_108 dX4_operate_64 (fun H locs hP hD hS => ?_)
      exact J_67 (s_ac σ' ((g_ac σ') ||| (x4_place σ'))) x1_47 _ _ _ (E.trans (by unfold x4_operate_47; rw [if_neg c_51_4])) (lv_sub hl [0, 1] rfl) hP hD hS
  have J_26 : ∀ (σ' : St) (x1_26 : Int32) (H : Heap) (locs : List Loc) (ls : Array Slot), x4_operate σ a1 = x4_operate_26 σ' x1_26 → lv_has ls 2 [(0, .ref (h 0)), (1, .int x1_26)] → va_P D vwCl (wX h cI σ') H → va_D A (wX h cI σ') → va_S A s.heap H locs → W p l e ({ frames := 1, cells := 0, slots := 0, locals := 23 } : Room) s m (([.ref (h 0), .int a1] : List Value).toArray) below meth c H locs 0 0 Q (F0 m 26 ls []) := by
    intro σ' x1_26 H locs ls E hl hP hD hS
    refine lv_iload_n hx hb dX4_operate_26 rfl (lv_at hl 1 rfl) ?_
    refine lv_sipush (v := (1024 : Int32)) hx hb dX4_operate_27 (by decide) ?_
    refine lv_iand hx hb dX4_operate_30 ?_
    refine lv_if_eq (tgt := 47) hx hb dX4_operate_31 (by decide) (fun c_31_3 => ?_) (fun c_31_3 => ?_)
    · have c_31_3 : (x1_26 &&& (1024 : Int32)) = (0 : Int32) := c_31_3
      exact J_47 σ' x1_26 _ _ _ (E.trans (by unfold x4_operate_26; rw [if_pos c_31_3])) (lv_sub hl [0, 1] rfl) hP hD hS
    · have c_31_3 : ¬ ((x1_26 &&& (1024 : Int32)) = (0 : Int32)) := c_31_3
      refine lv_aload_n hx hb dX4_operate_34 rfl (lv_at hl 0 rfl) ?_
      refine lv_aload_n hx hb dX4_operate_35 rfl (lv_at hl 0 rfl) ?_
      refine gX_ac (v := (g_ac σ')) hx hb hts hown hK hP kw_108 rfl dX4_operate_36 ?_
      refine lv_aload_n hx hb dX4_operate_39 rfl (lv_at hl 0 rfl) ?_
      refine gX_test (v := (g_test σ')) hx hb hts hown hK hP kw_117 rfl dX4_operate_40 ?_
      refine lv_ior hx hb dX4_operate_43 ?_
      refine pX_ac hx hb hts hown hK hP hD hS kw_108 dX4_operate_44 (fun H locs hP hD hS => ?_)
      exact J_47 (s_ac σ' ((g_ac σ') ||| (g_test σ'))) x1_26 _ _ _ (E.trans (by unfold x4_operate_26; rw [if_neg c_31_3])) (lv_sub hl [0, 1] rfl) hP hD hS
  have J_13 : ∀ (σ' : St) (x1_13 : Int32) (H : Heap) (locs : List Loc) (ls : Array Slot), x4_operate σ a1 = x4_operate_13 σ' x1_13 → lv_has ls 2 [(0, .ref (h 0)), (1, .int x1_13)] → va_P D vwCl (wX h cI σ') H → va_D A (wX h cI σ') → va_S A s.heap H locs → W p l e ({ frames := 1, cells := 0, slots := 0, locals := 23 } : Room) s m (([.ref (h 0), .int a1] : List Value).toArray) below meth c H locs 0 0 Q (F0 m 13 ls []) := by
    intro σ' x1_13 H locs ls E hl hP hD hS
    refine lv_iload_n hx hb dX4_operate_13 rfl (lv_at hl 1 rfl) ?_
    refine lv_sipush (v := (2048 : Int32)) hx hb dX4_operate_14 (by decide) ?_
    refine lv_iand hx hb dX4_operate_17 ?_
    refine lv_if_eq (tgt := 26) hx hb dX4_operate_18 (by decide) (fun c_18_2 => ?_) (fun c_18_2 => ?_)
    · have c_18_2 : (x1_13 &&& (2048 : Int32)) = (0 : Int32) := c_18_2
      exact J_26 σ' x1_13 _ _ _ (E.trans (by unfold x4_operate_13; rw [if_pos c_18_2])) (lv_sub hl [0, 1] rfl) hP hD hS
    · have c_18_2 : ¬ ((x1_13 &&& (2048 : Int32)) = (0 : Int32)) := c_18_2
      refine lv_aload_n hx hb dX4_operate_21 rfl (lv_at hl 0 rfl) ?_
      refine lv_iconst (v := (0 : Int32)) hx hb dX4_operate_22 (by decide) ?_
      refine pX_io hx hb hts hown hK hP hD hS kw_109 dX4_operate_23 (fun H locs hP hD hS => ?_)
      exact J_26 (s_io σ' (0 : Int32)) x1_13 _ _ _ (E.trans (by unfold x4_operate_13; rw [if_neg c_18_2])) (lv_sub hl [0, 1] rfl) hP hD hS
  suffices go : ∀ (H : Heap) (locs : List Loc), va_P D vwCl (wX h cI σ) H → va_D A (wX h cI σ) → va_S A s.heap H locs → W p l e ({ frames := 1, cells := 0, slots := 0, locals := 23 } : Room) s m (([.ref (h 0), .int a1] : List Value).toArray) below meth c H locs 0 0 Q (F0 m 0 ls []) from go _ _ hP hD hS
  intro H locs hP hD hS
  refine lv_iload_n hx hb dX4_operate_0 rfl (lv_at hl 1 rfl) ?_
  refine lv_sipush (v := (128 : Int32)) hx hb dX4_operate_1 (by decide) ?_
  refine lv_iand hx hb dX4_operate_4 ?_
  refine lv_if_eq (tgt := 13) hx hb dX4_operate_5 (by decide) (fun c_5_1 => ?_) (fun c_5_1 => ?_)
  · have c_5_1 : (a1 &&& (128 : Int32)) = (0 : Int32) := c_5_1
    exact J_13 σ a1 _ _ _ (by unfold x4_operate; rw [if_pos c_5_1]) (lv_sub hl [0, 1] rfl) hP hD hS
  · have c_5_1 : ¬ ((a1 &&& (128 : Int32)) = (0 : Int32)) := c_5_1
    refine lv_aload_n hx hb dX4_operate_8 rfl (lv_at hl 0 rfl) ?_
    refine lv_iconst (v := (0 : Int32)) hx hb dX4_operate_9 (by decide) ?_
    refine pX_ac hx hb hts hown hK hP hD hS kw_108 dX4_operate_10 (fun H locs hP hD hS => ?_)
    exact J_13 (s_ac σ (0 : Int32)) a1 _ _ _ (by unfold x4_operate; rw [if_neg c_5_1]) (lv_sub hl [0, 1] rfl) hP hD hS
def x4_performWithoutAddress_81 (σ : St) (z1_81 : Int32) : Int32 × St := ((0 : Int32), (x4_callAt σ z1_81))
def x4_performWithoutAddress_107 (σ : St) (z1_107 : Int32) : Int32 × St := ((0 : Int32), (x4_skipIf σ z1_107))
def x4_performWithoutAddress_148 (σ : St) (z1_148 : Int32) : Int32 × St := ((0 : Int32), (s_ac σ z1_148))
def x4_performWithoutAddress (σ : St) (a1 : Int32) : Int32 × St := (if (x4_codeOf a1) = (7 : Int32) then (if (x4_hasI a1) = (0 : Int32) then x4_performWithoutAddress_81 σ (64 : Int32) else x4_performWithoutAddress_81 σ (x4_yOf a1)) else (if (x4_codeOf a1) = (26 : Int32) then (if (x4_someHolds σ (x4_yOf a1)).1 = (x4_hasI a1) then x4_performWithoutAddress_107 (x4_someHolds σ (x4_yOf a1)).2 (0 : Int32) else x4_performWithoutAddress_107 (x4_someHolds σ (x4_yOf a1)).2 (1 : Int32)) else (if (x4_codeOf a1) = (27 : Int32) then ((0 : Int32), (x4_shift σ (x4_shiftKindOf a1) (x4_onesOf a1))) else (if (x4_codeOf a1) = (28 : Int32) then (if (x4_hasI a1) = (0 : Int32) then x4_performWithoutAddress_148 σ (x4_yOf a1) else x4_performWithoutAddress_148 σ (x4_not (x4_yOf a1))) else (if (x4_codeOf a1) = (29 : Int32) then ((0 : Int32), (x4_transfer σ (a1 &&& (63 : Int32)))) else (if (x4_codeOf a1) = (31 : Int32) then ((x4_operate σ (x4_yOf a1)).1, (x4_operate σ (x4_yOf a1)).2) else ((3 : Int32), σ)))))))
set_option maxRecDepth 100000 in
set_option maxHeartbeats 8000000 in
theorem kX4_performWithoutAddress (l : Launch) (D : va_G) (cI : ClassId) (h : Nat → Nat) (σ : St) (a1 : Int32) : MetI l yX4_performWithoutAddress (wsU yX4_performWithoutAddress cX4_performWithoutAddress 2 (some .int)) { frames := 3, cells := 0, slots := 0, locals := 77 } D cI [.ref (h 0), .int a1] (wX h cI σ) (fun u : St => wX h cI u) (fun r u => (x4_performWithoutAddress σ a1).1 = r ∧ (x4_performWithoutAddress σ a1).2 = u) := by
  refine MetI.of (by decide) (Nat.le_of_ble_eq_true rfl) ?_
  intro p e s m below meth c A Q ls hx hb hml hown hts hK hN hA hret hP hD hS hl
  have hown : s.vm.findClass RX4 = some m.cls := hown
  have hl : lv_has ls 2 [(0, .ref (h 0)), (1, .int a1)] := hl
  have J_81 : ∀ (σ' : St) (z1_81 : Int32) (H : Heap) (locs : List Loc) (ls : Array Slot), x4_performWithoutAddress σ a1 = x4_performWithoutAddress_81 σ' z1_81 → lv_has ls 2 [(0, .ref (h 0))] → va_P D vwCl (wX h cI σ') H → va_D A (wX h cI σ') → va_S A s.heap H locs → W p l e ({ frames := 3, cells := 0, slots := 0, locals := 77 } : Room) s m (([.ref (h 0), .int a1] : List Value).toArray) below meth c H locs 0 0 Q (F0 m 81 ls [.int z1_81, .ref (h 0)]) := by
    intro σ' z1_81 H locs ls E hl hP hD hS
    refine call_Vv 1 (kX4_callAt l D cI h _ z1_81) ⟨hx, hb, hml, hown, hts, hK, hN, hA⟩ ⟨kw_283, kw_285, ks_yX4_callAt, kw_1, kw_286, by decide +kernel, rfl, rfl, Nat.le_of_ble_eq_true rfl, Nat.le_of_ble_eq_true rfl⟩ rfl (va_recv hK hP (ci := 4) (q0 := 0) rfl rfl) hP hD hS hl.1 rfl (Nat.le_of_ble_eq_true rfl) dX4_performWithoutAddress_81 ⟨Nat.zero_le _, Nat.zero_le _⟩ (fun u H locs hw hP hD hS => ?_)
    have hw : (x4_callAt σ' z1_81) = u := hw
    subst hw
    refine lv_iconst (v := (0 : Int32)) hx hb dX4_performWithoutAddress_84 (by decide) ?_
    have hE : x4_performWithoutAddress σ a1 = ((0 : Int32), (x4_callAt σ' z1_81)) := (E.trans (by unfold x4_performWithoutAddress_81; rfl))
    exact hret (0 : Int32) (x4_callAt σ' z1_81) _ _ _ _ rfl ⟨by rw [hE], by rw [hE]⟩ hP hD hS dX4_performWithoutAddress_85
  have J_107 : ∀ (σ' : St) (z1_107 : Int32) (H : Heap) (locs : List Loc) (ls : Array Slot), x4_performWithoutAddress σ a1 = x4_performWithoutAddress_107 σ' z1_107 → lv_has ls 2 [(0, .ref (h 0))] → va_P D vwCl (wX h cI σ') H → va_D A (wX h cI σ') → va_S A s.heap H locs → W p l e ({ frames := 3, cells := 0, slots := 0, locals := 77 } : Room) s m (([.ref (h 0), .int a1] : List Value).toArray) below meth c H locs 0 0 Q (F0 m 107 ls [.int z1_107, .ref (h 0)]) := by
    intro σ' z1_107 H locs ls E hl hP hD hS
    refine call_Vv 1 (kX4_skipIf l D cI h _ z1_107) ⟨hx, hb, hml, hown, hts, hK, hN, hA⟩ ⟨kw_294, kw_296, ks_yX4_skipIf, kw_1, kw_297, by decide +kernel, rfl, rfl, Nat.le_of_ble_eq_true rfl, Nat.le_of_ble_eq_true rfl⟩ rfl (va_recv hK hP (ci := 4) (q0 := 0) rfl rfl) hP hD hS hl.1 rfl (Nat.le_of_ble_eq_true rfl) dX4_performWithoutAddress_107 ⟨Nat.zero_le _, Nat.zero_le _⟩ (fun u H locs hw hP hD hS => ?_)
    have hw : (x4_skipIf σ' z1_107) = u := hw
    subst hw
    refine lv_iconst (v := (0 : Int32)) hx hb dX4_performWithoutAddress_110 (by decide) ?_
    have hE : x4_performWithoutAddress σ a1 = ((0 : Int32), (x4_skipIf σ' z1_107)) := (E.trans (by unfold x4_performWithoutAddress_107; rfl))
    exact hret (0 : Int32) (x4_skipIf σ' z1_107) _ _ _ _ rfl ⟨by rw [hE], by rw [hE]⟩ hP hD hS dX4_performWithoutAddress_111
  have J_148 : ∀ (σ' : St) (z1_148 : Int32) (H : Heap) (locs : List Loc) (ls : Array Slot), x4_performWithoutAddress σ a1 = x4_performWithoutAddress_148 σ' z1_148 → lv_has ls 2 [(0, .ref (h 0))] → va_P D vwCl (wX h cI σ') H → va_D A (wX h cI σ') → va_S A s.heap H locs → W p l e ({ frames := 3, cells := 0, slots := 0, locals := 77 } : Room) s m (([.ref (h 0), .int a1] : List Value).toArray) below meth c H locs 0 0 Q (F0 m 148 ls [.int z1_148, .ref (h 0)]) := by
    intro σ' z1_148 H locs ls E hl hP hD hS
    refine pX_ac hx hb hts hown hK hP hD hS kw_108 dX4_performWithoutAddress_148 (fun H locs hP hD hS => ?_)
    refine lv_iconst (v := (0 : Int32)) hx hb dX4_performWithoutAddress_151 (by decide) ?_
    have hE : x4_performWithoutAddress σ a1 = ((0 : Int32), (s_ac σ' z1_148)) := (E.trans (by unfold x4_performWithoutAddress_148; rfl))
    exact hret (0 : Int32) (s_ac σ' z1_148) _ _ _ _ rfl ⟨by rw [hE], by rw [hE]⟩ hP hD hS dX4_performWithoutAddress_152
  suffices go : ∀ (H : Heap) (locs : List Loc), va_P D vwCl (wX h cI σ) H → va_D A (wX h cI σ) → va_S A s.heap H locs → W p l e ({ frames := 3, cells := 0, slots := 0, locals := 77 } : Room) s m (([.ref (h 0), .int a1] : List Value).toArray) below meth c H locs 0 0 Q (F0 m 0 ls []) from go _ _ hP hD hS
  intro H locs hP hD hS
  refine lv_iload_n hx hb dX4_performWithoutAddress_0 rfl (lv_at hl 1 rfl) ?_
  refine call_Si 1 (kX4_codeOf l D cI _ a1) ⟨hx, hb, hml, hown, hts, hK, hN, hA⟩ ⟨kw_242, kw_243, kw_1, kw_244, by decide +kernel, rfl, rfl, Nat.le_of_ble_eq_true rfl, Nat.le_of_ble_eq_true rfl⟩ rfl hP hD hS hl.1 rfl (Nat.le_of_ble_eq_true rfl) dX4_performWithoutAddress_1 ⟨Nat.zero_le _, Nat.zero_le _⟩ (fun r1 u H locs hw hP hD hS => ?_)
  have hw : (x4_codeOf a1) = r1 := hw
  subst hw
  by_cases s_4_1_0 : (x4_codeOf a1) = (7 : Int32)
  · refine lv_lookup (off := 60) (tgt := 64) hx hb dX4_performWithoutAddress_4 (by decide) (by rw [s_4_1_0]; rfl) (by decide) ?_
    refine lv_aload_n hx hb dX4_performWithoutAddress_64 rfl (lv_at hl 0 rfl) ?_
    refine lv_iload_n hx hb dX4_performWithoutAddress_65 rfl (lv_at hl 1 rfl) ?_
    refine call_Si 1 (kX4_hasI l D cI _ a1) ⟨hx, hb, hml, hown, hts, hK, hN, hA⟩ ⟨kw_249, kw_250, kw_1, kw_251, by decide +kernel, rfl, rfl, Nat.le_of_ble_eq_true rfl, Nat.le_of_ble_eq_true rfl⟩ rfl hP hD hS hl.1 rfl (Nat.le_of_ble_eq_true rfl) dX4_performWithoutAddress_66 ⟨Nat.zero_le _, Nat.zero_le _⟩ (fun r66 u H locs hw hP hD hS => ?_)
    have hw : (x4_hasI a1) = r66 := hw
    subst hw
    refine lv_if_eq (tgt := 79) hx hb dX4_performWithoutAddress_69 (by decide) (fun c_69_2 => ?_) (fun c_69_2 => ?_)
    · have c_69_2 : (x4_hasI a1) = (0 : Int32) := c_69_2
      refine lv_bipush (v := (64 : Int32)) hx hb dX4_performWithoutAddress_79 (by decide) ?_
      exact J_81 σ (64 : Int32) _ _ _ (by unfold x4_performWithoutAddress; rw [if_pos s_4_1_0, if_pos c_69_2]) (lv_sub hl [0] rfl) hP hD hS
    · have c_69_2 : ¬ ((x4_hasI a1) = (0 : Int32)) := c_69_2
      refine lv_iload_n hx hb dX4_performWithoutAddress_72 rfl (lv_at hl 1 rfl) ?_
      refine call_Si 1 (kX4_yOf l D cI _ a1) ⟨hx, hb, hml, hown, hts, hK, hN, hA⟩ ⟨kw_252, kw_253, kw_1, kw_254, by decide +kernel, rfl, rfl, Nat.le_of_ble_eq_true rfl, Nat.le_of_ble_eq_true rfl⟩ rfl hP hD hS hl.1 rfl (Nat.le_of_ble_eq_true rfl) dX4_performWithoutAddress_73 ⟨Nat.zero_le _, Nat.zero_le _⟩ (fun r73 u H locs hw hP hD hS => ?_)
      have hw : (x4_yOf a1) = r73 := hw
      subst hw
      refine lv_goto (tgt := 81) hx hb dX4_performWithoutAddress_76 (by decide) ?_
      exact J_81 σ (x4_yOf a1) _ _ _ (by unfold x4_performWithoutAddress; rw [if_pos s_4_1_0, if_neg c_69_2]) (lv_sub hl [0] rfl) hP hD hS
  by_cases s_4_1_1 : (x4_codeOf a1) = (26 : Int32)
  · refine lv_lookup (off := 82) (tgt := 86) hx hb dX4_performWithoutAddress_4 (by decide) (by rw [s_4_1_1]; rfl) (by decide) ?_
    refine lv_aload_n hx hb dX4_performWithoutAddress_86 rfl (lv_at hl 0 rfl) ?_
    refine lv_aload_n hx hb dX4_performWithoutAddress_87 rfl (lv_at hl 0 rfl) ?_
    refine lv_iload_n hx hb dX4_performWithoutAddress_88 rfl (lv_at hl 1 rfl) ?_
    refine call_Si 1 (kX4_yOf l D cI _ a1) ⟨hx, hb, hml, hown, hts, hK, hN, hA⟩ ⟨kw_252, kw_253, kw_1, kw_254, by decide +kernel, rfl, rfl, Nat.le_of_ble_eq_true rfl, Nat.le_of_ble_eq_true rfl⟩ rfl hP hD hS hl.1 rfl (Nat.le_of_ble_eq_true rfl) dX4_performWithoutAddress_89 ⟨Nat.zero_le _, Nat.zero_le _⟩ (fun r89 u H locs hw hP hD hS => ?_)
    have hw : (x4_yOf a1) = r89 := hw
    subst hw
    refine call_Vi 1 (kX4_someHolds l D cI h _ (x4_yOf a1)) ⟨hx, hb, hml, hown, hts, hK, hN, hA⟩ ⟨kw_287, kw_289, ks_yX4_someHolds, kw_1, kw_290, by decide +kernel, rfl, rfl, Nat.le_of_ble_eq_true rfl, Nat.le_of_ble_eq_true rfl⟩ rfl (va_recv hK hP (ci := 4) (q0 := 0) rfl rfl) hP hD hS hl.1 rfl (Nat.le_of_ble_eq_true rfl) dX4_performWithoutAddress_92 ⟨Nat.zero_le _, Nat.zero_le _⟩ (fun r92 u H locs hw hP hD hS => ?_)
    obtain ⟨hw, hw2⟩ : (x4_someHolds σ (x4_yOf a1)).1 = r92 ∧ (x4_someHolds σ (x4_yOf a1)).2 = u := hw
    subst hw
    subst hw2
    refine lv_iload_n hx hb dX4_performWithoutAddress_95 rfl (lv_at hl 1 rfl) ?_
    refine call_Si 1 (kX4_hasI l D cI _ a1) ⟨hx, hb, hml, hown, hts, hK, hN, hA⟩ ⟨kw_249, kw_250, kw_1, kw_251, by decide +kernel, rfl, rfl, Nat.le_of_ble_eq_true rfl, Nat.le_of_ble_eq_true rfl⟩ rfl hP hD hS hl.1 rfl (Nat.le_of_ble_eq_true rfl) dX4_performWithoutAddress_96 ⟨Nat.zero_le _, Nat.zero_le _⟩ (fun r96 u H locs hw hP hD hS => ?_)
    have hw : (x4_hasI a1) = r96 := hw
    subst hw
    refine lv_icmp_eq (tgt := 106) hx hb dX4_performWithoutAddress_99 (by decide) (fun c_99_3 => ?_) (fun c_99_3 => ?_)
    · have c_99_3 : (x4_someHolds σ (x4_yOf a1)).1 = (x4_hasI a1) := c_99_3
      refine lv_iconst (v := (0 : Int32)) hx hb dX4_performWithoutAddress_106 (by decide) ?_
      exact J_107 (x4_someHolds σ (x4_yOf a1)).2 (0 : Int32) _ _ _ (by unfold x4_performWithoutAddress; rw [if_neg s_4_1_0, if_pos s_4_1_1, if_pos c_99_3]) (lv_sub hl [0] rfl) hP hD hS
    · have c_99_3 : ¬ ((x4_someHolds σ (x4_yOf a1)).1 = (x4_hasI a1)) := c_99_3
      refine lv_iconst (v := (1 : Int32)) hx hb dX4_performWithoutAddress_102 (by decide) ?_
      refine lv_goto (tgt := 107) hx hb dX4_performWithoutAddress_103 (by decide) ?_
      exact J_107 (x4_someHolds σ (x4_yOf a1)).2 (1 : Int32) _ _ _ (by unfold x4_performWithoutAddress; rw [if_neg s_4_1_0, if_pos s_4_1_1, if_neg c_99_3]) (lv_sub hl [0] rfl) hP hD hS
  by_cases s_4_1_2 : (x4_codeOf a1) = (27 : Int32)
  · refine lv_lookup (off := 108) (tgt := 112) hx hb dX4_performWithoutAddress_4 (by decide) (by rw [s_4_1_2]; rfl) (by decide) ?_
    refine lv_aload_n hx hb dX4_performWithoutAddress_112 rfl (lv_at hl 0 rfl) ?_
    refine lv_iload_n hx hb dX4_performWithoutAddress_113 rfl (lv_at hl 1 rfl) ?_
    refine call_Si 1 (kX4_shiftKindOf l D cI _ a1) ⟨hx, hb, hml, hown, hts, hK, hN, hA⟩ ⟨kw_262, kw_263, kw_1, kw_264, by decide +kernel, rfl, rfl, Nat.le_of_ble_eq_true rfl, Nat.le_of_ble_eq_true rfl⟩ rfl hP hD hS hl.1 rfl (Nat.le_of_ble_eq_true rfl) dX4_performWithoutAddress_114 ⟨Nat.zero_le _, Nat.zero_le _⟩ (fun r114 u H locs hw hP hD hS => ?_)
    have hw : (x4_shiftKindOf a1) = r114 := hw
    subst hw
    refine lv_iload_n hx hb dX4_performWithoutAddress_117 rfl (lv_at hl 1 rfl) ?_
    refine call_Si 1 (kX4_onesOf l D cI _ a1) ⟨hx, hb, hml, hown, hts, hK, hN, hA⟩ ⟨kw_298, kw_299, kw_1, kw_300, by decide +kernel, rfl, rfl, Nat.le_of_ble_eq_true rfl, Nat.le_of_ble_eq_true rfl⟩ rfl hP hD hS hl.1 rfl (Nat.le_of_ble_eq_true rfl) dX4_performWithoutAddress_118 ⟨Nat.zero_le _, Nat.zero_le _⟩ (fun r118 u H locs hw hP hD hS => ?_)
    have hw : (x4_onesOf a1) = r118 := hw
    subst hw
    refine call_Vv 2 (kX4_shift l D cI h _ (x4_shiftKindOf a1) (x4_onesOf a1)) ⟨hx, hb, hml, hown, hts, hK, hN, hA⟩ ⟨kw_307, kw_309, ks_yX4_shift, kw_1, kw_310, by decide +kernel, rfl, rfl, Nat.le_of_ble_eq_true rfl, Nat.le_of_ble_eq_true rfl⟩ rfl (va_recv hK hP (ci := 4) (q0 := 0) rfl rfl) hP hD hS hl.1 rfl (Nat.le_of_ble_eq_true rfl) dX4_performWithoutAddress_121 ⟨Nat.zero_le _, Nat.zero_le _⟩ (fun u H locs hw hP hD hS => ?_)
    have hw : (x4_shift σ (x4_shiftKindOf a1) (x4_onesOf a1)) = u := hw
    subst hw
    refine lv_iconst (v := (0 : Int32)) hx hb dX4_performWithoutAddress_124 (by decide) ?_
    have hE : x4_performWithoutAddress σ a1 = ((0 : Int32), (x4_shift σ (x4_shiftKindOf a1) (x4_onesOf a1))) := (by unfold x4_performWithoutAddress; rw [if_neg s_4_1_0, if_neg s_4_1_1, if_pos s_4_1_2])
    exact hret (0 : Int32) (x4_shift σ (x4_shiftKindOf a1) (x4_onesOf a1)) _ _ _ _ rfl ⟨by rw [hE], by rw [hE]⟩ hP hD hS dX4_performWithoutAddress_125
  by_cases s_4_1_3 : (x4_codeOf a1) = (28 : Int32)
  · refine lv_lookup (off := 122) (tgt := 126) hx hb dX4_performWithoutAddress_4 (by decide) (by rw [s_4_1_3]; rfl) (by decide) ?_
    refine lv_aload_n hx hb dX4_performWithoutAddress_126 rfl (lv_at hl 0 rfl) ?_
    refine lv_iload_n hx hb dX4_performWithoutAddress_127 rfl (lv_at hl 1 rfl) ?_
    refine call_Si 1 (kX4_hasI l D cI _ a1) ⟨hx, hb, hml, hown, hts, hK, hN, hA⟩ ⟨kw_249, kw_250, kw_1, kw_251, by decide +kernel, rfl, rfl, Nat.le_of_ble_eq_true rfl, Nat.le_of_ble_eq_true rfl⟩ rfl hP hD hS hl.1 rfl (Nat.le_of_ble_eq_true rfl) dX4_performWithoutAddress_128 ⟨Nat.zero_le _, Nat.zero_le _⟩ (fun r128 u H locs hw hP hD hS => ?_)
    have hw : (x4_hasI a1) = r128 := hw
    subst hw
    refine lv_if_eq (tgt := 144) hx hb dX4_performWithoutAddress_131 (by decide) (fun c_131_4 => ?_) (fun c_131_4 => ?_)
    · have c_131_4 : (x4_hasI a1) = (0 : Int32) := c_131_4
      refine lv_iload_n hx hb dX4_performWithoutAddress_144 rfl (lv_at hl 1 rfl) ?_
      refine call_Si 1 (kX4_yOf l D cI _ a1) ⟨hx, hb, hml, hown, hts, hK, hN, hA⟩ ⟨kw_252, kw_253, kw_1, kw_254, by decide +kernel, rfl, rfl, Nat.le_of_ble_eq_true rfl, Nat.le_of_ble_eq_true rfl⟩ rfl hP hD hS hl.1 rfl (Nat.le_of_ble_eq_true rfl) dX4_performWithoutAddress_145 ⟨Nat.zero_le _, Nat.zero_le _⟩ (fun r145 u H locs hw hP hD hS => ?_)
      have hw : (x4_yOf a1) = r145 := hw
      subst hw
      exact J_148 σ (x4_yOf a1) _ _ _ (by unfold x4_performWithoutAddress; rw [if_neg s_4_1_0, if_neg s_4_1_1, if_neg s_4_1_2, if_pos s_4_1_3, if_pos c_131_4]) (lv_sub hl [0] rfl) hP hD hS
    · have c_131_4 : ¬ ((x4_hasI a1) = (0 : Int32)) := c_131_4
      refine lv_iload_n hx hb dX4_performWithoutAddress_134 rfl (lv_at hl 1 rfl) ?_
      refine call_Si 1 (kX4_yOf l D cI _ a1) ⟨hx, hb, hml, hown, hts, hK, hN, hA⟩ ⟨kw_252, kw_253, kw_1, kw_254, by decide +kernel, rfl, rfl, Nat.le_of_ble_eq_true rfl, Nat.le_of_ble_eq_true rfl⟩ rfl hP hD hS hl.1 rfl (Nat.le_of_ble_eq_true rfl) dX4_performWithoutAddress_135 ⟨Nat.zero_le _, Nat.zero_le _⟩ (fun r135 u H locs hw hP hD hS => ?_)
      have hw : (x4_yOf a1) = r135 := hw
      subst hw
      refine call_Si 1 (kX4_not l D cI _ (x4_yOf a1)) ⟨hx, hb, hml, hown, hts, hK, hN, hA⟩ ⟨kw_325, kw_326, kw_1, kw_327, by decide +kernel, rfl, rfl, Nat.le_of_ble_eq_true rfl, Nat.le_of_ble_eq_true rfl⟩ rfl hP hD hS hl.1 rfl (Nat.le_of_ble_eq_true rfl) dX4_performWithoutAddress_138 ⟨Nat.zero_le _, Nat.zero_le _⟩ (fun r138 u H locs hw hP hD hS => ?_)
      have hw : (x4_not (x4_yOf a1)) = r138 := hw
      subst hw
      refine lv_goto (tgt := 148) hx hb dX4_performWithoutAddress_141 (by decide) ?_
      exact J_148 σ (x4_not (x4_yOf a1)) _ _ _ (by unfold x4_performWithoutAddress; rw [if_neg s_4_1_0, if_neg s_4_1_1, if_neg s_4_1_2, if_pos s_4_1_3, if_neg c_131_4]) (lv_sub hl [0] rfl) hP hD hS
  by_cases s_4_1_4 : (x4_codeOf a1) = (29 : Int32)
  · refine lv_lookup (off := 149) (tgt := 153) hx hb dX4_performWithoutAddress_4 (by decide) (by rw [s_4_1_4]; rfl) (by decide) ?_
    refine lv_aload_n hx hb dX4_performWithoutAddress_153 rfl (lv_at hl 0 rfl) ?_
    refine lv_iload_n hx hb dX4_performWithoutAddress_154 rfl (lv_at hl 1 rfl) ?_
    refine lv_bipush (v := (63 : Int32)) hx hb dX4_performWithoutAddress_155 (by decide) ?_
    refine lv_iand hx hb dX4_performWithoutAddress_157 ?_
    refine call_Vv 1 (kX4_transfer l D cI h _ (a1 &&& (63 : Int32))) ⟨hx, hb, hml, hown, hts, hK, hN, hA⟩ ⟨kw_328, kw_330, ks_yX4_transfer, kw_1, kw_331, by decide +kernel, rfl, rfl, Nat.le_of_ble_eq_true rfl, Nat.le_of_ble_eq_true rfl⟩ rfl (va_recv hK hP (ci := 4) (q0 := 0) rfl rfl) hP hD hS hl.1 rfl (Nat.le_of_ble_eq_true rfl) dX4_performWithoutAddress_158 ⟨Nat.zero_le _, Nat.zero_le _⟩ (fun u H locs hw hP hD hS => ?_)
    have hw : (x4_transfer σ (a1 &&& (63 : Int32))) = u := hw
    subst hw
    refine lv_iconst (v := (0 : Int32)) hx hb dX4_performWithoutAddress_161 (by decide) ?_
    have hE : x4_performWithoutAddress σ a1 = ((0 : Int32), (x4_transfer σ (a1 &&& (63 : Int32)))) := (by unfold x4_performWithoutAddress; rw [if_neg s_4_1_0, if_neg s_4_1_1, if_neg s_4_1_2, if_neg s_4_1_3, if_pos s_4_1_4])
    exact hret (0 : Int32) (x4_transfer σ (a1 &&& (63 : Int32))) _ _ _ _ rfl ⟨by rw [hE], by rw [hE]⟩ hP hD hS dX4_performWithoutAddress_162
  by_cases s_4_1_5 : (x4_codeOf a1) = (31 : Int32)
  · refine lv_lookup (off := 159) (tgt := 163) hx hb dX4_performWithoutAddress_4 (by decide) (by rw [s_4_1_5]; rfl) (by decide) ?_
    refine lv_aload_n hx hb dX4_performWithoutAddress_163 rfl (lv_at hl 0 rfl) ?_
    refine lv_iload_n hx hb dX4_performWithoutAddress_164 rfl (lv_at hl 1 rfl) ?_
    refine call_Si 1 (kX4_yOf l D cI _ a1) ⟨hx, hb, hml, hown, hts, hK, hN, hA⟩ ⟨kw_252, kw_253, kw_1, kw_254, by decide +kernel, rfl, rfl, Nat.le_of_ble_eq_true rfl, Nat.le_of_ble_eq_true rfl⟩ rfl hP hD hS hl.1 rfl (Nat.le_of_ble_eq_true rfl) dX4_performWithoutAddress_165 ⟨Nat.zero_le _, Nat.zero_le _⟩ (fun r165 u H locs hw hP hD hS => ?_)
    have hw : (x4_yOf a1) = r165 := hw
    subst hw
    refine call_Vi 1 (kX4_operate l D cI h _ (x4_yOf a1)) ⟨hx, hb, hml, hown, hts, hK, hN, hA⟩ ⟨kw_344, kw_346, ks_yX4_operate, kw_1, kw_347, by decide +kernel, rfl, rfl, Nat.le_of_ble_eq_true rfl, Nat.le_of_ble_eq_true rfl⟩ rfl (va_recv hK hP (ci := 4) (q0 := 0) rfl rfl) hP hD hS hl.1 rfl (Nat.le_of_ble_eq_true rfl) dX4_performWithoutAddress_168 ⟨Nat.zero_le _, Nat.zero_le _⟩ (fun r168 u H locs hw hP hD hS => ?_)
    obtain ⟨hw, hw2⟩ : (x4_operate σ (x4_yOf a1)).1 = r168 ∧ (x4_operate σ (x4_yOf a1)).2 = u := hw
    subst hw
    subst hw2
    have hE : x4_performWithoutAddress σ a1 = ((x4_operate σ (x4_yOf a1)).1, (x4_operate σ (x4_yOf a1)).2) := (by unfold x4_performWithoutAddress; rw [if_neg s_4_1_0, if_neg s_4_1_1, if_neg s_4_1_2, if_neg s_4_1_3, if_neg s_4_1_4, if_pos s_4_1_5])
    exact hret (x4_operate σ (x4_yOf a1)).1 (x4_operate σ (x4_yOf a1)).2 _ _ _ _ rfl ⟨by rw [hE], by rw [hE]⟩ hP hD hS dX4_performWithoutAddress_171
  refine lv_lookup (off := 168) (tgt := 172) hx hb dX4_performWithoutAddress_4 (by decide) (by simp only []; exact (lv_osw s_4_1_0 (by decide)).trans ((lv_osw s_4_1_1 (by decide)).trans ((lv_osw s_4_1_2 (by decide)).trans ((lv_osw s_4_1_3 (by decide)).trans ((lv_osw s_4_1_4 (by decide)).trans ((lv_osw s_4_1_5 (by decide)).trans (rfl))))))) (by decide) ?_
  refine lv_iconst (v := (3 : Int32)) hx hb dX4_performWithoutAddress_172 (by decide) ?_
  have hE : x4_performWithoutAddress σ a1 = ((3 : Int32), σ) := (by unfold x4_performWithoutAddress; rw [if_neg s_4_1_0, if_neg s_4_1_1, if_neg s_4_1_2, if_neg s_4_1_3, if_neg s_4_1_4, if_neg s_4_1_5])
  exact hret (3 : Int32) σ _ _ _ _ rfl ⟨by rw [hE], by rw [hE]⟩ hP hD hS dX4_performWithoutAddress_173
