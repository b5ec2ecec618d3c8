def x4_isOff (a1 : Int32) (a2 : Int32) : Int32 := (if a2 = (0 : Int32) then (0 : Int32) else (if a2 = (7 : Int32) then (if a1 = (0 : Int32) then (1 : Int32) else (0 : Int32)) else (if ((a1 >>> ((a2 - (1 : Int32)) &&& 31)) &&& (1 : Int32)) = (0 : Int32) then (1 : Int32) else (0 : Int32))))
set_option maxRecDepth 100000 in
set_option maxHeartbeats 8000000 in
theorem kX4_isOff (l : Launch) (D : va_G) (cI : ClassId) (w : va_W) (a1 : Int32) (a2 : Int32) : MetI l yX4_isOff (wsU yX4_isOff cX4_isOff 2 (some .boolean)) { frames := 0, cells := 0, slots := 0, locals := 0 } D cI [.int a1, .int a2] w (fun _ : Unit => w) (fun r _ => (x4_isOff a1 a2) = r) := by
  refine MetI.of (by decide) (Nat.le_of_ble_eq_true rfl) ?_
  intro p e s m below meth c A Q ls hx hb hml hown hts hK hN hA hret hP hD hS hl
  have hown : s.vm.findClass RX4 = some m.cls := hown
  have hl : lv_has ls 2 [(0, .int a1), (1, .int a2)] := hl
  suffices go : ∀ (H : Heap) (locs : List Loc), va_P D vwCl w H → va_D A w → va_S A s.heap H locs → W p l e ({ frames := 0, cells := 0, slots := 0, locals := 0 } : Room) s m (([.int a1, .int a2] : List Value).toArray) below meth c H locs 0 0 Q (F0 m 0 ls []) from go _ _ hP hD hS
  intro H locs hP hD hS
  refine lv_iload_n hx hb dX4_isOff_0 rfl (lv_at hl 1 rfl) ?_
  refine lv_if_ne (tgt := 6) hx hb dX4_isOff_1 (by decide) (fun c_1_1 => ?_) (fun c_1_1 => ?_)
  · have c_1_1 : ¬ (a2 = (0 : Int32)) := c_1_1
    refine lv_iload_n hx hb dX4_isOff_6 rfl (lv_at hl 1 rfl) ?_
    refine lv_bipush (v := (7 : Int32)) hx hb dX4_isOff_7 (by decide) ?_
    refine lv_icmp_ne (tgt := 24) hx hb dX4_isOff_9 (by decide) (fun c_9_2 => ?_) (fun c_9_2 => ?_)
    · have c_9_2 : ¬ (a2 = (7 : Int32)) := c_9_2
      refine lv_iload_n hx hb dX4_isOff_24 rfl (lv_at hl 0 rfl) ?_
      refine lv_iload_n hx hb dX4_isOff_25 rfl (lv_at hl 1 rfl) ?_
      refine lv_iconst (v := (1 : Int32)) hx hb dX4_isOff_26 (by decide) ?_
      refine lv_isub hx hb dX4_isOff_27 ?_
      refine lv_ishr hx hb dX4_isOff_28 ?_
      refine lv_iconst (v := (1 : Int32)) hx hb dX4_isOff_29 (by decide) ?_
      refine lv_iand hx hb dX4_isOff_30 ?_
      refine lv_if_ne (tgt := 38) hx hb dX4_isOff_31 (by decide) (fun c_31_3 => ?_) (fun c_31_3 => ?_)
      · have c_31_3 : ¬ (((a1 >>> ((a2 - (1 : Int32)) &&& 31)) &&& (1 : Int32)) = (0 : Int32)) := c_31_3
        refine lv_iconst (v := (0 : Int32)) hx hb dX4_isOff_38 (by decide) ?_
        have hE : x4_isOff a1 a2 = (0 : Int32) := (by unfold x4_isOff; rw [if_neg c_1_1, if_neg c_9_2, if_neg c_31_3])
        exact hret (0 : Int32) () _ _ _ _ rfl hE hP hD hS dX4_isOff_39
      · have c_31_3 : ((a1 >>> ((a2 - (1 : Int32)) &&& 31)) &&& (1 : Int32)) = (0 : Int32) := c_31_3
        refine lv_iconst (v := (1 : Int32)) hx hb dX4_isOff_34 (by decide) ?_
        refine lv_goto (tgt := 39) hx hb dX4_isOff_35 (by decide) ?_
        have hE : x4_isOff a1 a2 = (1 : Int32) := (by unfold x4_isOff; rw [if_neg c_1_1, if_neg c_9_2, if_pos c_31_3])
        exact hret (1 : Int32) () _ _ _ _ rfl hE hP hD hS dX4_isOff_39
    · have c_9_2 : a2 = (7 : Int32) := c_9_2
      refine lv_iload_n hx hb dX4_isOff_12 rfl (lv_at hl 0 rfl) ?_
      refine lv_if_ne (tgt := 20) hx hb dX4_isOff_13 (by decide) (fun c_13_4 => ?_) (fun c_13_4 => ?_)
      · have c_13_4 : ¬ (a1 = (0 : Int32)) := c_13_4
        refine lv_iconst (v := (0 : Int32)) hx hb dX4_isOff_20 (by decide) ?_
        refine lv_goto (tgt := 39) hx hb dX4_isOff_21 (by decide) ?_
        have hE : x4_isOff a1 a2 = (0 : Int32) := (by unfold x4_isOff; rw [if_neg c_1_1, if_pos c_9_2, if_neg c_13_4])
        exact hret (0 : Int32) () _ _ _ _ rfl hE hP hD hS dX4_isOff_39
      · have c_13_4 : a1 = (0 : Int32) := c_13_4
        refine lv_iconst (v := (1 : Int32)) hx hb dX4_isOff_16 (by decide) ?_
        refine lv_goto (tgt := 39) hx hb dX4_isOff_17 (by decide) ?_
        have hE : x4_isOff a1 a2 = (1 : Int32) := (by unfold x4_isOff; rw [if_neg c_1_1, if_pos c_9_2, if_pos c_13_4])
        exact hret (1 : Int32) () _ _ _ _ rfl hE hP hD hS dX4_isOff_39
  · have c_1_1 : a2 = (0 : Int32) := c_1_1
    refine lv_iconst (v := (0 : Int32)) hx hb dX4_isOff_4 (by decide) ?_
    have hE : x4_isOff a1 a2 = (0 : Int32) := (by unfold x4_isOff; rw [if_pos c_1_1])
    exact hret (0 : Int32) () _ _ _ _ rfl hE hP hD hS dX4_isOff_5
def x4_someHolds_114 (σ : St) (x1_114 : Int32) : Int32 × St := (if (x1_114 &&& (512 : Int32)) = (0 : Int32) then ((1 : Int32), σ) else ((1 : Int32), (s_ov σ (0 : Int32))))
def x4_someHolds_84 (σ : St) (x1_84 : Int32) : Int32 × St := (if (x4_isOff (g_sw σ) ((x1_84 >>> ((3 : Int32) &&& 31)) &&& (7 : Int32))) = (0 : Int32) then (if (x4_isOff (g_flags σ) (x1_84 &&& (7 : Int32))) = (0 : Int32) then (if (x1_84 &&& (512 : Int32)) = (0 : Int32) then ((0 : Int32), σ) else ((0 : Int32), (s_ov σ (0 : Int32)))) else x4_someHolds_114 σ x1_84) else x4_someHolds_114 σ x1_84)
def x4_someHolds_66 (σ : St) (x1_66 : Int32) : Int32 × St := (if (x1_66 &&& (1024 : Int32)) = (0 : Int32) then x4_someHolds_84 σ x1_66 else (if (x4_signOf (g_io σ)) = (0 : Int32) then x4_someHolds_114 σ x1_66 else x4_someHolds_84 σ x1_66))
def x4_someHolds_51 (σ : St) (x1_51 : Int32) : Int32 × St := (if (x1_51 &&& (512 : Int32)) = (0 : Int32) then x4_someHolds_66 σ x1_51 else (if (g_ov σ) = (0 : Int32) then x4_someHolds_114 σ x1_51 else x4_someHolds_66 σ x1_51))
def x4_someHolds_32 (σ : St) (x1_32 : Int32) : Int32 × St := (if (x1_32 &&& (256 : Int32)) = (0 : Int32) then x4_someHolds_51 σ x1_32 else (if (x4_signOf (g_ac σ)) = (1 : Int32) then x4_someHolds_114 σ x1_32 else x4_someHolds_51 σ x1_32))
def x4_someHolds_14 (σ : St) (x1_14 : Int32) : Int32 × St := (if (x1_14 &&& (128 : Int32)) = (0 : Int32) then x4_someHolds_32 σ x1_14 else (if (x4_signOf (g_ac σ)) = (0 : Int32) then x4_someHolds_114 σ x1_14 else x4_someHolds_32 σ x1_14))
def x4_someHolds (σ : St) (a1 : Int32) : Int32 × St := (if (a1 &&& (64 : Int32)) = (0 : Int32) then x4_someHolds_14 σ a1 else (if (g_ac σ) = (0 : Int32) then x4_someHolds_114 σ a1 else x4_someHolds_14 σ a1))
set_option maxRecDepth 100000 in
set_option maxHeartbeats 8000000 in
theorem kX4_someHolds (l : Launch) (D : va_G) (cI : ClassId) (h : Nat → Nat) (σ : St) (a1 : Int32) : MetI l yX4_someHolds (wsU yX4_someHolds cX4_someHolds 3 (some .boolean)) { frames := 1, cells := 0, slots := 0, locals := 21 } D cI [.ref (h 0), .int a1] (wX h cI σ) (fun u : St => wX h cI u) (fun r u => (x4_someHolds σ a1).1 = r ∧ (x4_someHolds σ a1).2 = u) := by
  refine MetI.of (by decide) (Nat.le_of_ble_eq_true rfl) ?_
  intro p e s m below meth c A Q ls hx hb hml hown hts hK hN hA hret hP hD hS hl
  have hown : s.vm.findClass RX4 = some m.cls := hown
  have hl : lv_has ls 3 [(0, .ref (h 0)), (1, .int a1)] := hl
  have J_114 : ∀ (σ' : St) (x1_114 : Int32) (H : Heap) (locs : List Loc) (ls : Array Slot), x4_someHolds σ a1 = x4_someHolds_114 σ' x1_114 → lv_has ls 3 [(0, .ref (h 0)), (1, .int x1_114)] → va_P D vwCl (wX h cI σ') H → va_D A (wX h cI σ') → va_S A s.heap H locs → W p l e ({ frames := 1, cells := 0, slots := 0, locals := 21 } : Room) s m (([.ref (h 0), .int a1] : List Value).toArray) below meth c H locs 0 0 Q (F0 m 114 ls []) := by
    intro σ' x1_114 H locs ls E hl hP hD hS
    refine lv_iconst (v := (1 : Int32)) hx hb dX4_someHolds_114 (by decide) ?_
    refine lv_goto (tgt := 119) hx hb dX4_someHolds_115 (by decide) ?_
    refine lv_istore_n (lv' := [(2, .int (1 : Int32)), (0, .ref (h 0)), (1, .int x1_114)]) hx hb dX4_someHolds_119 rfl hl (by decide) rfl (fun ls hl => ?_)
    refine lv_iload_n hx hb dX4_someHolds_120 rfl (lv_at hl 2 rfl) ?_
    refine lv_sipush (v := (512 : Int32)) hx hb dX4_someHolds_121 (by decide) ?_
    refine lv_iand hx hb dX4_someHolds_124 ?_
    refine lv_if_eq (tgt := 133) hx hb dX4_someHolds_125 (by decide) (fun c_125_7 => ?_) (fun c_125_7 => ?_)
    · have c_125_7 : (x1_114 &&& (512 : Int32)) = (0 : Int32) := c_125_7
      refine lv_iload_n hx hb dX4_someHolds_133 rfl (lv_at hl 0 rfl) ?_
      have hE : x4_someHolds σ a1 = ((1 : Int32), σ') := (E.trans (by unfold x4_someHolds_114; rw [if_pos c_125_7]))
      exact hret (1 : Int32) σ' _ _ _ _ rfl ⟨by rw [hE], by rw [hE]⟩ hP hD hS dX4_someHolds_134
    · have c_125_7 : ¬ ((x1_114 &&& (512 : Int32)) = (0 : Int32)) := c_125_7
      refine lv_aload_n hx hb dX4_someHolds_128 rfl (lv_at hl 1 rfl) ?_
      refine lv_iconst (v := (0 : Int32)) hx hb dX4_someHolds_129 (by decide) ?_
      refine pX_ov hx hb hts hown hK hP hD hS kw_111 dX4_someHolds_130 (fun H locs hP hD hS => ?_)
      refine lv_iload_n hx hb dX4_someHolds_133 rfl (lv_at hl 0 rfl) ?_
      have hE : x4_someHolds σ a1 = ((1 : Int32), (s_ov σ' (0 : Int32))) := (E.trans (by unfold x4_someHolds_114; rw [if_neg c_125_7]))
      exact hret (1 : Int32) (s_ov σ' (0 : Int32)) _ _ _ _ rfl ⟨by rw [hE], by rw [hE]⟩ hP hD hS dX4_someHolds_134
  have J_84 : ∀ (σ' : St) (x1_84 : Int32) (H : Heap) (locs : List Loc) (ls : Array Slot), x4_someHolds σ a1 = x4_someHolds_84 σ' x1_84 → lv_has ls 3 [(0, .ref (h 0)), (1, .int x1_84)] → va_P D vwCl (wX h cI σ') H → va_D A (wX h cI σ') → va_S A s.heap H locs → W p l e ({ frames := 1, cells := 0, slots := 0, locals := 21 } : Room) s m (([.ref (h 0), .int a1] : List Value).toArray) below meth c H locs 0 0 Q (F0 m 84 ls []) := by
    intro σ' x1_84 H locs ls E hl hP hD hS
    refine lv_aload_n hx hb dX4_someHolds_84 rfl (lv_at hl 0 rfl) ?_
    refine gX_sw (v := (g_sw σ')) hx hb hts hown hK hP kw_116 rfl dX4_someHolds_85 ?_
    refine lv_iload_n hx hb dX4_someHolds_88 rfl (lv_at hl 1 rfl) ?_
    refine lv_iconst (v := (3 : Int32)) hx hb dX4_someHolds_89 (by decide) ?_
    refine lv_ishr hx hb dX4_someHolds_90 ?_
    refine lv_bipush (v := (7 : Int32)) hx hb dX4_someHolds_91 (by decide) ?_
    refine lv_iand hx hb dX4_someHolds_93 ?_
    refine call_Si 2 (kX4_isOff l D cI _ (g_sw σ') ((x1_84 >>> ((3 : Int32) &&& 31)) &&& (7 : Int32))) ⟨hx, hb, hml, hown, hts, hK, hN, hA⟩ ⟨kw_291, kw_292, kw_1, kw_293, by decide +kernel, rfl, rfl, Nat.le_of_ble_eq_true rfl, Nat.le_of_ble_eq_true rfl⟩ rfl hP hD hS hl.1 rfl (Nat.le_of_ble_eq_true rfl) dX4_someHolds_94 ⟨Nat.zero_le _, Nat.zero_le _⟩ (fun r94 u H locs hw hP hD hS => ?_)
    have hw : (x4_isOff (g_sw σ') ((x1_84 >>> ((3 : Int32) &&& 31)) &&& (7 : Int32))) = r94 := hw
    subst hw
    refine lv_if_ne (tgt := 114) hx hb dX4_someHolds_97 (by decide) (fun c_97_6 => ?_) (fun c_97_6 => ?_)
    · have c_97_6 : ¬ ((x4_isOff (g_sw σ') ((x1_84 >>> ((3 : Int32) &&& 31)) &&& (7 : Int32))) = (0 : Int32)) := c_97_6
      exact J_114 σ' x1_84 _ _ _ (E.trans (by unfold x4_someHolds_84; rw [if_neg c_97_6])) (lv_sub hl [0, 1] rfl) hP hD hS
    · have c_97_6 : (x4_isOff (g_sw σ') ((x1_84 >>> ((3 : Int32) &&& 31)) &&& (7 : Int32))) = (0 : Int32) := c_97_6
      refine lv_aload_n hx hb dX4_someHolds_100 rfl (lv_at hl 0 rfl) ?_
      refine gX_flags (v := (g_flags σ')) hx hb hts hown hK hP kw_112 rfl dX4_someHolds_101 ?_
      refine lv_iload_n hx hb dX4_someHolds_104 rfl (lv_at hl 1 rfl) ?_
      refine lv_bipush (v := (7 : Int32)) hx hb dX4_someHolds_105 (by decide) ?_
      refine lv_iand hx hb dX4_someHolds_107 ?_
      refine call_Si 2 (kX4_isOff l D cI _ (g_flags σ') (x1_84 &&& (7 : Int32))) ⟨hx, hb, hml, hown, hts, hK, hN, hA⟩ ⟨kw_291, kw_292, kw_1, kw_293, by decide +kernel, rfl, rfl, Nat.le_of_ble_eq_true rfl, Nat.le_of_ble_eq_true rfl⟩ rfl hP hD hS hl.1 rfl (Nat.le_of_ble_eq_true rfl) dX4_someHolds_108 ⟨Nat.zero_le _, Nat.zero_le _⟩ (fun r108 u H locs hw hP hD hS => ?_)
      have hw : (x4_isOff (g_flags σ') (x1_84 &&& (7 : Int32))) = r108 := hw
      subst hw
      refine lv_if_eq (tgt := 118) hx hb dX4_someHolds_111 (by decide) (fun c_111_8 => ?_) (fun c_111_8 => ?_)
      · have c_111_8 : (x4_isOff (g_flags σ') (x1_84 &&& (7 : Int32))) = (0 : Int32) := c_111_8
        refine lv_iconst (v := (0 : Int32)) hx hb dX4_someHolds_118 (by decide) ?_
        refine lv_istore_n (lv' := [(2, .int (0 : Int32)), (0, .ref (h 0)), (1, .int x1_84)]) hx hb dX4_someHolds_119 rfl hl (by decide) rfl (fun ls hl => ?_)
        refine lv_iload_n hx hb dX4_someHolds_120 rfl (lv_at hl 2 rfl) ?_
        refine lv_sipush (v := (512 : Int32)) hx hb dX4_someHolds_121 (by decide) ?_
        refine lv_iand hx hb dX4_someHolds_124 ?_
        refine lv_if_eq (tgt := 133) hx hb dX4_someHolds_125 (by decide) (fun c_125_9 => ?_) (fun c_125_9 => ?_)
        · have c_125_9 : (x1_84 &&& (512 : Int32)) = (0 : Int32) := c_125_9
          refine lv_iload_n hx hb dX4_someHolds_133 rfl (lv_at hl 0 rfl) ?_
          have hE : x4_someHolds σ a1 = ((0 : Int32), σ') := (E.trans (by unfold x4_someHolds_84; rw [if_pos c_97_6, if_pos c_111_8, if_pos c_125_9]))
          exact hret (0 : Int32) σ' _ _ _ _ rfl ⟨by rw [hE], by rw [hE]⟩ hP hD hS dX4_someHolds_134
        · have c_125_9 : ¬ ((x1_84 &&& (512 : Int32)) = (0 : Int32)) := c_125_9
          refine lv_aload_n hx hb dX4_someHolds_128 rfl (lv_at hl 1 rfl) ?_
          refine lv_iconst (v := (0 : Int32)) hx hb dX4_someHolds_129 (by decide) ?_
          refine pX_ov hx hb hts hown hK hP hD hS kw_111 dX4_someHolds_130 (fun H locs hP hD hS => ?_)
          refine lv_iload_n hx hb dX4_someHolds_133 rfl (lv_at hl 0 rfl) ?_
          have hE : x4_someHolds σ a1 = ((0 : Int32), (s_ov σ' (0 : Int32))) := (E.trans (by unfold x4_someHolds_84; rw [if_pos c_97_6, if_pos c_111_8, if_neg c_125_9]))
          exact hret (0 : Int32) (s_ov σ' (0 : Int32)) _ _ _ _ rfl ⟨by rw [hE], by rw [hE]⟩ hP hD hS dX4_someHolds_134
      · have c_111_8 : ¬ ((x4_isOff (g_flags σ') (x1_84 &&& (7 : Int32))) = (0 : Int32)) := c_111_8
        exact J_114 σ' x1_84 _ _ _ (E.trans (by unfold x4_someHolds_84; rw [if_pos c_97_6, if_neg c_111_8])) (lv_sub hl [0, 1] rfl) hP hD hS
  have J_66 : ∀ (σ' : St) (x1_66 : Int32) (H : Heap) (locs : List Loc) (ls : Array Slot), x4_someHolds σ a1 = x4_someHolds_66 σ' x1_66 → lv_has ls 3 [(0, .ref (h 0)), (1, .int x1_66)] → va_P D vwCl (wX h cI σ') H → va_D A (wX h cI σ') → va_S A s.heap H locs → W p l e ({ frames := 1, cells := 0, slots := 0, locals := 21 } : Room) s m (([.ref (h 0), .int a1] : List Value).toArray) below meth c H locs 0 0 Q (F0 m 66 ls []) := by
    intro σ' x1_66 H locs ls E hl hP hD hS
    refine lv_iload_n hx hb dX4_someHolds_66 rfl (lv_at hl 1 rfl) ?_
    refine lv_sipush (v := (1024 : Int32)) hx hb dX4_someHolds_67 (by decide) ?_
    refine lv_iand hx hb dX4_someHolds_70 ?_
    refine lv_if_eq (tgt := 84) hx hb dX4_someHolds_71 (by decide) (fun c_71_5 => ?_) (fun c_71_5 => ?_)
    · have c_71_5 : (x1_66 &&& (1024 : Int32)) = (0 : Int32) := c_71_5
      exact J_84 σ' x1_66 _ _ _ (E.trans (by unfold x4_someHolds_66; rw [if_pos c_71_5])) (lv_sub hl [0, 1] rfl) hP hD hS
    · have c_71_5 : ¬ ((x1_66 &&& (1024 : Int32)) = (0 : Int32)) := c_71_5
      refine lv_aload_n hx hb dX4_someHolds_74 rfl (lv_at hl 0 rfl) ?_
      refine gX_io (v := (g_io σ')) hx hb hts hown hK hP kw_109 rfl dX4_someHolds_75 ?_
      refine call_Si 1 (kX4_signOf l D cI _ (g_io σ')) ⟨hx, hb, hml, hown, hts, hK, hN, hA⟩ ⟨kw_273, kw_274, kw_1, kw_275, by decide +kernel, rfl, rfl, Nat.le_of_ble_eq_true rfl, Nat.le_of_ble_eq_true rfl⟩ rfl hP hD hS hl.1 rfl (Nat.le_of_ble_eq_true rfl) dX4_someHolds_78 ⟨Nat.zero_le _, Nat.zero_le _⟩ (fun r78 u H locs hw hP hD hS => ?_)
      have hw : (x4_signOf (g_io σ')) = r78 := hw
      subst hw
      refine lv_if_eq (tgt := 114) hx hb dX4_someHolds_81 (by decide) (fun c_81_10 => ?_) (fun c_81_10 => ?_)
      · have c_81_10 : (x4_signOf (g_io σ')) = (0 : Int32) := c_81_10
        exact J_114 σ' x1_66 _ _ _ (E.trans (by unfold x4_someHolds_66; rw [if_neg c_71_5, if_pos c_81_10])) (lv_sub hl [0, 1] rfl) hP hD hS
      · have c_81_10 : ¬ ((x4_signOf (g_io σ')) = (0 : Int32)) := c_81_10
        exact J_84 σ' x1_66 _ _ _ (E.trans (by unfold x4_someHolds_66; rw [if_neg c_71_5, if_neg c_81_10])) (lv_sub hl [0, 1] rfl) hP hD hS
  have J_51 : ∀ (σ' : St) (x1_51 : Int32) (H : Heap) (locs : List Loc) (ls : Array Slot), x4_someHolds σ a1 = x4_someHolds_51 σ' x1_51 → lv_has ls 3 [(0, .ref (h 0)), (1, .int x1_51)] → va_P D vwCl (wX h cI σ') H → va_D A (wX h cI σ') → va_S A s.heap H locs → W p l e ({ frames := 1, cells := 0, slots := 0, locals := 21 } : Room) s m (([.ref (h 0), .int a1] : List Value).toArray) below meth c H locs 0 0 Q (F0 m 51 ls []) := by
    intro σ' x1_51 H locs ls E hl hP hD hS
    refine lv_iload_n hx hb dX4_someHolds_51 rfl (lv_at hl 1 rfl) ?_
    refine lv_sipush (v := (512 : Int32)) hx hb dX4_someHolds_52 (by decide) ?_
    refine lv_iand hx hb dX4_someHolds_55 ?_
    refine lv_if_eq (tgt := 66) hx hb dX4_someHolds_56 (by decide) (fun c_56_4 => ?_) (fun c_56_4 => ?_)
    · have c_56_4 : (x1_51 &&& (512 : Int32)) = (0 : Int32) := c_56_4
      exact J_66 σ' x1_51 _ _ _ (E.trans (by unfold x4_someHolds_51; rw [if_pos c_56_4])) (lv_sub hl [0, 1] rfl) hP hD hS
    · have c_56_4 : ¬ ((x1_51 &&& (512 : Int32)) = (0 : Int32)) := c_56_4
      refine lv_aload_n hx hb dX4_someHolds_59 rfl (lv_at hl 0 rfl) ?_
      refine gX_ov (v := (g_ov σ')) hx hb hts hown hK hP kw_111 rfl dX4_someHolds_60 ?_
      refine lv_if_eq (tgt := 114) hx hb dX4_someHolds_63 (by decide) (fun c_63_11 => ?_) (fun c_63_11 => ?_)
      · have c_63_11 : (g_ov σ') = (0 : Int32) := c_63_11
        exact J_114 σ' x1_51 _ _ _ (E.trans (by unfold x4_someHolds_51; rw [if_neg c_56_4, if_pos c_63_11])) (lv_sub hl [0, 1] rfl) hP hD hS
      · have c_63_11 : ¬ ((g_ov σ') = (0 : Int32)) := c_63_11
        exact J_66 σ' x1_51 _ _ _ (E.trans (by unfold x4_someHolds_51; rw [if_neg c_56_4, if_neg c_63_11])) (lv_sub hl [0, 1] rfl) hP hD hS
  have J_32 : ∀ (σ' : St) (x1_32 : Int32) (H : Heap) (locs : List Loc) (ls : Array Slot), x4_someHolds σ a1 = x4_someHolds_32 σ' x1_32 → lv_has ls 3 [(0, .ref (h 0)), (1, .int x1_32)] → va_P D vwCl (wX h cI σ') H → va_D A (wX h cI σ') → va_S A s.heap H locs → W p l e ({ frames := 1, cells := 0, slots := 0, locals := 21 } : Room) s m (([.ref (h 0), .int a1] : List Value).toArray) below meth c H locs 0 0 Q (F0 m 32 ls []) := by
    intro σ' x1_32 H locs ls E hl hP hD hS
    refine lv_iload_n hx hb dX4_someHolds_32 rfl (lv_at hl 1 rfl) ?_
    refine lv_sipush (v := (256 : Int32)) hx hb dX4_someHolds_33 (by decide) ?_
    refine lv_iand hx hb dX4_someHolds_36 ?_
    refine lv_if_eq (tgt := 51) hx hb dX4_someHolds_37 (by decide) (fun c_37_3 => ?_) (fun c_37_3 => ?_)
    · have c_37_3 : (x1_32 &&& (256 : Int32)) = (0 : Int32) := c_37_3
      exact J_51 σ' x1_32 _ _ _ (E.trans (by unfold x4_someHolds_32; rw [if_pos c_37_3])) (lv_sub hl [0, 1] rfl) hP hD hS
    · have c_37_3 : ¬ ((x1_32 &&& (256 : Int32)) = (0 : Int32)) := c_37_3
      refine lv_aload_n hx hb dX4_someHolds_40 rfl (lv_at hl 0 rfl) ?_
      refine gX_ac (v := (g_ac σ')) hx hb hts hown hK hP kw_108 rfl dX4_someHolds_41 ?_
      refine call_Si 1 (kX4_signOf l D cI _ (g_ac σ')) ⟨hx, hb, hml, hown, hts, hK, hN, hA⟩ ⟨kw_273, kw_274, kw_1, kw_275, by decide +kernel, rfl, rfl, Nat.le_of_ble_eq_true rfl, Nat.le_of_ble_eq_true rfl⟩ rfl hP hD hS hl.1 rfl (Nat.le_of_ble_eq_true rfl) dX4_someHolds_44 ⟨Nat.zero_le _, Nat.zero_le _⟩ (fun r44 u H locs hw hP hD hS => ?_)
      have hw : (x4_signOf (g_ac σ')) = r44 := hw
      subst hw
      refine lv_iconst (v := (1 : Int32)) hx hb dX4_someHolds_47 (by decide) ?_
      refine lv_icmp_eq (tgt := 114) hx hb dX4_someHolds_48 (by decide) (fun c_48_12 => ?_) (fun c_48_12 => ?_)
      · have c_48_12 : (x4_signOf (g_ac σ')) = (1 : Int32) := c_48_12
        exact J_114 σ' x1_32 _ _ _ (E.trans (by unfold x4_someHolds_32; rw [if_neg c_37_3, if_pos c_48_12])) (lv_sub hl [0, 1] rfl) hP hD hS
      · have c_48_12 : ¬ ((x4_signOf (g_ac σ')) = (1 : Int32)) := c_48_12
        exact J_51 σ' x1_32 _ _ _ (E.trans (by unfold x4_someHolds_32; rw [if_neg c_37_3, if_neg c_48_12])) (lv_sub hl [0, 1] rfl) hP hD hS
  have J_14 : ∀ (σ' : St) (x1_14 : Int32) (H : Heap) (locs : List Loc) (ls : Array Slot), x4_someHolds σ a1 = x4_someHolds_14 σ' x1_14 → lv_has ls 3 [(0, .ref (h 0)), (1, .int x1_14)] → va_P D vwCl (wX h cI σ') H → va_D A (wX h cI σ') → va_S A s.heap H locs → W p l e ({ frames := 1, cells := 0, slots := 0, locals := 21 } : Room) s m (([.ref (h 0), .int a1] : List Value).toArray) below meth c H locs 0 0 Q (F0 m 14 ls []) := by
    intro σ' x1_14 H locs ls E hl hP hD hS
    refine lv_iload_n hx hb dX4_someHolds_14 rfl (lv_at hl 1 rfl) ?_
    refine lv_sipush (v := (128 : Int32)) hx hb dX4_someHolds_15 (by decide) ?_
    refine lv_iand hx hb dX4_someHolds_18 ?_
    refine lv_if_eq (tgt := 32) hx hb dX4_someHolds_19 (by decide) (fun c_19_2 => ?_) (fun c_19_2 => ?_)
    · have c_19_2 : (x1_14 &&& (128 : Int32)) = (0 : Int32) := c_19_2
      exact J_32 σ' x1_14 _ _ _ (E.trans (by unfold x4_someHolds_14; rw [if_pos c_19_2])) (lv_sub hl [0, 1] rfl) hP hD hS
    · have c_19_2 : ¬ ((x1_14 &&& (128 : Int32)) = (0 : Int32)) := c_19_2
      refine lv_aload_n hx hb dX4_someHolds_22 rfl (lv_at hl 0 rfl) ?_
      refine gX_ac (v := (g_ac σ')) hx hb hts hown hK hP kw_108 rfl dX4_someHolds_23 ?_
      refine call_Si 1 (kX4_signOf l D cI _ (g_ac σ')) ⟨hx, hb, hml, hown, hts, hK, hN, hA⟩ ⟨kw_273, kw_274, kw_1, kw_275, by decide +kernel, rfl, rfl, Nat.le_of_ble_eq_true rfl, Nat.le_of_ble_eq_true rfl⟩ rfl hP hD hS hl.1 rfl (Nat.le_of_ble_eq_true rfl) dX4_someHolds_26 ⟨Nat.zero_le _, Nat.zero_le _⟩ (fun r26 u H locs hw hP hD hS => ?_)
      have hw : (x4_signOf (g_ac σ')) = r26 := hw
      subst hw
      refine lv_if_eq (tgt := 114) hx hb dX4_someHolds_29 (by decide) (fun c_29_13 => ?_) (fun c_29_13 => ?_)
      · have c_29_13 : (x4_signOf (g_ac σ')) = (0 : Int32) := c_29_13
        exact J_114 σ' x1_14 _ _ _ (E.trans (by unfold x4_someHolds_14; rw [if_neg c_19_2, if_pos c_29_13])) (lv_sub hl [0, 1] rfl) hP hD hS
      · have c_29_13 : ¬ ((x4_signOf (g_ac σ')) = (0 : Int32)) := c_29_13
        exact J_32 σ' x1_14 _ _ _ (E.trans (by unfold x4_someHolds_14; rw [if_neg c_19_2, if_neg c_29_13])) (lv_sub hl [0, 1] rfl) hP hD hS
  suffices go : ∀ (H : Heap) (locs : List Loc), va_P D vwCl (wX h cI σ) H → va_D A (wX h cI σ) → va_S A s.heap H locs → W p l e ({ frames := 1, cells := 0, slots := 0, locals := 21 } : Room) s m (([.ref (h 0), .int a1] : List Value).toArray) below meth c H locs 0 0 Q (F0 m 0 ls []) from go _ _ hP hD hS
  intro H locs hP hD hS
  refine lv_iload_n hx hb dX4_someHolds_0 rfl (lv_at hl 1 rfl) ?_
  refine lv_bipush (v := (64 : Int32)) hx hb dX4_someHolds_1 (by decide) ?_
  refine lv_iand hx hb dX4_someHolds_3 ?_
  refine lv_if_eq (tgt := 14) hx hb dX4_someHolds_4 (by decide) (fun c_4_1 => ?_) (fun c_4_1 => ?_)
  · have c_4_1 : (a1 &&& (64 : Int32)) = (0 : Int32) := c_4_1
    exact J_14 σ a1 _ _ _ (by unfold x4_someHolds; rw [if_pos c_4_1]) (lv_sub hl [0, 1] rfl) hP hD hS
  · have c_4_1 : ¬ ((a1 &&& (64 : Int32)) = (0 : Int32)) := c_4_1
    refine lv_aload_n hx hb dX4_someHolds_7 rfl (lv_at hl 0 rfl) ?_
    refine gX_ac (v := (g_ac σ)) hx hb hts hown hK hP kw_108 rfl dX4_someHolds_8 ?_
    refine lv_if_eq (tgt := 114) hx hb dX4_someHolds_11 (by decide) (fun c_11_14 => ?_) (fun c_11_14 => ?_)
    · have c_11_14 : (g_ac σ) = (0 : Int32) := c_11_14
      exact J_114 σ a1 _ _ _ (by unfold x4_someHolds; rw [if_neg c_4_1, if_pos c_11_14]) (lv_sub hl [0, 1] rfl) hP hD hS
    · have c_11_14 : ¬ ((g_ac σ) = (0 : Int32)) := c_11_14
      exact J_14 σ a1 _ _ _ (by unfold x4_someHolds; rw [if_neg c_4_1, if_neg c_11_14]) (lv_sub hl [0, 1] rfl) hP hD hS
def x4_skipIf (σ : St) (a1 : Int32) : St := (if a1 = (0 : Int32) then σ else (s_t4 (x4_advance σ) ((g_t4 (x4_advance σ)) + (1 : Int32))))
set_option maxRecDepth 100000 in
set_option maxHeartbeats 8000000 in
theorem kX4_skipIf (l : Launch) (D : va_G) (cI : ClassId) (h : Nat → Nat) (σ : St) (a1 : Int32) : MetV l yX4_skipIf (wsU yX4_skipIf cX4_skipIf 2 none) { frames := 1, cells := 0, slots := 0, locals := 20 } D cI [.ref (h 0), .int a1] (wX h cI σ) (fun u : St => wX h cI u) (fun u => (x4_skipIf σ a1) = u) := by
  refine MetV.of (by decide) (Nat.le_of_ble_eq_true rfl) ?_
  intro p e s m below meth c A Q ls hx hb hml hown hts hK hN hA hret hP hD hS hl
  have hown : s.vm.findClass RX4 = some m.cls := hown
  have hl : lv_has ls 2 [(0, .ref (h 0)), (1, .int a1)] := hl
  suffices go : ∀ (H : Heap) (locs : List Loc), va_P D vwCl (wX h cI σ) H → va_D A (wX h cI σ) → va_S A s.heap H locs → W p l e ({ frames := 1, cells := 0, slots := 0, locals := 20 } : Room) s m (([.ref (h 0), .int a1] : List Value).toArray) below meth c H locs 0 0 Q (F0 m 0 ls []) from go _ _ hP hD hS
  intro H locs hP hD hS
  refine lv_iload_n hx hb dX4_skipIf_0 rfl (lv_at hl 1 rfl) ?_
  refine lv_if_eq (tgt := 21) hx hb dX4_skipIf_1 (by decide) (fun c_1_1 => ?_) (fun c_1_1 => ?_)
  · have c_1_1 : a1 = (0 : Int32) := c_1_1
    have hE : x4_skipIf σ a1 = σ := (by unfold x4_skipIf; rw [if_pos c_1_1])
    exact hret σ _ _ _ _ hE hP hD hS dX4_skipIf_21
  · have c_1_1 : ¬ (a1 = (0 : Int32)) := c_1_1
    refine lv_aload_n hx hb dX4_skipIf_4 rfl (lv_at hl 0 rfl) ?_
    refine call_Vv 0 (kX4_advance l D cI h _) ⟨hx, hb, hml, hown, hts, hK, hN, hA⟩ ⟨kw_234, kw_236, ks_yX4_advance, kw_1, kw_237, by decide +kernel, rfl, rfl, Nat.le_of_ble_eq_true rfl, Nat.le_of_ble_eq_true rfl⟩ rfl (va_recv hK hP (ci := 4) (q0 := 0) rfl rfl) hP hD hS hl.1 rfl (Nat.le_of_ble_eq_true rfl) dX4_skipIf_5 ⟨Nat.zero_le _, Nat.zero_le _⟩ (fun u H locs hw hP hD hS => ?_)
    have hw : (x4_advance σ) = u := hw
    subst hw
    refine lv_aload_n hx hb dX4_skipIf_8 rfl (lv_at hl 0 rfl) ?_
    refine gX_ref9 hx hb hts hown hK hP kw_121 dX4_skipIf_9 ?_
    refine lv_dup hx hb dX4_skipIf_12 rfl ?_
    refine gXN_t4 (v := (g_t4 (x4_advance σ))) hx hb hts hown hK hP (nc_at hN 5 rfl) rfl dX4_skipIf_13 ?_
    refine lv_iconst (v := (1 : Int32)) hx hb dX4_skipIf_16 (by decide) ?_
    refine lv_iadd hx hb dX4_skipIf_17 ?_
    refine pXN_t4 hx hb hts hown hK hP hD hS (nc_at hN 5 rfl) dX4_skipIf_18 (fun H locs hP hD hS => ?_)
    have hE : x4_skipIf σ a1 = (s_t4 (x4_advance σ) ((g_t4 (x4_advance σ)) + (1 : Int32))) := (by unfold x4_skipIf; rw [if_neg c_1_1])
    exact hret (s_t4 (x4_advance σ) ((g_t4 (x4_advance σ)) + (1 : Int32))) _ _ _ _ hE hP hD hS dX4_skipIf_21
