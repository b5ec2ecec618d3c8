def x4_perform (σ : St) (a1 : Int32) : Int32 × St := (if (x4_isIllegal a1) = (0 : Int32) then (if (x4_endsBreak σ a1) = (0 : Int32) then (if (x4_hasAddress a1) = (0 : Int32) then ((x4_performWithoutAddress σ a1).1, (x4_performWithoutAddress σ a1).2) else (if (x4_addressOf σ a1).1 = (-9 : Int32) then ((2 : Int32), (x4_addressOf σ a1).2) else ((0 : Int32), (x4_performAt (x4_addressOf σ a1).2 (x4_codeOf a1) (x4_addressOf σ a1).1)))) else ((0 : Int32), (x4_endBreak σ))) else ((3 : Int32), σ))
set_option maxRecDepth 100000 in
set_option maxHeartbeats 8000000 in
theorem kX4_perform (l : Launch) (D : va_G) (cI : ClassId) (h : Nat → Nat) (σ : St) (a1 : Int32) : MetI l yX4_perform (wsU yX4_perform cX4_perform 3 (some .int)) { frames := 4, cells := 0, slots := 0, locals := 98 } D cI [.ref (h 0), .int a1] (wX h cI σ) (fun u : St => wX h cI u) (fun r u => (x4_perform σ a1).1 = r ∧ (x4_perform σ a1).2 = u) := by
  refine MetI.of (by decide) (Nat.le_of_ble_eq_true rfl) ?_
  intro p e s m below meth c A Q ls hx hb hml hown hts hK hN hA hret hP hD hS hl
  have hown : s.vm.findClass RX4 = some m.cls := hown
  have hl : lv_has ls 3 [(0, .ref (h 0)), (1, .int a1)] := hl
  suffices go : ∀ (H : Heap) (locs : List Loc), va_P D vwCl (wX h cI σ) H → va_D A (wX h cI σ) → va_S A s.heap H locs → W p l e ({ frames := 4, cells := 0, slots := 0, locals := 98 } : Room) s m (([.ref (h 0), .int a1] : List Value).toArray) below meth c H locs 0 0 Q (F0 m 0 ls []) from go _ _ hP hD hS
  intro H locs hP hD hS
  refine lv_iload_n hx hb dX4_perform_0 rfl (lv_at hl 1 rfl) ?_
  refine call_Si 1 (kX4_isIllegal l D cI _ a1) ⟨hx, hb, hml, hown, hts, hK, hN, hA⟩ ⟨kw_259, kw_260, kw_1, kw_261, by decide +kernel, rfl, rfl, Nat.le_of_ble_eq_true rfl, Nat.le_of_ble_eq_true rfl⟩ rfl hP hD hS hl.1 rfl (Nat.le_of_ble_eq_true rfl) dX4_perform_1 ⟨Nat.zero_le _, Nat.zero_le _⟩ (fun r1 u H locs hw hP hD hS => ?_)
  have hw : (x4_isIllegal a1) = r1 := hw
  subst hw
  refine lv_if_eq (tgt := 9) hx hb dX4_perform_4 (by decide) (fun c_4_1 => ?_) (fun c_4_1 => ?_)
  · have c_4_1 : (x4_isIllegal a1) = (0 : Int32) := c_4_1
    refine lv_aload_n hx hb dX4_perform_9 rfl (lv_at hl 0 rfl) ?_
    refine lv_iload_n hx hb dX4_perform_10 rfl (lv_at hl 1 rfl) ?_
    refine call_Vi 1 (kX4_endsBreak l D cI h _ a1) ⟨hx, hb, hml, hown, hts, hK, hN, hA⟩ ⟨kw_265, kw_267, ks_yX4_endsBreak, kw_1, kw_268, by decide +kernel, rfl, rfl, Nat.le_of_ble_eq_true rfl, Nat.le_of_ble_eq_true rfl⟩ rfl (va_recv hK hP (ci := 4) (q0 := 0) rfl rfl) hP hD hS hl.1 rfl (Nat.le_of_ble_eq_true rfl) dX4_perform_11 ⟨Nat.zero_le _, Nat.zero_le _⟩ (fun r11 u H locs hw hP hD hS => ?_)
    have hw : (x4_endsBreak σ a1) = r11 := hw
    subst hw
    refine lv_if_eq (tgt := 23) hx hb dX4_perform_14 (by decide) (fun c_14_2 => ?_) (fun c_14_2 => ?_)
    · have c_14_2 : (x4_endsBreak σ a1) = (0 : Int32) := c_14_2
      refine lv_iload_n hx hb dX4_perform_23 rfl (lv_at hl 1 rfl) ?_
      refine call_Si 1 (kX4_hasAddress l D cI _ a1) ⟨hx, hb, hml, hown, hts, hK, hN, hA⟩ ⟨kw_276, kw_277, kw_1, kw_278, by decide +kernel, rfl, rfl, Nat.le_of_ble_eq_true rfl, Nat.le_of_ble_eq_true rfl⟩ rfl hP hD hS hl.1 rfl (Nat.le_of_ble_eq_true rfl) dX4_perform_24 ⟨Nat.zero_le _, Nat.zero_le _⟩ (fun r24 u H locs hw hP hD hS => ?_)
      have hw : (x4_hasAddress a1) = r24 := hw
      subst hw
      refine lv_if_ne (tgt := 36) hx hb dX4_perform_27 (by decide) (fun c_27_3 => ?_) (fun c_27_3 => ?_)
      · have c_27_3 : ¬ ((x4_hasAddress a1) = (0 : Int32)) := c_27_3
        refine lv_aload_n hx hb dX4_perform_36 rfl (lv_at hl 0 rfl) ?_
        refine lv_iload_n hx hb dX4_perform_37 rfl (lv_at hl 1 rfl) ?_
        refine call_Vi 1 (kX4_addressOf l D cI h _ a1) ⟨hx, hb, hml, hown, hts, hK, hN, hA⟩ ⟨kw_245, kw_247, ks_yX4_addressOf, kw_1, kw_248, by decide +kernel, rfl, rfl, Nat.le_of_ble_eq_true rfl, Nat.le_of_ble_eq_true rfl⟩ rfl (va_recv hK hP (ci := 4) (q0 := 0) rfl rfl) hP hD hS hl.1 rfl (Nat.le_of_ble_eq_true rfl) dX4_perform_38 ⟨Nat.zero_le _, Nat.zero_le _⟩ (fun r38 u H locs hw hP hD hS => ?_)
        obtain ⟨hw, hw2⟩ : (x4_addressOf σ a1).1 = r38 ∧ (x4_addressOf σ a1).2 = u := hw
        subst hw
        subst hw2
        refine lv_istore_n (lv' := [(2, .int (x4_addressOf σ a1).1), (0, .ref (h 0)), (1, .int a1)]) hx hb dX4_perform_41 rfl hl (by decide) rfl (fun ls hl => ?_)
        refine lv_iload_n hx hb dX4_perform_42 rfl (lv_at hl 0 rfl) ?_
        refine lv_bipush (v := (-9 : Int32)) hx hb dX4_perform_43 (by decide) ?_
        refine lv_icmp_ne (tgt := 50) hx hb dX4_perform_45 (by decide) (fun c_45_4 => ?_) (fun c_45_4 => ?_)
        · have c_45_4 : ¬ ((x4_addressOf σ a1).1 = (-9 : Int32)) := c_45_4
          refine lv_aload_n hx hb dX4_perform_50 rfl (lv_at hl 1 rfl) ?_
          refine lv_iload_n hx hb dX4_perform_51 rfl (lv_at hl 2 rfl) ?_
          refine call_Si 1 (kX4_codeOf l D cI _ a1) ⟨hx, hb, hml, hown, hts, hK, hN, hA⟩ ⟨kw_242, kw_243, kw_1, kw_244, by decide +kernel, rfl, rfl, Nat.le_of_ble_eq_true rfl, Nat.le_of_ble_eq_true rfl⟩ rfl hP hD hS hl.1 rfl (Nat.le_of_ble_eq_true rfl) dX4_perform_52 ⟨Nat.zero_le _, Nat.zero_le _⟩ (fun r52 u H locs hw hP hD hS => ?_)
          have hw : (x4_codeOf a1) = r52 := hw
          subst hw
          refine lv_iload_n hx hb dX4_perform_55 rfl (lv_at hl 0 rfl) ?_
          refine call_Vv 2 (kX4_performAt l D cI h _ (x4_codeOf a1) (x4_addressOf σ a1).1) ⟨hx, hb, hml, hown, hts, hK, hN, hA⟩ ⟨kw_352, kw_354, ks_yX4_performAt, kw_1, kw_355, by decide +kernel, rfl, rfl, Nat.le_of_ble_eq_true rfl, Nat.le_of_ble_eq_true rfl⟩ rfl (va_recv hK hP (ci := 4) (q0 := 0) rfl rfl) hP hD hS hl.1 rfl (Nat.le_of_ble_eq_true rfl) dX4_perform_56 ⟨Nat.zero_le _, Nat.zero_le _⟩ (fun u H locs hw hP hD hS => ?_)
          have hw : (x4_performAt (x4_addressOf σ a1).2 (x4_codeOf a1) (x4_addressOf σ a1).1) = u := hw
          subst hw
          refine lv_iconst (v := (0 : Int32)) hx hb dX4_perform_59 (by decide) ?_
          have hE : x4_perform σ a1 = ((0 : Int32), (x4_performAt (x4_addressOf σ a1).2 (x4_codeOf a1) (x4_addressOf σ a1).1)) := (by unfold x4_perform; rw [if_pos c_4_1, if_pos c_14_2, if_neg c_27_3, if_neg c_45_4])
          exact hret (0 : Int32) (x4_performAt (x4_addressOf σ a1).2 (x4_codeOf a1) (x4_addressOf σ a1).1) _ _ _ _ rfl ⟨by rw [hE], by rw [hE]⟩ hP hD hS dX4_perform_60
        · have c_45_4 : (x4_addressOf σ a1).1 = (-9 : Int32) := c_45_4
          refine lv_iconst (v := (2 : Int32)) hx hb dX4_perform_48 (by decide) ?_
          have hE : x4_perform σ a1 = ((2 : Int32), (x4_addressOf σ a1).2) := (by unfold x4_perform; rw [if_pos c_4_1, if_pos c_14_2, if_neg c_27_3, if_pos c_45_4])
          exact hret (2 : Int32) (x4_addressOf σ a1).2 _ _ _ _ rfl ⟨by rw [hE], by rw [hE]⟩ hP hD hS dX4_perform_49
      · have c_27_3 : (x4_hasAddress a1) = (0 : Int32) := c_27_3
        refine lv_aload_n hx hb dX4_perform_30 rfl (lv_at hl 0 rfl) ?_
        refine lv_iload_n hx hb dX4_perform_31 rfl (lv_at hl 1 rfl) ?_
        refine call_Vi 1 (kX4_performWithoutAddress l D cI h _ a1) ⟨hx, hb, hml, hown, hts, hK, hN, hA⟩ ⟨kw_279, kw_281, ks_yX4_performWithoutAddress, kw_1, kw_282, by decide +kernel, rfl, rfl, Nat.le_of_ble_eq_true rfl, Nat.le_of_ble_eq_true rfl⟩ rfl (va_recv hK hP (ci := 4) (q0 := 0) rfl rfl) hP hD hS hl.1 rfl (Nat.le_of_ble_eq_true rfl) dX4_perform_32 ⟨Nat.zero_le _, Nat.zero_le _⟩ (fun r32 u H locs hw hP hD hS => ?_)
        obtain ⟨hw, hw2⟩ : (x4_performWithoutAddress σ a1).1 = r32 ∧ (x4_performWithoutAddress σ a1).2 = u := hw
        subst hw
        subst hw2
        have hE : x4_perform σ a1 = ((x4_performWithoutAddress σ a1).1, (x4_performWithoutAddress σ a1).2) := (by unfold x4_perform; rw [if_pos c_4_1, if_pos c_14_2, if_pos c_27_3])
        exact hret (x4_performWithoutAddress σ a1).1 (x4_performWithoutAddress σ a1).2 _ _ _ _ rfl ⟨by rw [hE], by rw [hE]⟩ hP hD hS dX4_perform_35
    · have c_14_2 : ¬ ((x4_endsBreak σ a1) = (0 : Int32)) := c_14_2
      refine lv_aload_n hx hb dX4_perform_17 rfl (lv_at hl 0 rfl) ?_
      refine call_Vv 0 (kX4_endBreak l D cI h _) ⟨hx, hb, hml, hown, hts, hK, hN, hA⟩ ⟨kw_269, kw_271, ks_yX4_endBreak, kw_1, kw_272, by decide +kernel, rfl, rfl, Nat.le_of_ble_eq_true rfl, Nat.le_of_ble_eq_true rfl⟩ rfl (va_recv hK hP (ci := 4) (q0 := 0) rfl rfl) hP hD hS hl.1 rfl (Nat.le_of_ble_eq_true rfl) dX4_perform_18 ⟨Nat.zero_le _, Nat.zero_le _⟩ (fun u H locs hw hP hD hS => ?_)
      have hw : (x4_endBreak σ) = u := hw
      subst hw
      refine lv_iconst (v := (0 : Int32)) hx hb dX4_perform_21 (by decide) ?_
      have hE : x4_perform σ a1 = ((0 : Int32), (x4_endBreak σ)) := (by unfold x4_perform; rw [if_pos c_4_1, if_neg c_14_2])
      exact hret (0 : Int32) (x4_endBreak σ) _ _ _ _ rfl ⟨by rw [hE], by rw [hE]⟩ hP hD hS dX4_perform_22
  · have c_4_1 : ¬ ((x4_isIllegal a1) = (0 : Int32)) := c_4_1
    refine lv_iconst (v := (3 : Int32)) hx hb dX4_perform_7 (by decide) ?_
    have hE : x4_perform σ a1 = ((3 : Int32), σ) := (by unfold x4_perform; rw [if_neg c_4_1])
    exact hret (3 : Int32) σ _ _ _ _ rfl ⟨by rw [hE], by rw [hE]⟩ hP hD hS dX4_perform_8
def x4_step_29 (σ : St)  : Int32 × St := (if (x4_followXct (x4_advance σ) (x4_fetch σ (g_pc σ))).1 = (-9 : Int32) then ((2 : Int32), (x4_followXct (x4_advance σ) (x4_fetch σ (g_pc σ))).2) else ((x4_perform (x4_followXct (x4_advance σ) (x4_fetch σ (g_pc σ))).2 (x4_followXct (x4_advance σ) (x4_fetch σ (g_pc σ))).1).1, (x4_perform (x4_followXct (x4_advance σ) (x4_fetch σ (g_pc σ))).2 (x4_followXct (x4_advance σ) (x4_fetch σ (g_pc σ))).1).2))
def x4_step (σ : St)  : Int32 × St := (if (g_asked σ) = (1 : Int32) then (if (g_on σ) = (1 : Int32) then (if (g_under σ) = (0 : Int32) then ((0 : Int32), (x4_beginBreak σ)) else x4_step_29 σ) else x4_step_29 σ) else x4_step_29 σ)
set_option maxRecDepth 100000 in
set_option maxHeartbeats 8000000 in
theorem kX4_step (l : Launch) (D : va_G) (cI : ClassId) (h : Nat → Nat) (σ : St)  : MetI l yX4_step (wsU yX4_step cX4_step 3 (some .int)) { frames := 5, cells := 0, slots := 0, locals := 120 } D cI [.ref (h 0)] (wX h cI σ) (fun u : St => wX h cI u) (fun r u => (x4_step σ).1 = r ∧ (x4_step σ).2 = u) := by
  refine MetI.of (by decide) (Nat.le_of_ble_eq_true rfl) ?_
  intro p e s m below meth c A Q ls hx hb hml hown hts hK hN hA hret hP hD hS hl
  have hown : s.vm.findClass RX4 = some m.cls := hown
  have hl : lv_has ls 3 [(0, .ref (h 0))] := hl
  have J_29 : ∀ (σ' : St) (H : Heap) (locs : List Loc) (ls : Array Slot), x4_step σ = x4_step_29 σ' → lv_has ls 3 [(0, .ref (h 0))] → va_P D vwCl (wX h cI σ') H → va_D A (wX h cI σ') → va_S A s.heap H locs → W p l e ({ frames := 5, cells := 0, slots := 0, locals := 120 } : Room) s m (([.ref (h 0)] : List Value).toArray) below meth c H locs 0 0 Q (F0 m 29 ls []) := by
    intro σ'  H locs ls E hl hP hD hS
    refine lv_aload_n hx hb dX4_step_29 rfl (lv_at hl 0 rfl) ?_
    refine lv_aload_n hx hb dX4_step_30 rfl (lv_at hl 0 rfl) ?_
    refine gX_pc (v := (g_pc σ')) hx hb hts hown hK hP kw_110 rfl dX4_step_31 ?_
    refine call_Vi 1 (kX4_fetch l D cI h _ (g_pc σ')) ⟨hx, hb, hml, hown, hts, hK, hN, hA⟩ ⟨kw_164, kw_166, ks_yX4_fetch, kw_1, kw_167, by decide +kernel, rfl, rfl, Nat.le_of_ble_eq_true rfl, Nat.le_of_ble_eq_true rfl⟩ rfl (va_recv hK hP (ci := 4) (q0 := 0) rfl rfl) hP hD hS hl.1 rfl (Nat.le_of_ble_eq_true rfl) dX4_step_34 ⟨Nat.zero_le _, Nat.zero_le _⟩ (fun r34 u H locs hw hP hD hS => ?_)
    have hw : (x4_fetch σ' (g_pc σ')) = r34 := hw
    subst hw
    refine lv_istore_n (lv' := [(1, .int (x4_fetch σ' (g_pc σ'))), (0, .ref (h 0))]) hx hb dX4_step_37 rfl hl (by decide) rfl (fun ls hl => ?_)
    refine lv_aload_n hx hb dX4_step_38 rfl (lv_at hl 1 rfl) ?_
    refine call_Vv 0 (kX4_advance l D cI h _) ⟨hx, hb, hml, hown, hts, hK, hN, hA⟩ ⟨kw_234, kw_236, ks_yX4_advance, kw_1, kw_237, by decide +kernel, rfl, rfl, Nat.le_of_ble_eq_true rfl, Nat.le_of_ble_eq_true rfl⟩ rfl (va_recv hK hP (ci := 4) (q0 := 0) rfl rfl) hP hD hS hl.1 rfl (Nat.le_of_ble_eq_true rfl) dX4_step_39 ⟨Nat.zero_le _, Nat.zero_le _⟩ (fun u H locs hw hP hD hS => ?_)
    have hw : (x4_advance σ') = u := hw
    subst hw
    refine lv_aload_n hx hb dX4_step_42 rfl (lv_at hl 1 rfl) ?_
    refine lv_iload_n hx hb dX4_step_43 rfl (lv_at hl 0 rfl) ?_
    refine call_Vi 1 (kX4_followXct l D cI h _ (x4_fetch σ' (g_pc σ'))) ⟨hx, hb, hml, hown, hts, hK, hN, hA⟩ ⟨kw_238, kw_240, ks_yX4_followXct, kw_1, kw_241, by decide +kernel, rfl, rfl, Nat.le_of_ble_eq_true rfl, Nat.le_of_ble_eq_true rfl⟩ rfl (va_recv hK hP (ci := 4) (q0 := 0) rfl rfl) hP hD hS hl.1 rfl (Nat.le_of_ble_eq_true rfl) dX4_step_44 ⟨Nat.zero_le _, Nat.zero_le _⟩ (fun r44 u H locs hw hP hD hS => ?_)
    obtain ⟨hw, hw2⟩ : (x4_followXct (x4_advance σ') (x4_fetch σ' (g_pc σ'))).1 = r44 ∧ (x4_followXct (x4_advance σ') (x4_fetch σ' (g_pc σ'))).2 = u := hw
    subst hw
    subst hw2
    refine lv_istore_n (lv' := [(2, .int (x4_followXct (x4_advance σ') (x4_fetch σ' (g_pc σ'))).1), (1, .int (x4_fetch σ' (g_pc σ'))), (0, .ref (h 0))]) hx hb dX4_step_47 rfl hl (by decide) rfl (fun ls hl => ?_)
    refine lv_iload_n hx hb dX4_step_48 rfl (lv_at hl 0 rfl) ?_
    refine lv_bipush (v := (-9 : Int32)) hx hb dX4_step_49 (by decide) ?_
    refine lv_icmp_ne (tgt := 58) hx hb dX4_step_51 (by decide) (fun c_51_2 => ?_) (fun c_51_2 => ?_)
    · have c_51_2 : ¬ ((x4_followXct (x4_advance σ') (x4_fetch σ' (g_pc σ'))).1 = (-9 : Int32)) := c_51_2
      refine lv_aload_n hx hb dX4_step_58 rfl (lv_at hl 2 rfl) ?_
      refine lv_iload_n hx hb dX4_step_59 rfl (lv_at hl 0 rfl) ?_
      refine call_Vi 1 (kX4_perform l D cI h _ (x4_followXct (x4_advance σ') (x4_fetch σ' (g_pc σ'))).1) ⟨hx, hb, hml, hown, hts, hK, hN, hA⟩ ⟨kw_255, kw_257, ks_yX4_perform, kw_1, kw_258, by decide +kernel, rfl, rfl, Nat.le_of_ble_eq_true rfl, Nat.le_of_ble_eq_true rfl⟩ rfl (va_recv hK hP (ci := 4) (q0 := 0) rfl rfl) hP hD hS hl.1 rfl (Nat.le_of_ble_eq_true rfl) dX4_step_60 ⟨Nat.zero_le _, Nat.zero_le _⟩ (fun r60 u H locs hw hP hD hS => ?_)
      obtain ⟨hw, hw2⟩ : (x4_perform (x4_followXct (x4_advance σ') (x4_fetch σ' (g_pc σ'))).2 (x4_followXct (x4_advance σ') (x4_fetch σ' (g_pc σ'))).1).1 = r60 ∧ (x4_perform (x4_followXct (x4_advance σ') (x4_fetch σ' (g_pc σ'))).2 (x4_followXct (x4_advance σ') (x4_fetch σ' (g_pc σ'))).1).2 = u := hw
      subst hw
      subst hw2
      have hE : x4_step σ = ((x4_perform (x4_followXct (x4_advance σ') (x4_fetch σ' (g_pc σ'))).2 (x4_followXct (x4_advance σ') (x4_fetch σ' (g_pc σ'))).1).1, (x4_perform (x4_followXct (x4_advance σ') (x4_fetch σ' (g_pc σ'))).2 (x4_followXct (x4_advance σ') (x4_fetch σ' (g_pc σ'))).1).2) := (E.trans (by unfold x4_step_29; rw [if_neg c_51_2]))
      exact hret (x4_perform (x4_followXct (x4_advance σ') (x4_fetch σ' (g_pc σ'))).2 (x4_followXct (x4_advance σ') (x4_fetch σ' (g_pc σ'))).1).1 (x4_perform (x4_followXct (x4_advance σ') (x4_fetch σ' (g_pc σ'))).2 (x4_followXct (x4_advance σ') (x4_fetch σ' (g_pc σ'))).1).2 _ _ _ _ rfl ⟨by rw [hE], by rw [hE]⟩ hP hD hS dX4_step_63
    · have c_51_2 : (x4_followXct (x4_advance σ') (x4_fetch σ' (g_pc σ'))).1 = (-9 : Int32) := c_51_2
      refine lv_iconst (v := (2 : Int32)) hx hb dX4_step_54 (by decide) ?_
      refine lv_goto (tgt := 63) hx hb dX4_step_55 (by decide) ?_
      have hE : x4_step σ = ((2 : Int32), (x4_followXct (x4_advance σ') (x4_fetch σ' (g_pc σ'))).2) := (E.trans (by unfold x4_step_29; rw [if_pos c_51_2]))
      exact hret (2 : Int32) (x4_followXct (x4_advance σ') (x4_fetch σ' (g_pc σ'))).2 _ _ _ _ rfl ⟨by rw [hE], by rw [hE]⟩ hP hD hS dX4_step_63
  suffices go : ∀ (H : Heap) (locs : List Loc), va_P D vwCl (wX h cI σ) H → va_D A (wX h cI σ) → va_S A s.heap H locs → W p l e ({ frames := 5, cells := 0, slots := 0, locals := 120 } : Room) s m (([.ref (h 0)] : List Value).toArray) below meth c H locs 0 0 Q (F0 m 0 ls []) from go _ _ hP hD hS
  intro H locs hP hD hS
  refine lv_aload_n hx hb dX4_step_0 rfl (lv_at hl 0 rfl) ?_
  refine gX_asked (v := (g_asked σ)) hx hb hts hown hK hP kw_114 rfl dX4_step_1 ?_
  refine lv_iconst (v := (1 : Int32)) hx hb dX4_step_4 (by decide) ?_
  refine lv_icmp_ne (tgt := 29) hx hb dX4_step_5 (by decide) (fun c_5_1 => ?_) (fun c_5_1 => ?_)
  · have c_5_1 : ¬ ((g_asked σ) = (1 : Int32)) := c_5_1
    exact J_29 σ _ _ _ (by unfold x4_step; rw [if_neg c_5_1]) (lv_sub hl [0] rfl) hP hD hS
  · have c_5_1 : (g_asked σ) = (1 : Int32) := c_5_1
    refine lv_aload_n hx hb dX4_step_8 rfl (lv_at hl 0 rfl) ?_
    refine gX_on (v := (g_on σ)) hx hb hts hown hK hP kw_113 rfl dX4_step_9 ?_
    refine lv_iconst (v := (1 : Int32)) hx hb dX4_step_12 (by decide) ?_
    refine lv_icmp_ne (tgt := 29) hx hb dX4_step_13 (by decide) (fun c_13_3 => ?_) (fun c_13_3 => ?_)
    · have c_13_3 : ¬ ((g_on σ) = (1 : Int32)) := c_13_3
      exact J_29 σ _ _ _ (by unfold x4_step; rw [if_pos c_5_1, if_neg c_13_3]) (lv_sub hl [0] rfl) hP hD hS
    · have c_13_3 : (g_on σ) = (1 : Int32) := c_13_3
      refine lv_aload_n hx hb dX4_step_16 rfl (lv_at hl 0 rfl) ?_
      refine gX_under (v := (g_under σ)) hx hb hts hown hK hP kw_115 rfl dX4_step_17 ?_
      refine lv_if_ne (tgt := 29) hx hb dX4_step_20 (by decide) (fun c_20_4 => ?_) (fun c_20_4 => ?_)
      · have c_20_4 : ¬ ((g_under σ) = (0 : Int32)) := c_20_4
        exact J_29 σ _ _ _ (by unfold x4_step; rw [if_pos c_5_1, if_pos c_13_3, if_neg c_20_4]) (lv_sub hl [0] rfl) hP hD hS
      · have c_20_4 : (g_under σ) = (0 : Int32) := c_20_4
        refine lv_aload_n hx hb dX4_step_23 rfl (lv_at hl 0 rfl) ?_
        refine call_Vv 0 (kX4_beginBreak l D cI h _) ⟨hx, hb, hml, hown, hts, hK, hN, hA⟩ ⟨kw_225, kw_227, ks_yX4_beginBreak, kw_1, kw_228, by decide +kernel, rfl, rfl, Nat.le_of_ble_eq_true rfl, Nat.le_of_ble_eq_true rfl⟩ rfl (va_recv hK hP (ci := 4) (q0 := 0) rfl rfl) hP hD hS hl.1 rfl (Nat.le_of_ble_eq_true rfl) dX4_step_24 ⟨Nat.zero_le _, Nat.zero_le _⟩ (fun u H locs hw hP hD hS => ?_)
        have hw : (x4_beginBreak σ) = u := hw
        subst hw
        refine lv_iconst (v := (0 : Int32)) hx hb dX4_step_27 (by decide) ?_
        have hE : x4_step σ = ((0 : Int32), (x4_beginBreak σ)) := (by unfold x4_step; rw [if_pos c_5_1, if_pos c_13_3, if_pos c_20_4])
        exact hret (0 : Int32) (x4_beginBreak σ) _ _ _ _ rfl ⟨by rw [hE], by rw [hE]⟩ hP hD hS dX4_step_28
def x4_run_25 : Nat → St → Int32 → Int32 → Int32 → Int32 × St
  | 0, σ, _, _, _ => (0, σ)
  | n + 1, σ, x1_25, x2_25, x3_25 => (if x1_25 ≤ x3_25 then (x2_25, σ) else (if x2_25 = (0 : Int32) then (if (x4_step σ).1 = (0 : Int32) then x4_run_25 n (x2_countStep (x4_step σ).2) x1_25 (x4_step σ).1 (x3_25 + (1 : Int32)) else x4_run_25 n (s_t6 (x2_countStep (x4_step σ).2) (g_pc σ)) x1_25 (x4_step σ).1 (x3_25 + (1 : Int32))) else (x2_25, σ)))
def x4_run (σ : St) (a1 : Int32) : Int32 × St := (if a1 < (1 : Int32) then ((-1 : Int32), σ) else (if a1 ≤ (5000 : Int32) then x4_run_25 (Int32.toNatClampNeg a1 + 1) (x2_begin σ) a1 (0 : Int32) (0 : Int32) else ((-1 : Int32), σ)))
set_option maxRecDepth 100000 in
set_option maxHeartbeats 8000000 in
theorem kX4_run (l : Launch) (D : va_G) (cI : ClassId) (h : Nat → Nat) (σ : St) (a1 : Int32) : MetI l yX4_run (wsU yX4_run cX4_run 5 (some .int)) { frames := 6, cells := 0, slots := 0, locals := 142 } D cI [.ref (h 0), .int a1] (wX h cI σ) (fun u : St => wX h cI u) (fun r u => (x4_run σ a1).1 = r ∧ (x4_run σ a1).2 = u) := by
  refine MetI.of (by decide) (Nat.le_of_ble_eq_true rfl) ?_
  intro p e s m below meth c A Q ls hx hb hml hown hts hK hN hA hret hP hD hS hl
  have hown : s.vm.findClass RX4 = some m.cls := hown
  have hl : lv_has ls 5 [(0, .ref (h 0)), (1, .int a1)] := hl
  have J_25 : ∀ (n : Nat) (σ' : St) (x1_25 : Int32) (x2_25 : Int32) (x3_25 : Int32) (H : Heap) (locs : List Loc) (ls : Array Slot), (∃ k : Nat, x3_25 = nI k ∧ x1_25 = a1 ∧ k ≤ Int32.toNatClampNeg a1 ∧ k + n = Int32.toNatClampNeg a1 + 1) → x4_run σ a1 = x4_run_25 n σ' x1_25 x2_25 x3_25 → lv_has ls 5 [(0, .ref (h 0)), (1, .int x1_25), (2, .int x2_25), (3, .int x3_25)] → va_P D vwCl (wX h cI σ') H → va_D A (wX h cI σ') → va_S A s.heap H locs → W p l e ({ frames := 6, cells := 0, slots := 0, locals := 142 } : Room) s m (([.ref (h 0), .int a1] : List Value).toArray) below meth c H locs 0 0 Q (F0 m 25 ls []) := by
    intro n
    induction n with
    | zero => intro σ' x1_25 x2_25 x3_25 H locs ls hI E hl hP hD hS; obtain ⟨k, hk1, hk2, hk3, hk4⟩ := hI; omega
    | succ n ih =>
      intro σ' x1_25 x2_25 x3_25 H locs ls hI E hl hP hD hS
      obtain ⟨k, hk1, hk2, hk3, hk4⟩ := hI
      refine lv_iload_n hx hb dX4_run_25 rfl (lv_at hl 3 rfl) ?_
      refine lv_iload_n hx hb dX4_run_26 rfl (lv_at hl 1 rfl) ?_
      refine lv_icmp_ge (tgt := 71) hx hb dX4_run_27 (by decide) (fun c_27_3 => ?_) (fun c_27_3 => ?_)
      · have c_27_3 : x1_25 ≤ x3_25 := c_27_3
        refine lv_iload_n hx hb dX4_run_71 rfl (lv_at hl 2 rfl) ?_
        have hE : x4_run σ a1 = (x2_25, σ') := (E.trans (by rw [x4_run_25, if_pos c_27_3]))
        exact hret x2_25 σ' _ _ _ _ rfl ⟨by rw [hE], by rw [hE]⟩ hP hD hS dX4_run_72
      · have c_27_3 : ¬ (x1_25 ≤ x3_25) := c_27_3
        refine lv_iload_n hx hb dX4_run_30 rfl (lv_at hl 2 rfl) ?_
        refine lv_if_ne (tgt := 71) hx hb dX4_run_31 (by decide) (fun c_31_4 => ?_) (fun c_31_4 => ?_)
        · have c_31_4 : ¬ (x2_25 = (0 : Int32)) := c_31_4
          refine lv_iload_n hx hb dX4_run_71 rfl (lv_at hl 2 rfl) ?_
          have hE : x4_run σ a1 = (x2_25, σ') := (E.trans (by rw [x4_run_25, if_neg c_27_3, if_neg c_31_4]))
          exact hret x2_25 σ' _ _ _ _ rfl ⟨by rw [hE], by rw [hE]⟩ hP hD hS dX4_run_72
        · have c_31_4 : x2_25 = (0 : Int32) := c_31_4
          refine lv_aload_n hx hb dX4_run_34 rfl (lv_at hl 0 rfl) ?_
          refine gX_pc (v := (g_pc σ')) hx hb hts hown hK hP kw_110 rfl dX4_run_35 ?_
          refine lv_istore (lv' := [(4, .int (g_pc σ')), (0, .ref (h 0)), (1, .int x1_25), (2, .int x2_25), (3, .int x3_25)]) hx hb dX4_run_38 hl (by decide) rfl (fun ls hl => ?_)
          refine lv_aload_n hx hb dX4_run_40 rfl (lv_at hl 1 rfl) ?_
          refine call_Vi 0 (kX4_step l D cI h _) ⟨hx, hb, hml, hown, hts, hK, hN, hA⟩ ⟨kw_221, kw_223, ks_yX4_step, kw_1, kw_224, by decide +kernel, rfl, rfl, Nat.le_of_ble_eq_true rfl, Nat.le_of_ble_eq_true rfl⟩ rfl (va_recv hK hP (ci := 4) (q0 := 0) rfl rfl) hP hD hS hl.1 rfl (Nat.le_of_ble_eq_true rfl) dX4_run_41 ⟨Nat.zero_le _, Nat.zero_le _⟩ (fun r41 u H locs hw hP hD hS => ?_)
          obtain ⟨hw, hw2⟩ : (x4_step σ').1 = r41 ∧ (x4_step σ').2 = u := hw
          subst hw
          subst hw2
          refine lv_istore_n (lv' := [(2, .int (x4_step σ').1), (4, .int (g_pc σ')), (0, .ref (h 0)), (1, .int x1_25), (3, .int x3_25)]) hx hb dX4_run_44 rfl hl (by decide) rfl (fun ls hl => ?_)
          refine lv_aload_n hx hb dX4_run_45 rfl (lv_at hl 2 rfl) ?_
          refine gX_ref9 hx hb hts hown hK hP kw_121 dX4_run_46 ?_
          refine call_Vv 0 (kX2_countStep l D cI h _) ⟨hx, hb, hml, hown, hts, hK, hN, hA⟩ ⟨kw_386, kw_387, kw_388, kw_5, kw_389, by decide +kernel, rfl, rfl, Nat.le_of_ble_eq_true rfl, Nat.le_of_ble_eq_true rfl⟩ rfl (va_recv hK hP (ci := 2) (q0 := 9) rfl rfl) hP hD hS hl.1 rfl (Nat.le_of_ble_eq_true rfl) dX4_run_49 ⟨Nat.zero_le _, Nat.zero_le _⟩ (fun u H locs hw hP hD hS => ?_)
          have hw : (x2_countStep (x4_step σ').2) = u := hw
          subst hw
          refine lv_iload_n hx hb dX4_run_52 rfl (lv_at hl 0 rfl) ?_
          refine lv_if_eq (tgt := 65) hx hb dX4_run_53 (by decide) (fun c_53_5 => ?_) (fun c_53_5 => ?_)
          · have c_53_5 : (x4_step σ').1 = (0 : Int32) := c_53_5
            refine lv_iinc (v := (x3_25 + (1 : Int32))) (lv' := [(3, .int (x3_25 + (1 : Int32))), (2, .int (x4_step σ').1), (4, .int (g_pc σ')), (0, .ref (h 0)), (1, .int x1_25)]) hx hb dX4_run_65 hl (k := 4) rfl (rfl) (by decide) rfl (fun ls hl => ?_)
            refine lv_goto (tgt := 25) hx hb dX4_run_68 (by decide) ?_
            exact ih (x2_countStep (x4_step σ').2) x1_25 (x4_step σ').1 (x3_25 + (1 : Int32)) _ _ _ (⟨k + 1, by rw [hk1]; exact nI_1 k, hk2, hk2 ▸ lp_ge (by assumption) hk1 (by rw [hk2]; exact hk3), by omega⟩) (E.trans (by rw [x4_run_25, if_neg c_27_3, if_pos c_31_4, if_pos c_53_5])) (lv_sub hl [3, 4, 1, 0] rfl) hP hD hS
          · have c_53_5 : ¬ ((x4_step σ').1 = (0 : Int32)) := c_53_5
            refine lv_aload_n hx hb dX4_run_56 rfl (lv_at hl 2 rfl) ?_
            refine gX_ref9 hx hb hts hown hK hP kw_121 dX4_run_57 ?_
            refine lv_iload hx hb dX4_run_60 (lv_at hl 1 rfl) ?_
            refine pXN_t6 hx hb hts hown hK hP hD hS (nc_at hN 0 rfl) dX4_run_62 (fun H locs hP hD hS => ?_)
            refine lv_iinc (v := (x3_25 + (1 : Int32))) (lv' := [(3, .int (x3_25 + (1 : Int32))), (2, .int (x4_step σ').1), (4, .int (g_pc σ')), (0, .ref (h 0)), (1, .int x1_25)]) hx hb dX4_run_65 hl (k := 4) rfl (rfl) (by decide) rfl (fun ls hl => ?_)
            refine lv_goto (tgt := 25) hx hb dX4_run_68 (by decide) ?_
            exact ih (s_t6 (x2_countStep (x4_step σ').2) (g_pc σ')) x1_25 (x4_step σ').1 (x3_25 + (1 : Int32)) _ _ _ (⟨k + 1, by rw [hk1]; exact nI_1 k, hk2, hk2 ▸ lp_ge (by assumption) hk1 (by rw [hk2]; exact hk3), by omega⟩) (E.trans (by rw [x4_run_25, if_neg c_27_3, if_pos c_31_4, if_neg c_53_5])) (lv_sub hl [3, 4, 1, 0] rfl) hP hD hS
  suffices go : ∀ (H : Heap) (locs : List Loc), va_P D vwCl (wX h cI σ) H → va_D A (wX h cI σ) → va_S A s.heap H locs → W p l e ({ frames := 6, cells := 0, slots := 0, locals := 142 } : Room) s m (([.ref (h 0), .int a1] : List Value).toArray) below meth c H locs 0 0 Q (F0 m 0 ls []) from go _ _ hP hD hS
  intro H locs hP hD hS
  refine lv_iload_n hx hb dX4_run_0 rfl (lv_at hl 1 rfl) ?_
  refine lv_iconst (v := (1 : Int32)) hx hb dX4_run_1 (by decide) ?_
  refine lv_icmp_lt (tgt := 12) hx hb dX4_run_2 (by decide) (fun c_2_1 => ?_) (fun c_2_1 => ?_)
  · have c_2_1 : a1 < (1 : Int32) := c_2_1
    refine lv_iconst (v := (-1 : Int32)) hx hb dX4_run_12 (by decide) ?_
    have hE : x4_run σ a1 = ((-1 : Int32), σ) := (by unfold x4_run; rw [if_pos c_2_1])
    exact hret (-1 : Int32) σ _ _ _ _ rfl ⟨by rw [hE], by rw [hE]⟩ hP hD hS dX4_run_13
  · have c_2_1 : ¬ (a1 < (1 : Int32)) := c_2_1
    refine lv_iload_n hx hb dX4_run_5 rfl (lv_at hl 1 rfl) ?_
    refine lv_sipush (v := (5000 : Int32)) hx hb dX4_run_6 (by decide) ?_
    refine lv_icmp_le (tgt := 14) hx hb dX4_run_9 (by decide) (fun c_9_2 => ?_) (fun c_9_2 => ?_)
    · have c_9_2 : a1 ≤ (5000 : Int32) := c_9_2
      refine lv_aload_n hx hb dX4_run_14 rfl (lv_at hl 0 rfl) ?_
      refine gX_ref9 hx hb hts hown hK hP kw_121 dX4_run_15 ?_
      refine call_Vv 0 (kX2_begin l D cI h _) ⟨hx, hb, hml, hown, hts, hK, hN, hA⟩ ⟨kw_217, kw_218, kw_219, kw_5, kw_220, by decide +kernel, rfl, rfl, Nat.le_of_ble_eq_true rfl, Nat.le_of_ble_eq_true rfl⟩ rfl (va_recv hK hP (ci := 2) (q0 := 9) rfl rfl) hP hD hS hl.1 rfl (Nat.le_of_ble_eq_true rfl) dX4_run_18 ⟨Nat.zero_le _, Nat.zero_le _⟩ (fun u H locs hw hP hD hS => ?_)
      have hw : (x2_begin σ) = u := hw
      subst hw
      refine lv_iconst (v := (0 : Int32)) hx hb dX4_run_21 (by decide) ?_
      refine lv_istore_n (lv' := [(2, .int (0 : Int32)), (0, .ref (h 0)), (1, .int a1)]) hx hb dX4_run_22 rfl hl (by decide) rfl (fun ls hl => ?_)
      refine lv_iconst (v := (0 : Int32)) hx hb dX4_run_23 (by decide) ?_
      refine lv_istore_n (lv' := [(3, .int (0 : Int32)), (2, .int (0 : Int32)), (0, .ref (h 0)), (1, .int a1)]) hx hb dX4_run_24 rfl hl (by decide) rfl (fun ls hl => ?_)
      exact J_25 (Int32.toNatClampNeg a1 + 1) (x2_begin σ) a1 (0 : Int32) (0 : Int32) _ _ _ (⟨0, rfl, rfl, Nat.zero_le _, by omega⟩) (by unfold x4_run; rw [if_neg c_2_1, if_pos c_9_2]) (lv_sub hl [2, 3, 1, 0] rfl) hP hD hS
    · have c_9_2 : ¬ (a1 ≤ (5000 : Int32)) := c_9_2
      refine lv_iconst (v := (-1 : Int32)) hx hb dX4_run_12 (by decide) ?_
      have hE : x4_run σ a1 = ((-1 : Int32), σ) := (by unfold x4_run; rw [if_neg c_2_1, if_neg c_9_2])
      exact hret (-1 : Int32) σ _ _ _ _ rfl ⟨by rw [hE], by rw [hE]⟩ hP hD hS dX4_run_13
