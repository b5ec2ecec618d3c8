def x4_mostOf (a1 : Int32) : Int32 := (if a1 = (0 : Int32) then (262143 : Int32) else (if a1 = (1 : Int32) then (262143 : Int32) else (if a1 = (2 : Int32) then (4095 : Int32) else (if a1 = (4 : Int32) then (63 : Int32) else (1 : Int32)))))
set_option maxRecDepth 100000 in
set_option maxHeartbeats 8000000 in
theorem kX4_mostOf (l : Launch) (D : va_G) (cI : ClassId) (w : va_W) (a1 : Int32) : MetI l yX4_mostOf (wsU yX4_mostOf cX4_mostOf 1 (some .int)) { frames := 0, cells := 0, slots := 0, locals := 0 } D cI [.int a1] w (fun _ : Unit => w) (fun r _ => (x4_mostOf a1) = r) := by
  refine MetI.of (by decide) (Nat.le_of_ble_eq_true rfl) ?_
  intro p e s m below meth c A Q ls hx hb hml hown hts hK hN hA hret hP hD hS hl
  have hown : s.vm.findClass RX4 = some m.cls := hown
  have hl : lv_has ls 1 [(0, .int a1)] := hl
  suffices go : ∀ (H : Heap) (locs : List Loc), va_P D vwCl w H → va_D A w → va_S A s.heap H locs → W p l e ({ frames := 0, cells := 0, slots := 0, locals := 0 } : Room) s m (([.int a1] : List Value).toArray) below meth c H locs 0 0 Q (F0 m 0 ls []) from go _ _ hP hD hS
  intro H locs hP hD hS
  refine lv_iload_n hx hb dX4_mostOf_0 rfl (lv_at hl 0 rfl) ?_
  by_cases s_1_1_0 : a1 = (0 : Int32)
  · refine lv_tableIn (off := 35) (tgt := 36) hx hb dX4_mostOf_1 (by rw [s_1_1_0]; decide) (by rw [s_1_1_0]; decide) (by rw [s_1_1_0]; rfl) (by decide) ?_
    refine lv_ldc (v := (262143 : Int32)) hx hb hown (hts _ kw_163) dX4_mostOf_36 ?_
    have hE : x4_mostOf a1 = (262143 : Int32) := (by unfold x4_mostOf; rw [if_pos s_1_1_0])
    exact hret (262143 : Int32) () _ _ _ _ rfl hE hP hD hS dX4_mostOf_38
  by_cases s_1_1_1 : a1 = (1 : Int32)
  · refine lv_tableIn (off := 35) (tgt := 36) hx hb dX4_mostOf_1 (by rw [s_1_1_1]; decide) (by rw [s_1_1_1]; decide) (by rw [s_1_1_1]; rfl) (by decide) ?_
    refine lv_ldc (v := (262143 : Int32)) hx hb hown (hts _ kw_163) dX4_mostOf_36 ?_
    have hE : x4_mostOf a1 = (262143 : Int32) := (by unfold x4_mostOf; rw [if_neg s_1_1_0, if_pos s_1_1_1])
    exact hret (262143 : Int32) () _ _ _ _ rfl hE hP hD hS dX4_mostOf_38
  by_cases s_1_1_2 : a1 = (2 : Int32)
  · refine lv_tableIn (off := 38) (tgt := 39) hx hb dX4_mostOf_1 (by rw [s_1_1_2]; decide) (by rw [s_1_1_2]; decide) (by rw [s_1_1_2]; rfl) (by decide) ?_
    refine lv_sipush (v := (4095 : Int32)) hx hb dX4_mostOf_39 (by decide) ?_
    have hE : x4_mostOf a1 = (4095 : Int32) := (by unfold x4_mostOf; rw [if_neg s_1_1_0, if_neg s_1_1_1, if_pos s_1_1_2])
    exact hret (4095 : Int32) () _ _ _ _ rfl hE hP hD hS dX4_mostOf_42
  by_cases s_1_1_3 : a1 = (4 : Int32)
  · refine lv_tableIn (off := 42) (tgt := 43) hx hb dX4_mostOf_1 (by rw [s_1_1_3]; decide) (by rw [s_1_1_3]; decide) (by rw [s_1_1_3]; rfl) (by decide) ?_
    refine lv_bipush (v := (63 : Int32)) hx hb dX4_mostOf_43 (by decide) ?_
    have hE : x4_mostOf a1 = (63 : Int32) := (by unfold x4_mostOf; rw [if_neg s_1_1_0, if_neg s_1_1_1, if_neg s_1_1_2, if_pos s_1_1_3])
    exact hret (63 : Int32) () _ _ _ _ rfl hE hP hD hS dX4_mostOf_45
  have dflt_1_1 : W p l e ({ frames := 0, cells := 0, slots := 0, locals := 0 } : Room) s m (([.int a1] : List Value).toArray) below meth c H locs 0 0 Q (F0 m 46 ls []) := by
    refine lv_iconst (v := (1 : Int32)) hx hb dX4_mostOf_46 (by decide) ?_
    have hE : x4_mostOf a1 = (1 : Int32) := (by unfold x4_mostOf; rw [if_neg s_1_1_0, if_neg s_1_1_1, if_neg s_1_1_2, if_neg s_1_1_3])
    exact hret (1 : Int32) () _ _ _ _ rfl hE hP hD hS dX4_mostOf_47
  by_cases s_1_1_d0 : a1 = (3 : Int32)
  · exact lv_tableIn (off := 45) (tgt := 46) hx hb dX4_mostOf_1 (by rw [s_1_1_d0]; decide) (by rw [s_1_1_d0]; decide) (by rw [s_1_1_d0]; rfl) (by decide) dflt_1_1
  exact lv_tableOut (tgt := 46) hx hb dX4_mostOf_1 (by have q0 := lv_neT s_1_1_0 (show (0 : Int32).toInt = 0 by decide); have q1 := lv_neT s_1_1_1 (show (1 : Int32).toInt = 1 by decide); have q2 := lv_neT s_1_1_2 (show (2 : Int32).toInt = 2 by decide); have q3 := lv_neT s_1_1_3 (show (4 : Int32).toInt = 4 by decide); have q4 := lv_neT s_1_1_d0 (show (3 : Int32).toInt = 3 by decide); omega) (by decide) dflt_1_1
def x4_set (σ : St) (a1 : Int32) (a2 : Int32) : Int32 × St := (if a1 < (0 : Int32) then ((-1 : Int32), σ) else (if (5 : Int32) < a1 then ((-1 : Int32), σ) else (if a2 < (0 : Int32) then ((-1 : Int32), σ) else (if a2 ≤ (x4_mostOf a1) then (if a1 = (0 : Int32) then ((x4_told σ a1), (s_ac σ a2)) else (if a1 = (1 : Int32) then ((x4_told σ a1), (s_io σ a2)) else (if a1 = (2 : Int32) then ((x4_told σ a1), (s_pc σ a2)) else (if a1 = (3 : Int32) then ((x4_told σ a1), (s_ov σ a2)) else (if a1 = (4 : Int32) then ((x4_told σ a1), (s_flags σ a2)) else ((x4_told σ a1), (s_on σ a2))))))) else ((-1 : Int32), σ)))))
set_option maxRecDepth 100000 in
set_option maxHeartbeats 8000000 in
theorem kX4_set (l : Launch) (D : va_G) (cI : ClassId) (h : Nat → Nat) (σ : St) (a1 : Int32) (a2 : Int32) : MetI l yX4_set (wsU yX4_set cX4_set 4 (some .int)) { frames := 1, cells := 0, slots := 0, locals := 21 } D cI [.ref (h 0), .int a1, .int a2] (wX h cI σ) (fun u : St => wX h cI u) (fun r u => (x4_set σ a1 a2).1 = r ∧ (x4_set σ a1 a2).2 = u) := by
  refine MetI.of (by decide) (Nat.le_of_ble_eq_true rfl) ?_
  intro p e s m below meth c A Q ls hx hb hml hown hts hK hN hA hret hP hD hS hl
  have hown : s.vm.findClass RX4 = some m.cls := hown
  have hl : lv_has ls 4 [(0, .ref (h 0)), (1, .int a1), (2, .int a2)] := hl
  suffices go : ∀ (H : Heap) (locs : List Loc), va_P D vwCl (wX h cI σ) H → va_D A (wX h cI σ) → va_S A s.heap H locs → W p l e ({ frames := 1, cells := 0, slots := 0, locals := 21 } : Room) s m (([.ref (h 0), .int a1, .int a2] : List Value).toArray) below meth c H locs 0 0 Q (F0 m 0 ls []) from go _ _ hP hD hS
  intro H locs hP hD hS
  refine lv_iload_n hx hb dX4_set_0 rfl (lv_at hl 1 rfl) ?_
  refine lv_if_lt (tgt := 21) hx hb dX4_set_1 (by decide) (fun c_1_1 => ?_) (fun c_1_1 => ?_)
  · have c_1_1 : a1 < (0 : Int32) := c_1_1
    refine lv_iconst (v := (-1 : Int32)) hx hb dX4_set_21 (by decide) ?_
    have hE : x4_set σ a1 a2 = ((-1 : Int32), σ) := (by unfold x4_set; rw [if_pos c_1_1])
    exact hret (-1 : Int32) σ _ _ _ _ rfl ⟨by rw [hE], by rw [hE]⟩ hP hD hS dX4_set_22
  · have c_1_1 : ¬ (a1 < (0 : Int32)) := c_1_1
    refine lv_iload_n hx hb dX4_set_4 rfl (lv_at hl 1 rfl) ?_
    refine lv_iconst (v := (5 : Int32)) hx hb dX4_set_5 (by decide) ?_
    refine lv_icmp_gt (tgt := 21) hx hb dX4_set_6 (by decide) (fun c_6_2 => ?_) (fun c_6_2 => ?_)
    · have c_6_2 : (5 : Int32) < a1 := c_6_2
      refine lv_iconst (v := (-1 : Int32)) hx hb dX4_set_21 (by decide) ?_
      have hE : x4_set σ a1 a2 = ((-1 : Int32), σ) := (by unfold x4_set; rw [if_neg c_1_1, if_pos c_6_2])
      exact hret (-1 : Int32) σ _ _ _ _ rfl ⟨by rw [hE], by rw [hE]⟩ hP hD hS dX4_set_22
    · have c_6_2 : ¬ ((5 : Int32) < a1) := c_6_2
      refine lv_iload_n hx hb dX4_set_9 rfl (lv_at hl 2 rfl) ?_
      refine lv_if_lt (tgt := 21) hx hb dX4_set_10 (by decide) (fun c_10_3 => ?_) (fun c_10_3 => ?_)
      · have c_10_3 : a2 < (0 : Int32) := c_10_3
        refine lv_iconst (v := (-1 : Int32)) hx hb dX4_set_21 (by decide) ?_
        have hE : x4_set σ a1 a2 = ((-1 : Int32), σ) := (by unfold x4_set; rw [if_neg c_1_1, if_neg c_6_2, if_pos c_10_3])
        exact hret (-1 : Int32) σ _ _ _ _ rfl ⟨by rw [hE], by rw [hE]⟩ hP hD hS dX4_set_22
      · have c_10_3 : ¬ (a2 < (0 : Int32)) := c_10_3
        refine lv_iload_n hx hb dX4_set_13 rfl (lv_at hl 2 rfl) ?_
        refine lv_iload_n hx hb dX4_set_14 rfl (lv_at hl 1 rfl) ?_
        refine call_Si 1 (kX4_mostOf l D cI _ a1) ⟨hx, hb, hml, hown, hts, hK, hN, hA⟩ ⟨kw_189, kw_190, kw_1, kw_191, by decide +kernel, rfl, rfl, Nat.le_of_ble_eq_true rfl, Nat.le_of_ble_eq_true rfl⟩ rfl hP hD hS hl.1 rfl (Nat.le_of_ble_eq_true rfl) dX4_set_15 ⟨Nat.zero_le _, Nat.zero_le _⟩ (fun r15 u H locs hw hP hD hS => ?_)
        have hw : (x4_mostOf a1) = r15 := hw
        subst hw
        refine lv_icmp_le (tgt := 23) hx hb dX4_set_18 (by decide) (fun c_18_4 => ?_) (fun c_18_4 => ?_)
        · have c_18_4 : a2 ≤ (x4_mostOf a1) := c_18_4
          refine lv_aload_n hx hb dX4_set_23 rfl (lv_at hl 0 rfl) ?_
          refine lv_iload_n hx hb dX4_set_24 rfl (lv_at hl 1 rfl) ?_
          refine call_Vi 1 (kX4_told l D cI h _ a1) ⟨hx, hb, hml, hown, hts, hK, hN, hA⟩ ⟨kw_192, kw_182, kw_183, kw_1, kw_184, by decide +kernel, rfl, rfl, Nat.le_of_ble_eq_true rfl, Nat.le_of_ble_eq_true rfl⟩ rfl (va_recv hK hP (ci := 4) (q0 := 0) rfl rfl) hP hD hS hl.1 rfl (Nat.le_of_ble_eq_true rfl) dX4_set_25 ⟨Nat.zero_le _, Nat.zero_le _⟩ (fun r25 u H locs hw hP hD hS => ?_)
          have hw : (x4_told σ a1) = r25 := hw
          subst hw
          refine lv_istore_n (lv' := [(3, .int (x4_told σ a1)), (0, .ref (h 0)), (1, .int a1), (2, .int a2)]) hx hb dX4_set_28 rfl hl (by decide) rfl (fun ls hl => ?_)
          refine lv_iload_n hx hb dX4_set_29 rfl (lv_at hl 2 rfl) ?_
          by_cases s_30_5_0 : a1 = (0 : Int32)
          · refine lv_tableIn (off := 34) (tgt := 64) hx hb dX4_set_30 (by rw [s_30_5_0]; decide) (by rw [s_30_5_0]; decide) (by rw [s_30_5_0]; rfl) (by decide) ?_
            refine lv_aload_n hx hb dX4_set_64 rfl (lv_at hl 1 rfl) ?_
            refine lv_iload_n hx hb dX4_set_65 rfl (lv_at hl 3 rfl) ?_
            refine pX_ac hx hb hts hown hK hP hD hS kw_108 dX4_set_66 (fun H locs hP hD hS => ?_)
            refine lv_goto (tgt := 109) hx hb dX4_set_69 (by decide) ?_
            refine lv_iload_n hx hb dX4_set_109 rfl (lv_at hl 0 rfl) ?_
            have hE : x4_set σ a1 a2 = ((x4_told σ a1), (s_ac σ a2)) := (by unfold x4_set; rw [if_neg c_1_1, if_neg c_6_2, if_neg c_10_3, if_pos c_18_4, if_pos s_30_5_0])
            exact hret (x4_told σ a1) (s_ac σ a2) _ _ _ _ rfl ⟨by rw [hE], by rw [hE]⟩ hP hD hS dX4_set_110
          by_cases s_30_5_1 : a1 = (1 : Int32)
          · refine lv_tableIn (off := 42) (tgt := 72) hx hb dX4_set_30 (by rw [s_30_5_1]; decide) (by rw [s_30_5_1]; decide) (by rw [s_30_5_1]; rfl) (by decide) ?_
            refine lv_aload_n hx hb dX4_set_72 rfl (lv_at hl 1 rfl) ?_
            refine lv_iload_n hx hb dX4_set_73 rfl (lv_at hl 3 rfl) ?_
            refine pX_io hx hb hts hown hK hP hD hS kw_109 dX4_set_74 (fun H locs hP hD hS => ?_)
            refine lv_goto (tgt := 109) hx hb dX4_set_77 (by decide) ?_
            refine lv_iload_n hx hb dX4_set_109 rfl (lv_at hl 0 rfl) ?_
            have hE : x4_set σ a1 a2 = ((x4_told σ a1), (s_io σ a2)) := (by unfold x4_set; rw [if_neg c_1_1, if_neg c_6_2, if_neg c_10_3, if_pos c_18_4, if_neg s_30_5_0, if_pos s_30_5_1])
            exact hret (x4_told σ a1) (s_io σ a2) _ _ _ _ rfl ⟨by rw [hE], by rw [hE]⟩ hP hD hS dX4_set_110
          by_cases s_30_5_2 : a1 = (2 : Int32)
          · refine lv_tableIn (off := 50) (tgt := 80) hx hb dX4_set_30 (by rw [s_30_5_2]; decide) (by rw [s_30_5_2]; decide) (by rw [s_30_5_2]; rfl) (by decide) ?_
            refine lv_aload_n hx hb dX4_set_80 rfl (lv_at hl 1 rfl) ?_
            refine lv_iload_n hx hb dX4_set_81 rfl (lv_at hl 3 rfl) ?_
            refine pX_pc hx hb hts hown hK hP hD hS kw_110 dX4_set_82 (fun H locs hP hD hS => ?_)
            refine lv_goto (tgt := 109) hx hb dX4_set_85 (by decide) ?_
            refine lv_iload_n hx hb dX4_set_109 rfl (lv_at hl 0 rfl) ?_
            have hE : x4_set σ a1 a2 = ((x4_told σ a1), (s_pc σ a2)) := (by unfold x4_set; rw [if_neg c_1_1, if_neg c_6_2, if_neg c_10_3, if_pos c_18_4, if_neg s_30_5_0, if_neg s_30_5_1, if_pos s_30_5_2])
            exact hret (x4_told σ a1) (s_pc σ a2) _ _ _ _ rfl ⟨by rw [hE], by rw [hE]⟩ hP hD hS dX4_set_110
          by_cases s_30_5_3 : a1 = (3 : Int32)
          · refine lv_tableIn (off := 58) (tgt := 88) hx hb dX4_set_30 (by rw [s_30_5_3]; decide) (by rw [s_30_5_3]; decide) (by rw [s_30_5_3]; rfl) (by decide) ?_
            refine lv_aload_n hx hb dX4_set_88 rfl (lv_at hl 1 rfl) ?_
            refine lv_iload_n hx hb dX4_set_89 rfl (lv_at hl 3 rfl) ?_
            refine pX_ov hx hb hts hown hK hP hD hS kw_111 dX4_set_90 (fun H locs hP hD hS => ?_)
            refine lv_goto (tgt := 109) hx hb dX4_set_93 (by decide) ?_
            refine lv_iload_n hx hb dX4_set_109 rfl (lv_at hl 0 rfl) ?_
            have hE : x4_set σ a1 a2 = ((x4_told σ a1), (s_ov σ a2)) := (by unfold x4_set; rw [if_neg c_1_1, if_neg c_6_2, if_neg c_10_3, if_pos c_18_4, if_neg s_30_5_0, if_neg s_30_5_1, if_neg s_30_5_2, if_pos s_30_5_3])
            exact hret (x4_told σ a1) (s_ov σ a2) _ _ _ _ rfl ⟨by rw [hE], by rw [hE]⟩ hP hD hS dX4_set_110
          by_cases s_30_5_4 : a1 = (4 : Int32)
          · refine lv_tableIn (off := 66) (tgt := 96) hx hb dX4_set_30 (by rw [s_30_5_4]; decide) (by rw [s_30_5_4]; decide) (by rw [s_30_5_4]; rfl) (by decide) ?_
            refine lv_aload_n hx hb dX4_set_96 rfl (lv_at hl 1 rfl) ?_
            refine lv_iload_n hx hb dX4_set_97 rfl (lv_at hl 3 rfl) ?_
            refine pX_flags hx hb hts hown hK hP hD hS kw_112 dX4_set_98 (fun H locs hP hD hS => ?_)
            refine lv_goto (tgt := 109) hx hb dX4_set_101 (by decide) ?_
            refine lv_iload_n hx hb dX4_set_109 rfl (lv_at hl 0 rfl) ?_
            have hE : x4_set σ a1 a2 = ((x4_told σ a1), (s_flags σ a2)) := (by unfold x4_set; rw [if_neg c_1_1, if_neg c_6_2, if_neg c_10_3, if_pos c_18_4, if_neg s_30_5_0, if_neg s_30_5_1, if_neg s_30_5_2, if_neg s_30_5_3, if_pos s_30_5_4])
            exact hret (x4_told σ a1) (s_flags σ a2) _ _ _ _ rfl ⟨by rw [hE], by rw [hE]⟩ hP hD hS dX4_set_110
          refine lv_tableOut (tgt := 104) hx hb dX4_set_30 (by have q0 := lv_neT s_30_5_0 (show (0 : Int32).toInt = 0 by decide); have q1 := lv_neT s_30_5_1 (show (1 : Int32).toInt = 1 by decide); have q2 := lv_neT s_30_5_2 (show (2 : Int32).toInt = 2 by decide); have q3 := lv_neT s_30_5_3 (show (3 : Int32).toInt = 3 by decide); have q4 := lv_neT s_30_5_4 (show (4 : Int32).toInt = 4 by decide); omega) (by decide) ?_
          refine lv_aload_n hx hb dX4_set_104 rfl (lv_at hl 1 rfl) ?_
          refine lv_iload_n hx hb dX4_set_105 rfl (lv_at hl 3 rfl) ?_
          refine pX_on hx hb hts hown hK hP hD hS kw_113 dX4_set_106 (fun H locs hP hD hS => ?_)
          refine lv_iload_n hx hb dX4_set_109 rfl (lv_at hl 0 rfl) ?_
          have hE : x4_set σ a1 a2 = ((x4_told σ a1), (s_on σ a2)) := (by unfold x4_set; rw [if_neg c_1_1, if_neg c_6_2, if_neg c_10_3, if_pos c_18_4, if_neg s_30_5_0, if_neg s_30_5_1, if_neg s_30_5_2, if_neg s_30_5_3, if_neg s_30_5_4])
          exact hret (x4_told σ a1) (s_on σ a2) _ _ _ _ rfl ⟨by rw [hE], by rw [hE]⟩ hP hD hS dX4_set_110
        · have c_18_4 : ¬ (a2 ≤ (x4_mostOf a1)) := c_18_4
          refine lv_iconst (v := (-1 : Int32)) hx hb dX4_set_21 (by decide) ?_
          have hE : x4_set σ a1 a2 = ((-1 : Int32), σ) := (by unfold x4_set; rw [if_neg c_1_1, if_neg c_6_2, if_neg c_10_3, if_neg c_18_4])
          exact hret (-1 : Int32) σ _ _ _ _ rfl ⟨by rw [hE], by rw [hE]⟩ hP hD hS dX4_set_22
def x4_switches (σ : St) (a1 : Int32) (a2 : Int32) : Int32 × St := (if a1 < (0 : Int32) then ((-1 : Int32), σ) else (if (63 : Int32) < a1 then ((-1 : Int32), σ) else (if (x4_isWord a2) = (0 : Int32) then ((-1 : Int32), σ) else ((g_sw σ), (s_test (s_sw σ a1) a2)))))
set_option maxRecDepth 100000 in
set_option maxHeartbeats 8000000 in
theorem kX4_switches (l : Launch) (D : va_G) (cI : ClassId) (h : Nat → Nat) (σ : St) (a1 : Int32) (a2 : Int32) : MetI l yX4_switches (wsU yX4_switches cX4_switches 4 (some .int)) { frames := 1, cells := 0, slots := 0, locals := 20 } D cI [.ref (h 0), .int a1, .int a2] (wX h cI σ) (fun u : St => wX h cI u) (fun r u => (x4_switches σ a1 a2).1 = r ∧ (x4_switches σ a1 a2).2 = u) := by
  refine MetI.of (by decide) (Nat.le_of_ble_eq_true rfl) ?_
  intro p e s m below meth c A Q ls hx hb hml hown hts hK hN hA hret hP hD hS hl
  have hown : s.vm.findClass RX4 = some m.cls := hown
  have hl : lv_has ls 4 [(0, .ref (h 0)), (1, .int a1), (2, .int a2)] := hl
  suffices go : ∀ (H : Heap) (locs : List Loc), va_P D vwCl (wX h cI σ) H → va_D A (wX h cI σ) → va_S A s.heap H locs → W p l e ({ frames := 1, cells := 0, slots := 0, locals := 20 } : Room) s m (([.ref (h 0), .int a1, .int a2] : List Value).toArray) below meth c H locs 0 0 Q (F0 m 0 ls []) from go _ _ hP hD hS
  intro H locs hP hD hS
  refine lv_iload_n hx hb dX4_switches_0 rfl (lv_at hl 1 rfl) ?_
  refine lv_if_lt (tgt := 17) hx hb dX4_switches_1 (by decide) (fun c_1_1 => ?_) (fun c_1_1 => ?_)
  · have c_1_1 : a1 < (0 : Int32) := c_1_1
    refine lv_iconst (v := (-1 : Int32)) hx hb dX4_switches_17 (by decide) ?_
    have hE : x4_switches σ a1 a2 = ((-1 : Int32), σ) := (by unfold x4_switches; rw [if_pos c_1_1])
    exact hret (-1 : Int32) σ _ _ _ _ rfl ⟨by rw [hE], by rw [hE]⟩ hP hD hS dX4_switches_18
  · have c_1_1 : ¬ (a1 < (0 : Int32)) := c_1_1
    refine lv_iload_n hx hb dX4_switches_4 rfl (lv_at hl 1 rfl) ?_
    refine lv_bipush (v := (63 : Int32)) hx hb dX4_switches_5 (by decide) ?_
    refine lv_icmp_gt (tgt := 17) hx hb dX4_switches_7 (by decide) (fun c_7_2 => ?_) (fun c_7_2 => ?_)
    · have c_7_2 : (63 : Int32) < a1 := c_7_2
      refine lv_iconst (v := (-1 : Int32)) hx hb dX4_switches_17 (by decide) ?_
      have hE : x4_switches σ a1 a2 = ((-1 : Int32), σ) := (by unfold x4_switches; rw [if_neg c_1_1, if_pos c_7_2])
      exact hret (-1 : Int32) σ _ _ _ _ rfl ⟨by rw [hE], by rw [hE]⟩ hP hD hS dX4_switches_18
    · have c_7_2 : ¬ ((63 : Int32) < a1) := c_7_2
      refine lv_iload_n hx hb dX4_switches_10 rfl (lv_at hl 2 rfl) ?_
      refine call_Si 1 (kX4_isWord l D cI _ a2) ⟨hx, hb, hml, hown, hts, hK, hN, hA⟩ ⟨kw_160, kw_161, kw_1, kw_162, by decide +kernel, rfl, rfl, Nat.le_of_ble_eq_true rfl, Nat.le_of_ble_eq_true rfl⟩ rfl hP hD hS hl.1 rfl (Nat.le_of_ble_eq_true rfl) dX4_switches_11 ⟨Nat.zero_le _, Nat.zero_le _⟩ (fun r11 u H locs hw hP hD hS => ?_)
      have hw : (x4_isWord a2) = r11 := hw
      subst hw
      refine lv_if_ne (tgt := 19) hx hb dX4_switches_14 (by decide) (fun c_14_3 => ?_) (fun c_14_3 => ?_)
      · have c_14_3 : ¬ ((x4_isWord a2) = (0 : Int32)) := c_14_3
        refine lv_aload_n hx hb dX4_switches_19 rfl (lv_at hl 0 rfl) ?_
        refine gX_sw (v := (g_sw σ)) hx hb hts hown hK hP kw_116 rfl dX4_switches_20 ?_
        refine lv_istore_n (lv' := [(3, .int (g_sw σ)), (0, .ref (h 0)), (1, .int a1), (2, .int a2)]) hx hb dX4_switches_23 rfl hl (by decide) rfl (fun ls hl => ?_)
        refine lv_aload_n hx hb dX4_switches_24 rfl (lv_at hl 1 rfl) ?_
        refine lv_iload_n hx hb dX4_switches_25 rfl (lv_at hl 2 rfl) ?_
        refine pX_sw hx hb hts hown hK hP hD hS kw_116 dX4_switches_26 (fun H locs hP hD hS => ?_)
        refine lv_aload_n hx hb dX4_switches_29 rfl (lv_at hl 1 rfl) ?_
        refine lv_iload_n hx hb dX4_switches_30 rfl (lv_at hl 3 rfl) ?_
        refine pX_test hx hb hts hown hK hP hD hS kw_117 dX4_switches_31 (fun H locs hP hD hS => ?_)
        refine lv_iload_n hx hb dX4_switches_34 rfl (lv_at hl 0 rfl) ?_
        have hE : x4_switches σ a1 a2 = ((g_sw σ), (s_test (s_sw σ a1) a2)) := (by unfold x4_switches; rw [if_neg c_1_1, if_neg c_7_2, if_neg c_14_3])
        exact hret (g_sw σ) (s_test (s_sw σ a1) a2) _ _ _ _ rfl ⟨by rw [hE], by rw [hE]⟩ hP hD hS dX4_switches_35
      · have c_14_3 : (x4_isWord a2) = (0 : Int32) := c_14_3
        refine lv_iconst (v := (-1 : Int32)) hx hb dX4_switches_17 (by decide) ?_
        have hE : x4_switches σ a1 a2 = ((-1 : Int32), σ) := (by unfold x4_switches; rw [if_neg c_1_1, if_neg c_7_2, if_pos c_14_3])
        exact hret (-1 : Int32) σ _ _ _ _ rfl ⟨by rw [hE], by rw [hE]⟩ hP hD hS dX4_switches_18
def x4_type (σ : St) (a1 : Int32) : Int32 × St := (if a1 < (0 : Int32) then ((-1 : Int32), σ) else (if a1 ≤ (63 : Int32) then (if (x3_append σ a1).1 = (0 : Int32) then ((-3 : Int32), (x3_append σ a1).2) else ((x3_waiting (x3_append σ a1).2), (x3_append σ a1).2)) else ((-1 : Int32), σ)))
set_option maxRecDepth 100000 in
set_option maxHeartbeats 8000000 in
theorem kX4_type (l : Launch) (D : va_G) (cI : ClassId) (h : Nat → Nat) (σ : St) (a1 : Int32) : MetI l yX4_type (wsU yX4_type cX4_type 2 (some .int)) { frames := 1, cells := 0, slots := 0, locals := 21 } D cI [.ref (h 0), .int a1] (wX h cI σ) (fun u : St => wX h cI u) (fun r u => (x4_type σ a1).1 = r ∧ (x4_type σ a1).2 = u) := by
  refine MetI.of (by decide) (Nat.le_of_ble_eq_true rfl) ?_
  intro p e s m below meth c A Q ls hx hb hml hown hts hK hN hA hret hP hD hS hl
  have hown : s.vm.findClass RX4 = some m.cls := hown
  have hl : lv_has ls 2 [(0, .ref (h 0)), (1, .int a1)] := hl
  suffices go : ∀ (H : Heap) (locs : List Loc), va_P D vwCl (wX h cI σ) H → va_D A (wX h cI σ) → va_S A s.heap H locs → W p l e ({ frames := 1, cells := 0, slots := 0, locals := 21 } : Room) s m (([.ref (h 0), .int a1] : List Value).toArray) below meth c H locs 0 0 Q (F0 m 0 ls []) from go _ _ hP hD hS
  intro H locs hP hD hS
  refine lv_iload_n hx hb dX4_type_0 rfl (lv_at hl 1 rfl) ?_
  refine lv_if_lt (tgt := 10) hx hb dX4_type_1 (by decide) (fun c_1_1 => ?_) (fun c_1_1 => ?_)
  · have c_1_1 : a1 < (0 : Int32) := c_1_1
    refine lv_iconst (v := (-1 : Int32)) hx hb dX4_type_10 (by decide) ?_
    have hE : x4_type σ a1 = ((-1 : Int32), σ) := (by unfold x4_type; rw [if_pos c_1_1])
    exact hret (-1 : Int32) σ _ _ _ _ rfl ⟨by rw [hE], by rw [hE]⟩ hP hD hS dX4_type_11
  · have c_1_1 : ¬ (a1 < (0 : Int32)) := c_1_1
    refine lv_iload_n hx hb dX4_type_4 rfl (lv_at hl 1 rfl) ?_
    refine lv_bipush (v := (63 : Int32)) hx hb dX4_type_5 (by decide) ?_
    refine lv_icmp_le (tgt := 12) hx hb dX4_type_7 (by decide) (fun c_7_2 => ?_) (fun c_7_2 => ?_)
    · have c_7_2 : a1 ≤ (63 : Int32) := c_7_2
      refine lv_aload_n hx hb dX4_type_12 rfl (lv_at hl 0 rfl) ?_
      refine gX_ref2 hx hb hts hown hK hP kw_118 dX4_type_13 ?_
      refine lv_iload_n hx hb dX4_type_16 rfl (lv_at hl 1 rfl) ?_
      refine call_Vi 1 (kX3_append l D cI h _ a1) ⟨hx, hb, hml, hown, hts, hK, hN, hA⟩ ⟨kw_201, kw_202, kw_203, kw_2, kw_204, by decide +kernel, rfl, rfl, Nat.le_of_ble_eq_true rfl, Nat.le_of_ble_eq_true rfl⟩ rfl (va_recv hK hP (ci := 3) (q0 := 2) rfl rfl) hP hD hS hl.1 rfl (Nat.le_of_ble_eq_true rfl) dX4_type_17 ⟨Nat.zero_le _, Nat.zero_le _⟩ (fun r17 u H locs hw hP hD hS => ?_)
      obtain ⟨hw, hw2⟩ : (x3_append σ a1).1 = r17 ∧ (x3_append σ a1).2 = u := hw
      subst hw
      subst hw2
      refine lv_if_eq (tgt := 33) hx hb dX4_type_20 (by decide) (fun c_20_3 => ?_) (fun c_20_3 => ?_)
      · have c_20_3 : (x3_append σ a1).1 = (0 : Int32) := c_20_3
        refine lv_bipush (v := (-3 : Int32)) hx hb dX4_type_33 (by decide) ?_
        have hE : x4_type σ a1 = ((-3 : Int32), (x3_append σ a1).2) := (by unfold x4_type; rw [if_neg c_1_1, if_pos c_7_2, if_pos c_20_3])
        exact hret (-3 : Int32) (x3_append σ a1).2 _ _ _ _ rfl ⟨by rw [hE], by rw [hE]⟩ hP hD hS dX4_type_35
      · have c_20_3 : ¬ ((x3_append σ a1).1 = (0 : Int32)) := c_20_3
        refine lv_aload_n hx hb dX4_type_23 rfl (lv_at hl 0 rfl) ?_
        refine gX_ref2 hx hb hts hown hK hP kw_118 dX4_type_24 ?_
        refine call_Vi 0 (kX3_waiting l D cI h _) ⟨hx, hb, hml, hown, hts, hK, hN, hA⟩ ⟨kw_205, kw_206, kw_207, kw_2, kw_208, by decide +kernel, rfl, rfl, Nat.le_of_ble_eq_true rfl, Nat.le_of_ble_eq_true rfl⟩ rfl (va_recv hK hP (ci := 3) (q0 := 2) rfl rfl) hP hD hS hl.1 rfl (Nat.le_of_ble_eq_true rfl) dX4_type_27 ⟨Nat.zero_le _, Nat.zero_le _⟩ (fun r27 u H locs hw hP hD hS => ?_)
        have hw : (x3_waiting (x3_append σ a1).2) = r27 := hw
        subst hw
        refine lv_goto (tgt := 35) hx hb dX4_type_30 (by decide) ?_
        have hE : x4_type σ a1 = ((x3_waiting (x3_append σ a1).2), (x3_append σ a1).2) := (by unfold x4_type; rw [if_neg c_1_1, if_pos c_7_2, if_neg c_20_3])
        exact hret (x3_waiting (x3_append σ a1).2) (x3_append σ a1).2 _ _ _ _ rfl ⟨by rw [hE], by rw [hE]⟩ hP hD hS dX4_type_35
    · have c_7_2 : ¬ (a1 ≤ (63 : Int32)) := c_7_2
      refine lv_iconst (v := (-1 : Int32)) hx hb dX4_type_10 (by decide) ?_
      have hE : x4_type σ a1 = ((-1 : Int32), σ) := (by unfold x4_type; rw [if_neg c_1_1, if_neg c_7_2])
      exact hret (-1 : Int32) σ _ _ _ _ rfl ⟨by rw [hE], by rw [hE]⟩ hP hD hS dX4_type_11
def x4_ask (σ : St)  : Int32 × St := (((1 : Int32) - (g_asked σ)), (s_asked σ (1 : Int32)))
set_option maxRecDepth 100000 in
set_option maxHeartbeats 8000000 in
theorem kX4_ask (l : Launch) (D : va_G) (cI : ClassId) (h : Nat → Nat) (σ : St)  : MetI l yX4_ask (wsU yX4_ask cX4_ask 2 (some .int)) { frames := 0, cells := 0, slots := 0, locals := 0 } D cI [.ref (h 0)] (wX h cI σ) (fun u : St => wX h cI u) (fun r u => (x4_ask σ).1 = r ∧ (x4_ask σ).2 = u) := by
  refine MetI.of (by decide) (Nat.le_of_ble_eq_true rfl) ?_
  intro p e s m below meth c A Q ls hx hb hml hown hts hK hN hA hret hP hD hS hl
  have hown : s.vm.findClass RX4 = some m.cls := hown
  have hl : lv_has ls 2 [(0, .ref (h 0))] := hl
  suffices go : ∀ (H : Heap) (locs : List Loc), va_P D vwCl (wX h cI σ) H → va_D A (wX h cI σ) → va_S A s.heap H locs → W p l e ({ frames := 0, cells := 0, slots := 0, locals := 0 } : Room) s m (([.ref (h 0)] : List Value).toArray) below meth c H locs 0 0 Q (F0 m 0 ls []) from go _ _ hP hD hS
  intro H locs hP hD hS
  refine lv_aload_n hx hb dX4_ask_0 rfl (lv_at hl 0 rfl) ?_
  refine gX_asked (v := (g_asked σ)) hx hb hts hown hK hP kw_114 rfl dX4_ask_1 ?_
  refine lv_istore_n (lv' := [(1, .int (g_asked σ)), (0, .ref (h 0))]) hx hb dX4_ask_4 rfl hl (by decide) rfl (fun ls hl => ?_)
  refine lv_aload_n hx hb dX4_ask_5 rfl (lv_at hl 1 rfl) ?_
  refine lv_iconst (v := (1 : Int32)) hx hb dX4_ask_6 (by decide) ?_
  refine pX_asked hx hb hts hown hK hP hD hS kw_114 dX4_ask_7 (fun H locs hP hD hS => ?_)
  refine lv_iconst (v := (1 : Int32)) hx hb dX4_ask_10 (by decide) ?_
  refine lv_iload_n hx hb dX4_ask_11 rfl (lv_at hl 0 rfl) ?_
  refine lv_isub hx hb dX4_ask_12 ?_
  have hE : x4_ask σ = (((1 : Int32) - (g_asked σ)), (s_asked σ (1 : Int32))) := (by unfold x4_ask; rfl)
  exact hret ((1 : Int32) - (g_asked σ)) (s_asked σ (1 : Int32)) _ _ _ _ rfl ⟨by rw [hE], by rw [hE]⟩ hP hD hS dX4_ask_13
