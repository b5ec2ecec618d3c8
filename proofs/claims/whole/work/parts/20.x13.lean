def x4_ran (σ : St) (a1 : Int32) : Int32 := (if a1 = (0 : Int32) then (g_t0 σ) else (if a1 = (1 : Int32) then (g_t1 σ) else (if a1 = (2 : Int32) then (g_t2 σ) else (if a1 = (3 : Int32) then (g_t3 σ) else (if a1 = (4 : Int32) then (g_t4 σ) else (if a1 = (5 : Int32) then (g_t5 σ) else (if a1 = (6 : Int32) then (g_t6 σ) else (if a1 = (7 : Int32) then (g_t7 σ) else (-1 : Int32)))))))))
set_option maxRecDepth 100000 in
set_option maxHeartbeats 8000000 in
theorem kX4_ran (l : Launch) (D : va_G) (cI : ClassId) (h : Nat → Nat) (σ : St) (a1 : Int32) : MetI l yX4_ran (wsU yX4_ran cX4_ran 2 (some .int)) { frames := 0, cells := 0, slots := 0, locals := 0 } D cI [.ref (h 0), .int a1] (wX h cI σ) (fun _ : Unit => wX h cI σ) (fun r _ => (x4_ran σ a1) = r) := by
  refine MetI.of (by decide) (Nat.le_of_ble_eq_true rfl) ?_
  intro p e s m below meth c A Q ls hx hb hml hown hts hK hN hA hret hP hD hS hl
  have hown : s.vm.findClass RX4 = some m.cls := hown
  have hl : lv_has ls 2 [(0, .ref (h 0)), (1, .int a1)] := hl
  suffices go : ∀ (H : Heap) (locs : List Loc), va_P D vwCl (wX h cI σ) H → va_D A (wX h cI σ) → va_S A s.heap H locs → W p l e ({ frames := 0, cells := 0, slots := 0, locals := 0 } : Room) s m (([.ref (h 0), .int a1] : List Value).toArray) below meth c H locs 0 0 Q (F0 m 0 ls []) from go _ _ hP hD hS
  intro H locs hP hD hS
  refine lv_iload_n hx hb dX4_ran_0 rfl (lv_at hl 1 rfl) ?_
  by_cases s_1_1_0 : a1 = (0 : Int32)
  · refine lv_tableIn (off := 47) (tgt := 48) hx hb dX4_ran_1 (by rw [s_1_1_0]; decide) (by rw [s_1_1_0]; decide) (by rw [s_1_1_0]; rfl) (by decide) ?_
    refine lv_aload_n hx hb dX4_ran_48 rfl (lv_at hl 0 rfl) ?_
    refine gX_ref9 hx hb hts hown hK hP kw_121 dX4_ran_49 ?_
    refine gXN_t0 (v := (g_t0 σ)) hx hb hts hown hK hP (nc_at hN 1 rfl) rfl dX4_ran_52 ?_
    have hE : x4_ran σ a1 = (g_t0 σ) := (by unfold x4_ran; rw [if_pos s_1_1_0])
    exact hret (g_t0 σ) () _ _ _ _ rfl hE hP hD hS dX4_ran_55
  by_cases s_1_1_1 : a1 = (1 : Int32)
  · refine lv_tableIn (off := 55) (tgt := 56) hx hb dX4_ran_1 (by rw [s_1_1_1]; decide) (by rw [s_1_1_1]; decide) (by rw [s_1_1_1]; rfl) (by decide) ?_
    refine lv_aload_n hx hb dX4_ran_56 rfl (lv_at hl 0 rfl) ?_
    refine gX_ref9 hx hb hts hown hK hP kw_121 dX4_ran_57 ?_
    refine gXN_t1 (v := (g_t1 σ)) hx hb hts hown hK hP (nc_at hN 2 rfl) rfl dX4_ran_60 ?_
    have hE : x4_ran σ a1 = (g_t1 σ) := (by unfold x4_ran; rw [if_neg s_1_1_0, if_pos s_1_1_1])
    exact hret (g_t1 σ) () _ _ _ _ rfl hE hP hD hS dX4_ran_63
  by_cases s_1_1_2 : a1 = (2 : Int32)
  · refine lv_tableIn (off := 63) (tgt := 64) hx hb dX4_ran_1 (by rw [s_1_1_2]; decide) (by rw [s_1_1_2]; decide) (by rw [s_1_1_2]; rfl) (by decide) ?_
    refine lv_aload_n hx hb dX4_ran_64 rfl (lv_at hl 0 rfl) ?_
    refine gX_ref9 hx hb hts hown hK hP kw_121 dX4_ran_65 ?_
    refine gXN_t2 (v := (g_t2 σ)) hx hb hts hown hK hP (nc_at hN 3 rfl) rfl dX4_ran_68 ?_
    have hE : x4_ran σ a1 = (g_t2 σ) := (by unfold x4_ran; rw [if_neg s_1_1_0, if_neg s_1_1_1, if_pos s_1_1_2])
    exact hret (g_t2 σ) () _ _ _ _ rfl hE hP hD hS dX4_ran_71
  by_cases s_1_1_3 : a1 = (3 : Int32)
  · refine lv_tableIn (off := 71) (tgt := 72) hx hb dX4_ran_1 (by rw [s_1_1_3]; decide) (by rw [s_1_1_3]; decide) (by rw [s_1_1_3]; rfl) (by decide) ?_
    refine lv_aload_n hx hb dX4_ran_72 rfl (lv_at hl 0 rfl) ?_
    refine gX_ref9 hx hb hts hown hK hP kw_121 dX4_ran_73 ?_
    refine gXN_t3 (v := (g_t3 σ)) hx hb hts hown hK hP (nc_at hN 4 rfl) rfl dX4_ran_76 ?_
    have hE : x4_ran σ a1 = (g_t3 σ) := (by unfold x4_ran; rw [if_neg s_1_1_0, if_neg s_1_1_1, if_neg s_1_1_2, if_pos s_1_1_3])
    exact hret (g_t3 σ) () _ _ _ _ rfl hE hP hD hS dX4_ran_79
  by_cases s_1_1_4 : a1 = (4 : Int32)
  · refine lv_tableIn (off := 79) (tgt := 80) hx hb dX4_ran_1 (by rw [s_1_1_4]; decide) (by rw [s_1_1_4]; decide) (by rw [s_1_1_4]; rfl) (by decide) ?_
    refine lv_aload_n hx hb dX4_ran_80 rfl (lv_at hl 0 rfl) ?_
    refine gX_ref9 hx hb hts hown hK hP kw_121 dX4_ran_81 ?_
    refine gXN_t4 (v := (g_t4 σ)) hx hb hts hown hK hP (nc_at hN 5 rfl) rfl dX4_ran_84 ?_
    have hE : x4_ran σ a1 = (g_t4 σ) := (by unfold x4_ran; rw [if_neg s_1_1_0, if_neg s_1_1_1, if_neg s_1_1_2, if_neg s_1_1_3, if_pos s_1_1_4])
    exact hret (g_t4 σ) () _ _ _ _ rfl hE hP hD hS dX4_ran_87
  by_cases s_1_1_5 : a1 = (5 : Int32)
  · refine lv_tableIn (off := 87) (tgt := 88) hx hb dX4_ran_1 (by rw [s_1_1_5]; decide) (by rw [s_1_1_5]; decide) (by rw [s_1_1_5]; rfl) (by decide) ?_
    refine lv_aload_n hx hb dX4_ran_88 rfl (lv_at hl 0 rfl) ?_
    refine gX_ref9 hx hb hts hown hK hP kw_121 dX4_ran_89 ?_
    refine gXN_t5 (v := (g_t5 σ)) hx hb hts hown hK hP (nc_at hN 6 rfl) rfl dX4_ran_92 ?_
    have hE : x4_ran σ a1 = (g_t5 σ) := (by unfold x4_ran; rw [if_neg s_1_1_0, if_neg s_1_1_1, if_neg s_1_1_2, if_neg s_1_1_3, if_neg s_1_1_4, if_pos s_1_1_5])
    exact hret (g_t5 σ) () _ _ _ _ rfl hE hP hD hS dX4_ran_95
  by_cases s_1_1_6 : a1 = (6 : Int32)
  · refine lv_tableIn (off := 95) (tgt := 96) hx hb dX4_ran_1 (by rw [s_1_1_6]; decide) (by rw [s_1_1_6]; decide) (by rw [s_1_1_6]; rfl) (by decide) ?_
    refine lv_aload_n hx hb dX4_ran_96 rfl (lv_at hl 0 rfl) ?_
    refine gX_ref9 hx hb hts hown hK hP kw_121 dX4_ran_97 ?_
    refine gXN_t6 (v := (g_t6 σ)) hx hb hts hown hK hP (nc_at hN 0 rfl) rfl dX4_ran_100 ?_
    have hE : x4_ran σ a1 = (g_t6 σ) := (by unfold x4_ran; rw [if_neg s_1_1_0, if_neg s_1_1_1, if_neg s_1_1_2, if_neg s_1_1_3, if_neg s_1_1_4, if_neg s_1_1_5, if_pos s_1_1_6])
    exact hret (g_t6 σ) () _ _ _ _ rfl hE hP hD hS dX4_ran_103
  by_cases s_1_1_7 : a1 = (7 : Int32)
  · refine lv_tableIn (off := 103) (tgt := 104) hx hb dX4_ran_1 (by rw [s_1_1_7]; decide) (by rw [s_1_1_7]; decide) (by rw [s_1_1_7]; rfl) (by decide) ?_
    refine lv_aload_n hx hb dX4_ran_104 rfl (lv_at hl 0 rfl) ?_
    refine gX_ref9 hx hb hts hown hK hP kw_121 dX4_ran_105 ?_
    refine gXN_t7 (v := (g_t7 σ)) hx hb hts hown hK hP (nc_at hN 7 rfl) rfl dX4_ran_108 ?_
    have hE : x4_ran σ a1 = (g_t7 σ) := (by unfold x4_ran; rw [if_neg s_1_1_0, if_neg s_1_1_1, if_neg s_1_1_2, if_neg s_1_1_3, if_neg s_1_1_4, if_neg s_1_1_5, if_neg s_1_1_6, if_pos s_1_1_7])
    exact hret (g_t7 σ) () _ _ _ _ rfl hE hP hD hS dX4_ran_111
  refine lv_tableOut (tgt := 112) hx hb dX4_ran_1 (by have q0 := lv_neT s_1_1_0 (show (0 : Int32).toInt = 0 by decide); have q1 := lv_neT s_1_1_1 (show (1 : Int32).toInt = 1 by decide); have q2 := lv_neT s_1_1_2 (show (2 : Int32).toInt = 2 by decide); have q3 := lv_neT s_1_1_3 (show (3 : Int32).toInt = 3 by decide); have q4 := lv_neT s_1_1_4 (show (4 : Int32).toInt = 4 by decide); have q5 := lv_neT s_1_1_5 (show (5 : Int32).toInt = 5 by decide); have q6 := lv_neT s_1_1_6 (show (6 : Int32).toInt = 6 by decide); have q7 := lv_neT s_1_1_7 (show (7 : Int32).toInt = 7 by decide); omega) (by decide) ?_
  refine lv_iconst (v := (-1 : Int32)) hx hb dX4_ran_112 (by decide) ?_
  have hE : x4_ran σ a1 = (-1 : Int32) := (by unfold x4_ran; rw [if_neg s_1_1_0, if_neg s_1_1_1, if_neg s_1_1_2, if_neg s_1_1_3, if_neg s_1_1_4, if_neg s_1_1_5, if_neg s_1_1_6, if_neg s_1_1_7])
  exact hret (-1 : Int32) () _ _ _ _ rfl hE hP hD hS dX4_ran_113
def x4_point (σ : St) (a1 : Int32) (a2 : Int32) : Int32 := (if a2 < (0 : Int32) then (-1 : Int32) else (if a2 ≤ (1 : Int32) then (if (x0_keeps σ a1) = (0 : Int32) then (-9 : Int32) else (if a2 = (0 : Int32) then (x0_xOf σ a1) else (x0_yOf σ a1))) else (-1 : Int32)))
set_option maxRecDepth 100000 in
set_option maxHeartbeats 8000000 in
theorem kX4_point (l : Launch) (D : va_G) (cI : ClassId) (h : Nat → Nat) (σ : St) (a1 : Int32) (a2 : Int32) : MetI l yX4_point (wsU yX4_point cX4_point 3 (some .int)) { frames := 2, cells := 0, slots := 0, locals := 42 } D cI [.ref (h 0), .int a1, .int a2] (wX h cI σ) (fun _ : Unit => wX h cI σ) (fun r _ => (x4_point σ a1 a2) = r) := by
  refine MetI.of (by decide) (Nat.le_of_ble_eq_true rfl) ?_
  intro p e s m below meth c A Q ls hx hb hml hown hts hK hN hA hret hP hD hS hl
  have hown : s.vm.findClass RX4 = some m.cls := hown
  have hl : lv_has ls 3 [(0, .ref (h 0)), (1, .int a1), (2, .int a2)] := hl
  suffices go : ∀ (H : Heap) (locs : List Loc), va_P D vwCl (wX h cI σ) H → va_D A (wX h cI σ) → va_S A s.heap H locs → W p l e ({ frames := 2, cells := 0, slots := 0, locals := 42 } : Room) s m (([.ref (h 0), .int a1, .int a2] : List Value).toArray) below meth c H locs 0 0 Q (F0 m 0 ls []) from go _ _ hP hD hS
  intro H locs hP hD hS
  refine lv_iload_n hx hb dX4_point_0 rfl (lv_at hl 2 rfl) ?_
  refine lv_if_lt (tgt := 9) hx hb dX4_point_1 (by decide) (fun c_1_1 => ?_) (fun c_1_1 => ?_)
  · have c_1_1 : a2 < (0 : Int32) := c_1_1
    refine lv_iconst (v := (-1 : Int32)) hx hb dX4_point_9 (by decide) ?_
    have hE : x4_point σ a1 a2 = (-1 : Int32) := (by unfold x4_point; rw [if_pos c_1_1])
    exact hret (-1 : Int32) () _ _ _ _ rfl hE hP hD hS dX4_point_10
  · have c_1_1 : ¬ (a2 < (0 : Int32)) := c_1_1
    refine lv_iload_n hx hb dX4_point_4 rfl (lv_at hl 2 rfl) ?_
    refine lv_iconst (v := (1 : Int32)) hx hb dX4_point_5 (by decide) ?_
    refine lv_icmp_le (tgt := 11) hx hb dX4_point_6 (by decide) (fun c_6_2 => ?_) (fun c_6_2 => ?_)
    · have c_6_2 : a2 ≤ (1 : Int32) := c_6_2
      refine lv_aload_n hx hb dX4_point_11 rfl (lv_at hl 0 rfl) ?_
      refine gX_ref6 hx hb hts hown hK hP kw_120 dX4_point_12 ?_
      refine lv_iload_n hx hb dX4_point_15 rfl (lv_at hl 1 rfl) ?_
      refine call_Vi 1 (kX0_keeps l D cI h _ a1) ⟨hx, hb, hml, hown, hts, hK, hN, hA⟩ ⟨kw_398, kw_399, kw_400, kw_4, kw_401, by decide +kernel, rfl, rfl, Nat.le_of_ble_eq_true rfl, Nat.le_of_ble_eq_true rfl⟩ rfl (va_recv hK hP (ci := 0) (q0 := 6) rfl rfl) hP hD hS hl.1 rfl (Nat.le_of_ble_eq_true rfl) dX4_point_16 ⟨Nat.zero_le _, Nat.zero_le _⟩ (fun r16 u H locs hw hP hD hS => ?_)
      have hw : (x0_keeps σ a1) = r16 := hw
      subst hw
      refine lv_if_ne (tgt := 25) hx hb dX4_point_19 (by decide) (fun c_19_3 => ?_) (fun c_19_3 => ?_)
      · have c_19_3 : ¬ ((x0_keeps σ a1) = (0 : Int32)) := c_19_3
        refine lv_iload_n hx hb dX4_point_25 rfl (lv_at hl 2 rfl) ?_
        refine lv_if_ne (tgt := 40) hx hb dX4_point_26 (by decide) (fun c_26_4 => ?_) (fun c_26_4 => ?_)
        · have c_26_4 : ¬ (a2 = (0 : Int32)) := c_26_4
          refine lv_aload_n hx hb dX4_point_40 rfl (lv_at hl 0 rfl) ?_
          refine gX_ref6 hx hb hts hown hK hP kw_120 dX4_point_41 ?_
          refine lv_iload_n hx hb dX4_point_44 rfl (lv_at hl 1 rfl) ?_
          refine call_Vi 1 (kX0_yOf l D cI h _ a1) ⟨hx, hb, hml, hown, hts, hK, hN, hA⟩ ⟨kw_410, kw_411, kw_412, kw_4, kw_413, by decide +kernel, rfl, rfl, Nat.le_of_ble_eq_true rfl, Nat.le_of_ble_eq_true rfl⟩ rfl (va_recv hK hP (ci := 0) (q0 := 6) rfl rfl) hP hD hS hl.1 rfl (Nat.le_of_ble_eq_true rfl) dX4_point_45 ⟨Nat.zero_le _, Nat.zero_le _⟩ (fun r45 u H locs hw hP hD hS => ?_)
          have hw : (x0_yOf σ a1) = r45 := hw
          subst hw
          have hE : x4_point σ a1 a2 = (x0_yOf σ a1) := (by unfold x4_point; rw [if_neg c_1_1, if_pos c_6_2, if_neg c_19_3, if_neg c_26_4])
          exact hret (x0_yOf σ a1) () _ _ _ _ rfl hE hP hD hS dX4_point_48
        · have c_26_4 : a2 = (0 : Int32) := c_26_4
          refine lv_aload_n hx hb dX4_point_29 rfl (lv_at hl 0 rfl) ?_
          refine gX_ref6 hx hb hts hown hK hP kw_120 dX4_point_30 ?_
          refine lv_iload_n hx hb dX4_point_33 rfl (lv_at hl 1 rfl) ?_
          refine call_Vi 1 (kX0_xOf l D cI h _ a1) ⟨hx, hb, hml, hown, hts, hK, hN, hA⟩ ⟨kw_402, kw_403, kw_404, kw_4, kw_405, by decide +kernel, rfl, rfl, Nat.le_of_ble_eq_true rfl, Nat.le_of_ble_eq_true rfl⟩ rfl (va_recv hK hP (ci := 0) (q0 := 6) rfl rfl) hP hD hS hl.1 rfl (Nat.le_of_ble_eq_true rfl) dX4_point_34 ⟨Nat.zero_le _, Nat.zero_le _⟩ (fun r34 u H locs hw hP hD hS => ?_)
          have hw : (x0_xOf σ a1) = r34 := hw
          subst hw
          refine lv_goto (tgt := 48) hx hb dX4_point_37 (by decide) ?_
          have hE : x4_point σ a1 a2 = (x0_xOf σ a1) := (by unfold x4_point; rw [if_neg c_1_1, if_pos c_6_2, if_neg c_19_3, if_pos c_26_4])
          exact hret (x0_xOf σ a1) () _ _ _ _ rfl hE hP hD hS dX4_point_48
      · have c_19_3 : (x0_keeps σ a1) = (0 : Int32) := c_19_3
        refine lv_bipush (v := (-9 : Int32)) hx hb dX4_point_22 (by decide) ?_
        have hE : x4_point σ a1 a2 = (-9 : Int32) := (by unfold x4_point; rw [if_neg c_1_1, if_pos c_6_2, if_pos c_19_3])
        exact hret (-9 : Int32) () _ _ _ _ rfl hE hP hD hS dX4_point_24
    · have c_6_2 : ¬ (a2 ≤ (1 : Int32)) := c_6_2
      refine lv_iconst (v := (-1 : Int32)) hx hb dX4_point_9 (by decide) ?_
      have hE : x4_point σ a1 a2 = (-1 : Int32) := (by unfold x4_point; rw [if_neg c_1_1, if_neg c_6_2])
      exact hret (-1 : Int32) () _ _ _ _ rfl hE hP hD hS dX4_point_10
def x4_points (σ : St)  : Int32 := (g_pts σ)
set_option maxRecDepth 100000 in
set_option maxHeartbeats 8000000 in
theorem kX4_points (l : Launch) (D : va_G) (cI : ClassId) (h : Nat → Nat) (σ : St)  : MetI l yX4_points (wsU yX4_points cX4_points 1 (some .int)) { frames := 0, cells := 0, slots := 0, locals := 0 } D cI [.ref (h 0)] (wX h cI σ) (fun _ : Unit => wX h cI σ) (fun r _ => (x4_points σ) = r) := by
  refine MetI.of (by decide) (Nat.le_of_ble_eq_true rfl) ?_
  intro p e s m below meth c A Q ls hx hb hml hown hts hK hN hA hret hP hD hS hl
  have hown : s.vm.findClass RX4 = some m.cls := hown
  have hl : lv_has ls 1 [(0, .ref (h 0))] := hl
  suffices go : ∀ (H : Heap) (locs : List Loc), va_P D vwCl (wX h cI σ) H → va_D A (wX h cI σ) → va_S A s.heap H locs → W p l e ({ frames := 0, cells := 0, slots := 0, locals := 0 } : Room) s m (([.ref (h 0)] : List Value).toArray) below meth c H locs 0 0 Q (F0 m 0 ls []) from go _ _ hP hD hS
  intro H locs hP hD hS
  refine lv_aload_n hx hb dX4_points_0 rfl (lv_at hl 0 rfl) ?_
  refine gX_ref6 hx hb hts hown hK hP kw_120 dX4_points_1 ?_
  refine gXN_pts (v := (g_pts σ)) hx hb hts hown hK hP (nc_at hN 8 rfl) rfl dX4_points_4 ?_
  have hE : x4_points σ = (g_pts σ) := (by unfold x4_points; rfl)
  exact hret (g_pts σ) () _ _ _ _ rfl hE hP hD hS dX4_points_7
def x4_out (σ : St) (a1 : Int32) : Int32 := (if (-2 : Int32) ≤ a1 then (if a1 = (-2 : Int32) then (g_lost σ) else (if a1 = (-1 : Int32) then (g_outs σ) else (x1_signAt σ a1))) else (-1 : Int32))
set_option maxRecDepth 100000 in
set_option maxHeartbeats 8000000 in
theorem kX4_out (l : Launch) (D : va_G) (cI : ClassId) (h : Nat → Nat) (σ : St) (a1 : Int32) : MetI l yX4_out (wsU yX4_out cX4_out 2 (some .int)) { frames := 1, cells := 0, slots := 0, locals := 21 } D cI [.ref (h 0), .int a1] (wX h cI σ) (fun _ : Unit => wX h cI σ) (fun r _ => (x4_out σ a1) = r) := by
  refine MetI.of (by decide) (Nat.le_of_ble_eq_true rfl) ?_
  intro p e s m below meth c A Q ls hx hb hml hown hts hK hN hA hret hP hD hS hl
  have hown : s.vm.findClass RX4 = some m.cls := hown
  have hl : lv_has ls 2 [(0, .ref (h 0)), (1, .int a1)] := hl
  suffices go : ∀ (H : Heap) (locs : List Loc), va_P D vwCl (wX h cI σ) H → va_D A (wX h cI σ) → va_S A s.heap H locs → W p l e ({ frames := 1, cells := 0, slots := 0, locals := 21 } : Room) s m (([.ref (h 0), .int a1] : List Value).toArray) below meth c H locs 0 0 Q (F0 m 0 ls []) from go _ _ hP hD hS
  intro H locs hP hD hS
  refine lv_iload_n hx hb dX4_out_0 rfl (lv_at hl 1 rfl) ?_
  refine lv_bipush (v := (-2 : Int32)) hx hb dX4_out_1 (by decide) ?_
  refine lv_icmp_ge (tgt := 8) hx hb dX4_out_3 (by decide) (fun c_3_1 => ?_) (fun c_3_1 => ?_)
  · have c_3_1 : (-2 : Int32) ≤ a1 := c_3_1
    refine lv_iload_n hx hb dX4_out_8 rfl (lv_at hl 1 rfl) ?_
    refine lv_bipush (v := (-2 : Int32)) hx hb dX4_out_9 (by decide) ?_
    refine lv_icmp_ne (tgt := 22) hx hb dX4_out_11 (by decide) (fun c_11_2 => ?_) (fun c_11_2 => ?_)
    · have c_11_2 : ¬ (a1 = (-2 : Int32)) := c_11_2
      refine lv_iload_n hx hb dX4_out_22 rfl (lv_at hl 1 rfl) ?_
      refine lv_iconst (v := (-1 : Int32)) hx hb dX4_out_23 (by decide) ?_
      refine lv_icmp_ne (tgt := 37) hx hb dX4_out_24 (by decide) (fun c_24_3 => ?_) (fun c_24_3 => ?_)
      · have c_24_3 : ¬ (a1 = (-1 : Int32)) := c_24_3
        refine lv_aload_n hx hb dX4_out_37 rfl (lv_at hl 0 rfl) ?_
        refine gX_ref4 hx hb hts hown hK hP kw_119 dX4_out_38 ?_
        refine lv_iload_n hx hb dX4_out_41 rfl (lv_at hl 1 rfl) ?_
        refine call_Vi 1 (kX1_signAt l D cI h _ a1) ⟨hx, hb, hml, hown, hts, hK, hN, hA⟩ ⟨kw_422, kw_423, kw_424, kw_3, kw_425, by decide +kernel, rfl, rfl, Nat.le_of_ble_eq_true rfl, Nat.le_of_ble_eq_true rfl⟩ rfl (va_recv hK hP (ci := 1) (q0 := 4) rfl rfl) hP hD hS hl.1 rfl (Nat.le_of_ble_eq_true rfl) dX4_out_42 ⟨Nat.zero_le _, Nat.zero_le _⟩ (fun r42 u H locs hw hP hD hS => ?_)
        have hw : (x1_signAt σ a1) = r42 := hw
        subst hw
        have hE : x4_out σ a1 = (x1_signAt σ a1) := (by unfold x4_out; rw [if_pos c_3_1, if_neg c_11_2, if_neg c_24_3])
        exact hret (x1_signAt σ a1) () _ _ _ _ rfl hE hP hD hS dX4_out_45
      · have c_24_3 : a1 = (-1 : Int32) := c_24_3
        refine lv_aload_n hx hb dX4_out_27 rfl (lv_at hl 0 rfl) ?_
        refine gX_ref4 hx hb hts hown hK hP kw_119 dX4_out_28 ?_
        refine gXN_outs (v := (g_outs σ)) hx hb hts hown hK hP (nc_at hN 10 rfl) rfl dX4_out_31 ?_
        refine lv_goto (tgt := 45) hx hb dX4_out_34 (by decide) ?_
        have hE : x4_out σ a1 = (g_outs σ) := (by unfold x4_out; rw [if_pos c_3_1, if_neg c_11_2, if_pos c_24_3])
        exact hret (g_outs σ) () _ _ _ _ rfl hE hP hD hS dX4_out_45
    · have c_11_2 : a1 = (-2 : Int32) := c_11_2
      refine lv_aload_n hx hb dX4_out_14 rfl (lv_at hl 0 rfl) ?_
      refine gX_ref4 hx hb hts hown hK hP kw_119 dX4_out_15 ?_
      refine gXN_lost (v := (g_lost σ)) hx hb hts hown hK hP (nc_at hN 9 rfl) rfl dX4_out_18 ?_
      have hE : x4_out σ a1 = (g_lost σ) := (by unfold x4_out; rw [if_pos c_3_1, if_pos c_11_2])
      exact hret (g_lost σ) () _ _ _ _ rfl hE hP hD hS dX4_out_21
  · have c_3_1 : ¬ ((-2 : Int32) ≤ a1) := c_3_1
    refine lv_iconst (v := (-1 : Int32)) hx hb dX4_out_6 (by decide) ?_
    have hE : x4_out σ a1 = (-1 : Int32) := (by unfold x4_out; rw [if_neg c_3_1])
    exact hret (-1 : Int32) () _ _ _ _ rfl hE hP hD hS dX4_out_7
def x4_value (σ : St) (a1 : Int32) : Int32 := (if (x4_isWord a1) = (0 : Int32) then (-1000000 : Int32) else (if (x4_signOf a1) = (0 : Int32) then a1 else (a1 - (262143 : Int32))))
set_option maxRecDepth 100000 in
set_option maxHeartbeats 8000000 in
theorem kX4_value (l : Launch) (D : va_G) (cI : ClassId) (h : Nat → Nat) (σ : St) (a1 : Int32) : MetI l yX4_value (wsU yX4_value cX4_value 2 (some .int)) { frames := 1, cells := 0, slots := 0, locals := 20 } D cI [.ref (h 0), .int a1] (wX h cI σ) (fun _ : Unit => wX h cI σ) (fun r _ => (x4_value σ a1) = r) := by
  refine MetI.of (by decide) (Nat.le_of_ble_eq_true rfl) ?_
  intro p e s m below meth c A Q ls hx hb hml hown hts hK hN hA hret hP hD hS hl
  have hown : s.vm.findClass RX4 = some m.cls := hown
  have hl : lv_has ls 2 [(0, .ref (h 0)), (1, .int a1)] := hl
  suffices go : ∀ (H : Heap) (locs : List Loc), va_P D vwCl (wX h cI σ) H → va_D A (wX h cI σ) → va_S A s.heap H locs → W p l e ({ frames := 1, cells := 0, slots := 0, locals := 20 } : Room) s m (([.ref (h 0), .int a1] : List Value).toArray) below meth c H locs 0 0 Q (F0 m 0 ls []) from go _ _ hP hD hS
  intro H locs hP hD hS
  refine lv_iload_n hx hb dX4_value_0 rfl (lv_at hl 1 rfl) ?_
  refine call_Si 1 (kX4_isWord l D cI _ a1) ⟨hx, hb, hml, hown, hts, hK, hN, hA⟩ ⟨kw_160, kw_161, kw_1, kw_162, by decide +kernel, rfl, rfl, Nat.le_of_ble_eq_true rfl, Nat.le_of_ble_eq_true rfl⟩ rfl hP hD hS hl.1 rfl (Nat.le_of_ble_eq_true rfl) dX4_value_1 ⟨Nat.zero_le _, Nat.zero_le _⟩ (fun r1 u H locs hw hP hD hS => ?_)
  have hw : (x4_isWord a1) = r1 := hw
  subst hw
  refine lv_if_ne (tgt := 10) hx hb dX4_value_4 (by decide) (fun c_4_1 => ?_) (fun c_4_1 => ?_)
  · have c_4_1 : ¬ ((x4_isWord a1) = (0 : Int32)) := c_4_1
    refine lv_iload_n hx hb dX4_value_10 rfl (lv_at hl 1 rfl) ?_
    refine call_Si 1 (kX4_signOf l D cI _ a1) ⟨hx, hb, hml, hown, hts, hK, hN, hA⟩ ⟨kw_273, kw_274, kw_1, kw_275, by decide +kernel, rfl, rfl, Nat.le_of_ble_eq_true rfl, Nat.le_of_ble_eq_true rfl⟩ rfl hP hD hS hl.1 rfl (Nat.le_of_ble_eq_true rfl) dX4_value_11 ⟨Nat.zero_le _, Nat.zero_le _⟩ (fun r11 u H locs hw hP hD hS => ?_)
    have hw : (x4_signOf a1) = r11 := hw
    subst hw
    refine lv_if_ne (tgt := 21) hx hb dX4_value_14 (by decide) (fun c_14_2 => ?_) (fun c_14_2 => ?_)
    · have c_14_2 : ¬ ((x4_signOf a1) = (0 : Int32)) := c_14_2
      refine lv_iload_n hx hb dX4_value_21 rfl (lv_at hl 1 rfl) ?_
      refine lv_ldc (v := (262143 : Int32)) hx hb hown (hts _ kw_163) dX4_value_22 ?_
      refine lv_isub hx hb dX4_value_24 ?_
      have hE : x4_value σ a1 = (a1 - (262143 : Int32)) := (by unfold x4_value; rw [if_neg c_4_1, if_neg c_14_2])
      exact hret (a1 - (262143 : Int32)) () _ _ _ _ rfl hE hP hD hS dX4_value_25
    · have c_14_2 : (x4_signOf a1) = (0 : Int32) := c_14_2
      refine lv_iload_n hx hb dX4_value_17 rfl (lv_at hl 1 rfl) ?_
      refine lv_goto (tgt := 25) hx hb dX4_value_18 (by decide) ?_
      have hE : x4_value σ a1 = a1 := (by unfold x4_value; rw [if_neg c_4_1, if_pos c_14_2])
      exact hret a1 () _ _ _ _ rfl hE hP hD hS dX4_value_25
  · have c_4_1 : (x4_isWord a1) = (0 : Int32) := c_4_1
    refine lv_ldc (v := (-1000000 : Int32)) hx hb hown (hts _ kw_430) dX4_value_7 ?_
    have hE : x4_value σ a1 = (-1000000 : Int32) := (by unfold x4_value; rw [if_pos c_4_1])
    exact hret (-1000000 : Int32) () _ _ _ _ rfl hE hP hD hS dX4_value_9
