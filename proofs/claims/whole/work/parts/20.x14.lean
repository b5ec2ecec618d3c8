def x4_word (σ : St) (a1 : Int32) : Int32 := (if a1 < (-131071 : Int32) then (-1 : Int32) else (if a1 ≤ (131071 : Int32) then (if (0 : Int32) ≤ a1 then a1 else (a1 + (262143 : Int32))) else (-1 : Int32)))
set_option maxRecDepth 100000 in
set_option maxHeartbeats 8000000 in
theorem kX4_word (l : Launch) (D : va_G) (cI : ClassId) (h : Nat → Nat) (σ : St) (a1 : Int32) : MetI l yX4_word (wsU yX4_word cX4_word 2 (some .int)) { frames := 0, cells := 0, slots := 0, locals := 0 } D cI [.ref (h 0), .int a1] (wX h cI σ) (fun _ : Unit => wX h cI σ) (fun r _ => (x4_word σ a1) = r) := by
  refine MetI.of (by decide) (Nat.le_of_ble_eq_true rfl) ?_
  intro p e s m below meth c A Q ls hx hb hml hown hts hK hN hA hret hP hD hS hl
  have hown : s.vm.findClass RX4 = some m.cls := hown
  have hl : lv_has ls 2 [(0, .ref (h 0)), (1, .int a1)] := hl
  suffices go : ∀ (H : Heap) (locs : List Loc), va_P D vwCl (wX h cI σ) H → va_D A (wX h cI σ) → va_S A s.heap H locs → W p l e ({ frames := 0, cells := 0, slots := 0, locals := 0 } : Room) s m (([.ref (h 0), .int a1] : List Value).toArray) below meth c H locs 0 0 Q (F0 m 0 ls []) from go _ _ hP hD hS
  intro H locs hP hD hS
  refine lv_iload_n hx hb dX4_word_0 rfl (lv_at hl 1 rfl) ?_
  refine lv_ldc (v := (-131071 : Int32)) hx hb hown (hts _ kw_435) dX4_word_1 ?_
  refine lv_icmp_lt (tgt := 12) hx hb dX4_word_3 (by decide) (fun c_3_1 => ?_) (fun c_3_1 => ?_)
  · have c_3_1 : a1 < (-131071 : Int32) := c_3_1
    refine lv_iconst (v := (-1 : Int32)) hx hb dX4_word_12 (by decide) ?_
    have hE : x4_word σ a1 = (-1 : Int32) := (by unfold x4_word; rw [if_pos c_3_1])
    exact hret (-1 : Int32) () _ _ _ _ rfl hE hP hD hS dX4_word_13
  · have c_3_1 : ¬ (a1 < (-131071 : Int32)) := c_3_1
    refine lv_iload_n hx hb dX4_word_6 rfl (lv_at hl 1 rfl) ?_
    refine lv_ldc (v := (131071 : Int32)) hx hb hown (hts _ kw_436) dX4_word_7 ?_
    refine lv_icmp_le (tgt := 14) hx hb dX4_word_9 (by decide) (fun c_9_2 => ?_) (fun c_9_2 => ?_)
    · have c_9_2 : a1 ≤ (131071 : Int32) := c_9_2
      refine lv_iload_n hx hb dX4_word_14 rfl (lv_at hl 1 rfl) ?_
      refine lv_if_ge (tgt := 25) hx hb dX4_word_15 (by decide) (fun c_15_3 => ?_) (fun c_15_3 => ?_)
      · have c_15_3 : (0 : Int32) ≤ a1 := c_15_3
        refine lv_iload_n hx hb dX4_word_25 rfl (lv_at hl 1 rfl) ?_
        have hE : x4_word σ a1 = a1 := (by unfold x4_word; rw [if_neg c_3_1, if_pos c_9_2, if_pos c_15_3])
        exact hret a1 () _ _ _ _ rfl hE hP hD hS dX4_word_26
      · have c_15_3 : ¬ ((0 : Int32) ≤ a1) := c_15_3
        refine lv_iload_n hx hb dX4_word_18 rfl (lv_at hl 1 rfl) ?_
        refine lv_ldc (v := (262143 : Int32)) hx hb hown (hts _ kw_163) dX4_word_19 ?_
        refine lv_iadd hx hb dX4_word_21 ?_
        refine lv_goto (tgt := 26) hx hb dX4_word_22 (by decide) ?_
        have hE : x4_word σ a1 = (a1 + (262143 : Int32)) := (by unfold x4_word; rw [if_neg c_3_1, if_pos c_9_2, if_neg c_15_3])
        exact hret (a1 + (262143 : Int32)) () _ _ _ _ rfl hE hP hD hS dX4_word_26
    · have c_9_2 : ¬ (a1 ≤ (131071 : Int32)) := c_9_2
      refine lv_iconst (v := (-1 : Int32)) hx hb dX4_word_12 (by decide) ?_
      have hE : x4_word σ a1 = (-1 : Int32) := (by unfold x4_word; rw [if_neg c_3_1, if_neg c_9_2])
      exact hret (-1 : Int32) () _ _ _ _ rfl hE hP hD hS dX4_word_13
def x4_reads (σ : St) (a1 : Int32) (a2 : Int32) : Int32 := (if (x4_isWord a1) = (0 : Int32) then (-1 : Int32) else (if a2 = (0 : Int32) then (x4_codeOf a1) else (if a2 = (1 : Int32) then (if (x4_hasI a1) = (0 : Int32) then (0 : Int32) else (1 : Int32)) else (if a2 = (2 : Int32) then (x4_yOf a1) else (if a2 = (3 : Int32) then (x4_onesOf a1) else (if a2 = (4 : Int32) then (if (x4_hasAddress a1) = (0 : Int32) then (0 : Int32) else (1 : Int32)) else (if a2 = (5 : Int32) then (if (x4_isIllegal a1) = (0 : Int32) then (0 : Int32) else (1 : Int32)) else (-1 : Int32))))))))
set_option maxRecDepth 100000 in
set_option maxHeartbeats 8000000 in
theorem kX4_reads (l : Launch) (D : va_G) (cI : ClassId) (h : Nat → Nat) (σ : St) (a1 : Int32) (a2 : Int32) : MetI l yX4_reads (wsU yX4_reads cX4_reads 3 (some .int)) { frames := 2, cells := 0, slots := 0, locals := 41 } D cI [.ref (h 0), .int a1, .int a2] (wX h cI σ) (fun _ : Unit => wX h cI σ) (fun r _ => (x4_reads σ a1 a2) = r) := by
  refine MetI.of (by decide) (Nat.le_of_ble_eq_true rfl) ?_
  intro p e s m below meth c A Q ls hx hb hml hown hts hK hN hA hret hP hD hS hl
  have hown : s.vm.findClass RX4 = some m.cls := hown
  have hl : lv_has ls 3 [(0, .ref (h 0)), (1, .int a1), (2, .int a2)] := hl
  suffices go : ∀ (H : Heap) (locs : List Loc), va_P D vwCl (wX h cI σ) H → va_D A (wX h cI σ) → va_S A s.heap H locs → W p l e ({ frames := 2, cells := 0, slots := 0, locals := 41 } : Room) s m (([.ref (h 0), .int a1, .int a2] : List Value).toArray) below meth c H locs 0 0 Q (F0 m 0 ls []) from go _ _ hP hD hS
  intro H locs hP hD hS
  refine lv_iload_n hx hb dX4_reads_0 rfl (lv_at hl 1 rfl) ?_
  refine call_Si 1 (kX4_isWord l D cI _ a1) ⟨hx, hb, hml, hown, hts, hK, hN, hA⟩ ⟨kw_160, kw_161, kw_1, kw_162, by decide +kernel, rfl, rfl, Nat.le_of_ble_eq_true rfl, Nat.le_of_ble_eq_true rfl⟩ rfl hP hD hS hl.1 rfl (Nat.le_of_ble_eq_true rfl) dX4_reads_1 ⟨Nat.zero_le _, Nat.zero_le _⟩ (fun r1 u H locs hw hP hD hS => ?_)
  have hw : (x4_isWord a1) = r1 := hw
  subst hw
  refine lv_if_ne (tgt := 9) hx hb dX4_reads_4 (by decide) (fun c_4_1 => ?_) (fun c_4_1 => ?_)
  · have c_4_1 : ¬ ((x4_isWord a1) = (0 : Int32)) := c_4_1
    refine lv_iload_n hx hb dX4_reads_9 rfl (lv_at hl 2 rfl) ?_
    by_cases s_10_2_0 : a2 = (0 : Int32)
    · refine lv_tableIn (off := 38) (tgt := 48) hx hb dX4_reads_10 (by rw [s_10_2_0]; decide) (by rw [s_10_2_0]; decide) (by rw [s_10_2_0]; rfl) (by decide) ?_
      refine lv_iload_n hx hb dX4_reads_48 rfl (lv_at hl 1 rfl) ?_
      refine call_Si 1 (kX4_codeOf l D cI _ a1) ⟨hx, hb, hml, hown, hts, hK, hN, hA⟩ ⟨kw_242, kw_243, kw_1, kw_244, by decide +kernel, rfl, rfl, Nat.le_of_ble_eq_true rfl, Nat.le_of_ble_eq_true rfl⟩ rfl hP hD hS hl.1 rfl (Nat.le_of_ble_eq_true rfl) dX4_reads_49 ⟨Nat.zero_le _, Nat.zero_le _⟩ (fun r49 u H locs hw hP hD hS => ?_)
      have hw : (x4_codeOf a1) = r49 := hw
      subst hw
      have hE : x4_reads σ a1 a2 = (x4_codeOf a1) := (by unfold x4_reads; rw [if_neg c_4_1, if_pos s_10_2_0])
      exact hret (x4_codeOf a1) () _ _ _ _ rfl hE hP hD hS dX4_reads_52
    by_cases s_10_2_1 : a2 = (1 : Int32)
    · refine lv_tableIn (off := 43) (tgt := 53) hx hb dX4_reads_10 (by rw [s_10_2_1]; decide) (by rw [s_10_2_1]; decide) (by rw [s_10_2_1]; rfl) (by decide) ?_
      refine lv_iload_n hx hb dX4_reads_53 rfl (lv_at hl 1 rfl) ?_
      refine call_Si 1 (kX4_hasI l D cI _ a1) ⟨hx, hb, hml, hown, hts, hK, hN, hA⟩ ⟨kw_249, kw_250, kw_1, kw_251, by decide +kernel, rfl, rfl, Nat.le_of_ble_eq_true rfl, Nat.le_of_ble_eq_true rfl⟩ rfl hP hD hS hl.1 rfl (Nat.le_of_ble_eq_true rfl) dX4_reads_54 ⟨Nat.zero_le _, Nat.zero_le _⟩ (fun r54 u H locs hw hP hD hS => ?_)
      have hw : (x4_hasI a1) = r54 := hw
      subst hw
      refine lv_if_eq (tgt := 64) hx hb dX4_reads_57 (by decide) (fun c_57_3 => ?_) (fun c_57_3 => ?_)
      · have c_57_3 : (x4_hasI a1) = (0 : Int32) := c_57_3
        refine lv_iconst (v := (0 : Int32)) hx hb dX4_reads_64 (by decide) ?_
        have hE : x4_reads σ a1 a2 = (0 : Int32) := (by unfold x4_reads; rw [if_neg c_4_1, if_neg s_10_2_0, if_pos s_10_2_1, if_pos c_57_3])
        exact hret (0 : Int32) () _ _ _ _ rfl hE hP hD hS dX4_reads_65
      · have c_57_3 : ¬ ((x4_hasI a1) = (0 : Int32)) := c_57_3
        refine lv_iconst (v := (1 : Int32)) hx hb dX4_reads_60 (by decide) ?_
        refine lv_goto (tgt := 65) hx hb dX4_reads_61 (by decide) ?_
        have hE : x4_reads σ a1 a2 = (1 : Int32) := (by unfold x4_reads; rw [if_neg c_4_1, if_neg s_10_2_0, if_pos s_10_2_1, if_neg c_57_3])
        exact hret (1 : Int32) () _ _ _ _ rfl hE hP hD hS dX4_reads_65
    by_cases s_10_2_2 : a2 = (2 : Int32)
    · refine lv_tableIn (off := 56) (tgt := 66) hx hb dX4_reads_10 (by rw [s_10_2_2]; decide) (by rw [s_10_2_2]; decide) (by rw [s_10_2_2]; rfl) (by decide) ?_
      refine lv_iload_n hx hb dX4_reads_66 rfl (lv_at hl 1 rfl) ?_
      refine call_Si 1 (kX4_yOf l D cI _ a1) ⟨hx, hb, hml, hown, hts, hK, hN, hA⟩ ⟨kw_252, kw_253, kw_1, kw_254, by decide +kernel, rfl, rfl, Nat.le_of_ble_eq_true rfl, Nat.le_of_ble_eq_true rfl⟩ rfl hP hD hS hl.1 rfl (Nat.le_of_ble_eq_true rfl) dX4_reads_67 ⟨Nat.zero_le _, Nat.zero_le _⟩ (fun r67 u H locs hw hP hD hS => ?_)
      have hw : (x4_yOf a1) = r67 := hw
      subst hw
      have hE : x4_reads σ a1 a2 = (x4_yOf a1) := (by unfold x4_reads; rw [if_neg c_4_1, if_neg s_10_2_0, if_neg s_10_2_1, if_pos s_10_2_2])
      exact hret (x4_yOf a1) () _ _ _ _ rfl hE hP hD hS dX4_reads_70
    by_cases s_10_2_3 : a2 = (3 : Int32)
    · refine lv_tableIn (off := 61) (tgt := 71) hx hb dX4_reads_10 (by rw [s_10_2_3]; decide) (by rw [s_10_2_3]; decide) (by rw [s_10_2_3]; rfl) (by decide) ?_
      refine lv_iload_n hx hb dX4_reads_71 rfl (lv_at hl 1 rfl) ?_
      refine call_Si 1 (kX4_onesOf l D cI _ a1) ⟨hx, hb, hml, hown, hts, hK, hN, hA⟩ ⟨kw_298, kw_299, kw_1, kw_300, by decide +kernel, rfl, rfl, Nat.le_of_ble_eq_true rfl, Nat.le_of_ble_eq_true rfl⟩ rfl hP hD hS hl.1 rfl (Nat.le_of_ble_eq_true rfl) dX4_reads_72 ⟨Nat.zero_le _, Nat.zero_le _⟩ (fun r72 u H locs hw hP hD hS => ?_)
      have hw : (x4_onesOf a1) = r72 := hw
      subst hw
      have hE : x4_reads σ a1 a2 = (x4_onesOf a1) := (by unfold x4_reads; rw [if_neg c_4_1, if_neg s_10_2_0, if_neg s_10_2_1, if_neg s_10_2_2, if_pos s_10_2_3])
      exact hret (x4_onesOf a1) () _ _ _ _ rfl hE hP hD hS dX4_reads_75
    by_cases s_10_2_4 : a2 = (4 : Int32)
    · refine lv_tableIn (off := 66) (tgt := 76) hx hb dX4_reads_10 (by rw [s_10_2_4]; decide) (by rw [s_10_2_4]; decide) (by rw [s_10_2_4]; rfl) (by decide) ?_
      refine lv_iload_n hx hb dX4_reads_76 rfl (lv_at hl 1 rfl) ?_
      refine call_Si 1 (kX4_hasAddress l D cI _ a1) ⟨hx, hb, hml, hown, hts, hK, hN, hA⟩ ⟨kw_276, kw_277, kw_1, kw_278, by decide +kernel, rfl, rfl, Nat.le_of_ble_eq_true rfl, Nat.le_of_ble_eq_true rfl⟩ rfl hP hD hS hl.1 rfl (Nat.le_of_ble_eq_true rfl) dX4_reads_77 ⟨Nat.zero_le _, Nat.zero_le _⟩ (fun r77 u H locs hw hP hD hS => ?_)
      have hw : (x4_hasAddress a1) = r77 := hw
      subst hw
      refine lv_if_eq (tgt := 87) hx hb dX4_reads_80 (by decide) (fun c_80_4 => ?_) (fun c_80_4 => ?_)
      · have c_80_4 : (x4_hasAddress a1) = (0 : Int32) := c_80_4
        refine lv_iconst (v := (0 : Int32)) hx hb dX4_reads_87 (by decide) ?_
        have hE : x4_reads σ a1 a2 = (0 : Int32) := (by unfold x4_reads; rw [if_neg c_4_1, if_neg s_10_2_0, if_neg s_10_2_1, if_neg s_10_2_2, if_neg s_10_2_3, if_pos s_10_2_4, if_pos c_80_4])
        exact hret (0 : Int32) () _ _ _ _ rfl hE hP hD hS dX4_reads_88
      · have c_80_4 : ¬ ((x4_hasAddress a1) = (0 : Int32)) := c_80_4
        refine lv_iconst (v := (1 : Int32)) hx hb dX4_reads_83 (by decide) ?_
        refine lv_goto (tgt := 88) hx hb dX4_reads_84 (by decide) ?_
        have hE : x4_reads σ a1 a2 = (1 : Int32) := (by unfold x4_reads; rw [if_neg c_4_1, if_neg s_10_2_0, if_neg s_10_2_1, if_neg s_10_2_2, if_neg s_10_2_3, if_pos s_10_2_4, if_neg c_80_4])
        exact hret (1 : Int32) () _ _ _ _ rfl hE hP hD hS dX4_reads_88
    by_cases s_10_2_5 : a2 = (5 : Int32)
    · refine lv_tableIn (off := 79) (tgt := 89) hx hb dX4_reads_10 (by rw [s_10_2_5]; decide) (by rw [s_10_2_5]; decide) (by rw [s_10_2_5]; rfl) (by decide) ?_
      refine lv_iload_n hx hb dX4_reads_89 rfl (lv_at hl 1 rfl) ?_
      refine call_Si 1 (kX4_isIllegal l D cI _ a1) ⟨hx, hb, hml, hown, hts, hK, hN, hA⟩ ⟨kw_259, kw_260, kw_1, kw_261, by decide +kernel, rfl, rfl, Nat.le_of_ble_eq_true rfl, Nat.le_of_ble_eq_true rfl⟩ rfl hP hD hS hl.1 rfl (Nat.le_of_ble_eq_true rfl) dX4_reads_90 ⟨Nat.zero_le _, Nat.zero_le _⟩ (fun r90 u H locs hw hP hD hS => ?_)
      have hw : (x4_isIllegal a1) = r90 := hw
      subst hw
      refine lv_if_eq (tgt := 100) hx hb dX4_reads_93 (by decide) (fun c_93_5 => ?_) (fun c_93_5 => ?_)
      · have c_93_5 : (x4_isIllegal a1) = (0 : Int32) := c_93_5
        refine lv_iconst (v := (0 : Int32)) hx hb dX4_reads_100 (by decide) ?_
        have hE : x4_reads σ a1 a2 = (0 : Int32) := (by unfold x4_reads; rw [if_neg c_4_1, if_neg s_10_2_0, if_neg s_10_2_1, if_neg s_10_2_2, if_neg s_10_2_3, if_neg s_10_2_4, if_pos s_10_2_5, if_pos c_93_5])
        exact hret (0 : Int32) () _ _ _ _ rfl hE hP hD hS dX4_reads_101
      · have c_93_5 : ¬ ((x4_isIllegal a1) = (0 : Int32)) := c_93_5
        refine lv_iconst (v := (1 : Int32)) hx hb dX4_reads_96 (by decide) ?_
        refine lv_goto (tgt := 101) hx hb dX4_reads_97 (by decide) ?_
        have hE : x4_reads σ a1 a2 = (1 : Int32) := (by unfold x4_reads; rw [if_neg c_4_1, if_neg s_10_2_0, if_neg s_10_2_1, if_neg s_10_2_2, if_neg s_10_2_3, if_neg s_10_2_4, if_pos s_10_2_5, if_neg c_93_5])
        exact hret (1 : Int32) () _ _ _ _ rfl hE hP hD hS dX4_reads_101
    refine lv_tableOut (tgt := 102) hx hb dX4_reads_10 (by have q0 := lv_neT s_10_2_0 (show (0 : Int32).toInt = 0 by decide); have q1 := lv_neT s_10_2_1 (show (1 : Int32).toInt = 1 by decide); have q2 := lv_neT s_10_2_2 (show (2 : Int32).toInt = 2 by decide); have q3 := lv_neT s_10_2_3 (show (3 : Int32).toInt = 3 by decide); have q4 := lv_neT s_10_2_4 (show (4 : Int32).toInt = 4 by decide); have q5 := lv_neT s_10_2_5 (show (5 : Int32).toInt = 5 by decide); omega) (by decide) ?_
    refine lv_iconst (v := (-1 : Int32)) hx hb dX4_reads_102 (by decide) ?_
    have hE : x4_reads σ a1 a2 = (-1 : Int32) := (by unfold x4_reads; rw [if_neg c_4_1, if_neg s_10_2_0, if_neg s_10_2_1, if_neg s_10_2_2, if_neg s_10_2_3, if_neg s_10_2_4, if_neg s_10_2_5])
    exact hret (-1 : Int32) () _ _ _ _ rfl hE hP hD hS dX4_reads_103
  · have c_4_1 : (x4_isWord a1) = (0 : Int32) := c_4_1
    refine lv_iconst (v := (-1 : Int32)) hx hb dX4_reads_7 (by decide) ?_
    have hE : x4_reads σ a1 a2 = (-1 : Int32) := (by unfold x4_reads; rw [if_pos c_4_1])
    exact hret (-1 : Int32) () _ _ _ _ rfl hE hP hD hS dX4_reads_8
def x4_digest_4 : Nat → St → Int32 → Int32 → Int32
  | 0, σ, _, _ => 0
  | n + 1, σ, x1_4, x2_4 => (if (4096 : Int32) ≤ x2_4 then x1_4 else x4_digest_4 n σ (((31 : Int32) * x1_4) + (x4_fetch σ x2_4)) (x2_4 + (1 : Int32)))
def x4_digest (σ : St)  : Int32 := x4_digest_4 (4097) σ (0 : Int32) (0 : Int32)
set_option maxRecDepth 100000 in
set_option maxHeartbeats 8000000 in
theorem kX4_digest (l : Launch) (D : va_G) (cI : ClassId) (h : Nat → Nat) (σ : St)  : MetI l yX4_digest (wsU yX4_digest cX4_digest 3 (some .int)) { frames := 1, cells := 0, slots := 0, locals := 21 } D cI [.ref (h 0)] (wX h cI σ) (fun _ : Unit => wX h cI σ) (fun r _ => (x4_digest σ) = r) := by
  refine MetI.of (by decide) (Nat.le_of_ble_eq_true rfl) ?_
  intro p e s m below meth c A Q ls hx hb hml hown hts hK hN hA hret hP hD hS hl
  have hown : s.vm.findClass RX4 = some m.cls := hown
  have hl : lv_has ls 3 [(0, .ref (h 0))] := hl
  have J_4 : ∀ (n : Nat) (x1_4 : Int32) (x2_4 : Int32) (H : Heap) (locs : List Loc) (ls : Array Slot), (∃ k : Nat, x2_4 = nI k ∧ k ≤ 4096 ∧ k + n = 4097) → x4_digest σ = x4_digest_4 n σ x1_4 x2_4 → lv_has ls 3 [(0, .ref (h 0)), (1, .int x1_4), (2, .int x2_4)] → va_P D vwCl (wX h cI σ) H → va_D A (wX h cI σ) → va_S A s.heap H locs → W p l e ({ frames := 1, cells := 0, slots := 0, locals := 21 } : Room) s m (([.ref (h 0)] : List Value).toArray) below meth c H locs 0 0 Q (F0 m 4 ls []) := by
    intro n
    induction n with
    | zero => intro x1_4 x2_4 H locs ls hI E hl hP hD hS; obtain ⟨k, hk1, hk2, hk3⟩ := hI; omega
    | succ n ih =>
      intro x1_4 x2_4 H locs ls hI E hl hP hD hS
      obtain ⟨k, hk1, hk2, hk3⟩ := hI
      refine lv_iload_n hx hb dX4_digest_4 rfl (lv_at hl 2 rfl) ?_
      refine lv_sipush (v := (4096 : Int32)) hx hb dX4_digest_5 (by decide) ?_
      refine lv_icmp_ge (tgt := 28) hx hb dX4_digest_8 (by decide) (fun c_8_1 => ?_) (fun c_8_1 => ?_)
      · have c_8_1 : (4096 : Int32) ≤ x2_4 := c_8_1
        refine lv_iload_n hx hb dX4_digest_28 rfl (lv_at hl 1 rfl) ?_
        have hE : x4_digest σ = x1_4 := (E.trans (by rw [x4_digest_4, if_pos c_8_1]))
        exact hret x1_4 () _ _ _ _ rfl hE hP hD hS dX4_digest_29
      · have c_8_1 : ¬ ((4096 : Int32) ≤ x2_4) := c_8_1
        refine lv_bipush (v := (31 : Int32)) hx hb dX4_digest_11 (by decide) ?_
        refine lv_iload_n hx hb dX4_digest_13 rfl (lv_at hl 1 rfl) ?_
        refine lv_imul hx hb dX4_digest_14 ?_
        refine lv_aload_n hx hb dX4_digest_15 rfl (lv_at hl 0 rfl) ?_
        refine lv_iload_n hx hb dX4_digest_16 rfl (lv_at hl 2 rfl) ?_
        refine call_Vi 1 (kX4_fetch l D cI h _ x2_4) ⟨hx, hb, hml, hown, hts, hK, hN, hA⟩ ⟨kw_164, kw_166, ks_yX4_fetch, kw_1, kw_167, by decide +kernel, rfl, rfl, Nat.le_of_ble_eq_true rfl, Nat.le_of_ble_eq_true rfl⟩ rfl (va_recv hK hP (ci := 4) (q0 := 0) rfl rfl) hP hD hS hl.1 rfl (Nat.le_of_ble_eq_true rfl) dX4_digest_17 ⟨Nat.zero_le _, Nat.zero_le _⟩ (fun r17 u H locs hw hP hD hS => ?_)
        have hw : (x4_fetch σ x2_4) = r17 := hw
        subst hw
        refine lv_iadd hx hb dX4_digest_20 ?_
        refine lv_istore_n (lv' := [(1, .int (((31 : Int32) * x1_4) + (x4_fetch σ x2_4))), (0, .ref (h 0)), (2, .int x2_4)]) hx hb dX4_digest_21 rfl hl (by decide) rfl (fun ls hl => ?_)
        refine lv_iinc (v := (x2_4 + (1 : Int32))) (lv' := [(2, .int (x2_4 + (1 : Int32))), (1, .int (((31 : Int32) * x1_4) + (x4_fetch σ x2_4))), (0, .ref (h 0))]) hx hb dX4_digest_22 hl (k := 2) rfl (rfl) (by decide) rfl (fun ls hl => ?_)
        refine lv_goto (tgt := 4) hx hb dX4_digest_25 (by decide) ?_
        exact ih (((31 : Int32) * x1_4) + (x4_fetch σ x2_4)) (x2_4 + (1 : Int32)) _ _ _ (⟨k + 1, by rw [hk1]; exact nI_1 k, lp_c (by assumption) hk1 hk2 (by decide), by omega⟩) (E.trans (by rw [x4_digest_4, if_neg c_8_1])) (lv_sub hl [2, 1, 0] rfl) hP hD hS
  suffices go : ∀ (H : Heap) (locs : List Loc), va_P D vwCl (wX h cI σ) H → va_D A (wX h cI σ) → va_S A s.heap H locs → W p l e ({ frames := 1, cells := 0, slots := 0, locals := 21 } : Room) s m (([.ref (h 0)] : List Value).toArray) below meth c H locs 0 0 Q (F0 m 0 ls []) from go _ _ hP hD hS
  intro H locs hP hD hS
  refine lv_iconst (v := (0 : Int32)) hx hb dX4_digest_0 (by decide) ?_
  refine lv_istore_n (lv' := [(1, .int (0 : Int32)), (0, .ref (h 0))]) hx hb dX4_digest_1 rfl hl (by decide) rfl (fun ls hl => ?_)
  refine lv_iconst (v := (0 : Int32)) hx hb dX4_digest_2 (by decide) ?_
  refine lv_istore_n (lv' := [(2, .int (0 : Int32)), (1, .int (0 : Int32)), (0, .ref (h 0))]) hx hb dX4_digest_3 rfl hl (by decide) rfl (fun ls hl => ?_)
  exact J_4 (4097) (0 : Int32) (0 : Int32) _ _ _ (⟨0, rfl, Nat.zero_le _, rfl⟩) (by unfold x4_digest; rfl) (lv_sub hl [2, 1, 0] rfl) hP hD hS
