def m_set_32 (σ : St) (x1_32 : Int32) (x2_32 : Int32) (z0_32 : Int32) : Int32 × St := (if (m_in x1_32 (0 : Int32) (5 : Int32)) = (0 : Int32) then ((-1 : Int32), σ) else (if (m_in x2_32 (0 : Int32) z0_32) = (0 : Int32) then ((-1 : Int32), σ) else (if x1_32 = (0 : Int32) then ((m_told σ x1_32), (s_ac σ x2_32)) else (if x1_32 = (1 : Int32) then ((m_told σ x1_32), (s_io σ x2_32)) else (if x1_32 = (2 : Int32) then ((m_told σ x1_32), (s_pc σ x2_32)) else (if x1_32 = (3 : Int32) then ((m_told σ x1_32), (s_ov σ x2_32)) else (if x1_32 = (4 : Int32) then ((m_told σ x1_32), (s_flags σ x2_32)) else (if x2_32 = (1 : Int32) then ((m_told σ x1_32), (s_on σ (1 : Int32))) else ((m_told σ x1_32), (s_on σ (0 : Int32)))))))))))
def m_set (σ : St) (a1 : Int32) (a2 : Int32) : Int32 × St := (if (2 : Int32) ≤ a1 then (if a1 = (2 : Int32) then m_set_32 σ a1 a2 (4095 : Int32) else (if a1 = (4 : Int32) then m_set_32 σ a1 a2 (63 : Int32) else m_set_32 σ a1 a2 (1 : Int32))) else m_set_32 σ a1 a2 (262143 : Int32))
set_option maxRecDepth 100000 in
set_option maxHeartbeats 8000000 in
theorem kX5_set (l : Launch) (D : va_G) (cI : ClassId) (h : Nat → Nat) (σ : St) (a1 : Int32) (a2 : Int32) : MetI l yX5_set (wsU yX5_set cX5_set 5 (some .int)) { frames := 1, cells := 0, slots := 0, locals := 22 } D cI [.ref (h 0), .int a1, .int a2] (wM h cI σ) (fun u : St => wM h cI u) (fun r u => (m_set σ a1 a2).1 = r ∧ (m_set σ a1 a2).2 = u) := by
  refine MetI.of (by decide) (Nat.le_of_ble_eq_true rfl) ?_
  intro p e s m below meth c A Q ls hx hb hml hown hts hK hN hA hret hP hD hS hl
  have hown : s.vm.findClass RX5 = some m.cls := hown
  have hl : lv_has ls 5 [(0, .ref (h 0)), (1, .int a1), (2, .int a2)] := hl
  have J_32 : ∀ (σ' : St) (x1_32 : Int32) (x2_32 : Int32) (z0_32 : Int32) (H : Heap) (locs : List Loc) (ls : Array Slot), m_set σ a1 a2 = m_set_32 σ' x1_32 x2_32 z0_32 → lv_has ls 5 [(0, .ref (h 0)), (1, .int x1_32), (2, .int x2_32)] → va_P D vwCl (wM h cI σ') H → va_D A (wM h cI σ') → va_S A s.heap H locs → W p l e ({ frames := 1, cells := 0, slots := 0, locals := 22 } : Room) s m (([.ref (h 0), .int a1, .int a2] : List Value).toArray) below meth c H locs 0 0 Q (F0 m 32 ls [.int z0_32]) := by
    intro σ' x1_32 x2_32 z0_32 H locs ls E hl hP hD hS
    refine lv_istore_n (lv' := [(3, .int z0_32), (0, .ref (h 0)), (1, .int x1_32), (2, .int x2_32)]) hx hb dX5_set_32 rfl hl (by decide) rfl (fun ls hl => ?_)
    refine lv_iload_n hx hb dX5_set_33 rfl (lv_at hl 2 rfl) ?_
    refine lv_iconst (v := (0 : Int32)) hx hb dX5_set_34 (by decide) ?_
    refine lv_iconst (v := (5 : Int32)) hx hb dX5_set_35 (by decide) ?_
    refine call_Si 3 (kX5_in l D cI _ x1_32 (0 : Int32) (5 : Int32)) ⟨hx, hb, hml, hown, hts, hK, hN, hA⟩ ⟨kw_522, kw_523, kw_6, kw_524, by decide +kernel, rfl, rfl, Nat.le_of_ble_eq_true rfl, Nat.le_of_ble_eq_true rfl⟩ rfl hP hD hS hl.1 rfl (Nat.le_of_ble_eq_true rfl) dX5_set_36 ⟨Nat.zero_le _, Nat.zero_le _⟩ (fun r36 u H locs hw hP hD hS => ?_)
    have hw : (m_in x1_32 (0 : Int32) (5 : Int32)) = r36 := hw
    subst hw
    refine lv_if_eq (tgt := 51) hx hb dX5_set_39 (by decide) (fun c_39_4 => ?_) (fun c_39_4 => ?_)
    · have c_39_4 : (m_in x1_32 (0 : Int32) (5 : Int32)) = (0 : Int32) := c_39_4
      refine lv_iconst (v := (-1 : Int32)) hx hb dX5_set_51 (by decide) ?_
      have hE : m_set σ a1 a2 = ((-1 : Int32), σ') := (E.trans (by unfold m_set_32; rw [if_pos c_39_4]))
      exact hret (-1 : Int32) σ' _ _ _ _ rfl ⟨by rw [hE], by rw [hE]⟩ hP hD hS dX5_set_52
    · have c_39_4 : ¬ ((m_in x1_32 (0 : Int32) (5 : Int32)) = (0 : Int32)) := c_39_4
      refine lv_iload_n hx hb dX5_set_42 rfl (lv_at hl 3 rfl) ?_
      refine lv_iconst (v := (0 : Int32)) hx hb dX5_set_43 (by decide) ?_
      refine lv_iload_n hx hb dX5_set_44 rfl (lv_at hl 0 rfl) ?_
      refine call_Si 3 (kX5_in l D cI _ x2_32 (0 : Int32) z0_32) ⟨hx, hb, hml, hown, hts, hK, hN, hA⟩ ⟨kw_522, kw_523, kw_6, kw_524, by decide +kernel, rfl, rfl, Nat.le_of_ble_eq_true rfl, Nat.le_of_ble_eq_true rfl⟩ rfl hP hD hS hl.1 rfl (Nat.le_of_ble_eq_true rfl) dX5_set_45 ⟨Nat.zero_le _, Nat.zero_le _⟩ (fun r45 u H locs hw hP hD hS => ?_)
      have hw : (m_in x2_32 (0 : Int32) z0_32) = r45 := hw
      subst hw
      refine lv_if_ne (tgt := 53) hx hb dX5_set_48 (by decide) (fun c_48_5 => ?_) (fun c_48_5 => ?_)
      · have c_48_5 : ¬ ((m_in x2_32 (0 : Int32) z0_32) = (0 : Int32)) := c_48_5
        refine lv_aload_n hx hb dX5_set_53 rfl (lv_at hl 1 rfl) ?_
        refine lv_iload_n hx hb dX5_set_54 rfl (lv_at hl 2 rfl) ?_
        refine call_Vi 1 (kX5_told l D cI h _ x1_32) ⟨hx, hb, hml, hown, hts, hK, hN, hA⟩ ⟨kw_542, kw_535, kw_536, kw_6, kw_537, by decide +kernel, rfl, rfl, Nat.le_of_ble_eq_true rfl, Nat.le_of_ble_eq_true rfl⟩ rfl (va_recv hK hP (ci := 5) (q0 := 0) rfl rfl) hP hD hS hl.1 rfl (Nat.le_of_ble_eq_true rfl) dX5_set_55 ⟨Nat.zero_le _, Nat.zero_le _⟩ (fun r55 u H locs hw hP hD hS => ?_)
        have hw : (m_told σ' x1_32) = r55 := hw
        subst hw
        refine lv_istore (lv' := [(4, .int (m_told σ' x1_32)), (3, .int z0_32), (0, .ref (h 0)), (1, .int x1_32), (2, .int x2_32)]) hx hb dX5_set_58 hl (by decide) rfl (fun ls hl => ?_)
        refine lv_iload_n hx hb dX5_set_60 rfl (lv_at hl 3 rfl) ?_
        by_cases s_61_6_0 : x1_32 = (0 : Int32)
        · refine lv_tableIn (off := 35) (tgt := 96) hx hb dX5_set_61 (by rw [s_61_6_0]; decide) (by rw [s_61_6_0]; decide) (by rw [s_61_6_0]; rfl) (by decide) ?_
          refine lv_aload_n hx hb dX5_set_96 rfl (lv_at hl 2 rfl) ?_
          refine lv_iload_n hx hb dX5_set_97 rfl (lv_at hl 4 rfl) ?_
          refine pM_ac hx hb hts hown hK hP hD hS kw_452 dX5_set_98 (fun H locs hP hD hS => ?_)
          refine lv_goto (tgt := 150) hx hb dX5_set_101 (by decide) ?_
          refine lv_iload hx hb dX5_set_150 (lv_at hl 0 rfl) ?_
          have hE : m_set σ a1 a2 = ((m_told σ' x1_32), (s_ac σ' x2_32)) := (E.trans (by unfold m_set_32; rw [if_neg c_39_4, if_neg c_48_5, if_pos s_61_6_0]))
          exact hret (m_told σ' x1_32) (s_ac σ' x2_32) _ _ _ _ rfl ⟨by rw [hE], by rw [hE]⟩ hP hD hS dX5_set_152
        by_cases s_61_6_1 : x1_32 = (1 : Int32)
        · refine lv_tableIn (off := 43) (tgt := 104) hx hb dX5_set_61 (by rw [s_61_6_1]; decide) (by rw [s_61_6_1]; decide) (by rw [s_61_6_1]; rfl) (by decide) ?_
          refine lv_aload_n hx hb dX5_set_104 rfl (lv_at hl 2 rfl) ?_
          refine lv_iload_n hx hb dX5_set_105 rfl (lv_at hl 4 rfl) ?_
          refine pM_io hx hb hts hown hK hP hD hS kw_453 dX5_set_106 (fun H locs hP hD hS => ?_)
          refine lv_goto (tgt := 150) hx hb dX5_set_109 (by decide) ?_
          refine lv_iload hx hb dX5_set_150 (lv_at hl 0 rfl) ?_
          have hE : m_set σ a1 a2 = ((m_told σ' x1_32), (s_io σ' x2_32)) := (E.trans (by unfold m_set_32; rw [if_neg c_39_4, if_neg c_48_5, if_neg s_61_6_0, if_pos s_61_6_1]))
          exact hret (m_told σ' x1_32) (s_io σ' x2_32) _ _ _ _ rfl ⟨by rw [hE], by rw [hE]⟩ hP hD hS dX5_set_152
        by_cases s_61_6_2 : x1_32 = (2 : Int32)
        · refine lv_tableIn (off := 51) (tgt := 112) hx hb dX5_set_61 (by rw [s_61_6_2]; decide) (by rw [s_61_6_2]; decide) (by rw [s_61_6_2]; rfl) (by decide) ?_
          refine lv_aload_n hx hb dX5_set_112 rfl (lv_at hl 2 rfl) ?_
          refine lv_iload_n hx hb dX5_set_113 rfl (lv_at hl 4 rfl) ?_
          refine pM_pc hx hb hts hown hK hP hD hS kw_454 dX5_set_114 (fun H locs hP hD hS => ?_)
          refine lv_goto (tgt := 150) hx hb dX5_set_117 (by decide) ?_
          refine lv_iload hx hb dX5_set_150 (lv_at hl 0 rfl) ?_
          have hE : m_set σ a1 a2 = ((m_told σ' x1_32), (s_pc σ' x2_32)) := (E.trans (by unfold m_set_32; rw [if_neg c_39_4, if_neg c_48_5, if_neg s_61_6_0, if_neg s_61_6_1, if_pos s_61_6_2]))
          exact hret (m_told σ' x1_32) (s_pc σ' x2_32) _ _ _ _ rfl ⟨by rw [hE], by rw [hE]⟩ hP hD hS dX5_set_152
        by_cases s_61_6_3 : x1_32 = (3 : Int32)
        · refine lv_tableIn (off := 59) (tgt := 120) hx hb dX5_set_61 (by rw [s_61_6_3]; decide) (by rw [s_61_6_3]; decide) (by rw [s_61_6_3]; rfl) (by decide) ?_
          refine lv_aload_n hx hb dX5_set_120 rfl (lv_at hl 2 rfl) ?_
          refine lv_iload_n hx hb dX5_set_121 rfl (lv_at hl 4 rfl) ?_
          refine pM_ov hx hb hts hown hK hP hD hS kw_455 dX5_set_122 (fun H locs hP hD hS => ?_)
          refine lv_goto (tgt := 150) hx hb dX5_set_125 (by decide) ?_
          refine lv_iload hx hb dX5_set_150 (lv_at hl 0 rfl) ?_
          have hE : m_set σ a1 a2 = ((m_told σ' x1_32), (s_ov σ' x2_32)) := (E.trans (by unfold m_set_32; rw [if_neg c_39_4, if_neg c_48_5, if_neg s_61_6_0, if_neg s_61_6_1, if_neg s_61_6_2, if_pos s_61_6_3]))
          exact hret (m_told σ' x1_32) (s_ov σ' x2_32) _ _ _ _ rfl ⟨by rw [hE], by rw [hE]⟩ hP hD hS dX5_set_152
        by_cases s_61_6_4 : x1_32 = (4 : Int32)
        · refine lv_tableIn (off := 67) (tgt := 128) hx hb dX5_set_61 (by rw [s_61_6_4]; decide) (by rw [s_61_6_4]; decide) (by rw [s_61_6_4]; rfl) (by decide) ?_
          refine lv_aload_n hx hb dX5_set_128 rfl (lv_at hl 2 rfl) ?_
          refine lv_iload_n hx hb dX5_set_129 rfl (lv_at hl 4 rfl) ?_
          refine pM_flags hx hb hts hown hK hP hD hS kw_456 dX5_set_130 (fun H locs hP hD hS => ?_)
          refine lv_goto (tgt := 150) hx hb dX5_set_133 (by decide) ?_
          refine lv_iload hx hb dX5_set_150 (lv_at hl 0 rfl) ?_
          have hE : m_set σ a1 a2 = ((m_told σ' x1_32), (s_flags σ' x2_32)) := (E.trans (by unfold m_set_32; rw [if_neg c_39_4, if_neg c_48_5, if_neg s_61_6_0, if_neg s_61_6_1, if_neg s_61_6_2, if_neg s_61_6_3, if_pos s_61_6_4]))
          exact hret (m_told σ' x1_32) (s_flags σ' x2_32) _ _ _ _ rfl ⟨by rw [hE], by rw [hE]⟩ hP hD hS dX5_set_152
        refine lv_tableOut (tgt := 136) hx hb dX5_set_61 (by have q0 := lv_neT s_61_6_0 (show (0 : Int32).toInt = 0 by decide); have q1 := lv_neT s_61_6_1 (show (1 : Int32).toInt = 1 by decide); have q2 := lv_neT s_61_6_2 (show (2 : Int32).toInt = 2 by decide); have q3 := lv_neT s_61_6_3 (show (3 : Int32).toInt = 3 by decide); have q4 := lv_neT s_61_6_4 (show (4 : Int32).toInt = 4 by decide); omega) (by decide) ?_
        refine lv_aload_n hx hb dX5_set_136 rfl (lv_at hl 2 rfl) ?_
        refine lv_iload_n hx hb dX5_set_137 rfl (lv_at hl 4 rfl) ?_
        refine lv_iconst (v := (1 : Int32)) hx hb dX5_set_138 (by decide) ?_
        refine lv_icmp_ne (tgt := 146) hx hb dX5_set_139 (by decide) (fun c_139_7 => ?_) (fun c_139_7 => ?_)
        · have c_139_7 : ¬ (x2_32 = (1 : Int32)) := c_139_7
          refine lv_iconst (v := (0 : Int32)) hx hb dX5_set_146 (by decide) ?_
          refine pM_on hx hb hts hown hK hP hD hS kw_457 ⟨rfl, rfl⟩ dX5_set_147 (fun H locs hP hD hS => ?_)
          refine lv_iload hx hb dX5_set_150 (lv_at hl 0 rfl) ?_
          have hE : m_set σ a1 a2 = ((m_told σ' x1_32), (s_on σ' (0 : Int32))) := (E.trans (by unfold m_set_32; rw [if_neg c_39_4, if_neg c_48_5, if_neg s_61_6_0, if_neg s_61_6_1, if_neg s_61_6_2, if_neg s_61_6_3, if_neg s_61_6_4, if_neg c_139_7]))
          exact hret (m_told σ' x1_32) (s_on σ' (0 : Int32)) _ _ _ _ rfl ⟨by rw [hE], by rw [hE]⟩ hP hD hS dX5_set_152
        · have c_139_7 : x2_32 = (1 : Int32) := c_139_7
          refine lv_iconst (v := (1 : Int32)) hx hb dX5_set_142 (by decide) ?_
          refine lv_goto (tgt := 147) hx hb dX5_set_143 (by decide) ?_
          refine pM_on hx hb hts hown hK hP hD hS kw_457 ⟨rfl, rfl⟩ dX5_set_147 (fun H locs hP hD hS => ?_)
          refine lv_iload hx hb dX5_set_150 (lv_at hl 0 rfl) ?_
          have hE : m_set σ a1 a2 = ((m_told σ' x1_32), (s_on σ' (1 : Int32))) := (E.trans (by unfold m_set_32; rw [if_neg c_39_4, if_neg c_48_5, if_neg s_61_6_0, if_neg s_61_6_1, if_neg s_61_6_2, if_neg s_61_6_3, if_neg s_61_6_4, if_pos c_139_7]))
          exact hret (m_told σ' x1_32) (s_on σ' (1 : Int32)) _ _ _ _ rfl ⟨by rw [hE], by rw [hE]⟩ hP hD hS dX5_set_152
      · have c_48_5 : (m_in x2_32 (0 : Int32) z0_32) = (0 : Int32) := c_48_5
        refine lv_iconst (v := (-1 : Int32)) hx hb dX5_set_51 (by decide) ?_
        have hE : m_set σ a1 a2 = ((-1 : Int32), σ') := (E.trans (by unfold m_set_32; rw [if_neg c_39_4, if_pos c_48_5]))
        exact hret (-1 : Int32) σ' _ _ _ _ rfl ⟨by rw [hE], by rw [hE]⟩ hP hD hS dX5_set_52
  suffices go : ∀ (H : Heap) (locs : List Loc), va_P D vwCl (wM h cI σ) H → va_D A (wM h cI σ) → va_S A s.heap H locs → W p l e ({ frames := 1, cells := 0, slots := 0, locals := 22 } : Room) s m (([.ref (h 0), .int a1, .int a2] : List Value).toArray) below meth c H locs 0 0 Q (F0 m 0 ls []) from go _ _ hP hD hS
  intro H locs hP hD hS
  refine lv_iload_n hx hb dX5_set_0 rfl (lv_at hl 1 rfl) ?_
  refine lv_iconst (v := (2 : Int32)) hx hb dX5_set_1 (by decide) ?_
  refine lv_icmp_ge (tgt := 10) hx hb dX5_set_2 (by decide) (fun c_2_1 => ?_) (fun c_2_1 => ?_)
  · have c_2_1 : (2 : Int32) ≤ a1 := c_2_1
    refine lv_iload_n hx hb dX5_set_10 rfl (lv_at hl 1 rfl) ?_
    refine lv_iconst (v := (2 : Int32)) hx hb dX5_set_11 (by decide) ?_
    refine lv_icmp_ne (tgt := 21) hx hb dX5_set_12 (by decide) (fun c_12_2 => ?_) (fun c_12_2 => ?_)
    · have c_12_2 : ¬ (a1 = (2 : Int32)) := c_12_2
      refine lv_iload_n hx hb dX5_set_21 rfl (lv_at hl 1 rfl) ?_
      refine lv_iconst (v := (4 : Int32)) hx hb dX5_set_22 (by decide) ?_
      refine lv_icmp_ne (tgt := 31) hx hb dX5_set_23 (by decide) (fun c_23_3 => ?_) (fun c_23_3 => ?_)
      · have c_23_3 : ¬ (a1 = (4 : Int32)) := c_23_3
        refine lv_iconst (v := (1 : Int32)) hx hb dX5_set_31 (by decide) ?_
        exact J_32 σ a1 a2 (1 : Int32) _ _ _ (by unfold m_set; rw [if_pos c_2_1, if_neg c_12_2, if_neg c_23_3]) (lv_sub hl [0, 1, 2] rfl) hP hD hS
      · have c_23_3 : a1 = (4 : Int32) := c_23_3
        refine lv_bipush (v := (63 : Int32)) hx hb dX5_set_26 (by decide) ?_
        refine lv_goto (tgt := 32) hx hb dX5_set_28 (by decide) ?_
        exact J_32 σ a1 a2 (63 : Int32) _ _ _ (by unfold m_set; rw [if_pos c_2_1, if_neg c_12_2, if_pos c_23_3]) (lv_sub hl [0, 1, 2] rfl) hP hD hS
    · have c_12_2 : a1 = (2 : Int32) := c_12_2
      refine lv_sipush (v := (4095 : Int32)) hx hb dX5_set_15 (by decide) ?_
      refine lv_goto (tgt := 32) hx hb dX5_set_18 (by decide) ?_
      exact J_32 σ a1 a2 (4095 : Int32) _ _ _ (by unfold m_set; rw [if_pos c_2_1, if_pos c_12_2]) (lv_sub hl [0, 1, 2] rfl) hP hD hS
  · have c_2_1 : ¬ ((2 : Int32) ≤ a1) := c_2_1
    refine lv_ldc (v := (262143 : Int32)) hx hb hown (hts _ kw_525) dX5_set_5 ?_
    refine lv_goto (tgt := 32) hx hb dX5_set_7 (by decide) ?_
    exact J_32 σ a1 a2 (262143 : Int32) _ _ _ (by unfold m_set; rw [if_neg c_2_1]) (lv_sub hl [0, 1, 2] rfl) hP hD hS
def m_switches (σ : St) (a1 : Int32) (a2 : Int32) : Int32 × St := (if (m_in a1 (0 : Int32) (63 : Int32)) = (0 : Int32) then ((-1 : Int32), σ) else (if (m_in a2 (0 : Int32) (262143 : Int32)) = (0 : Int32) then ((-1 : Int32), σ) else ((g_sw σ), (s_test (s_sw σ a1) a2))))
set_option maxRecDepth 100000 in
set_option maxHeartbeats 8000000 in
theorem kX5_switches (l : Launch) (D : va_G) (cI : ClassId) (h : Nat → Nat) (σ : St) (a1 : Int32) (a2 : Int32) : MetI l yX5_switches (wsU yX5_switches cX5_switches 4 (some .int)) { frames := 1, cells := 0, slots := 0, locals := 22 } D cI [.ref (h 0), .int a1, .int a2] (wM h cI σ) (fun u : St => wM h cI u) (fun r u => (m_switches σ a1 a2).1 = r ∧ (m_switches σ a1 a2).2 = u) := by
  refine MetI.of (by decide) (Nat.le_of_ble_eq_true rfl) ?_
  intro p e s m below meth c A Q ls hx hb hml hown hts hK hN hA hret hP hD hS hl
  have hown : s.vm.findClass RX5 = some m.cls := hown
  have hl : lv_has ls 4 [(0, .ref (h 0)), (1, .int a1), (2, .int a2)] := hl
  suffices go : ∀ (H : Heap) (locs : List Loc), va_P D vwCl (wM h cI σ) H → va_D A (wM h cI σ) → va_S A s.heap H locs → W p l e ({ frames := 1, cells := 0, slots := 0, locals := 22 } : Room) s m (([.ref (h 0), .int a1, .int a2] : List Value).toArray) below meth c H locs 0 0 Q (F0 m 0 ls []) from go _ _ hP hD hS
  intro H locs hP hD hS
  refine lv_iload_n hx hb dX5_switches_0 rfl (lv_at hl 1 rfl) ?_
  refine lv_iconst (v := (0 : Int32)) hx hb dX5_switches_1 (by decide) ?_
  refine lv_bipush (v := (63 : Int32)) hx hb dX5_switches_2 (by decide) ?_
  refine call_Si 3 (kX5_in l D cI _ a1 (0 : Int32) (63 : Int32)) ⟨hx, hb, hml, hown, hts, hK, hN, hA⟩ ⟨kw_522, kw_523, kw_6, kw_524, by decide +kernel, rfl, rfl, Nat.le_of_ble_eq_true rfl, Nat.le_of_ble_eq_true rfl⟩ rfl hP hD hS hl.1 rfl (Nat.le_of_ble_eq_true rfl) dX5_switches_4 ⟨Nat.zero_le _, Nat.zero_le _⟩ (fun r4 u H locs hw hP hD hS => ?_)
  have hw : (m_in a1 (0 : Int32) (63 : Int32)) = r4 := hw
  subst hw
  refine lv_if_eq (tgt := 20) hx hb dX5_switches_7 (by decide) (fun c_7_1 => ?_) (fun c_7_1 => ?_)
  · have c_7_1 : (m_in a1 (0 : Int32) (63 : Int32)) = (0 : Int32) := c_7_1
    refine lv_iconst (v := (-1 : Int32)) hx hb dX5_switches_20 (by decide) ?_
    have hE : m_switches σ a1 a2 = ((-1 : Int32), σ) := (by unfold m_switches; rw [if_pos c_7_1])
    exact hret (-1 : Int32) σ _ _ _ _ rfl ⟨by rw [hE], by rw [hE]⟩ hP hD hS dX5_switches_21
  · have c_7_1 : ¬ ((m_in a1 (0 : Int32) (63 : Int32)) = (0 : Int32)) := c_7_1
    refine lv_iload_n hx hb dX5_switches_10 rfl (lv_at hl 2 rfl) ?_
    refine lv_iconst (v := (0 : Int32)) hx hb dX5_switches_11 (by decide) ?_
    refine lv_ldc (v := (262143 : Int32)) hx hb hown (hts _ kw_525) dX5_switches_12 ?_
    refine call_Si 3 (kX5_in l D cI _ a2 (0 : Int32) (262143 : Int32)) ⟨hx, hb, hml, hown, hts, hK, hN, hA⟩ ⟨kw_522, kw_523, kw_6, kw_524, by decide +kernel, rfl, rfl, Nat.le_of_ble_eq_true rfl, Nat.le_of_ble_eq_true rfl⟩ rfl hP hD hS hl.1 rfl (Nat.le_of_ble_eq_true rfl) dX5_switches_14 ⟨Nat.zero_le _, Nat.zero_le _⟩ (fun r14 u H locs hw hP hD hS => ?_)
    have hw : (m_in a2 (0 : Int32) (262143 : Int32)) = r14 := hw
    subst hw
    refine lv_if_ne (tgt := 22) hx hb dX5_switches_17 (by decide) (fun c_17_2 => ?_) (fun c_17_2 => ?_)
    · have c_17_2 : ¬ ((m_in a2 (0 : Int32) (262143 : Int32)) = (0 : Int32)) := c_17_2
      refine lv_aload_n hx hb dX5_switches_22 rfl (lv_at hl 0 rfl) ?_
      refine gM_sw (v := (g_sw σ)) hx hb hts hown hK hP kw_460 rfl dX5_switches_23 ?_
      refine lv_istore_n (lv' := [(3, .int (g_sw σ)), (0, .ref (h 0)), (1, .int a1), (2, .int a2)]) hx hb dX5_switches_26 rfl hl (by decide) rfl (fun ls hl => ?_)
      refine lv_aload_n hx hb dX5_switches_27 rfl (lv_at hl 1 rfl) ?_
      refine lv_iload_n hx hb dX5_switches_28 rfl (lv_at hl 2 rfl) ?_
      refine pM_sw hx hb hts hown hK hP hD hS kw_460 dX5_switches_29 (fun H locs hP hD hS => ?_)
      refine lv_aload_n hx hb dX5_switches_32 rfl (lv_at hl 1 rfl) ?_
      refine lv_iload_n hx hb dX5_switches_33 rfl (lv_at hl 3 rfl) ?_
      refine pM_test hx hb hts hown hK hP hD hS kw_461 dX5_switches_34 (fun H locs hP hD hS => ?_)
      refine lv_iload_n hx hb dX5_switches_37 rfl (lv_at hl 0 rfl) ?_
      have hE : m_switches σ a1 a2 = ((g_sw σ), (s_test (s_sw σ a1) a2)) := (by unfold m_switches; rw [if_neg c_7_1, if_neg c_17_2])
      exact hret (g_sw σ) (s_test (s_sw σ a1) a2) _ _ _ _ rfl ⟨by rw [hE], by rw [hE]⟩ hP hD hS dX5_switches_38
    · have c_17_2 : (m_in a2 (0 : Int32) (262143 : Int32)) = (0 : Int32) := c_17_2
      refine lv_iconst (v := (-1 : Int32)) hx hb dX5_switches_20 (by decide) ?_
      have hE : m_switches σ a1 a2 = ((-1 : Int32), σ) := (by unfold m_switches; rw [if_neg c_7_1, if_pos c_17_2])
      exact hret (-1 : Int32) σ _ _ _ _ rfl ⟨by rw [hE], by rw [hE]⟩ hP hD hS dX5_switches_21
def m_type (σ : St) (a1 : Int32) : Int32 × St := (if (m_in a1 (0 : Int32) (63 : Int32)) = (0 : Int32) then ((-1 : Int32), σ) else (if (g_cnt σ) = (100 : Int32) then ((-3 : Int32), σ) else ((((g_cnt σ) + (1 : Int32)) - (g_taken σ)), (s_cnt (s_row σ (upd (g_row σ) (Int32.toNatClampNeg (g_cnt σ)) a1)) ((g_cnt σ) + (1 : Int32))))))
set_option maxRecDepth 100000 in
set_option maxHeartbeats 8000000 in
theorem kX5_type (l : Launch) (D : va_G) (cI : ClassId) (h : Nat → Nat) (σ : St) (a1 : Int32) (hM : MI σ) : MetI l yX5_type (wsU yX5_type cX5_type 2 (some .int)) { frames := 1, cells := 0, slots := 0, locals := 22 } D cI [.ref (h 0), .int a1] (wM h cI σ) (fun u : St => wM h cI u) (fun r u => (m_type σ a1).1 = r ∧ (m_type σ a1).2 = u) := by
  refine MetI.of (by decide) (Nat.le_of_ble_eq_true rfl) ?_
  intro p e s m below meth c A Q ls hx hb hml hown hts hK hN hA hret hP hD hS hl
  have hown : s.vm.findClass RX5 = some m.cls := hown
  have hl : lv_has ls 2 [(0, .ref (h 0)), (1, .int a1)] := hl
  suffices go : ∀ (H : Heap) (locs : List Loc), va_P D vwCl (wM h cI σ) H → va_D A (wM h cI σ) → va_S A s.heap H locs → W p l e ({ frames := 1, cells := 0, slots := 0, locals := 22 } : Room) s m (([.ref (h 0), .int a1] : List Value).toArray) below meth c H locs 0 0 Q (F0 m 0 ls []) from go _ _ hP hD hS
  intro H locs hP hD hS
  refine lv_iload_n hx hb dX5_type_0 rfl (lv_at hl 1 rfl) ?_
  refine lv_iconst (v := (0 : Int32)) hx hb dX5_type_1 (by decide) ?_
  refine lv_bipush (v := (63 : Int32)) hx hb dX5_type_2 (by decide) ?_
  refine call_Si 3 (kX5_in l D cI _ a1 (0 : Int32) (63 : Int32)) ⟨hx, hb, hml, hown, hts, hK, hN, hA⟩ ⟨kw_522, kw_523, kw_6, kw_524, by decide +kernel, rfl, rfl, Nat.le_of_ble_eq_true rfl, Nat.le_of_ble_eq_true rfl⟩ rfl hP hD hS hl.1 rfl (Nat.le_of_ble_eq_true rfl) dX5_type_4 ⟨Nat.zero_le _, Nat.zero_le _⟩ (fun r4 u H locs hw hP hD hS => ?_)
  have hw : (m_in a1 (0 : Int32) (63 : Int32)) = r4 := hw
  subst hw
  refine lv_if_ne (tgt := 12) hx hb dX5_type_7 (by decide) (fun c_7_1 => ?_) (fun c_7_1 => ?_)
  · have c_7_1 : ¬ ((m_in a1 (0 : Int32) (63 : Int32)) = (0 : Int32)) := c_7_1
    refine lv_aload_n hx hb dX5_type_12 rfl (lv_at hl 0 rfl) ?_
    refine gM_cnt (v := (g_cnt σ)) hx hb hts hown hK hP kw_463 rfl dX5_type_13 ?_
    refine lv_bipush (v := (100 : Int32)) hx hb dX5_type_16 (by decide) ?_
    refine lv_icmp_ne (tgt := 24) hx hb dX5_type_18 (by decide) (fun c_18_2 => ?_) (fun c_18_2 => ?_)
    · have c_18_2 : ¬ ((g_cnt σ) = (100 : Int32)) := c_18_2
      refine lv_aload_n hx hb dX5_type_24 rfl (lv_at hl 0 rfl) ?_
      refine gM_ref2 hx hb hts hown hK hP kw_462 dX5_type_25 ?_
      refine lv_aload_n hx hb dX5_type_28 rfl (lv_at hl 0 rfl) ?_
      refine gM_cnt (v := (g_cnt σ)) hx hb hts hown hK hP kw_463 rfl dX5_type_29 ?_
      refine lv_iload_n hx hb dX5_type_32 rfl (lv_at hl 1 rfl) ?_
      refine bM_row (f := (g_row σ)) hx hb hK hP hD hS (by exact vp_ne hM.1 (by assumption) (by decide)) rfl dX5_type_33 (fun H locs hP hD hS => ?_)
      refine lv_aload_n hx hb dX5_type_34 rfl (lv_at hl 0 rfl) ?_
      refine lv_dup hx hb dX5_type_35 rfl ?_
      refine gM_cnt (v := (g_cnt σ)) hx hb hts hown hK hP kw_463 rfl dX5_type_36 ?_
      refine lv_iconst (v := (1 : Int32)) hx hb dX5_type_39 (by decide) ?_
      refine lv_iadd hx hb dX5_type_40 ?_
      refine pM_cnt hx hb hts hown hK hP hD hS kw_463 dX5_type_41 (fun H locs hP hD hS => ?_)
      refine lv_aload_n hx hb dX5_type_44 rfl (lv_at hl 0 rfl) ?_
      refine gM_cnt (v := ((g_cnt σ) + (1 : Int32))) hx hb hts hown hK hP kw_463 rfl dX5_type_45 ?_
      refine lv_aload_n hx hb dX5_type_48 rfl (lv_at hl 0 rfl) ?_
      refine gM_taken (v := (g_taken σ)) hx hb hts hown hK hP kw_464 rfl dX5_type_49 ?_
      refine lv_isub hx hb dX5_type_52 ?_
      have hE : m_type σ a1 = ((((g_cnt σ) + (1 : Int32)) - (g_taken σ)), (s_cnt (s_row σ (upd (g_row σ) (Int32.toNatClampNeg (g_cnt σ)) a1)) ((g_cnt σ) + (1 : Int32)))) := (by unfold m_type; rw [if_neg c_7_1, if_neg c_18_2])
      exact hret (((g_cnt σ) + (1 : Int32)) - (g_taken σ)) (s_cnt (s_row σ (upd (g_row σ) (Int32.toNatClampNeg (g_cnt σ)) a1)) ((g_cnt σ) + (1 : Int32))) _ _ _ _ rfl ⟨by rw [hE], by rw [hE]⟩ hP hD hS dX5_type_53
    · have c_18_2 : (g_cnt σ) = (100 : Int32) := c_18_2
      refine lv_bipush (v := (-3 : Int32)) hx hb dX5_type_21 (by decide) ?_
      have hE : m_type σ a1 = ((-3 : Int32), σ) := (by unfold m_type; rw [if_neg c_7_1, if_pos c_18_2])
      exact hret (-3 : Int32) σ _ _ _ _ rfl ⟨by rw [hE], by rw [hE]⟩ hP hD hS dX5_type_23
  · have c_7_1 : (m_in a1 (0 : Int32) (63 : Int32)) = (0 : Int32) := c_7_1
    refine lv_iconst (v := (-1 : Int32)) hx hb dX5_type_10 (by decide) ?_
    have hE : m_type σ a1 = ((-1 : Int32), σ) := (by unfold m_type; rw [if_pos c_7_1])
    exact hret (-1 : Int32) σ _ _ _ _ rfl ⟨by rw [hE], by rw [hE]⟩ hP hD hS dX5_type_11
