def m_ask_12 (σ : St) (z0_12 : Int32) : Int32 × St := (z0_12, (s_asked σ (1 : Int32)))
def m_ask (σ : St)  : Int32 × St := (if (g_asked σ) = (0 : Int32) then m_ask_12 σ (1 : Int32) else m_ask_12 σ (0 : Int32))
set_option maxRecDepth 100000 in
set_option maxHeartbeats 8000000 in
theorem kX5_ask (l : Launch) (D : va_G) (cI : ClassId) (h : Nat → Nat) (σ : St)  : MetI l yX5_ask (wsU yX5_ask cX5_ask 2 (some .int)) { frames := 0, cells := 0, slots := 0, locals := 0 } D cI [.ref (h 0)] (wM h cI σ) (fun u : St => wM h cI u) (fun r u => (m_ask σ).1 = r ∧ (m_ask σ).2 = u) := by
  refine MetI.of (by decide) (Nat.le_of_ble_eq_true rfl) ?_
  intro p e s m below meth c A Q ls hx hb hml hown hts hK hN hA hret hP hD hS hl
  have hown : s.vm.findClass RX5 = some m.cls := hown
  have hl : lv_has ls 2 [(0, .ref (h 0))] := hl
  have J_12 : ∀ (σ' : St) (z0_12 : Int32) (H : Heap) (locs : List Loc) (ls : Array Slot), m_ask σ = m_ask_12 σ' z0_12 → lv_has ls 2 [(0, .ref (h 0))] → va_P D vwCl (wM h cI σ') H → va_D A (wM h cI σ') → va_S A s.heap H locs → W p l e ({ frames := 0, cells := 0, slots := 0, locals := 0 } : Room) s m (([.ref (h 0)] : List Value).toArray) below meth c H locs 0 0 Q (F0 m 12 ls [.int z0_12]) := by
    intro σ' z0_12 H locs ls E hl hP hD hS
    refine lv_istore_n (lv' := [(1, .int z0_12), (0, .ref (h 0))]) hx hb dX5_ask_12 rfl hl (by decide) rfl (fun ls hl => ?_)
    refine lv_aload_n hx hb dX5_ask_13 rfl (lv_at hl 1 rfl) ?_
    refine lv_iconst (v := (1 : Int32)) hx hb dX5_ask_14 (by decide) ?_
    refine pM_asked hx hb hts hown hK hP hD hS kw_458 ⟨rfl, rfl⟩ dX5_ask_15 (fun H locs hP hD hS => ?_)
    refine lv_iload_n hx hb dX5_ask_18 rfl (lv_at hl 0 rfl) ?_
    have hE : m_ask σ = (z0_12, (s_asked σ' (1 : Int32))) := (E.trans (by unfold m_ask_12; rfl))
    exact hret z0_12 (s_asked σ' (1 : Int32)) _ _ _ _ rfl ⟨by rw [hE], by rw [hE]⟩ hP hD hS dX5_ask_19
  suffices go : ∀ (H : Heap) (locs : List Loc), va_P D vwCl (wM h cI σ) H → va_D A (wM h cI σ) → va_S A s.heap H locs → W p l e ({ frames := 0, cells := 0, slots := 0, locals := 0 } : Room) s m (([.ref (h 0)] : List Value).toArray) below meth c H locs 0 0 Q (F0 m 0 ls []) from go _ _ hP hD hS
  intro H locs hP hD hS
  refine lv_aload_n hx hb dX5_ask_0 rfl (lv_at hl 0 rfl) ?_
  refine gM_asked (v := (g_asked σ)) hx hb hts hown hK hP kw_458 rfl dX5_ask_1 ?_
  refine lv_if_eq (tgt := 11) hx hb dX5_ask_4 (by decide) (fun c_4_1 => ?_) (fun c_4_1 => ?_)
  · have c_4_1 : (g_asked σ) = (0 : Int32) := c_4_1
    refine lv_iconst (v := (1 : Int32)) hx hb dX5_ask_11 (by decide) ?_
    exact J_12 σ (1 : Int32) _ _ _ (by unfold m_ask; rw [if_pos c_4_1]) (lv_sub hl [0] rfl) hP hD hS
  · have c_4_1 : ¬ ((g_asked σ) = (0 : Int32)) := c_4_1
    refine lv_iconst (v := (0 : Int32)) hx hb dX5_ask_7 (by decide) ?_
    refine lv_goto (tgt := 12) hx hb dX5_ask_8 (by decide) ?_
    exact J_12 σ (0 : Int32) _ _ _ (by unfold m_ask; rw [if_neg c_4_1]) (lv_sub hl [0] rfl) hP hD hS
def m_not (a1 : Int32) : Int32 := ((262143 : Int32) - a1)
set_option maxRecDepth 100000 in
set_option maxHeartbeats 8000000 in
theorem kX5_not (l : Launch) (D : va_G) (cI : ClassId) (w : va_W) (a1 : Int32) : MetI l yX5_not (wsU yX5_not cX5_not 1 (some .int)) { frames := 0, cells := 0, slots := 0, locals := 0 } D cI [.int a1] w (fun _ : Unit => w) (fun r _ => (m_not a1) = r) := by
  refine MetI.of (by decide) (Nat.le_of_ble_eq_true rfl) ?_
  intro p e s m below meth c A Q ls hx hb hml hown hts hK hN hA hret hP hD hS hl
  have hown : s.vm.findClass RX5 = some m.cls := hown
  have hl : lv_has ls 1 [(0, .int a1)] := hl
  suffices go : ∀ (H : Heap) (locs : List Loc), va_P D vwCl w H → va_D A w → va_S A s.heap H locs → W p l e ({ frames := 0, cells := 0, slots := 0, locals := 0 } : Room) s m (([.int a1] : List Value).toArray) below meth c H locs 0 0 Q (F0 m 0 ls []) from go _ _ hP hD hS
  intro H locs hP hD hS
  refine lv_ldc (v := (262143 : Int32)) hx hb hown (hts _ kw_525) dX5_not_0 ?_
  refine lv_iload_n hx hb dX5_not_2 rfl (lv_at hl 0 rfl) ?_
  refine lv_isub hx hb dX5_not_3 ?_
  have hE : m_not a1 = ((262143 : Int32) - a1) := (by unfold m_not; rfl)
  exact hret ((262143 : Int32) - a1) () _ _ _ _ rfl hE hP hD hS dX5_not_4
def m_sign (a1 : Int32) : Int32 := (a1 >>> ((17 : Int32) &&& 31))
set_option maxRecDepth 100000 in
set_option maxHeartbeats 8000000 in
theorem kX5_sign (l : Launch) (D : va_G) (cI : ClassId) (w : va_W) (a1 : Int32) : MetI l yX5_sign (wsU yX5_sign cX5_sign 1 (some .int)) { frames := 0, cells := 0, slots := 0, locals := 0 } D cI [.int a1] w (fun _ : Unit => w) (fun r _ => (m_sign a1) = r) := by
  refine MetI.of (by decide) (Nat.le_of_ble_eq_true rfl) ?_
  intro p e s m below meth c A Q ls hx hb hml hown hts hK hN hA hret hP hD hS hl
  have hown : s.vm.findClass RX5 = some m.cls := hown
  have hl : lv_has ls 1 [(0, .int a1)] := hl
  suffices go : ∀ (H : Heap) (locs : List Loc), va_P D vwCl w H → va_D A w → va_S A s.heap H locs → W p l e ({ frames := 0, cells := 0, slots := 0, locals := 0 } : Room) s m (([.int a1] : List Value).toArray) below meth c H locs 0 0 Q (F0 m 0 ls []) from go _ _ hP hD hS
  intro H locs hP hD hS
  refine lv_iload_n hx hb dX5_sign_0 rfl (lv_at hl 0 rfl) ?_
  refine lv_bipush (v := (17 : Int32)) hx hb dX5_sign_1 (by decide) ?_
  refine lv_ishr hx hb dX5_sign_3 ?_
  have hE : m_sign a1 = (a1 >>> ((17 : Int32) &&& 31)) := (by unfold m_sign; rfl)
  exact hret (a1 >>> ((17 : Int32) &&& 31)) () _ _ _ _ rfl hE hP hD hS dX5_sign_4
def m_sum (a1 : Int32) (a2 : Int32) : Int32 := (if (a1 + a2) ≤ (262143 : Int32) then (a1 + a2) else ((a1 + a2) - (262143 : Int32)))
set_option maxRecDepth 100000 in
set_option maxHeartbeats 8000000 in
theorem kX5_sum (l : Launch) (D : va_G) (cI : ClassId) (w : va_W) (a1 : Int32) (a2 : Int32) : MetI l yX5_sum (wsU yX5_sum cX5_sum 3 (some .int)) { frames := 0, cells := 0, slots := 0, locals := 0 } D cI [.int a1, .int a2] w (fun _ : Unit => w) (fun r _ => (m_sum a1 a2) = r) := by
  refine MetI.of (by decide) (Nat.le_of_ble_eq_true rfl) ?_
  intro p e s m below meth c A Q ls hx hb hml hown hts hK hN hA hret hP hD hS hl
  have hown : s.vm.findClass RX5 = some m.cls := hown
  have hl : lv_has ls 3 [(0, .int a1), (1, .int a2)] := hl
  suffices go : ∀ (H : Heap) (locs : List Loc), va_P D vwCl w H → va_D A w → va_S A s.heap H locs → W p l e ({ frames := 0, cells := 0, slots := 0, locals := 0 } : Room) s m (([.int a1, .int a2] : List Value).toArray) below meth c H locs 0 0 Q (F0 m 0 ls []) from go _ _ hP hD hS
  intro H locs hP hD hS
  refine lv_iload_n hx hb dX5_sum_0 rfl (lv_at hl 0 rfl) ?_
  refine lv_iload_n hx hb dX5_sum_1 rfl (lv_at hl 1 rfl) ?_
  refine lv_iadd hx hb dX5_sum_2 ?_
  refine lv_istore_n (lv' := [(2, .int (a1 + a2)), (0, .int a1), (1, .int a2)]) hx hb dX5_sum_3 rfl hl (by decide) rfl (fun ls hl => ?_)
  refine lv_iload_n hx hb dX5_sum_4 rfl (lv_at hl 0 rfl) ?_
  refine lv_ldc (v := (262143 : Int32)) hx hb hown (hts _ kw_525) dX5_sum_5 ?_
  refine lv_icmp_le (tgt := 17) hx hb dX5_sum_7 (by decide) (fun c_7_1 => ?_) (fun c_7_1 => ?_)
  · have c_7_1 : (a1 + a2) ≤ (262143 : Int32) := c_7_1
    refine lv_iload_n hx hb dX5_sum_17 rfl (lv_at hl 0 rfl) ?_
    have hE : m_sum a1 a2 = (a1 + a2) := (by unfold m_sum; rw [if_pos c_7_1])
    exact hret (a1 + a2) () _ _ _ _ rfl hE hP hD hS dX5_sum_18
  · have c_7_1 : ¬ ((a1 + a2) ≤ (262143 : Int32)) := c_7_1
    refine lv_iload_n hx hb dX5_sum_10 rfl (lv_at hl 0 rfl) ?_
    refine lv_ldc (v := (262143 : Int32)) hx hb hown (hts _ kw_525) dX5_sum_11 ?_
    refine lv_isub hx hb dX5_sum_13 ?_
    refine lv_goto (tgt := 18) hx hb dX5_sum_14 (by decide) ?_
    have hE : m_sum a1 a2 = ((a1 + a2) - (262143 : Int32)) := (by unfold m_sum; rw [if_neg c_7_1])
    exact hret ((a1 + a2) - (262143 : Int32)) () _ _ _ _ rfl hE hP hD hS dX5_sum_18
def m_plain (a1 : Int32) : Int32 := (if a1 = (262143 : Int32) then (0 : Int32) else a1)
set_option maxRecDepth 100000 in
set_option maxHeartbeats 8000000 in
theorem kX5_plain (l : Launch) (D : va_G) (cI : ClassId) (w : va_W) (a1 : Int32) : MetI l yX5_plain (wsU yX5_plain cX5_plain 1 (some .int)) { frames := 0, cells := 0, slots := 0, locals := 0 } D cI [.int a1] w (fun _ : Unit => w) (fun r _ => (m_plain a1) = r) := by
  refine MetI.of (by decide) (Nat.le_of_ble_eq_true rfl) ?_
  intro p e s m below meth c A Q ls hx hb hml hown hts hK hN hA hret hP hD hS hl
  have hown : s.vm.findClass RX5 = some m.cls := hown
  have hl : lv_has ls 1 [(0, .int a1)] := hl
  suffices go : ∀ (H : Heap) (locs : List Loc), va_P D vwCl w H → va_D A w → va_S A s.heap H locs → W p l e ({ frames := 0, cells := 0, slots := 0, locals := 0 } : Room) s m (([.int a1] : List Value).toArray) below meth c H locs 0 0 Q (F0 m 0 ls []) from go _ _ hP hD hS
  intro H locs hP hD hS
  refine lv_iload_n hx hb dX5_plain_0 rfl (lv_at hl 0 rfl) ?_
  refine lv_ldc (v := (262143 : Int32)) hx hb hown (hts _ kw_525) dX5_plain_1 ?_
  refine lv_icmp_ne (tgt := 10) hx hb dX5_plain_3 (by decide) (fun c_3_1 => ?_) (fun c_3_1 => ?_)
  · have c_3_1 : ¬ (a1 = (262143 : Int32)) := c_3_1
    refine lv_iload_n hx hb dX5_plain_10 rfl (lv_at hl 0 rfl) ?_
    have hE : m_plain a1 = a1 := (by unfold m_plain; rw [if_neg c_3_1])
    exact hret a1 () _ _ _ _ rfl hE hP hD hS dX5_plain_11
  · have c_3_1 : a1 = (262143 : Int32) := c_3_1
    refine lv_iconst (v := (0 : Int32)) hx hb dX5_plain_6 (by decide) ?_
    refine lv_goto (tgt := 11) hx hb dX5_plain_7 (by decide) ?_
    have hE : m_plain a1 = (0 : Int32) := (by unfold m_plain; rw [if_pos c_3_1])
    exact hret (0 : Int32) () _ _ _ _ rfl hE hP hD hS dX5_plain_11
def m_overflows (σ : St) (a1 : Int32) (a2 : Int32) : St := (if (m_sign a1) = (m_sign a2) then (if (m_sign (m_sum a1 a2)) = (m_sign a1) then σ else (s_t5 (s_ov σ (1 : Int32)) ((g_t5 σ) + (1 : Int32)))) else σ)
set_option maxRecDepth 100000 in
set_option maxHeartbeats 8000000 in
theorem kX5_overflows (l : Launch) (D : va_G) (cI : ClassId) (h : Nat → Nat) (σ : St) (a1 : Int32) (a2 : Int32) : MetV l yX5_overflows (wsU yX5_overflows cX5_overflows 4 none) { frames := 1, cells := 0, slots := 0, locals := 22 } D cI [.ref (h 0), .int a1, .int a2] (wM h cI σ) (fun u : St => wM h cI u) (fun u => (m_overflows σ a1 a2) = u) := by
  refine MetV.of (by decide) (Nat.le_of_ble_eq_true rfl) ?_
  intro p e s m below meth c A Q ls hx hb hml hown hts hK hN hA hret hP hD hS hl
  have hown : s.vm.findClass RX5 = some m.cls := hown
  have hl : lv_has ls 4 [(0, .ref (h 0)), (1, .int a1), (2, .int a2)] := hl
  suffices go : ∀ (H : Heap) (locs : List Loc), va_P D vwCl (wM h cI σ) H → va_D A (wM h cI σ) → va_S A s.heap H locs → W p l e ({ frames := 1, cells := 0, slots := 0, locals := 22 } : Room) s m (([.ref (h 0), .int a1, .int a2] : List Value).toArray) below meth c H locs 0 0 Q (F0 m 0 ls []) from go _ _ hP hD hS
  intro H locs hP hD hS
  refine lv_iload_n hx hb dX5_overflows_0 rfl (lv_at hl 1 rfl) ?_
  refine lv_iload_n hx hb dX5_overflows_1 rfl (lv_at hl 2 rfl) ?_
  refine call_Si 2 (kX5_sum l D cI _ a1 a2) ⟨hx, hb, hml, hown, hts, hK, hN, hA⟩ ⟨kw_592, kw_593, kw_6, kw_594, by decide +kernel, rfl, rfl, Nat.le_of_ble_eq_true rfl, Nat.le_of_ble_eq_true rfl⟩ rfl hP hD hS hl.1 rfl (Nat.le_of_ble_eq_true rfl) dX5_overflows_2 ⟨Nat.zero_le _, Nat.zero_le _⟩ (fun r2 u H locs hw hP hD hS => ?_)
  have hw : (m_sum a1 a2) = r2 := hw
  subst hw
  refine lv_istore_n (lv' := [(3, .int (m_sum a1 a2)), (0, .ref (h 0)), (1, .int a1), (2, .int a2)]) hx hb dX5_overflows_5 rfl hl (by decide) rfl (fun ls hl => ?_)
  refine lv_iload_n hx hb dX5_overflows_6 rfl (lv_at hl 2 rfl) ?_
  refine call_Si 1 (kX5_sign l D cI _ a1) ⟨hx, hb, hml, hown, hts, hK, hN, hA⟩ ⟨kw_578, kw_579, kw_6, kw_580, by decide +kernel, rfl, rfl, Nat.le_of_ble_eq_true rfl, Nat.le_of_ble_eq_true rfl⟩ rfl hP hD hS hl.1 rfl (Nat.le_of_ble_eq_true rfl) dX5_overflows_7 ⟨Nat.zero_le _, Nat.zero_le _⟩ (fun r7 u H locs hw hP hD hS => ?_)
  have hw : (m_sign a1) = r7 := hw
  subst hw
  refine lv_iload_n hx hb dX5_overflows_10 rfl (lv_at hl 3 rfl) ?_
  refine call_Si 1 (kX5_sign l D cI _ a2) ⟨hx, hb, hml, hown, hts, hK, hN, hA⟩ ⟨kw_578, kw_579, kw_6, kw_580, by decide +kernel, rfl, rfl, Nat.le_of_ble_eq_true rfl, Nat.le_of_ble_eq_true rfl⟩ rfl hP hD hS hl.1 rfl (Nat.le_of_ble_eq_true rfl) dX5_overflows_11 ⟨Nat.zero_le _, Nat.zero_le _⟩ (fun r11 u H locs hw hP hD hS => ?_)
  have hw : (m_sign a2) = r11 := hw
  subst hw
  refine lv_icmp_ne (tgt := 43) hx hb dX5_overflows_14 (by decide) (fun c_14_1 => ?_) (fun c_14_1 => ?_)
  · have c_14_1 : ¬ ((m_sign a1) = (m_sign a2)) := c_14_1
    have hE : m_overflows σ a1 a2 = σ := (by unfold m_overflows; rw [if_neg c_14_1])
    exact hret σ _ _ _ _ hE hP hD hS dX5_overflows_43
  · have c_14_1 : (m_sign a1) = (m_sign a2) := c_14_1
    refine lv_iload_n hx hb dX5_overflows_17 rfl (lv_at hl 0 rfl) ?_
    refine call_Si 1 (kX5_sign l D cI _ (m_sum a1 a2)) ⟨hx, hb, hml, hown, hts, hK, hN, hA⟩ ⟨kw_578, kw_579, kw_6, kw_580, by decide +kernel, rfl, rfl, Nat.le_of_ble_eq_true rfl, Nat.le_of_ble_eq_true rfl⟩ rfl hP hD hS hl.1 rfl (Nat.le_of_ble_eq_true rfl) dX5_overflows_18 ⟨Nat.zero_le _, Nat.zero_le _⟩ (fun r18 u H locs hw hP hD hS => ?_)
    have hw : (m_sign (m_sum a1 a2)) = r18 := hw
    subst hw
    refine lv_iload_n hx hb dX5_overflows_21 rfl (lv_at hl 2 rfl) ?_
    refine call_Si 1 (kX5_sign l D cI _ a1) ⟨hx, hb, hml, hown, hts, hK, hN, hA⟩ ⟨kw_578, kw_579, kw_6, kw_580, by decide +kernel, rfl, rfl, Nat.le_of_ble_eq_true rfl, Nat.le_of_ble_eq_true rfl⟩ rfl hP hD hS hl.1 rfl (Nat.le_of_ble_eq_true rfl) dX5_overflows_22 ⟨Nat.zero_le _, Nat.zero_le _⟩ (fun r22 u H locs hw hP hD hS => ?_)
    have hw : (m_sign a1) = r22 := hw
    subst hw
    refine lv_icmp_eq (tgt := 43) hx hb dX5_overflows_25 (by decide) (fun c_25_2 => ?_) (fun c_25_2 => ?_)
    · have c_25_2 : (m_sign (m_sum a1 a2)) = (m_sign a1) := c_25_2
      have hE : m_overflows σ a1 a2 = σ := (by unfold m_overflows; rw [if_pos c_14_1, if_pos c_25_2])
      exact hret σ _ _ _ _ hE hP hD hS dX5_overflows_43
    · have c_25_2 : ¬ ((m_sign (m_sum a1 a2)) = (m_sign a1)) := c_25_2
      refine lv_aload_n hx hb dX5_overflows_28 rfl (lv_at hl 1 rfl) ?_
      refine lv_iconst (v := (1 : Int32)) hx hb dX5_overflows_29 (by decide) ?_
      refine pM_ov hx hb hts hown hK hP hD hS kw_455 dX5_overflows_30 (fun H locs hP hD hS => ?_)
      refine lv_aload_n hx hb dX5_overflows_33 rfl (lv_at hl 1 rfl) ?_
      refine gM_ref6 hx hb hts hown hK hP kw_471 dX5_overflows_34 ?_
      refine lv_iconst (v := (5 : Int32)) hx hb dX5_overflows_37 (by decide) ?_
      refine lv_dup2_11 hx hb dX5_overflows_38 rfl rfl ?_
      refine aM_ran5 (v := (g_t5 σ)) hx hb hK hP rfl dX5_overflows_39 ?_
      refine lv_iconst (v := (1 : Int32)) hx hb dX5_overflows_40 (by decide) ?_
      refine lv_iadd hx hb dX5_overflows_41 ?_
      refine bM_ran5 hx hb hK hP hD hS dX5_overflows_42 (fun H locs hP hD hS => ?_)
      have hE : m_overflows σ a1 a2 = (s_t5 (s_ov σ (1 : Int32)) ((g_t5 σ) + (1 : Int32))) := (by unfold m_overflows; rw [if_pos c_14_1, if_neg c_25_2])
      exact hret (s_t5 (s_ov σ (1 : Int32)) ((g_t5 σ) + (1 : Int32))) _ _ _ _ hE hP hD hS dX5_overflows_43
def m_ones_4 : Nat → Int32 → Int32 → Int32 → Int32
  | 0, _, _, _ => 0
  | n + 1, x0_4, x1_4, x2_4 => (if (9 : Int32) ≤ x2_4 then x1_4 else m_ones_4 n x0_4 (x1_4 + ((x0_4 >>> (x2_4 &&& 31)) &&& (1 : Int32))) (x2_4 + (1 : Int32)))
def m_ones (a1 : Int32) : Int32 := m_ones_4 (10) a1 (0 : Int32) (0 : Int32)
set_option maxRecDepth 100000 in
set_option maxHeartbeats 8000000 in
theorem kX5_ones (l : Launch) (D : va_G) (cI : ClassId) (w : va_W) (a1 : Int32) : MetI l yX5_ones (wsU yX5_ones cX5_ones 3 (some .int)) { frames := 0, cells := 0, slots := 0, locals := 0 } D cI [.int a1] w (fun _ : Unit => w) (fun r _ => (m_ones a1) = r) := by
  refine MetI.of (by decide) (Nat.le_of_ble_eq_true rfl) ?_
  intro p e s m below meth c A Q ls hx hb hml hown hts hK hN hA hret hP hD hS hl
  have hown : s.vm.findClass RX5 = some m.cls := hown
  have hl : lv_has ls 3 [(0, .int a1)] := hl
  have J_4 : ∀ (n : Nat) (x0_4 : Int32) (x1_4 : Int32) (x2_4 : Int32) (H : Heap) (locs : List Loc) (ls : Array Slot), (∃ k : Nat, x2_4 = nI k ∧ k ≤ 9 ∧ k + n = 10) → m_ones a1 = m_ones_4 n x0_4 x1_4 x2_4 → lv_has ls 3 [(0, .int x0_4), (1, .int x1_4), (2, .int x2_4)] → va_P D vwCl w H → va_D A w → va_S A s.heap H locs → W p l e ({ frames := 0, cells := 0, slots := 0, locals := 0 } : Room) s m (([.int a1] : List Value).toArray) below meth c H locs 0 0 Q (F0 m 4 ls []) := by
    intro n
    induction n with
    | zero => intro x0_4 x1_4 x2_4 H locs ls hI E hl hP hD hS; obtain ⟨k, hk1, hk2, hk3⟩ := hI; omega
    | succ n ih =>
      intro x0_4 x1_4 x2_4 H locs ls hI E hl hP hD hS
      obtain ⟨k, hk1, hk2, hk3⟩ := hI
      refine lv_iload_n hx hb dX5_ones_4 rfl (lv_at hl 2 rfl) ?_
      refine lv_bipush (v := (9 : Int32)) hx hb dX5_ones_5 (by decide) ?_
      refine lv_icmp_ge (tgt := 24) hx hb dX5_ones_7 (by decide) (fun c_7_1 => ?_) (fun c_7_1 => ?_)
      · have c_7_1 : (9 : Int32) ≤ x2_4 := c_7_1
        refine lv_iload_n hx hb dX5_ones_24 rfl (lv_at hl 1 rfl) ?_
        have hE : m_ones a1 = x1_4 := (E.trans (by rw [m_ones_4, if_pos c_7_1]))
        exact hret x1_4 () _ _ _ _ rfl hE hP hD hS dX5_ones_25
      · have c_7_1 : ¬ ((9 : Int32) ≤ x2_4) := c_7_1
        refine lv_iload_n hx hb dX5_ones_10 rfl (lv_at hl 1 rfl) ?_
        refine lv_iload_n hx hb dX5_ones_11 rfl (lv_at hl 0 rfl) ?_
        refine lv_iload_n hx hb dX5_ones_12 rfl (lv_at hl 2 rfl) ?_
        refine lv_ishr hx hb dX5_ones_13 ?_
        refine lv_iconst (v := (1 : Int32)) hx hb dX5_ones_14 (by decide) ?_
        refine lv_iand hx hb dX5_ones_15 ?_
        refine lv_iadd hx hb dX5_ones_16 ?_
        refine lv_istore_n (lv' := [(1, .int (x1_4 + ((x0_4 >>> (x2_4 &&& 31)) &&& (1 : Int32)))), (0, .int x0_4), (2, .int x2_4)]) hx hb dX5_ones_17 rfl hl (by decide) rfl (fun ls hl => ?_)
        refine lv_iinc (v := (x2_4 + (1 : Int32))) (lv' := [(2, .int (x2_4 + (1 : Int32))), (1, .int (x1_4 + ((x0_4 >>> (x2_4 &&& 31)) &&& (1 : Int32)))), (0, .int x0_4)]) hx hb dX5_ones_18 hl (k := 2) rfl (rfl) (by decide) rfl (fun ls hl => ?_)
        refine lv_goto (tgt := 4) hx hb dX5_ones_21 (by decide) ?_
        exact ih x0_4 (x1_4 + ((x0_4 >>> (x2_4 &&& 31)) &&& (1 : Int32))) (x2_4 + (1 : Int32)) _ _ _ (⟨k + 1, by rw [hk1]; exact nI_1 k, lp_c (by assumption) hk1 hk2 (by decide), by omega⟩) (E.trans (by rw [m_ones_4, if_neg c_7_1])) (lv_sub hl [2, 1, 0] rfl) hP hD hS
  suffices go : ∀ (H : Heap) (locs : List Loc), va_P D vwCl w H → va_D A w → va_S A s.heap H locs → W p l e ({ frames := 0, cells := 0, slots := 0, locals := 0 } : Room) s m (([.int a1] : List Value).toArray) below meth c H locs 0 0 Q (F0 m 0 ls []) from go _ _ hP hD hS
  intro H locs hP hD hS
  refine lv_iconst (v := (0 : Int32)) hx hb dX5_ones_0 (by decide) ?_
  refine lv_istore_n (lv' := [(1, .int (0 : Int32)), (0, .int a1)]) hx hb dX5_ones_1 rfl hl (by decide) rfl (fun ls hl => ?_)
  refine lv_iconst (v := (0 : Int32)) hx hb dX5_ones_2 (by decide) ?_
  refine lv_istore_n (lv' := [(2, .int (0 : Int32)), (1, .int (0 : Int32)), (0, .int a1)]) hx hb dX5_ones_3 rfl hl (by decide) rfl (fun ls hl => ?_)
  exact J_4 (10) a1 (0 : Int32) (0 : Int32) _ _ _ (⟨0, rfl, Nat.zero_le _, rfl⟩) (by unfold m_ones; rfl) (lv_sub hl [2, 1, 0] rfl) hP hD hS
def m_hasAddress (a1 : Int32) : Int32 := (if (m_in a1 (1 : Int32) (4 : Int32)) = (0 : Int32) then (if (m_in a1 (8 : Int32) (14 : Int32)) = (0 : Int32) then (if (m_in a1 (16 : Int32) (25 : Int32)) = (0 : Int32) then (0 : Int32) else (1 : Int32)) else (1 : Int32)) else (1 : Int32))
set_option maxRecDepth 100000 in
set_option maxHeartbeats 8000000 in
theorem kX5_hasAddress (l : Launch) (D : va_G) (cI : ClassId) (w : va_W) (a1 : Int32) : MetI l yX5_hasAddress (wsU yX5_hasAddress cX5_hasAddress 1 (some .boolean)) { frames := 1, cells := 0, slots := 0, locals := 22 } D cI [.int a1] w (fun _ : Unit => w) (fun r _ => (m_hasAddress a1) = r) := by
  refine MetI.of (by decide) (Nat.le_of_ble_eq_true rfl) ?_
  intro p e s m below meth c A Q ls hx hb hml hown hts hK hN hA hret hP hD hS hl
  have hown : s.vm.findClass RX5 = some m.cls := hown
  have hl : lv_has ls 1 [(0, .int a1)] := hl
  suffices go : ∀ (H : Heap) (locs : List Loc), va_P D vwCl w H → va_D A w → va_S A s.heap H locs → W p l e ({ frames := 1, cells := 0, slots := 0, locals := 22 } : Room) s m (([.int a1] : List Value).toArray) below meth c H locs 0 0 Q (F0 m 0 ls []) from go _ _ hP hD hS
  intro H locs hP hD hS
  refine lv_iload_n hx hb dX5_hasAddress_0 rfl (lv_at hl 0 rfl) ?_
  refine lv_iconst (v := (1 : Int32)) hx hb dX5_hasAddress_1 (by decide) ?_
  refine lv_iconst (v := (4 : Int32)) hx hb dX5_hasAddress_2 (by decide) ?_
  refine call_Si 3 (kX5_in l D cI _ a1 (1 : Int32) (4 : Int32)) ⟨hx, hb, hml, hown, hts, hK, hN, hA⟩ ⟨kw_522, kw_523, kw_6, kw_524, by decide +kernel, rfl, rfl, Nat.le_of_ble_eq_true rfl, Nat.le_of_ble_eq_true rfl⟩ rfl hP hD hS hl.1 rfl (Nat.le_of_ble_eq_true rfl) dX5_hasAddress_3 ⟨Nat.zero_le _, Nat.zero_le _⟩ (fun r3 u H locs hw hP hD hS => ?_)
  have hw : (m_in a1 (1 : Int32) (4 : Int32)) = r3 := hw
  subst hw
  refine lv_if_ne (tgt := 31) hx hb dX5_hasAddress_6 (by decide) (fun c_6_1 => ?_) (fun c_6_1 => ?_)
  · have c_6_1 : ¬ ((m_in a1 (1 : Int32) (4 : Int32)) = (0 : Int32)) := c_6_1
    refine lv_iconst (v := (1 : Int32)) hx hb dX5_hasAddress_31 (by decide) ?_
    refine lv_goto (tgt := 36) hx hb dX5_hasAddress_32 (by decide) ?_
    have hE : m_hasAddress a1 = (1 : Int32) := (by unfold m_hasAddress; rw [if_neg c_6_1])
    exact hret (1 : Int32) () _ _ _ _ rfl hE hP hD hS dX5_hasAddress_36
  · have c_6_1 : (m_in a1 (1 : Int32) (4 : Int32)) = (0 : Int32) := c_6_1
    refine lv_iload_n hx hb dX5_hasAddress_9 rfl (lv_at hl 0 rfl) ?_
    refine lv_bipush (v := (8 : Int32)) hx hb dX5_hasAddress_10 (by decide) ?_
    refine lv_bipush (v := (14 : Int32)) hx hb dX5_hasAddress_12 (by decide) ?_
    refine call_Si 3 (kX5_in l D cI _ a1 (8 : Int32) (14 : Int32)) ⟨hx, hb, hml, hown, hts, hK, hN, hA⟩ ⟨kw_522, kw_523, kw_6, kw_524, by decide +kernel, rfl, rfl, Nat.le_of_ble_eq_true rfl, Nat.le_of_ble_eq_true rfl⟩ rfl hP hD hS hl.1 rfl (Nat.le_of_ble_eq_true rfl) dX5_hasAddress_14 ⟨Nat.zero_le _, Nat.zero_le _⟩ (fun r14 u H locs hw hP hD hS => ?_)
    have hw : (m_in a1 (8 : Int32) (14 : Int32)) = r14 := hw
    subst hw
    refine lv_if_ne (tgt := 31) hx hb dX5_hasAddress_17 (by decide) (fun c_17_2 => ?_) (fun c_17_2 => ?_)
    · have c_17_2 : ¬ ((m_in a1 (8 : Int32) (14 : Int32)) = (0 : Int32)) := c_17_2
      refine lv_iconst (v := (1 : Int32)) hx hb dX5_hasAddress_31 (by decide) ?_
      refine lv_goto (tgt := 36) hx hb dX5_hasAddress_32 (by decide) ?_
      have hE : m_hasAddress a1 = (1 : Int32) := (by unfold m_hasAddress; rw [if_pos c_6_1, if_neg c_17_2])
      exact hret (1 : Int32) () _ _ _ _ rfl hE hP hD hS dX5_hasAddress_36
    · have c_17_2 : (m_in a1 (8 : Int32) (14 : Int32)) = (0 : Int32) := c_17_2
      refine lv_iload_n hx hb dX5_hasAddress_20 rfl (lv_at hl 0 rfl) ?_
      refine lv_bipush (v := (16 : Int32)) hx hb dX5_hasAddress_21 (by decide) ?_
      refine lv_bipush (v := (25 : Int32)) hx hb dX5_hasAddress_23 (by decide) ?_
      refine call_Si 3 (kX5_in l D cI _ a1 (16 : Int32) (25 : Int32)) ⟨hx, hb, hml, hown, hts, hK, hN, hA⟩ ⟨kw_522, kw_523, kw_6, kw_524, by decide +kernel, rfl, rfl, Nat.le_of_ble_eq_true rfl, Nat.le_of_ble_eq_true rfl⟩ rfl hP hD hS hl.1 rfl (Nat.le_of_ble_eq_true rfl) dX5_hasAddress_25 ⟨Nat.zero_le _, Nat.zero_le _⟩ (fun r25 u H locs hw hP hD hS => ?_)
      have hw : (m_in a1 (16 : Int32) (25 : Int32)) = r25 := hw
      subst hw
      refine lv_if_eq (tgt := 35) hx hb dX5_hasAddress_28 (by decide) (fun c_28_3 => ?_) (fun c_28_3 => ?_)
      · have c_28_3 : (m_in a1 (16 : Int32) (25 : Int32)) = (0 : Int32) := c_28_3
        refine lv_iconst (v := (0 : Int32)) hx hb dX5_hasAddress_35 (by decide) ?_
        have hE : m_hasAddress a1 = (0 : Int32) := (by unfold m_hasAddress; rw [if_pos c_6_1, if_pos c_17_2, if_pos c_28_3])
        exact hret (0 : Int32) () _ _ _ _ rfl hE hP hD hS dX5_hasAddress_36
      · have c_28_3 : ¬ ((m_in a1 (16 : Int32) (25 : Int32)) = (0 : Int32)) := c_28_3
        refine lv_iconst (v := (1 : Int32)) hx hb dX5_hasAddress_31 (by decide) ?_
        refine lv_goto (tgt := 36) hx hb dX5_hasAddress_32 (by decide) ?_
        have hE : m_hasAddress a1 = (1 : Int32) := (by unfold m_hasAddress; rw [if_pos c_6_1, if_pos c_17_2, if_neg c_28_3])
        exact hret (1 : Int32) () _ _ _ _ rfl hE hP hD hS dX5_hasAddress_36
