def m_in (a1 : Int32) (a2 : Int32) (a3 : Int32) : Int32 := (if a1 < a2 then (0 : Int32) else (if a3 < a1 then (0 : Int32) else (1 : Int32)))
set_option maxRecDepth 100000 in
set_option maxHeartbeats 8000000 in
theorem kX5_in (l : Launch) (D : va_G) (cI : ClassId) (w : va_W) (a1 : Int32) (a2 : Int32) (a3 : Int32) : MetI l yX5_in (wsU yX5_in cX5_in 3 (some .boolean)) { frames := 0, cells := 0, slots := 0, locals := 0 } D cI [.int a1, .int a2, .int a3] w (fun _ : Unit => w) (fun r _ => (m_in a1 a2 a3) = r) := by
  refine MetI.of (by decide) (Nat.le_of_ble_eq_true rfl) ?_
  intro p e s m below meth c A Q ls hx hb hml hown hts hK hN hA hret hP hD hS hl
  have hown : s.vm.findClass RX5 = some m.cls := hown
  have hl : lv_has ls 3 [(0, .int a1), (1, .int a2), (2, .int a3)] := hl
  suffices go : ∀ (H : Heap) (locs : List Loc), va_P D vwCl w H → va_D A w → va_S A s.heap H locs → W p l e ({ frames := 0, cells := 0, slots := 0, locals := 0 } : Room) s m (([.int a1, .int a2, .int a3] : List Value).toArray) below meth c H locs 0 0 Q (F0 m 0 ls []) from go _ _ hP hD hS
  intro H locs hP hD hS
  refine lv_iload_n hx hb dX5_in_0 rfl (lv_at hl 0 rfl) ?_
  refine lv_iload_n hx hb dX5_in_1 rfl (lv_at hl 1 rfl) ?_
  refine lv_icmp_lt (tgt := 14) hx hb dX5_in_2 (by decide) (fun c_2_1 => ?_) (fun c_2_1 => ?_)
  · have c_2_1 : a1 < a2 := c_2_1
    refine lv_iconst (v := (0 : Int32)) hx hb dX5_in_14 (by decide) ?_
    have hE : m_in a1 a2 a3 = (0 : Int32) := (by unfold m_in; rw [if_pos c_2_1])
    exact hret (0 : Int32) () _ _ _ _ rfl hE hP hD hS dX5_in_15
  · have c_2_1 : ¬ (a1 < a2) := c_2_1
    refine lv_iload_n hx hb dX5_in_5 rfl (lv_at hl 0 rfl) ?_
    refine lv_iload_n hx hb dX5_in_6 rfl (lv_at hl 2 rfl) ?_
    refine lv_icmp_gt (tgt := 14) hx hb dX5_in_7 (by decide) (fun c_7_2 => ?_) (fun c_7_2 => ?_)
    · have c_7_2 : a3 < a1 := c_7_2
      refine lv_iconst (v := (0 : Int32)) hx hb dX5_in_14 (by decide) ?_
      have hE : m_in a1 a2 a3 = (0 : Int32) := (by unfold m_in; rw [if_neg c_2_1, if_pos c_7_2])
      exact hret (0 : Int32) () _ _ _ _ rfl hE hP hD hS dX5_in_15
    · have c_7_2 : ¬ (a3 < a1) := c_7_2
      refine lv_iconst (v := (1 : Int32)) hx hb dX5_in_10 (by decide) ?_
      refine lv_goto (tgt := 15) hx hb dX5_in_11 (by decide) ?_
      have hE : m_in a1 a2 a3 = (1 : Int32) := (by unfold m_in; rw [if_neg c_2_1, if_neg c_7_2])
      exact hret (1 : Int32) () _ _ _ _ rfl hE hP hD hS dX5_in_15
theorem m_in_vp {v K : Int32} {N : Nat} (h : ¬ m_in v (0 : Int32) K = (0 : Int32)) (hK : K.toInt + 1 = (N : Int)) : vp_in v N := by
  rw [vp_in_iff]
  unfold m_in at h
  by_cases c1 : v < (0 : Int32)
  · exact absurd (by rw [if_pos c1]) h
  · rw [if_neg c1] at h
    by_cases c2 : K < v
    · exact absurd (by rw [if_pos c2]) h
    · have a : ¬ v.toInt < (0 : Int32).toInt := fun q => c1 (Int32.lt_iff_toInt_lt.mpr q)
      have b : ¬ K.toInt < v.toInt := fun q => c2 (Int32.lt_iff_toInt_lt.mpr q)
      have c : (0 : Int32).toInt = 0 := by decide
      omega
def m_put (σ : St) (a1 : Int32) (a2 : Int32) : Int32 × St := (if (m_in a1 (0 : Int32) (4095 : Int32)) = (0 : Int32) then ((-1 : Int32), σ) else (if (m_in a2 (0 : Int32) (262143 : Int32)) = (0 : Int32) then ((-1 : Int32), σ) else (((g_cells σ) (Int32.toNatClampNeg a1)), (s_cells σ (upd (g_cells σ) (Int32.toNatClampNeg a1) a2)))))
set_option maxRecDepth 100000 in
set_option maxHeartbeats 8000000 in
theorem kX5_put (l : Launch) (D : va_G) (cI : ClassId) (h : Nat → Nat) (σ : St) (a1 : Int32) (a2 : Int32) : MetI l yX5_put (wsU yX5_put cX5_put 4 (some .int)) { frames := 1, cells := 0, slots := 0, locals := 22 } D cI [.ref (h 0), .int a1, .int a2] (wM h cI σ) (fun u : St => wM h cI u) (fun r u => (m_put σ a1 a2).1 = r ∧ (m_put σ a1 a2).2 = u) := by
  refine MetI.of (by decide) (Nat.le_of_ble_eq_true rfl) ?_
  intro p e s m below meth c A Q ls hx hb hml hown hts hK hN hA hret hP hD hS hl
  have hown : s.vm.findClass RX5 = some m.cls := hown
  have hl : lv_has ls 4 [(0, .ref (h 0)), (1, .int a1), (2, .int a2)] := hl
  suffices go : ∀ (H : Heap) (locs : List Loc), va_P D vwCl (wM h cI σ) H → va_D A (wM h cI σ) → va_S A s.heap H locs → W p l e ({ frames := 1, cells := 0, slots := 0, locals := 22 } : Room) s m (([.ref (h 0), .int a1, .int a2] : List Value).toArray) below meth c H locs 0 0 Q (F0 m 0 ls []) from go _ _ hP hD hS
  intro H locs hP hD hS
  refine lv_iload_n hx hb dX5_put_0 rfl (lv_at hl 1 rfl) ?_
  refine lv_iconst (v := (0 : Int32)) hx hb dX5_put_1 (by decide) ?_
  refine lv_sipush (v := (4095 : Int32)) hx hb dX5_put_2 (by decide) ?_
  refine call_Si 3 (kX5_in l D cI _ a1 (0 : Int32) (4095 : Int32)) ⟨hx, hb, hml, hown, hts, hK, hN, hA⟩ ⟨kw_522, kw_523, kw_6, kw_524, by decide +kernel, rfl, rfl, Nat.le_of_ble_eq_true rfl, Nat.le_of_ble_eq_true rfl⟩ rfl hP hD hS hl.1 rfl (Nat.le_of_ble_eq_true rfl) dX5_put_5 ⟨Nat.zero_le _, Nat.zero_le _⟩ (fun r5 u H locs hw hP hD hS => ?_)
  have hw : (m_in a1 (0 : Int32) (4095 : Int32)) = r5 := hw
  subst hw
  refine lv_if_eq (tgt := 21) hx hb dX5_put_8 (by decide) (fun c_8_1 => ?_) (fun c_8_1 => ?_)
  · have c_8_1 : (m_in a1 (0 : Int32) (4095 : Int32)) = (0 : Int32) := c_8_1
    refine lv_iconst (v := (-1 : Int32)) hx hb dX5_put_21 (by decide) ?_
    have hE : m_put σ a1 a2 = ((-1 : Int32), σ) := (by unfold m_put; rw [if_pos c_8_1])
    exact hret (-1 : Int32) σ _ _ _ _ rfl ⟨by rw [hE], by rw [hE]⟩ hP hD hS dX5_put_22
  · have c_8_1 : ¬ ((m_in a1 (0 : Int32) (4095 : Int32)) = (0 : Int32)) := c_8_1
    refine lv_iload_n hx hb dX5_put_11 rfl (lv_at hl 2 rfl) ?_
    refine lv_iconst (v := (0 : Int32)) hx hb dX5_put_12 (by decide) ?_
    refine lv_ldc (v := (262143 : Int32)) hx hb hown (hts _ kw_525) dX5_put_13 ?_
    refine call_Si 3 (kX5_in l D cI _ a2 (0 : Int32) (262143 : Int32)) ⟨hx, hb, hml, hown, hts, hK, hN, hA⟩ ⟨kw_522, kw_523, kw_6, kw_524, by decide +kernel, rfl, rfl, Nat.le_of_ble_eq_true rfl, Nat.le_of_ble_eq_true rfl⟩ rfl hP hD hS hl.1 rfl (Nat.le_of_ble_eq_true rfl) dX5_put_15 ⟨Nat.zero_le _, Nat.zero_le _⟩ (fun r15 u H locs hw hP hD hS => ?_)
    have hw : (m_in a2 (0 : Int32) (262143 : Int32)) = r15 := hw
    subst hw
    refine lv_if_ne (tgt := 23) hx hb dX5_put_18 (by decide) (fun c_18_2 => ?_) (fun c_18_2 => ?_)
    · have c_18_2 : ¬ ((m_in a2 (0 : Int32) (262143 : Int32)) = (0 : Int32)) := c_18_2
      refine lv_aload_n hx hb dX5_put_23 rfl (lv_at hl 0 rfl) ?_
      refine gM_ref1 hx hb hts hown hK hP kw_451 dX5_put_24 ?_
      refine lv_iload_n hx hb dX5_put_27 rfl (lv_at hl 1 rfl) ?_
      refine aM_cells (v := ((g_cells σ) (Int32.toNatClampNeg a1))) hx hb hK hP (by exact m_in_vp (by assumption) (by decide)) rfl dX5_put_28 ?_
      refine lv_istore_n (lv' := [(3, .int ((g_cells σ) (Int32.toNatClampNeg a1))), (0, .ref (h 0)), (1, .int a1), (2, .int a2)]) hx hb dX5_put_29 rfl hl (by decide) rfl (fun ls hl => ?_)
      refine lv_aload_n hx hb dX5_put_30 rfl (lv_at hl 1 rfl) ?_
      refine gM_ref1 hx hb hts hown hK hP kw_451 dX5_put_31 ?_
      refine lv_iload_n hx hb dX5_put_34 rfl (lv_at hl 2 rfl) ?_
      refine lv_iload_n hx hb dX5_put_35 rfl (lv_at hl 3 rfl) ?_
      refine bM_cells (f := (g_cells σ)) hx hb hK hP hD hS (by exact m_in_vp (by assumption) (by decide)) rfl dX5_put_36 (fun H locs hP hD hS => ?_)
      refine lv_iload_n hx hb dX5_put_37 rfl (lv_at hl 0 rfl) ?_
      have hE : m_put σ a1 a2 = (((g_cells σ) (Int32.toNatClampNeg a1)), (s_cells σ (upd (g_cells σ) (Int32.toNatClampNeg a1) a2))) := (by unfold m_put; rw [if_neg c_8_1, if_neg c_18_2])
      exact hret ((g_cells σ) (Int32.toNatClampNeg a1)) (s_cells σ (upd (g_cells σ) (Int32.toNatClampNeg a1) a2)) _ _ _ _ rfl ⟨by rw [hE], by rw [hE]⟩ hP hD hS dX5_put_38
    · have c_18_2 : (m_in a2 (0 : Int32) (262143 : Int32)) = (0 : Int32) := c_18_2
      refine lv_iconst (v := (-1 : Int32)) hx hb dX5_put_21 (by decide) ?_
      have hE : m_put σ a1 a2 = ((-1 : Int32), σ) := (by unfold m_put; rw [if_neg c_8_1, if_pos c_18_2])
      exact hret (-1 : Int32) σ _ _ _ _ rfl ⟨by rw [hE], by rw [hE]⟩ hP hD hS dX5_put_22
def m_core (σ : St) (a1 : Int32) : Int32 := (if (m_in a1 (0 : Int32) (4095 : Int32)) = (0 : Int32) then (-1 : Int32) else ((g_cells σ) (Int32.toNatClampNeg a1)))
set_option maxRecDepth 100000 in
set_option maxHeartbeats 8000000 in
theorem kX5_core (l : Launch) (D : va_G) (cI : ClassId) (h : Nat → Nat) (σ : St) (a1 : Int32) : MetI l yX5_core (wsU yX5_core cX5_core 2 (some .int)) { frames := 1, cells := 0, slots := 0, locals := 22 } D cI [.ref (h 0), .int a1] (wM h cI σ) (fun _ : Unit => wM h cI σ) (fun r _ => (m_core σ a1) = r) := by
  refine MetI.of (by decide) (Nat.le_of_ble_eq_true rfl) ?_
  intro p e s m below meth c A Q ls hx hb hml hown hts hK hN hA hret hP hD hS hl
  have hown : s.vm.findClass RX5 = some m.cls := hown
  have hl : lv_has ls 2 [(0, .ref (h 0)), (1, .int a1)] := hl
  suffices go : ∀ (H : Heap) (locs : List Loc), va_P D vwCl (wM h cI σ) H → va_D A (wM h cI σ) → va_S A s.heap H locs → W p l e ({ frames := 1, cells := 0, slots := 0, locals := 22 } : Room) s m (([.ref (h 0), .int a1] : List Value).toArray) below meth c H locs 0 0 Q (F0 m 0 ls []) from go _ _ hP hD hS
  intro H locs hP hD hS
  refine lv_iload_n hx hb dX5_core_0 rfl (lv_at hl 1 rfl) ?_
  refine lv_iconst (v := (0 : Int32)) hx hb dX5_core_1 (by decide) ?_
  refine lv_sipush (v := (4095 : Int32)) hx hb dX5_core_2 (by decide) ?_
  refine call_Si 3 (kX5_in l D cI _ a1 (0 : Int32) (4095 : Int32)) ⟨hx, hb, hml, hown, hts, hK, hN, hA⟩ ⟨kw_522, kw_523, kw_6, kw_524, by decide +kernel, rfl, rfl, Nat.le_of_ble_eq_true rfl, Nat.le_of_ble_eq_true rfl⟩ rfl hP hD hS hl.1 rfl (Nat.le_of_ble_eq_true rfl) dX5_core_5 ⟨Nat.zero_le _, Nat.zero_le _⟩ (fun r5 u H locs hw hP hD hS => ?_)
  have hw : (m_in a1 (0 : Int32) (4095 : Int32)) = r5 := hw
  subst hw
  refine lv_if_eq (tgt := 20) hx hb dX5_core_8 (by decide) (fun c_8_1 => ?_) (fun c_8_1 => ?_)
  · have c_8_1 : (m_in a1 (0 : Int32) (4095 : Int32)) = (0 : Int32) := c_8_1
    refine lv_iconst (v := (-1 : Int32)) hx hb dX5_core_20 (by decide) ?_
    have hE : m_core σ a1 = (-1 : Int32) := (by unfold m_core; rw [if_pos c_8_1])
    exact hret (-1 : Int32) () _ _ _ _ rfl hE hP hD hS dX5_core_21
  · have c_8_1 : ¬ ((m_in a1 (0 : Int32) (4095 : Int32)) = (0 : Int32)) := c_8_1
    refine lv_aload_n hx hb dX5_core_11 rfl (lv_at hl 0 rfl) ?_
    refine gM_ref1 hx hb hts hown hK hP kw_451 dX5_core_12 ?_
    refine lv_iload_n hx hb dX5_core_15 rfl (lv_at hl 1 rfl) ?_
    refine aM_cells (v := ((g_cells σ) (Int32.toNatClampNeg a1))) hx hb hK hP (by exact m_in_vp (by assumption) (by decide)) rfl dX5_core_16 ?_
    refine lv_goto (tgt := 21) hx hb dX5_core_17 (by decide) ?_
    have hE : m_core σ a1 = ((g_cells σ) (Int32.toNatClampNeg a1)) := (by unfold m_core; rw [if_neg c_8_1])
    exact hret ((g_cells σ) (Int32.toNatClampNeg a1)) () _ _ _ _ rfl hE hP hD hS dX5_core_21
def m_load_38 : Nat → St → Int32 → Int64 → Int32 → Int32 → Int32 × St
  | 0, σ, _, _, _, _ => (0, σ)
  | n + 1, σ, x1_38, x2_38, x4_38, x5_38 => (if x4_38 ≤ x5_38 then (x4_38, σ) else m_load_38 n (s_cells σ (upd (g_cells σ) (Int32.toNatClampNeg ((x1_38 + x5_38) &&& (4095 : Int32))) ((Int64.toInt32 (x2_38 >>> (Int32.toInt64 ((18 : Int32) * ((x4_38 - (1 : Int32)) - x5_38)) &&& 63))) &&& (262143 : Int32)))) x1_38 x2_38 x4_38 (x5_38 + (1 : Int32)))
def m_load (σ : St) (a1 : Int32) (a2 : Int64) (a3 : Int32) : Int32 × St := (if (m_in a1 (0 : Int32) (4095 : Int32)) = (0 : Int32) then ((-1 : Int32), σ) else (if (m_in a3 (1 : Int32) (3 : Int32)) = (0 : Int32) then ((-1 : Int32), σ) else (if (lg_cmp (a2 >>> (Int32.toInt64 ((18 : Int32) * a3) &&& 63)) (0 : Int64)) = (0 : Int32) then m_load_38 (Int32.toNatClampNeg a3 + 1) σ a1 a2 a3 (0 : Int32) else ((-1 : Int32), σ))))
set_option maxRecDepth 100000 in
set_option maxHeartbeats 8000000 in
theorem kX5_load (l : Launch) (D : va_G) (cI : ClassId) (h : Nat → Nat) (σ : St) (a1 : Int32) (a2 : Int64) (a3 : Int32) : MetI l yX5_load (wsU yX5_load cX5_load 6 (some .int)) { frames := 1, cells := 0, slots := 0, locals := 22 } D cI [.ref (h 0), .int a1, .long a2, .int a3] (wM h cI σ) (fun u : St => wM h cI u) (fun r u => (m_load σ a1 a2 a3).1 = r ∧ (m_load σ a1 a2 a3).2 = u) := by
  refine MetI.of (by decide) (Nat.le_of_ble_eq_true rfl) ?_
  intro p e s m below meth c A Q ls hx hb hml hown hts hK hN hA hret hP hD hS hl
  have hown : s.vm.findClass RX5 = some m.cls := hown
  have hl : lv_has ls 6 [(0, .ref (h 0)), (1, .int a1), (2, .long a2), (4, .int a3)] := hl
  have J_38 : ∀ (n : Nat) (σ' : St) (x1_38 : Int32) (x2_38 : Int64) (x4_38 : Int32) (x5_38 : Int32) (H : Heap) (locs : List Loc) (ls : Array Slot), (∃ k : Nat, x5_38 = nI k ∧ x4_38 = a3 ∧ k ≤ Int32.toNatClampNeg a3 ∧ k + n = Int32.toNatClampNeg a3 + 1) → m_load σ a1 a2 a3 = m_load_38 n σ' x1_38 x2_38 x4_38 x5_38 → lv_has ls 6 [(0, .ref (h 0)), (1, .int x1_38), (2, .long x2_38), (4, .int x4_38), (5, .int x5_38)] → va_P D vwCl (wM h cI σ') H → va_D A (wM h cI σ') → va_S A s.heap H locs → W p l e ({ frames := 1, cells := 0, slots := 0, locals := 22 } : Room) s m (([.ref (h 0), .int a1, .long a2, .int a3] : List Value).toArray) below meth c H locs 0 0 Q (F0 m 38 ls []) := by
    intro n
    induction n with
    | zero => intro σ' x1_38 x2_38 x4_38 x5_38 H locs ls hI E hl hP hD hS; obtain ⟨k, hk1, hk2, hk3, hk4⟩ := hI; omega
    | succ n ih =>
      intro σ' x1_38 x2_38 x4_38 x5_38 H locs ls hI E hl hP hD hS
      obtain ⟨k, hk1, hk2, hk3, hk4⟩ := hI
      refine lv_iload hx hb dX5_load_38 (lv_at hl 4 rfl) ?_
      refine lv_iload hx hb dX5_load_40 (lv_at hl 3 rfl) ?_
      refine lv_icmp_ge (tgt := 80) hx hb dX5_load_42 (by decide) (fun c_42_4 => ?_) (fun c_42_4 => ?_)
      · have c_42_4 : x4_38 ≤ x5_38 := c_42_4
        refine lv_iload hx hb dX5_load_80 (lv_at hl 3 rfl) ?_
        have hE : m_load σ a1 a2 a3 = (x4_38, σ') := (E.trans (by rw [m_load_38, if_pos c_42_4]))
        exact hret x4_38 σ' _ _ _ _ rfl ⟨by rw [hE], by rw [hE]⟩ hP hD hS dX5_load_82
      · have c_42_4 : ¬ (x4_38 ≤ x5_38) := c_42_4
        refine lv_aload_n hx hb dX5_load_45 rfl (lv_at hl 0 rfl) ?_
        refine gM_ref1 hx hb hts hown hK hP kw_451 dX5_load_46 ?_
        refine lv_iload_n hx hb dX5_load_49 rfl (lv_at hl 1 rfl) ?_
        refine lv_iload hx hb dX5_load_50 (lv_at hl 4 rfl) ?_
        refine lv_iadd hx hb dX5_load_52 ?_
        refine lv_sipush (v := (4095 : Int32)) hx hb dX5_load_53 (by decide) ?_
        refine lv_iand hx hb dX5_load_56 ?_
        refine lv_lload_n hx hb dX5_load_57 rfl (lv_at hl 2 rfl) ?_
        refine lv_bipush (v := (18 : Int32)) hx hb dX5_load_58 (by decide) ?_
        refine lv_iload hx hb dX5_load_60 (lv_at hl 3 rfl) ?_
        refine lv_iconst (v := (1 : Int32)) hx hb dX5_load_62 (by decide) ?_
        refine lv_isub hx hb dX5_load_63 ?_
        refine lv_iload hx hb dX5_load_64 (lv_at hl 4 rfl) ?_
        refine lv_isub hx hb dX5_load_66 ?_
        refine lv_imul hx hb dX5_load_67 ?_
        refine lv_lshr (v := (x2_38 >>> (Int32.toInt64 ((18 : Int32) * ((x4_38 - (1 : Int32)) - x5_38)) &&& 63))) hx hb dX5_load_68 rfl ?_
        refine lv_l2i (v := (Int64.toInt32 (x2_38 >>> (Int32.toInt64 ((18 : Int32) * ((x4_38 - (1 : Int32)) - x5_38)) &&& 63)))) hx hb dX5_load_69 rfl ?_
        refine lv_ldc (v := (262143 : Int32)) hx hb hown (hts _ kw_525) dX5_load_70 ?_
        refine lv_iand hx hb dX5_load_72 ?_
        refine bM_cells (f := (g_cells σ')) hx hb hK hP hD hS (pk_andIn _ 12 (by decide) (by decide)) rfl dX5_load_73 (fun H locs hP hD hS => ?_)
        refine lv_iinc (v := (x5_38 + (1 : Int32))) (lv' := [(5, .int (x5_38 + (1 : Int32))), (0, .ref (h 0)), (1, .int x1_38), (2, .long x2_38), (4, .int x4_38)]) hx hb dX5_load_74 hl (k := 4) rfl (rfl) (by decide) rfl (fun ls hl => ?_)
        refine lv_goto (tgt := 38) hx hb dX5_load_77 (by decide) ?_
        exact ih (s_cells σ' (upd (g_cells σ') (Int32.toNatClampNeg ((x1_38 + x5_38) &&& (4095 : Int32))) ((Int64.toInt32 (x2_38 >>> (Int32.toInt64 ((18 : Int32) * ((x4_38 - (1 : Int32)) - x5_38)) &&& 63))) &&& (262143 : Int32)))) x1_38 x2_38 x4_38 (x5_38 + (1 : Int32)) _ _ _ (⟨k + 1, by rw [hk1]; exact nI_1 k, hk2, hk2 ▸ lp_ge (by assumption) hk1 (by rw [hk2]; exact hk3), by omega⟩) (E.trans (by rw [m_load_38, if_neg c_42_4])) (lv_sub hl [1, 2, 3, 4, 0] rfl) hP hD hS
  suffices go : ∀ (H : Heap) (locs : List Loc), va_P D vwCl (wM h cI σ) H → va_D A (wM h cI σ) → va_S A s.heap H locs → W p l e ({ frames := 1, cells := 0, slots := 0, locals := 22 } : Room) s m (([.ref (h 0), .int a1, .long a2, .int a3] : List Value).toArray) below meth c H locs 0 0 Q (F0 m 0 ls []) from go _ _ hP hD hS
  intro H locs hP hD hS
  refine lv_iload_n hx hb dX5_load_0 rfl (lv_at hl 1 rfl) ?_
  refine lv_iconst (v := (0 : Int32)) hx hb dX5_load_1 (by decide) ?_
  refine lv_sipush (v := (4095 : Int32)) hx hb dX5_load_2 (by decide) ?_
  refine call_Si 3 (kX5_in l D cI _ a1 (0 : Int32) (4095 : Int32)) ⟨hx, hb, hml, hown, hts, hK, hN, hA⟩ ⟨kw_522, kw_523, kw_6, kw_524, by decide +kernel, rfl, rfl, Nat.le_of_ble_eq_true rfl, Nat.le_of_ble_eq_true rfl⟩ rfl hP hD hS hl.1 rfl (Nat.le_of_ble_eq_true rfl) dX5_load_5 ⟨Nat.zero_le _, Nat.zero_le _⟩ (fun r5 u H locs hw hP hD hS => ?_)
  have hw : (m_in a1 (0 : Int32) (4095 : Int32)) = r5 := hw
  subst hw
  refine lv_if_eq (tgt := 33) hx hb dX5_load_8 (by decide) (fun c_8_1 => ?_) (fun c_8_1 => ?_)
  · have c_8_1 : (m_in a1 (0 : Int32) (4095 : Int32)) = (0 : Int32) := c_8_1
    refine lv_iconst (v := (-1 : Int32)) hx hb dX5_load_33 (by decide) ?_
    have hE : m_load σ a1 a2 a3 = ((-1 : Int32), σ) := (by unfold m_load; rw [if_pos c_8_1])
    exact hret (-1 : Int32) σ _ _ _ _ rfl ⟨by rw [hE], by rw [hE]⟩ hP hD hS dX5_load_34
  · have c_8_1 : ¬ ((m_in a1 (0 : Int32) (4095 : Int32)) = (0 : Int32)) := c_8_1
    refine lv_iload hx hb dX5_load_11 (lv_at hl 3 rfl) ?_
    refine lv_iconst (v := (1 : Int32)) hx hb dX5_load_13 (by decide) ?_
    refine lv_iconst (v := (3 : Int32)) hx hb dX5_load_14 (by decide) ?_
    refine call_Si 3 (kX5_in l D cI _ a3 (1 : Int32) (3 : Int32)) ⟨hx, hb, hml, hown, hts, hK, hN, hA⟩ ⟨kw_522, kw_523, kw_6, kw_524, by decide +kernel, rfl, rfl, Nat.le_of_ble_eq_true rfl, Nat.le_of_ble_eq_true rfl⟩ rfl hP hD hS hl.1 rfl (Nat.le_of_ble_eq_true rfl) dX5_load_15 ⟨Nat.zero_le _, Nat.zero_le _⟩ (fun r15 u H locs hw hP hD hS => ?_)
    have hw : (m_in a3 (1 : Int32) (3 : Int32)) = r15 := hw
    subst hw
    refine lv_if_eq (tgt := 33) hx hb dX5_load_18 (by decide) (fun c_18_2 => ?_) (fun c_18_2 => ?_)
    · have c_18_2 : (m_in a3 (1 : Int32) (3 : Int32)) = (0 : Int32) := c_18_2
      refine lv_iconst (v := (-1 : Int32)) hx hb dX5_load_33 (by decide) ?_
      have hE : m_load σ a1 a2 a3 = ((-1 : Int32), σ) := (by unfold m_load; rw [if_neg c_8_1, if_pos c_18_2])
      exact hret (-1 : Int32) σ _ _ _ _ rfl ⟨by rw [hE], by rw [hE]⟩ hP hD hS dX5_load_34
    · have c_18_2 : ¬ ((m_in a3 (1 : Int32) (3 : Int32)) = (0 : Int32)) := c_18_2
      refine lv_lload_n hx hb dX5_load_21 rfl (lv_at hl 2 rfl) ?_
      refine lv_bipush (v := (18 : Int32)) hx hb dX5_load_22 (by decide) ?_
      refine lv_iload hx hb dX5_load_24 (lv_at hl 3 rfl) ?_
      refine lv_imul hx hb dX5_load_26 ?_
      refine lv_lshr (v := (a2 >>> (Int32.toInt64 ((18 : Int32) * a3) &&& 63))) hx hb dX5_load_27 rfl ?_
      refine lv_lconst (v := (0 : Int64)) hx hb dX5_load_28 (by decide) ?_
      refine W.lcmp hx hb dX5_load_29 ?_
      refine lv_if_eq (tgt := 35) hx hb dX5_load_30 (by decide) (fun c_30_3 => ?_) (fun c_30_3 => ?_)
      · have c_30_3 : (lg_cmp (a2 >>> (Int32.toInt64 ((18 : Int32) * a3) &&& 63)) (0 : Int64)) = (0 : Int32) := c_30_3
        refine lv_iconst (v := (0 : Int32)) hx hb dX5_load_35 (by decide) ?_
        refine lv_istore (lv' := [(5, .int (0 : Int32)), (0, .ref (h 0)), (1, .int a1), (2, .long a2), (4, .int a3)]) hx hb dX5_load_36 hl (by decide) rfl (fun ls hl => ?_)
        exact J_38 (Int32.toNatClampNeg a3 + 1) σ a1 a2 a3 (0 : Int32) _ _ _ (⟨0, rfl, rfl, Nat.zero_le _, by omega⟩) (by unfold m_load; rw [if_neg c_8_1, if_neg c_18_2, if_pos c_30_3]) (lv_sub hl [1, 2, 3, 4, 0] rfl) hP hD hS
      · have c_30_3 : ¬ ((lg_cmp (a2 >>> (Int32.toInt64 ((18 : Int32) * a3) &&& 63)) (0 : Int64)) = (0 : Int32)) := c_30_3
        refine lv_iconst (v := (-1 : Int32)) hx hb dX5_load_33 (by decide) ?_
        have hE : m_load σ a1 a2 a3 = ((-1 : Int32), σ) := (by unfold m_load; rw [if_neg c_8_1, if_neg c_18_2, if_neg c_30_3])
        exact hret (-1 : Int32) σ _ _ _ _ rfl ⟨by rw [hE], by rw [hE]⟩ hP hD hS dX5_load_34
def m_told (σ : St) (a1 : Int32) : Int32 := (if a1 = (0 : Int32) then (g_ac σ) else (if a1 = (1 : Int32) then (g_io σ) else (if a1 = (2 : Int32) then (g_pc σ) else (if a1 = (3 : Int32) then (g_ov σ) else (if a1 = (4 : Int32) then (g_flags σ) else (if a1 = (5 : Int32) then (if (g_on σ) = (0 : Int32) then (0 : Int32) else (1 : Int32)) else (if a1 = (6 : Int32) then (if (g_asked σ) = (0 : Int32) then (0 : Int32) else (1 : Int32)) else (if a1 = (7 : Int32) then (if (g_under σ) = (0 : Int32) then (0 : Int32) else (1 : Int32)) else (-1 : Int32)))))))))
set_option maxRecDepth 100000 in
set_option maxHeartbeats 8000000 in
theorem kX5_told (l : Launch) (D : va_G) (cI : ClassId) (h : Nat → Nat) (σ : St) (a1 : Int32) : MetI l yX5_told (wsU yX5_told cX5_told 2 (some .int)) { frames := 0, cells := 0, slots := 0, locals := 0 } D cI [.ref (h 0), .int a1] (wM h cI σ) (fun _ : Unit => wM h cI σ) (fun r _ => (m_told σ a1) = r) := by
  refine MetI.of (by decide) (Nat.le_of_ble_eq_true rfl) ?_
  intro p e s m below meth c A Q ls hx hb hml hown hts hK hN hA hret hP hD hS hl
  have hown : s.vm.findClass RX5 = some m.cls := hown
  have hl : lv_has ls 2 [(0, .ref (h 0)), (1, .int a1)] := hl
  suffices go : ∀ (H : Heap) (locs : List Loc), va_P D vwCl (wM h cI σ) H → va_D A (wM h cI σ) → va_S A s.heap H locs → W p l e ({ frames := 0, cells := 0, slots := 0, locals := 0 } : Room) s m (([.ref (h 0), .int a1] : List Value).toArray) below meth c H locs 0 0 Q (F0 m 0 ls []) from go _ _ hP hD hS
  intro H locs hP hD hS
  refine lv_iload_n hx hb dX5_told_0 rfl (lv_at hl 1 rfl) ?_
  by_cases s_1_1_0 : a1 = (0 : Int32)
  · refine lv_tableIn (off := 47) (tgt := 48) hx hb dX5_told_1 (by rw [s_1_1_0]; decide) (by rw [s_1_1_0]; decide) (by rw [s_1_1_0]; rfl) (by decide) ?_
    refine lv_aload_n hx hb dX5_told_48 rfl (lv_at hl 0 rfl) ?_
    refine gM_ac (v := (g_ac σ)) hx hb hts hown hK hP kw_452 rfl dX5_told_49 ?_
    have hE : m_told σ a1 = (g_ac σ) := (by unfold m_told; rw [if_pos s_1_1_0])
    exact hret (g_ac σ) () _ _ _ _ rfl hE hP hD hS dX5_told_52
  by_cases s_1_1_1 : a1 = (1 : Int32)
  · refine lv_tableIn (off := 52) (tgt := 53) hx hb dX5_told_1 (by rw [s_1_1_1]; decide) (by rw [s_1_1_1]; decide) (by rw [s_1_1_1]; rfl) (by decide) ?_
    refine lv_aload_n hx hb dX5_told_53 rfl (lv_at hl 0 rfl) ?_
    refine gM_io (v := (g_io σ)) hx hb hts hown hK hP kw_453 rfl dX5_told_54 ?_
    have hE : m_told σ a1 = (g_io σ) := (by unfold m_told; rw [if_neg s_1_1_0, if_pos s_1_1_1])
    exact hret (g_io σ) () _ _ _ _ rfl hE hP hD hS dX5_told_57
  by_cases s_1_1_2 : a1 = (2 : Int32)
  · refine lv_tableIn (off := 57) (tgt := 58) hx hb dX5_told_1 (by rw [s_1_1_2]; decide) (by rw [s_1_1_2]; decide) (by rw [s_1_1_2]; rfl) (by decide) ?_
    refine lv_aload_n hx hb dX5_told_58 rfl (lv_at hl 0 rfl) ?_
    refine gM_pc (v := (g_pc σ)) hx hb hts hown hK hP kw_454 rfl dX5_told_59 ?_
    have hE : m_told σ a1 = (g_pc σ) := (by unfold m_told; rw [if_neg s_1_1_0, if_neg s_1_1_1, if_pos s_1_1_2])
    exact hret (g_pc σ) () _ _ _ _ rfl hE hP hD hS dX5_told_62
  by_cases s_1_1_3 : a1 = (3 : Int32)
  · refine lv_tableIn (off := 62) (tgt := 63) hx hb dX5_told_1 (by rw [s_1_1_3]; decide) (by rw [s_1_1_3]; decide) (by rw [s_1_1_3]; rfl) (by decide) ?_
    refine lv_aload_n hx hb dX5_told_63 rfl (lv_at hl 0 rfl) ?_
    refine gM_ov (v := (g_ov σ)) hx hb hts hown hK hP kw_455 rfl dX5_told_64 ?_
    have hE : m_told σ a1 = (g_ov σ) := (by unfold m_told; rw [if_neg s_1_1_0, if_neg s_1_1_1, if_neg s_1_1_2, if_pos s_1_1_3])
    exact hret (g_ov σ) () _ _ _ _ rfl hE hP hD hS dX5_told_67
  by_cases s_1_1_4 : a1 = (4 : Int32)
  · refine lv_tableIn (off := 67) (tgt := 68) hx hb dX5_told_1 (by rw [s_1_1_4]; decide) (by rw [s_1_1_4]; decide) (by rw [s_1_1_4]; rfl) (by decide) ?_
    refine lv_aload_n hx hb dX5_told_68 rfl (lv_at hl 0 rfl) ?_
    refine gM_flags (v := (g_flags σ)) hx hb hts hown hK hP kw_456 rfl dX5_told_69 ?_
    have hE : m_told σ a1 = (g_flags σ) := (by unfold m_told; rw [if_neg s_1_1_0, if_neg s_1_1_1, if_neg s_1_1_2, if_neg s_1_1_3, if_pos s_1_1_4])
    exact hret (g_flags σ) () _ _ _ _ rfl hE hP hD hS dX5_told_72
  by_cases s_1_1_5 : a1 = (5 : Int32)
  · refine lv_tableIn (off := 72) (tgt := 73) hx hb dX5_told_1 (by rw [s_1_1_5]; decide) (by rw [s_1_1_5]; decide) (by rw [s_1_1_5]; rfl) (by decide) ?_
    refine lv_aload_n hx hb dX5_told_73 rfl (lv_at hl 0 rfl) ?_
    refine gM_on (v := (g_on σ)) hx hb hts hown hK hP kw_457 rfl dX5_told_74 ?_
    refine lv_if_eq (tgt := 84) hx hb dX5_told_77 (by decide) (fun c_77_2 => ?_) (fun c_77_2 => ?_)
    · have c_77_2 : (g_on σ) = (0 : Int32) := c_77_2
      refine lv_iconst (v := (0 : Int32)) hx hb dX5_told_84 (by decide) ?_
      have hE : m_told σ a1 = (0 : Int32) := (by unfold m_told; rw [if_neg s_1_1_0, if_neg s_1_1_1, if_neg s_1_1_2, if_neg s_1_1_3, if_neg s_1_1_4, if_pos s_1_1_5, if_pos c_77_2])
      exact hret (0 : Int32) () _ _ _ _ rfl hE hP hD hS dX5_told_85
    · have c_77_2 : ¬ ((g_on σ) = (0 : Int32)) := c_77_2
      refine lv_iconst (v := (1 : Int32)) hx hb dX5_told_80 (by decide) ?_
      refine lv_goto (tgt := 85) hx hb dX5_told_81 (by decide) ?_
      have hE : m_told σ a1 = (1 : Int32) := (by unfold m_told; rw [if_neg s_1_1_0, if_neg s_1_1_1, if_neg s_1_1_2, if_neg s_1_1_3, if_neg s_1_1_4, if_pos s_1_1_5, if_neg c_77_2])
      exact hret (1 : Int32) () _ _ _ _ rfl hE hP hD hS dX5_told_85
  by_cases s_1_1_6 : a1 = (6 : Int32)
  · refine lv_tableIn (off := 85) (tgt := 86) hx hb dX5_told_1 (by rw [s_1_1_6]; decide) (by rw [s_1_1_6]; decide) (by rw [s_1_1_6]; rfl) (by decide) ?_
    refine lv_aload_n hx hb dX5_told_86 rfl (lv_at hl 0 rfl) ?_
    refine gM_asked (v := (g_asked σ)) hx hb hts hown hK hP kw_458 rfl dX5_told_87 ?_
    refine lv_if_eq (tgt := 97) hx hb dX5_told_90 (by decide) (fun c_90_3 => ?_) (fun c_90_3 => ?_)
    · have c_90_3 : (g_asked σ) = (0 : Int32) := c_90_3
      refine lv_iconst (v := (0 : Int32)) hx hb dX5_told_97 (by decide) ?_
      have hE : m_told σ a1 = (0 : Int32) := (by unfold m_told; rw [if_neg s_1_1_0, if_neg s_1_1_1, if_neg s_1_1_2, if_neg s_1_1_3, if_neg s_1_1_4, if_neg s_1_1_5, if_pos s_1_1_6, if_pos c_90_3])
      exact hret (0 : Int32) () _ _ _ _ rfl hE hP hD hS dX5_told_98
    · have c_90_3 : ¬ ((g_asked σ) = (0 : Int32)) := c_90_3
      refine lv_iconst (v := (1 : Int32)) hx hb dX5_told_93 (by decide) ?_
      refine lv_goto (tgt := 98) hx hb dX5_told_94 (by decide) ?_
      have hE : m_told σ a1 = (1 : Int32) := (by unfold m_told; rw [if_neg s_1_1_0, if_neg s_1_1_1, if_neg s_1_1_2, if_neg s_1_1_3, if_neg s_1_1_4, if_neg s_1_1_5, if_pos s_1_1_6, if_neg c_90_3])
      exact hret (1 : Int32) () _ _ _ _ rfl hE hP hD hS dX5_told_98
  by_cases s_1_1_7 : a1 = (7 : Int32)
  · refine lv_tableIn (off := 98) (tgt := 99) hx hb dX5_told_1 (by rw [s_1_1_7]; decide) (by rw [s_1_1_7]; decide) (by rw [s_1_1_7]; rfl) (by decide) ?_
    refine lv_aload_n hx hb dX5_told_99 rfl (lv_at hl 0 rfl) ?_
    refine gM_under (v := (g_under σ)) hx hb hts hown hK hP kw_459 rfl dX5_told_100 ?_
    refine lv_if_eq (tgt := 110) hx hb dX5_told_103 (by decide) (fun c_103_4 => ?_) (fun c_103_4 => ?_)
    · have c_103_4 : (g_under σ) = (0 : Int32) := c_103_4
      refine lv_iconst (v := (0 : Int32)) hx hb dX5_told_110 (by decide) ?_
      have hE : m_told σ a1 = (0 : Int32) := (by unfold m_told; rw [if_neg s_1_1_0, if_neg s_1_1_1, if_neg s_1_1_2, if_neg s_1_1_3, if_neg s_1_1_4, if_neg s_1_1_5, if_neg s_1_1_6, if_pos s_1_1_7, if_pos c_103_4])
      exact hret (0 : Int32) () _ _ _ _ rfl hE hP hD hS dX5_told_111
    · have c_103_4 : ¬ ((g_under σ) = (0 : Int32)) := c_103_4
      refine lv_iconst (v := (1 : Int32)) hx hb dX5_told_106 (by decide) ?_
      refine lv_goto (tgt := 111) hx hb dX5_told_107 (by decide) ?_
      have hE : m_told σ a1 = (1 : Int32) := (by unfold m_told; rw [if_neg s_1_1_0, if_neg s_1_1_1, if_neg s_1_1_2, if_neg s_1_1_3, if_neg s_1_1_4, if_neg s_1_1_5, if_neg s_1_1_6, if_pos s_1_1_7, if_neg c_103_4])
      exact hret (1 : Int32) () _ _ _ _ rfl hE hP hD hS dX5_told_111
  refine lv_tableOut (tgt := 112) hx hb dX5_told_1 (by have q0 := lv_neT s_1_1_0 (show (0 : Int32).toInt = 0 by decide); have q1 := lv_neT s_1_1_1 (show (1 : Int32).toInt = 1 by decide); have q2 := lv_neT s_1_1_2 (show (2 : Int32).toInt = 2 by decide); have q3 := lv_neT s_1_1_3 (show (3 : Int32).toInt = 3 by decide); have q4 := lv_neT s_1_1_4 (show (4 : Int32).toInt = 4 by decide); have q5 := lv_neT s_1_1_5 (show (5 : Int32).toInt = 5 by decide); have q6 := lv_neT s_1_1_6 (show (6 : Int32).toInt = 6 by decide); have q7 := lv_neT s_1_1_7 (show (7 : Int32).toInt = 7 by decide); omega) (by decide) ?_
  refine lv_iconst (v := (-1 : Int32)) hx hb dX5_told_112 (by decide) ?_
  have hE : m_told σ a1 = (-1 : Int32) := (by unfold m_told; rw [if_neg s_1_1_0, if_neg s_1_1_1, if_neg s_1_1_2, if_neg s_1_1_3, if_neg s_1_1_4, if_neg s_1_1_5, if_neg s_1_1_6, if_neg s_1_1_7])
  exact hret (-1 : Int32) () _ _ _ _ rfl hE hP hD hS dX5_told_113
