def x4_isWord (a1 : Int32) : Int32 := (if a1 < (0 : Int32) then (0 : Int32) else (if (262143 : Int32) < a1 then (0 : Int32) else (1 : Int32)))
set_option maxRecDepth 100000 in
set_option maxHeartbeats 8000000 in
theorem kX4_isWord (l : Launch) (D : va_G) (cI : ClassId) (w : va_W) (a1 : Int32) : MetI l yX4_isWord (wsU yX4_isWord cX4_isWord 1 (some .boolean)) { frames := 0, cells := 0, slots := 0, locals := 0 } D cI [.int a1] w (fun _ : Unit => w) (fun r _ => (x4_isWord a1) = r) := by
  refine MetI.of (by decide) (Nat.le_of_ble_eq_true rfl) ?_
  intro p e s m below meth c A Q ls hx hb hml hown hts hK hN hA hret hP hD hS hl
  have hown : s.vm.findClass RX4 = some m.cls := hown
  have hl : lv_has ls 1 [(0, .int a1)] := hl
  suffices go : ∀ (H : Heap) (locs : List Loc), va_P D vwCl w H → va_D A w → va_S A s.heap H locs → W p l e ({ frames := 0, cells := 0, slots := 0, locals := 0 } : Room) s m (([.int a1] : List Value).toArray) below meth c H locs 0 0 Q (F0 m 0 ls []) from go _ _ hP hD hS
  intro H locs hP hD hS
  refine lv_iload_n hx hb dX4_isWord_0 rfl (lv_at hl 0 rfl) ?_
  refine lv_if_lt (tgt := 14) hx hb dX4_isWord_1 (by decide) (fun c_1_1 => ?_) (fun c_1_1 => ?_)
  · have c_1_1 : a1 < (0 : Int32) := c_1_1
    refine lv_iconst (v := (0 : Int32)) hx hb dX4_isWord_14 (by decide) ?_
    have hE : x4_isWord a1 = (0 : Int32) := (by unfold x4_isWord; rw [if_pos c_1_1])
    exact hret (0 : Int32) () _ _ _ _ rfl hE hP hD hS dX4_isWord_15
  · have c_1_1 : ¬ (a1 < (0 : Int32)) := c_1_1
    refine lv_iload_n hx hb dX4_isWord_4 rfl (lv_at hl 0 rfl) ?_
    refine lv_ldc (v := (262143 : Int32)) hx hb hown (hts _ kw_163) dX4_isWord_5 ?_
    refine lv_icmp_gt (tgt := 14) hx hb dX4_isWord_7 (by decide) (fun c_7_2 => ?_) (fun c_7_2 => ?_)
    · have c_7_2 : (262143 : Int32) < a1 := c_7_2
      refine lv_iconst (v := (0 : Int32)) hx hb dX4_isWord_14 (by decide) ?_
      have hE : x4_isWord a1 = (0 : Int32) := (by unfold x4_isWord; rw [if_neg c_1_1, if_pos c_7_2])
      exact hret (0 : Int32) () _ _ _ _ rfl hE hP hD hS dX4_isWord_15
    · have c_7_2 : ¬ ((262143 : Int32) < a1) := c_7_2
      refine lv_iconst (v := (1 : Int32)) hx hb dX4_isWord_10 (by decide) ?_
      refine lv_goto (tgt := 15) hx hb dX4_isWord_11 (by decide) ?_
      have hE : x4_isWord a1 = (1 : Int32) := (by unfold x4_isWord; rw [if_neg c_1_1, if_neg c_7_2])
      exact hret (1 : Int32) () _ _ _ _ rfl hE hP hD hS dX4_isWord_15
def x4_fetch (σ : St) (a1 : Int32) : Int32 := ((g_cells σ) (Int32.toNatClampNeg (a1 &&& (4095 : Int32))))
set_option maxRecDepth 100000 in
set_option maxHeartbeats 8000000 in
theorem kX4_fetch (l : Launch) (D : va_G) (cI : ClassId) (h : Nat → Nat) (σ : St) (a1 : Int32) : MetI l yX4_fetch (wsU yX4_fetch cX4_fetch 2 (some .int)) { frames := 0, cells := 0, slots := 0, locals := 0 } D cI [.ref (h 0), .int a1] (wX h cI σ) (fun _ : Unit => wX h cI σ) (fun r _ => (x4_fetch σ a1) = r) := by
  refine MetI.of (by decide) (Nat.le_of_ble_eq_true rfl) ?_
  intro p e s m below meth c A Q ls hx hb hml hown hts hK hN hA hret hP hD hS hl
  have hown : s.vm.findClass RX4 = some m.cls := hown
  have hl : lv_has ls 2 [(0, .ref (h 0)), (1, .int a1)] := hl
  suffices go : ∀ (H : Heap) (locs : List Loc), va_P D vwCl (wX h cI σ) H → va_D A (wX h cI σ) → va_S A s.heap H locs → W p l e ({ frames := 0, cells := 0, slots := 0, locals := 0 } : Room) s m (([.ref (h 0), .int a1] : List Value).toArray) below meth c H locs 0 0 Q (F0 m 0 ls []) from go _ _ hP hD hS
  intro H locs hP hD hS
  refine lv_aload_n hx hb dX4_fetch_0 rfl (lv_at hl 0 rfl) ?_
  refine gX_ref1 hx hb hts hown hK hP kw_107 dX4_fetch_1 ?_
  refine lv_iload_n hx hb dX4_fetch_4 rfl (lv_at hl 1 rfl) ?_
  refine lv_sipush (v := (4095 : Int32)) hx hb dX4_fetch_5 (by decide) ?_
  refine lv_iand hx hb dX4_fetch_8 ?_
  refine aX_cells (v := ((g_cells σ) (Int32.toNatClampNeg (a1 &&& (4095 : Int32))))) hx hb hK hP (pk_andIn _ 12 (by decide) (by decide)) rfl dX4_fetch_9 ?_
  have hE : x4_fetch σ a1 = ((g_cells σ) (Int32.toNatClampNeg (a1 &&& (4095 : Int32)))) := (by unfold x4_fetch; rfl)
  exact hret ((g_cells σ) (Int32.toNatClampNeg (a1 &&& (4095 : Int32)))) () _ _ _ _ rfl hE hP hD hS dX4_fetch_10
def x4_store (σ : St) (a1 : Int32) (a2 : Int32) : St := (s_cells σ (upd (g_cells σ) (Int32.toNatClampNeg (a1 &&& (4095 : Int32))) a2))
set_option maxRecDepth 100000 in
set_option maxHeartbeats 8000000 in
theorem kX4_store (l : Launch) (D : va_G) (cI : ClassId) (h : Nat → Nat) (σ : St) (a1 : Int32) (a2 : Int32) : MetV l yX4_store (wsU yX4_store cX4_store 3 none) { frames := 0, cells := 0, slots := 0, locals := 0 } D cI [.ref (h 0), .int a1, .int a2] (wX h cI σ) (fun u : St => wX h cI u) (fun u => (x4_store σ a1 a2) = u) := by
  refine MetV.of (by decide) (Nat.le_of_ble_eq_true rfl) ?_
  intro p e s m below meth c A Q ls hx hb hml hown hts hK hN hA hret hP hD hS hl
  have hown : s.vm.findClass RX4 = some m.cls := hown
  have hl : lv_has ls 3 [(0, .ref (h 0)), (1, .int a1), (2, .int a2)] := hl
  suffices go : ∀ (H : Heap) (locs : List Loc), va_P D vwCl (wX h cI σ) H → va_D A (wX h cI σ) → va_S A s.heap H locs → W p l e ({ frames := 0, cells := 0, slots := 0, locals := 0 } : Room) s m (([.ref (h 0), .int a1, .int a2] : List Value).toArray) below meth c H locs 0 0 Q (F0 m 0 ls []) from go _ _ hP hD hS
  intro H locs hP hD hS
  refine lv_aload_n hx hb dX4_store_0 rfl (lv_at hl 0 rfl) ?_
  refine gX_ref1 hx hb hts hown hK hP kw_107 dX4_store_1 ?_
  refine lv_iload_n hx hb dX4_store_4 rfl (lv_at hl 1 rfl) ?_
  refine lv_sipush (v := (4095 : Int32)) hx hb dX4_store_5 (by decide) ?_
  refine lv_iand hx hb dX4_store_8 ?_
  refine lv_iload_n hx hb dX4_store_9 rfl (lv_at hl 2 rfl) ?_
  refine bX_cells (f := (g_cells σ)) hx hb hK hP hD hS (pk_andIn _ 12 (by decide) (by decide)) rfl dX4_store_10 (fun H locs hP hD hS => ?_)
  have hE : x4_store σ a1 a2 = (s_cells σ (upd (g_cells σ) (Int32.toNatClampNeg (a1 &&& (4095 : Int32))) a2)) := (by unfold x4_store; rfl)
  exact hret (s_cells σ (upd (g_cells σ) (Int32.toNatClampNeg (a1 &&& (4095 : Int32))) a2)) _ _ _ _ hE hP hD hS dX4_store_11
def x4_put (σ : St) (a1 : Int32) (a2 : Int32) : Int32 × St := (if (x4_isAddress a1) = (0 : Int32) then ((-1 : Int32), σ) else (if (x4_isWord a2) = (0 : Int32) then ((-1 : Int32), σ) else ((x4_fetch σ a1), (x4_store σ a1 a2))))
set_option maxRecDepth 100000 in
set_option maxHeartbeats 8000000 in
theorem kX4_put (l : Launch) (D : va_G) (cI : ClassId) (h : Nat → Nat) (σ : St) (a1 : Int32) (a2 : Int32) : MetI l yX4_put (wsU yX4_put cX4_put 4 (some .int)) { frames := 1, cells := 0, slots := 0, locals := 22 } D cI [.ref (h 0), .int a1, .int a2] (wX h cI σ) (fun u : St => wX h cI u) (fun r u => (x4_put σ a1 a2).1 = r ∧ (x4_put σ a1 a2).2 = u) := by
  refine MetI.of (by decide) (Nat.le_of_ble_eq_true rfl) ?_
  intro p e s m below meth c A Q ls hx hb hml hown hts hK hN hA hret hP hD hS hl
  have hown : s.vm.findClass RX4 = some m.cls := hown
  have hl : lv_has ls 4 [(0, .ref (h 0)), (1, .int a1), (2, .int a2)] := hl
  suffices go : ∀ (H : Heap) (locs : List Loc), va_P D vwCl (wX h cI σ) H → va_D A (wX h cI σ) → va_S A s.heap H locs → W p l e ({ frames := 1, cells := 0, slots := 0, locals := 22 } : Room) s m (([.ref (h 0), .int a1, .int a2] : List Value).toArray) below meth c H locs 0 0 Q (F0 m 0 ls []) from go _ _ hP hD hS
  intro H locs hP hD hS
  refine lv_iload_n hx hb dX4_put_0 rfl (lv_at hl 1 rfl) ?_
  refine call_Si 1 (kX4_isAddress l D cI _ a1) ⟨hx, hb, hml, hown, hts, hK, hN, hA⟩ ⟨kw_157, kw_158, kw_1, kw_159, by decide +kernel, rfl, rfl, Nat.le_of_ble_eq_true rfl, Nat.le_of_ble_eq_true rfl⟩ rfl hP hD hS hl.1 rfl (Nat.le_of_ble_eq_true rfl) dX4_put_1 ⟨Nat.zero_le _, Nat.zero_le _⟩ (fun r1 u H locs hw hP hD hS => ?_)
  have hw : (x4_isAddress a1) = r1 := hw
  subst hw
  refine lv_if_eq (tgt := 14) hx hb dX4_put_4 (by decide) (fun c_4_1 => ?_) (fun c_4_1 => ?_)
  · have c_4_1 : (x4_isAddress a1) = (0 : Int32) := c_4_1
    refine lv_iconst (v := (-1 : Int32)) hx hb dX4_put_14 (by decide) ?_
    have hE : x4_put σ a1 a2 = ((-1 : Int32), σ) := (by unfold x4_put; rw [if_pos c_4_1])
    exact hret (-1 : Int32) σ _ _ _ _ rfl ⟨by rw [hE], by rw [hE]⟩ hP hD hS dX4_put_15
  · have c_4_1 : ¬ ((x4_isAddress a1) = (0 : Int32)) := c_4_1
    refine lv_iload_n hx hb dX4_put_7 rfl (lv_at hl 2 rfl) ?_
    refine call_Si 1 (kX4_isWord l D cI _ a2) ⟨hx, hb, hml, hown, hts, hK, hN, hA⟩ ⟨kw_160, kw_161, kw_1, kw_162, by decide +kernel, rfl, rfl, Nat.le_of_ble_eq_true rfl, Nat.le_of_ble_eq_true rfl⟩ rfl hP hD hS hl.1 rfl (Nat.le_of_ble_eq_true rfl) dX4_put_8 ⟨Nat.zero_le _, Nat.zero_le _⟩ (fun r8 u H locs hw hP hD hS => ?_)
    have hw : (x4_isWord a2) = r8 := hw
    subst hw
    refine lv_if_ne (tgt := 16) hx hb dX4_put_11 (by decide) (fun c_11_2 => ?_) (fun c_11_2 => ?_)
    · have c_11_2 : ¬ ((x4_isWord a2) = (0 : Int32)) := c_11_2
      refine lv_aload_n hx hb dX4_put_16 rfl (lv_at hl 0 rfl) ?_
      refine lv_iload_n hx hb dX4_put_17 rfl (lv_at hl 1 rfl) ?_
      refine call_Vi 1 (kX4_fetch l D cI h _ a1) ⟨hx, hb, hml, hown, hts, hK, hN, hA⟩ ⟨kw_164, kw_166, ks_yX4_fetch, kw_1, kw_167, by decide +kernel, rfl, rfl, Nat.le_of_ble_eq_true rfl, Nat.le_of_ble_eq_true rfl⟩ rfl (va_recv hK hP (ci := 4) (q0 := 0) rfl rfl) hP hD hS hl.1 rfl (Nat.le_of_ble_eq_true rfl) dX4_put_18 ⟨Nat.zero_le _, Nat.zero_le _⟩ (fun r18 u H locs hw hP hD hS => ?_)
      have hw : (x4_fetch σ a1) = r18 := hw
      subst hw
      refine lv_istore_n (lv' := [(3, .int (x4_fetch σ a1)), (0, .ref (h 0)), (1, .int a1), (2, .int a2)]) hx hb dX4_put_21 rfl hl (by decide) rfl (fun ls hl => ?_)
      refine lv_aload_n hx hb dX4_put_22 rfl (lv_at hl 1 rfl) ?_
      refine lv_iload_n hx hb dX4_put_23 rfl (lv_at hl 2 rfl) ?_
      refine lv_iload_n hx hb dX4_put_24 rfl (lv_at hl 3 rfl) ?_
      refine call_Vv 2 (kX4_store l D cI h _ a1 a2) ⟨hx, hb, hml, hown, hts, hK, hN, hA⟩ ⟨kw_168, kw_170, ks_yX4_store, kw_1, kw_171, by decide +kernel, rfl, rfl, Nat.le_of_ble_eq_true rfl, Nat.le_of_ble_eq_true rfl⟩ rfl (va_recv hK hP (ci := 4) (q0 := 0) rfl rfl) hP hD hS hl.1 rfl (Nat.le_of_ble_eq_true rfl) dX4_put_25 ⟨Nat.zero_le _, Nat.zero_le _⟩ (fun u H locs hw hP hD hS => ?_)
      have hw : (x4_store σ a1 a2) = u := hw
      subst hw
      refine lv_iload_n hx hb dX4_put_28 rfl (lv_at hl 0 rfl) ?_
      have hE : x4_put σ a1 a2 = ((x4_fetch σ a1), (x4_store σ a1 a2)) := (by unfold x4_put; rw [if_neg c_4_1, if_neg c_11_2])
      exact hret (x4_fetch σ a1) (x4_store σ a1 a2) _ _ _ _ rfl ⟨by rw [hE], by rw [hE]⟩ hP hD hS dX4_put_29
    · have c_11_2 : (x4_isWord a2) = (0 : Int32) := c_11_2
      refine lv_iconst (v := (-1 : Int32)) hx hb dX4_put_14 (by decide) ?_
      have hE : x4_put σ a1 a2 = ((-1 : Int32), σ) := (by unfold x4_put; rw [if_neg c_4_1, if_pos c_11_2])
      exact hret (-1 : Int32) σ _ _ _ _ rfl ⟨by rw [hE], by rw [hE]⟩ hP hD hS dX4_put_15
def x4_core (σ : St) (a1 : Int32) : Int32 := (if (x4_isAddress a1) = (0 : Int32) then (-1 : Int32) else (x4_fetch σ a1))
set_option maxRecDepth 100000 in
set_option maxHeartbeats 8000000 in
theorem kX4_core (l : Launch) (D : va_G) (cI : ClassId) (h : Nat → Nat) (σ : St) (a1 : Int32) : MetI l yX4_core (wsU yX4_core cX4_core 2 (some .int)) { frames := 1, cells := 0, slots := 0, locals := 21 } D cI [.ref (h 0), .int a1] (wX h cI σ) (fun _ : Unit => wX h cI σ) (fun r _ => (x4_core σ a1) = r) := by
  refine MetI.of (by decide) (Nat.le_of_ble_eq_true rfl) ?_
  intro p e s m below meth c A Q ls hx hb hml hown hts hK hN hA hret hP hD hS hl
  have hown : s.vm.findClass RX4 = some m.cls := hown
  have hl : lv_has ls 2 [(0, .ref (h 0)), (1, .int a1)] := hl
  suffices go : ∀ (H : Heap) (locs : List Loc), va_P D vwCl (wX h cI σ) H → va_D A (wX h cI σ) → va_S A s.heap H locs → W p l e ({ frames := 1, cells := 0, slots := 0, locals := 21 } : Room) s m (([.ref (h 0), .int a1] : List Value).toArray) below meth c H locs 0 0 Q (F0 m 0 ls []) from go _ _ hP hD hS
  intro H locs hP hD hS
  refine lv_iload_n hx hb dX4_core_0 rfl (lv_at hl 1 rfl) ?_
  refine call_Si 1 (kX4_isAddress l D cI _ a1) ⟨hx, hb, hml, hown, hts, hK, hN, hA⟩ ⟨kw_157, kw_158, kw_1, kw_159, by decide +kernel, rfl, rfl, Nat.le_of_ble_eq_true rfl, Nat.le_of_ble_eq_true rfl⟩ rfl hP hD hS hl.1 rfl (Nat.le_of_ble_eq_true rfl) dX4_core_1 ⟨Nat.zero_le _, Nat.zero_le _⟩ (fun r1 u H locs hw hP hD hS => ?_)
  have hw : (x4_isAddress a1) = r1 := hw
  subst hw
  refine lv_if_eq (tgt := 15) hx hb dX4_core_4 (by decide) (fun c_4_1 => ?_) (fun c_4_1 => ?_)
  · have c_4_1 : (x4_isAddress a1) = (0 : Int32) := c_4_1
    refine lv_iconst (v := (-1 : Int32)) hx hb dX4_core_15 (by decide) ?_
    have hE : x4_core σ a1 = (-1 : Int32) := (by unfold x4_core; rw [if_pos c_4_1])
    exact hret (-1 : Int32) () _ _ _ _ rfl hE hP hD hS dX4_core_16
  · have c_4_1 : ¬ ((x4_isAddress a1) = (0 : Int32)) := c_4_1
    refine lv_aload_n hx hb dX4_core_7 rfl (lv_at hl 0 rfl) ?_
    refine lv_iload_n hx hb dX4_core_8 rfl (lv_at hl 1 rfl) ?_
    refine call_Vi 1 (kX4_fetch l D cI h _ a1) ⟨hx, hb, hml, hown, hts, hK, hN, hA⟩ ⟨kw_164, kw_166, ks_yX4_fetch, kw_1, kw_167, by decide +kernel, rfl, rfl, Nat.le_of_ble_eq_true rfl, Nat.le_of_ble_eq_true rfl⟩ rfl (va_recv hK hP (ci := 4) (q0 := 0) rfl rfl) hP hD hS hl.1 rfl (Nat.le_of_ble_eq_true rfl) dX4_core_9 ⟨Nat.zero_le _, Nat.zero_le _⟩ (fun r9 u H locs hw hP hD hS => ?_)
    have hw : (x4_fetch σ a1) = r9 := hw
    subst hw
    refine lv_goto (tgt := 16) hx hb dX4_core_12 (by decide) ?_
    have hE : x4_core σ a1 = (x4_fetch σ a1) := (by unfold x4_core; rw [if_neg c_4_1])
    exact hret (x4_fetch σ a1) () _ _ _ _ rfl hE hP hD hS dX4_core_16
def x4_load_36 : Nat → St → Int32 → Int64 → Int32 → Int32 → Int32 × St
  | 0, σ, _, _, _, _ => (0, σ)
  | n + 1, σ, x1_36, x2_36, x4_36, x5_36 => (if x4_36 ≤ x5_36 then (x4_36, σ) else x4_load_36 n (x4_store σ (x1_36 + x5_36) (Int64.toInt32 ((j_lushr x2_36 ((18 : Int32) * ((x4_36 - (1 : Int32)) - x5_36))) &&& (262143 : Int64)))) x1_36 x2_36 x4_36 (x5_36 + (1 : Int32)))
def x4_load (σ : St) (a1 : Int32) (a2 : Int64) (a3 : Int32) : Int32 × St := (if (x4_isAddress a1) = (0 : Int32) then ((-1 : Int32), σ) else (if a3 < (1 : Int32) then ((-1 : Int32), σ) else (if (3 : Int32) < a3 then ((-1 : Int32), σ) else (if (lg_cmp (j_lushr a2 ((18 : Int32) * a3)) (0 : Int64)) = (0 : Int32) then x4_load_36 (Int32.toNatClampNeg a3 + 1) σ a1 a2 a3 (0 : Int32) else ((-1 : Int32), σ)))))
set_option maxRecDepth 100000 in
set_option maxHeartbeats 8000000 in
theorem kX4_load (l : Launch) (D : va_G) (cI : ClassId) (h : Nat → Nat) (σ : St) (a1 : Int32) (a2 : Int64) (a3 : Int32) : MetI l yX4_load (wsU yX4_load cX4_load 8 (some .int)) { frames := 1, cells := 0, slots := 0, locals := 22 } D cI [.ref (h 0), .int a1, .long a2, .int a3] (wX h cI σ) (fun u : St => wX h cI u) (fun r u => (x4_load σ a1 a2 a3).1 = r ∧ (x4_load σ a1 a2 a3).2 = u) := by
  refine MetI.of (by decide) (Nat.le_of_ble_eq_true rfl) ?_
  intro p e s m below meth c A Q ls hx hb hml hown hts hK hN hA hret hP hD hS hl
  have hown : s.vm.findClass RX4 = some m.cls := hown
  have hl : lv_has ls 8 [(0, .ref (h 0)), (1, .int a1), (2, .long a2), (4, .int a3)] := hl
  have J_36 : ∀ (n : Nat) (σ' : St) (x1_36 : Int32) (x2_36 : Int64) (x4_36 : Int32) (x5_36 : Int32) (H : Heap) (locs : List Loc) (ls : Array Slot), (∃ k : Nat, x5_36 = nI k ∧ x4_36 = a3 ∧ k ≤ Int32.toNatClampNeg a3 ∧ k + n = Int32.toNatClampNeg a3 + 1) → x4_load σ a1 a2 a3 = x4_load_36 n σ' x1_36 x2_36 x4_36 x5_36 → lv_has ls 8 [(0, .ref (h 0)), (1, .int x1_36), (2, .long x2_36), (4, .int x4_36), (5, .int x5_36)] → va_P D vwCl (wX h cI σ') H → va_D A (wX h cI σ') → va_S A s.heap H locs → W p l e ({ frames := 1, cells := 0, slots := 0, locals := 22 } : Room) s m (([.ref (h 0), .int a1, .long a2, .int a3] : List Value).toArray) below meth c H locs 0 0 Q (F0 m 36 ls []) := by
    intro n
    induction n with
    | zero => intro σ' x1_36 x2_36 x4_36 x5_36 H locs ls hI E hl hP hD hS; obtain ⟨k, hk1, hk2, hk3, hk4⟩ := hI; omega
    | succ n ih =>
      intro σ' x1_36 x2_36 x4_36 x5_36 H locs ls hI E hl hP hD hS
      obtain ⟨k, hk1, hk2, hk3, hk4⟩ := hI
      refine lv_iload hx hb dX4_load_36 (lv_at hl 4 rfl) ?_
      refine lv_iload hx hb dX4_load_38 (lv_at hl 3 rfl) ?_
      refine lv_icmp_ge (tgt := 78) hx hb dX4_load_40 (by decide) (fun c_40_5 => ?_) (fun c_40_5 => ?_)
      · have c_40_5 : x4_36 ≤ x5_36 := c_40_5
        refine lv_iload hx hb dX4_load_78 (lv_at hl 3 rfl) ?_
        have hE : x4_load σ a1 a2 a3 = (x4_36, σ') := (E.trans (by rw [x4_load_36, if_pos c_40_5]))
        exact hret x4_36 σ' _ _ _ _ rfl ⟨by rw [hE], by rw [hE]⟩ hP hD hS dX4_load_80
      · have c_40_5 : ¬ (x4_36 ≤ x5_36) := c_40_5
        refine lv_lload_n hx hb dX4_load_43 rfl (lv_at hl 2 rfl) ?_
        refine lv_bipush (v := (18 : Int32)) hx hb dX4_load_44 (by decide) ?_
        refine lv_iload hx hb dX4_load_46 (lv_at hl 3 rfl) ?_
        refine lv_iconst (v := (1 : Int32)) hx hb dX4_load_48 (by decide) ?_
        refine lv_isub hx hb dX4_load_49 ?_
        refine lv_iload hx hb dX4_load_50 (lv_at hl 4 rfl) ?_
        refine lv_isub hx hb dX4_load_52 ?_
        refine lv_imul hx hb dX4_load_53 ?_
        refine lv_lushr (v := (j_lushr x2_36 ((18 : Int32) * ((x4_36 - (1 : Int32)) - x5_36)))) hx hb dX4_load_54 rfl ?_
        refine lv_lstore (lv' := [(6, .long (j_lushr x2_36 ((18 : Int32) * ((x4_36 - (1 : Int32)) - x5_36)))), (0, .ref (h 0)), (1, .int x1_36), (2, .long x2_36), (4, .int x4_36), (5, .int x5_36)]) hx hb dX4_load_55 hl (by decide) rfl (fun ls hl => ?_)
        refine lv_aload_n hx hb dX4_load_57 rfl (lv_at hl 1 rfl) ?_
        refine lv_iload_n hx hb dX4_load_58 rfl (lv_at hl 2 rfl) ?_
        refine lv_iload hx hb dX4_load_59 (lv_at hl 5 rfl) ?_
        refine lv_iadd hx hb dX4_load_61 ?_
        refine lv_lload hx hb dX4_load_62 (lv_at hl 0 rfl) ?_
        refine lv_ldc2 (v := (262143 : Int64)) hx hb hown (hts _ kw_180) dX4_load_64 ?_
        refine lv_land hx hb dX4_load_67 ?_
        refine lv_l2i (v := (Int64.toInt32 ((j_lushr x2_36 ((18 : Int32) * ((x4_36 - (1 : Int32)) - x5_36))) &&& (262143 : Int64)))) hx hb dX4_load_68 rfl ?_
        refine call_Vv 2 (kX4_store l D cI h _ (x1_36 + x5_36) (Int64.toInt32 ((j_lushr x2_36 ((18 : Int32) * ((x4_36 - (1 : Int32)) - x5_36))) &&& (262143 : Int64)))) ⟨hx, hb, hml, hown, hts, hK, hN, hA⟩ ⟨kw_168, kw_170, ks_yX4_store, kw_1, kw_171, by decide +kernel, rfl, rfl, Nat.le_of_ble_eq_true rfl, Nat.le_of_ble_eq_true rfl⟩ rfl (va_recv hK hP (ci := 4) (q0 := 0) rfl rfl) hP hD hS hl.1 rfl (Nat.le_of_ble_eq_true rfl) dX4_load_69 ⟨Nat.zero_le _, Nat.zero_le _⟩ (fun u H locs hw hP hD hS => ?_)
        have hw : (x4_store σ' (x1_36 + x5_36) (Int64.toInt32 ((j_lushr x2_36 ((18 : Int32) * ((x4_36 - (1 : Int32)) - x5_36))) &&& (262143 : Int64)))) = u := hw
        subst hw
        refine lv_iinc (v := (x5_36 + (1 : Int32))) (lv' := [(5, .int (x5_36 + (1 : Int32))), (6, .long (j_lushr x2_36 ((18 : Int32) * ((x4_36 - (1 : Int32)) - x5_36)))), (0, .ref (h 0)), (1, .int x1_36), (2, .long x2_36), (4, .int x4_36)]) hx hb dX4_load_72 hl (k := 5) rfl (rfl) (by decide) rfl (fun ls hl => ?_)
        refine lv_goto (tgt := 36) hx hb dX4_load_75 (by decide) ?_
        exact ih (x4_store σ' (x1_36 + x5_36) (Int64.toInt32 ((j_lushr x2_36 ((18 : Int32) * ((x4_36 - (1 : Int32)) - x5_36))) &&& (262143 : Int64)))) x1_36 x2_36 x4_36 (x5_36 + (1 : Int32)) _ _ _ (⟨k + 1, by rw [hk1]; exact nI_1 k, hk2, hk2 ▸ lp_ge (by assumption) hk1 (by rw [hk2]; exact hk3), by omega⟩) (E.trans (by rw [x4_load_36, if_neg c_40_5])) (lv_sub hl [2, 3, 4, 5, 0] rfl) hP hD hS
  suffices go : ∀ (H : Heap) (locs : List Loc), va_P D vwCl (wX h cI σ) H → va_D A (wX h cI σ) → va_S A s.heap H locs → W p l e ({ frames := 1, cells := 0, slots := 0, locals := 22 } : Room) s m (([.ref (h 0), .int a1, .long a2, .int a3] : List Value).toArray) below meth c H locs 0 0 Q (F0 m 0 ls []) from go _ _ hP hD hS
  intro H locs hP hD hS
  refine lv_iload_n hx hb dX4_load_0 rfl (lv_at hl 1 rfl) ?_
  refine call_Si 1 (kX4_isAddress l D cI _ a1) ⟨hx, hb, hml, hown, hts, hK, hN, hA⟩ ⟨kw_157, kw_158, kw_1, kw_159, by decide +kernel, rfl, rfl, Nat.le_of_ble_eq_true rfl, Nat.le_of_ble_eq_true rfl⟩ rfl hP hD hS hl.1 rfl (Nat.le_of_ble_eq_true rfl) dX4_load_1 ⟨Nat.zero_le _, Nat.zero_le _⟩ (fun r1 u H locs hw hP hD hS => ?_)
  have hw : (x4_isAddress a1) = r1 := hw
  subst hw
  refine lv_if_eq (tgt := 31) hx hb dX4_load_4 (by decide) (fun c_4_1 => ?_) (fun c_4_1 => ?_)
  · have c_4_1 : (x4_isAddress a1) = (0 : Int32) := c_4_1
    refine lv_iconst (v := (-1 : Int32)) hx hb dX4_load_31 (by decide) ?_
    have hE : x4_load σ a1 a2 a3 = ((-1 : Int32), σ) := (by unfold x4_load; rw [if_pos c_4_1])
    exact hret (-1 : Int32) σ _ _ _ _ rfl ⟨by rw [hE], by rw [hE]⟩ hP hD hS dX4_load_32
  · have c_4_1 : ¬ ((x4_isAddress a1) = (0 : Int32)) := c_4_1
    refine lv_iload hx hb dX4_load_7 (lv_at hl 3 rfl) ?_
    refine lv_iconst (v := (1 : Int32)) hx hb dX4_load_9 (by decide) ?_
    refine lv_icmp_lt (tgt := 31) hx hb dX4_load_10 (by decide) (fun c_10_2 => ?_) (fun c_10_2 => ?_)
    · have c_10_2 : a3 < (1 : Int32) := c_10_2
      refine lv_iconst (v := (-1 : Int32)) hx hb dX4_load_31 (by decide) ?_
      have hE : x4_load σ a1 a2 a3 = ((-1 : Int32), σ) := (by unfold x4_load; rw [if_neg c_4_1, if_pos c_10_2])
      exact hret (-1 : Int32) σ _ _ _ _ rfl ⟨by rw [hE], by rw [hE]⟩ hP hD hS dX4_load_32
    · have c_10_2 : ¬ (a3 < (1 : Int32)) := c_10_2
      refine lv_iload hx hb dX4_load_13 (lv_at hl 3 rfl) ?_
      refine lv_iconst (v := (3 : Int32)) hx hb dX4_load_15 (by decide) ?_
      refine lv_icmp_gt (tgt := 31) hx hb dX4_load_16 (by decide) (fun c_16_3 => ?_) (fun c_16_3 => ?_)
      · have c_16_3 : (3 : Int32) < a3 := c_16_3
        refine lv_iconst (v := (-1 : Int32)) hx hb dX4_load_31 (by decide) ?_
        have hE : x4_load σ a1 a2 a3 = ((-1 : Int32), σ) := (by unfold x4_load; rw [if_neg c_4_1, if_neg c_10_2, if_pos c_16_3])
        exact hret (-1 : Int32) σ _ _ _ _ rfl ⟨by rw [hE], by rw [hE]⟩ hP hD hS dX4_load_32
      · have c_16_3 : ¬ ((3 : Int32) < a3) := c_16_3
        refine lv_lload_n hx hb dX4_load_19 rfl (lv_at hl 2 rfl) ?_
        refine lv_bipush (v := (18 : Int32)) hx hb dX4_load_20 (by decide) ?_
        refine lv_iload hx hb dX4_load_22 (lv_at hl 3 rfl) ?_
        refine lv_imul hx hb dX4_load_24 ?_
        refine lv_lushr (v := (j_lushr a2 ((18 : Int32) * a3))) hx hb dX4_load_25 rfl ?_
        refine lv_lconst (v := (0 : Int64)) hx hb dX4_load_26 (by decide) ?_
        refine W.lcmp hx hb dX4_load_27 ?_
        refine lv_if_eq (tgt := 33) hx hb dX4_load_28 (by decide) (fun c_28_4 => ?_) (fun c_28_4 => ?_)
        · have c_28_4 : (lg_cmp (j_lushr a2 ((18 : Int32) * a3)) (0 : Int64)) = (0 : Int32) := c_28_4
          refine lv_iconst (v := (0 : Int32)) hx hb dX4_load_33 (by decide) ?_
          refine lv_istore (lv' := [(5, .int (0 : Int32)), (0, .ref (h 0)), (1, .int a1), (2, .long a2), (4, .int a3)]) hx hb dX4_load_34 hl (by decide) rfl (fun ls hl => ?_)
          exact J_36 (Int32.toNatClampNeg a3 + 1) σ a1 a2 a3 (0 : Int32) _ _ _ (⟨0, rfl, rfl, Nat.zero_le _, by omega⟩) (by unfold x4_load; rw [if_neg c_4_1, if_neg c_10_2, if_neg c_16_3, if_pos c_28_4]) (lv_sub hl [1, 2, 3, 4, 0] rfl) hP hD hS
        · have c_28_4 : ¬ ((lg_cmp (j_lushr a2 ((18 : Int32) * a3)) (0 : Int64)) = (0 : Int32)) := c_28_4
          refine lv_iconst (v := (-1 : Int32)) hx hb dX4_load_31 (by decide) ?_
          have hE : x4_load σ a1 a2 a3 = ((-1 : Int32), σ) := (by unfold x4_load; rw [if_neg c_4_1, if_neg c_10_2, if_neg c_16_3, if_neg c_28_4])
          exact hret (-1 : Int32) σ _ _ _ _ rfl ⟨by rw [hE], by rw [hE]⟩ hP hD hS dX4_load_32
def x4_told (σ : St) (a1 : Int32) : Int32 := (if a1 = (0 : Int32) then (g_ac σ) else (if a1 = (1 : Int32) then (g_io σ) else (if a1 = (2 : Int32) then (g_pc σ) else (if a1 = (3 : Int32) then (g_ov σ) else (if a1 = (4 : Int32) then (g_flags σ) else (if a1 = (5 : Int32) then (g_on σ) else (if a1 = (6 : Int32) then (g_asked σ) else (if a1 = (7 : Int32) then (g_under σ) else (-1 : Int32)))))))))
set_option maxRecDepth 100000 in
set_option maxHeartbeats 8000000 in
theorem kX4_told (l : Launch) (D : va_G) (cI : ClassId) (h : Nat → Nat) (σ : St) (a1 : Int32) : MetI l yX4_told (wsU yX4_told cX4_told 2 (some .int)) { frames := 0, cells := 0, slots := 0, locals := 0 } D cI [.ref (h 0), .int a1] (wX h cI σ) (fun _ : Unit => wX h cI σ) (fun r _ => (x4_told σ a1) = r) := by
  refine MetI.of (by decide) (Nat.le_of_ble_eq_true rfl) ?_
  intro p e s m below meth c A Q ls hx hb hml hown hts hK hN hA hret hP hD hS hl
  have hown : s.vm.findClass RX4 = some m.cls := hown
  have hl : lv_has ls 2 [(0, .ref (h 0)), (1, .int a1)] := hl
  suffices go : ∀ (H : Heap) (locs : List Loc), va_P D vwCl (wX h cI σ) H → va_D A (wX h cI σ) → va_S A s.heap H locs → W p l e ({ frames := 0, cells := 0, slots := 0, locals := 0 } : Room) s m (([.ref (h 0), .int a1] : List Value).toArray) below meth c H locs 0 0 Q (F0 m 0 ls []) from go _ _ hP hD hS
  intro H locs hP hD hS
  refine lv_iload_n hx hb dX4_told_0 rfl (lv_at hl 1 rfl) ?_
  by_cases s_1_1_0 : a1 = (0 : Int32)
  · refine lv_tableIn (off := 47) (tgt := 48) hx hb dX4_told_1 (by rw [s_1_1_0]; decide) (by rw [s_1_1_0]; decide) (by rw [s_1_1_0]; rfl) (by decide) ?_
    refine lv_aload_n hx hb dX4_told_48 rfl (lv_at hl 0 rfl) ?_
    refine gX_ac (v := (g_ac σ)) hx hb hts hown hK hP kw_108 rfl dX4_told_49 ?_
    have hE : x4_told σ a1 = (g_ac σ) := (by unfold x4_told; rw [if_pos s_1_1_0])
    exact hret (g_ac σ) () _ _ _ _ rfl hE hP hD hS dX4_told_52
  by_cases s_1_1_1 : a1 = (1 : Int32)
  · refine lv_tableIn (off := 52) (tgt := 53) hx hb dX4_told_1 (by rw [s_1_1_1]; decide) (by rw [s_1_1_1]; decide) (by rw [s_1_1_1]; rfl) (by decide) ?_
    refine lv_aload_n hx hb dX4_told_53 rfl (lv_at hl 0 rfl) ?_
    refine gX_io (v := (g_io σ)) hx hb hts hown hK hP kw_109 rfl dX4_told_54 ?_
    have hE : x4_told σ a1 = (g_io σ) := (by unfold x4_told; rw [if_neg s_1_1_0, if_pos s_1_1_1])
    exact hret (g_io σ) () _ _ _ _ rfl hE hP hD hS dX4_told_57
  by_cases s_1_1_2 : a1 = (2 : Int32)
  · refine lv_tableIn (off := 57) (tgt := 58) hx hb dX4_told_1 (by rw [s_1_1_2]; decide) (by rw [s_1_1_2]; decide) (by rw [s_1_1_2]; rfl) (by decide) ?_
    refine lv_aload_n hx hb dX4_told_58 rfl (lv_at hl 0 rfl) ?_
    refine gX_pc (v := (g_pc σ)) hx hb hts hown hK hP kw_110 rfl dX4_told_59 ?_
    have hE : x4_told σ a1 = (g_pc σ) := (by unfold x4_told; rw [if_neg s_1_1_0, if_neg s_1_1_1, if_pos s_1_1_2])
    exact hret (g_pc σ) () _ _ _ _ rfl hE hP hD hS dX4_told_62
  by_cases s_1_1_3 : a1 = (3 : Int32)
  · refine lv_tableIn (off := 62) (tgt := 63) hx hb dX4_told_1 (by rw [s_1_1_3]; decide) (by rw [s_1_1_3]; decide) (by rw [s_1_1_3]; rfl) (by decide) ?_
    refine lv_aload_n hx hb dX4_told_63 rfl (lv_at hl 0 rfl) ?_
    refine gX_ov (v := (g_ov σ)) hx hb hts hown hK hP kw_111 rfl dX4_told_64 ?_
    have hE : x4_told σ a1 = (g_ov σ) := (by unfold x4_told; rw [if_neg s_1_1_0, if_neg s_1_1_1, if_neg s_1_1_2, if_pos s_1_1_3])
    exact hret (g_ov σ) () _ _ _ _ rfl hE hP hD hS dX4_told_67
  by_cases s_1_1_4 : a1 = (4 : Int32)
  · refine lv_tableIn (off := 67) (tgt := 68) hx hb dX4_told_1 (by rw [s_1_1_4]; decide) (by rw [s_1_1_4]; decide) (by rw [s_1_1_4]; rfl) (by decide) ?_
    refine lv_aload_n hx hb dX4_told_68 rfl (lv_at hl 0 rfl) ?_
    refine gX_flags (v := (g_flags σ)) hx hb hts hown hK hP kw_112 rfl dX4_told_69 ?_
    have hE : x4_told σ a1 = (g_flags σ) := (by unfold x4_told; rw [if_neg s_1_1_0, if_neg s_1_1_1, if_neg s_1_1_2, if_neg s_1_1_3, if_pos s_1_1_4])
    exact hret (g_flags σ) () _ _ _ _ rfl hE hP hD hS dX4_told_72
  by_cases s_1_1_5 : a1 = (5 : Int32)
  · refine lv_tableIn (off := 72) (tgt := 73) hx hb dX4_told_1 (by rw [s_1_1_5]; decide) (by rw [s_1_1_5]; decide) (by rw [s_1_1_5]; rfl) (by decide) ?_
    refine lv_aload_n hx hb dX4_told_73 rfl (lv_at hl 0 rfl) ?_
    refine gX_on (v := (g_on σ)) hx hb hts hown hK hP kw_113 rfl dX4_told_74 ?_
    have hE : x4_told σ a1 = (g_on σ) := (by unfold x4_told; rw [if_neg s_1_1_0, if_neg s_1_1_1, if_neg s_1_1_2, if_neg s_1_1_3, if_neg s_1_1_4, if_pos s_1_1_5])
    exact hret (g_on σ) () _ _ _ _ rfl hE hP hD hS dX4_told_77
  by_cases s_1_1_6 : a1 = (6 : Int32)
  · refine lv_tableIn (off := 77) (tgt := 78) hx hb dX4_told_1 (by rw [s_1_1_6]; decide) (by rw [s_1_1_6]; decide) (by rw [s_1_1_6]; rfl) (by decide) ?_
    refine lv_aload_n hx hb dX4_told_78 rfl (lv_at hl 0 rfl) ?_
    refine gX_asked (v := (g_asked σ)) hx hb hts hown hK hP kw_114 rfl dX4_told_79 ?_
    have hE : x4_told σ a1 = (g_asked σ) := (by unfold x4_told; rw [if_neg s_1_1_0, if_neg s_1_1_1, if_neg s_1_1_2, if_neg s_1_1_3, if_neg s_1_1_4, if_neg s_1_1_5, if_pos s_1_1_6])
    exact hret (g_asked σ) () _ _ _ _ rfl hE hP hD hS dX4_told_82
  by_cases s_1_1_7 : a1 = (7 : Int32)
  · refine lv_tableIn (off := 82) (tgt := 83) hx hb dX4_told_1 (by rw [s_1_1_7]; decide) (by rw [s_1_1_7]; decide) (by rw [s_1_1_7]; rfl) (by decide) ?_
    refine lv_aload_n hx hb dX4_told_83 rfl (lv_at hl 0 rfl) ?_
    refine gX_under (v := (g_under σ)) hx hb hts hown hK hP kw_115 rfl dX4_told_84 ?_
    have hE : x4_told σ a1 = (g_under σ) := (by unfold x4_told; rw [if_neg s_1_1_0, if_neg s_1_1_1, if_neg s_1_1_2, if_neg s_1_1_3, if_neg s_1_1_4, if_neg s_1_1_5, if_neg s_1_1_6, if_pos s_1_1_7])
    exact hret (g_under σ) () _ _ _ _ rfl hE hP hD hS dX4_told_87
  refine lv_tableOut (tgt := 88) hx hb dX4_told_1 (by have q0 := lv_neT s_1_1_0 (show (0 : Int32).toInt = 0 by decide); have q1 := lv_neT s_1_1_1 (show (1 : Int32).toInt = 1 by decide); have q2 := lv_neT s_1_1_2 (show (2 : Int32).toInt = 2 by decide); have q3 := lv_neT s_1_1_3 (show (3 : Int32).toInt = 3 by decide); have q4 := lv_neT s_1_1_4 (show (4 : Int32).toInt = 4 by decide); have q5 := lv_neT s_1_1_5 (show (5 : Int32).toInt = 5 by decide); have q6 := lv_neT s_1_1_6 (show (6 : Int32).toInt = 6 by decide); have q7 := lv_neT s_1_1_7 (show (7 : Int32).toInt = 7 by decide); omega) (by decide) ?_
  refine lv_iconst (v := (-1 : Int32)) hx hb dX4_told_88 (by decide) ?_
  have hE : x4_told σ a1 = (-1 : Int32) := (by unfold x4_told; rw [if_neg s_1_1_0, if_neg s_1_1_1, if_neg s_1_1_2, if_neg s_1_1_3, if_neg s_1_1_4, if_neg s_1_1_5, if_neg s_1_1_6, if_neg s_1_1_7])
  exact hret (-1 : Int32) () _ _ _ _ rfl hE hP hD hS dX4_told_89
