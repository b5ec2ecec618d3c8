set_option maxRecDepth 100000 in
set_option maxHeartbeats 8000000 in
theorem kX3_init (l : Launch) (D : va_G) (cI : ClassId) (a : Nat) : MetN l yX3_init (wsU yX3_init cX3_init 1 none) { frames := 1, cells := 1, slots := 100, locals := 12 } D cI [.ref a] [(a, .inr (3, [.null, .int 0, .int 0]))] 1 100 (fun u : Nat => [(a, .inr (3, [.ref u, .int 0, .int 0])), (u, .inl (cI, 100, .inl (fun _ => 0)))]) (fun _ => True) := by
  refine MetN.of (by decide) (Nat.le_of_ble_eq_true rfl) ?_
  intro p e s m below meth c A Q ls hx hb hml hown hts hK hN hA hin hret hP hD hS hl
  have hown : s.vm.findClass RX3 = some m.cls := hown
  have hin : meth.name = "<init>" := hin
  have hl : lv_has ls 1 [(0, .ref a)] := hl
  refine lv_aload_n hx hb dX3_init_0 rfl (lv_at hl 0 rfl) ?_
  refine W.objInit hx hb hown (hts (.methodLink RX3 3 objectInit) kw_21) (hts (.instanceMethod objectInit) kw_14) (hts _ kw_15) rfl (by rw [hml]; exact hl.1) rfl dX3_init_1 (Nat.le_of_ble_eq_true rfl) (Nat.le_of_ble_eq_true rfl) ?_
  refine W.eq (g2 := F0 m 4 ls []) rfl ?_
  refine lv_aload_n hx hb dX3_init_4 rfl (lv_at hl 0 rfl) ?_
  refine lv_bipush (v := (100 : Int32)) hx hb dX3_init_5 (by decide) ?_
  refine new_I (N := 100) hx hb hts hK hP hD hS hA (by decide) (by decide) (by decide) (Nat.le_of_ble_eq_true rfl) (Nat.le_of_ble_eq_true rfl) dX3_init_7 (fun q1 H hP hD hS => ?_)
  have hP : va_P D vwCl [(a, .inr (3, [.null, .int 0, .int 0])), (q1, .inl (cI, 100, .inl (fun _ => 0)))] H := hP
  have hD : va_D A [(a, .inr (3, [.null, .int 0, .int 0])), (q1, .inl (cI, 100, .inl (fun _ => 0)))] := hD
  refine va_putF (D := D) (ci := 3) (v := .ref q1) (ty := .array .int) (C := RX3) (T := TX3) (N := 3) hx hb hts inX3 tyX3 tyX3_ok nmX3 hown hK hP hD hS 0 rfl rfl 0 (by decide) (hts (.fieldLink RX3 9 "SignedCore$TypedRow" "signs" "[I") kw_22) (fun _ h9 => h9) rfl hin rfl (tyX3_ok 0 (by decide)) rfl rfl (Nat.le_of_ble_eq_true rfl) dX3_init_9 (fun H locs hP hD hS => ?_)
  have hP : va_P D vwCl [(a, .inr (3, [.ref q1, .int 0, .int 0])), (q1, .inl (cI, 100, .inl (fun _ => 0)))] H := hP
  have hD : va_D A [(a, .inr (3, [.ref q1, .int 0, .int 0])), (q1, .inl (cI, 100, .inl (fun _ => 0)))] := hD
  exact hret q1 _ _ _ _ trivial hP hD hS dX3_init_12
set_option maxRecDepth 100000 in
set_option maxHeartbeats 8000000 in
theorem kX1_init (l : Launch) (D : va_G) (cI : ClassId) (a : Nat) : MetN l yX1_init (wsU yX1_init cX1_init 1 none) { frames := 1, cells := 1, slots := 64, locals := 12 } D cI [.ref a] [(a, .inr (1, [.null, .int 0, .int 0]))] 1 64 (fun u : Nat => [(a, .inr (1, [.ref u, .int 0, .int 0])), (u, .inl (cI, 64, .inl (fun _ => 0)))]) (fun _ => True) := by
  refine MetN.of (by decide) (Nat.le_of_ble_eq_true rfl) ?_
  intro p e s m below meth c A Q ls hx hb hml hown hts hK hN hA hin hret hP hD hS hl
  have hown : s.vm.findClass RX1 = some m.cls := hown
  have hin : meth.name = "<init>" := hin
  have hl : lv_has ls 1 [(0, .ref a)] := hl
  refine lv_aload_n hx hb dX1_init_0 rfl (lv_at hl 0 rfl) ?_
  refine W.objInit hx hb hown (hts (.methodLink RX1 3 objectInit) kw_38) (hts (.instanceMethod objectInit) kw_14) (hts _ kw_15) rfl (by rw [hml]; exact hl.1) rfl dX1_init_1 (Nat.le_of_ble_eq_true rfl) (Nat.le_of_ble_eq_true rfl) ?_
  refine W.eq (g2 := F0 m 4 ls []) rfl ?_
  refine lv_aload_n hx hb dX1_init_4 rfl (lv_at hl 0 rfl) ?_
  refine lv_bipush (v := (64 : Int32)) hx hb dX1_init_5 (by decide) ?_
  refine new_I (N := 64) hx hb hts hK hP hD hS hA (by decide) (by decide) (by decide) (Nat.le_of_ble_eq_true rfl) (Nat.le_of_ble_eq_true rfl) dX1_init_7 (fun q1 H hP hD hS => ?_)
  have hP : va_P D vwCl [(a, .inr (1, [.null, .int 0, .int 0])), (q1, .inl (cI, 64, .inl (fun _ => 0)))] H := hP
  have hD : va_D A [(a, .inr (1, [.null, .int 0, .int 0])), (q1, .inl (cI, 64, .inl (fun _ => 0)))] := hD
  refine va_putF (D := D) (ci := 1) (v := .ref q1) (ty := .array .int) (C := RX1) (T := TX1) (N := 3) hx hb hts inX1 tyX1 tyX1_ok nmX1 hown hK hP hD hS 0 rfl rfl 0 (by decide) (hts (.fieldLink RX1 9 "SignedCore$SentRow" "signs" "[I") kw_39) (fun _ h9 => h9) rfl hin rfl (tyX1_ok 0 (by decide)) rfl rfl (Nat.le_of_ble_eq_true rfl) dX1_init_9 (fun H locs hP hD hS => ?_)
  have hP : va_P D vwCl [(a, .inr (1, [.ref q1, .int 0, .int 0])), (q1, .inl (cI, 64, .inl (fun _ => 0)))] H := hP
  have hD : va_D A [(a, .inr (1, [.ref q1, .int 0, .int 0])), (q1, .inl (cI, 64, .inl (fun _ => 0)))] := hD
  exact hret q1 _ _ _ _ trivial hP hD hS dX1_init_12
set_option maxRecDepth 100000 in
set_option maxHeartbeats 8000000 in
theorem kX0_init (l : Launch) (D : va_G) (cI : ClassId) (a : Nat) : MetN l yX0_init (wsU yX0_init cX0_init 1 none) { frames := 1, cells := 2, slots := 128, locals := 12 } D cI [.ref a] [(a, .inr (0, [.null, .null, .int 0]))] 2 128 (fun u : Nat × Nat => [(a, .inr (0, [.ref u.1, .ref u.2, .int 0])), (u.1, .inl (cI, 64, .inl (fun _ => 0))), (u.2, .inl (cI, 64, .inl (fun _ => 0)))]) (fun _ => True) := by
  refine MetN.of (by decide) (Nat.le_of_ble_eq_true rfl) ?_
  intro p e s m below meth c A Q ls hx hb hml hown hts hK hN hA hin hret hP hD hS hl
  have hown : s.vm.findClass RX0 = some m.cls := hown
  have hin : meth.name = "<init>" := hin
  have hl : lv_has ls 1 [(0, .ref a)] := hl
  refine lv_aload_n hx hb dX0_init_0 rfl (lv_at hl 0 rfl) ?_
  refine W.objInit hx hb hown (hts (.methodLink RX0 3 objectInit) kw_56) (hts (.instanceMethod objectInit) kw_14) (hts _ kw_15) rfl (by rw [hml]; exact hl.1) rfl dX0_init_1 (Nat.le_of_ble_eq_true rfl) (Nat.le_of_ble_eq_true rfl) ?_
  refine W.eq (g2 := F0 m 4 ls []) rfl ?_
  refine lv_aload_n hx hb dX0_init_4 rfl (lv_at hl 0 rfl) ?_
  refine lv_bipush (v := (64 : Int32)) hx hb dX0_init_5 (by decide) ?_
  refine new_I (N := 64) hx hb hts hK hP hD hS hA (by decide) (by decide) (by decide) (Nat.le_of_ble_eq_true rfl) (Nat.le_of_ble_eq_true rfl) dX0_init_7 (fun q1 H hP hD hS => ?_)
  have hP : va_P D vwCl [(a, .inr (0, [.null, .null, .int 0])), (q1, .inl (cI, 64, .inl (fun _ => 0)))] H := hP
  have hD : va_D A [(a, .inr (0, [.null, .null, .int 0])), (q1, .inl (cI, 64, .inl (fun _ => 0)))] := hD
  refine va_putF (D := D) (ci := 0) (v := .ref q1) (ty := .array .int) (C := RX0) (T := TX0) (N := 3) hx hb hts inX0 tyX0 tyX0_ok nmX0 hown hK hP hD hS 0 rfl rfl 0 (by decide) (hts (.fieldLink RX0 9 "SignedCore$Display" "xs" "[I") kw_57) (fun _ h9 => h9) rfl hin rfl (tyX0_ok 0 (by decide)) rfl rfl (Nat.le_of_ble_eq_true rfl) dX0_init_9 (fun H locs hP hD hS => ?_)
  have hP : va_P D vwCl [(a, .inr (0, [.ref q1, .null, .int 0])), (q1, .inl (cI, 64, .inl (fun _ => 0)))] H := hP
  have hD : va_D A [(a, .inr (0, [.ref q1, .null, .int 0])), (q1, .inl (cI, 64, .inl (fun _ => 0)))] := hD
  refine lv_aload_n hx hb dX0_init_12 rfl (lv_at hl 0 rfl) ?_
  refine lv_bipush (v := (64 : Int32)) hx hb dX0_init_13 (by decide) ?_
  refine new_I (N := 64) hx hb hts hK hP hD hS hA (by decide) (by decide) (by decide) (Nat.le_of_ble_eq_true rfl) (Nat.le_of_ble_eq_true rfl) dX0_init_15 (fun q2 H hP hD hS => ?_)
  have hP : va_P D vwCl [(a, .inr (0, [.ref q1, .null, .int 0])), (q1, .inl (cI, 64, .inl (fun _ => 0))), (q2, .inl (cI, 64, .inl (fun _ => 0)))] H := hP
  have hD : va_D A [(a, .inr (0, [.ref q1, .null, .int 0])), (q1, .inl (cI, 64, .inl (fun _ => 0))), (q2, .inl (cI, 64, .inl (fun _ => 0)))] := hD
  refine va_putF (D := D) (ci := 0) (v := .ref q2) (ty := .array .int) (C := RX0) (T := TX0) (N := 3) hx hb hts inX0 tyX0 tyX0_ok nmX0 hown hK hP hD hS 0 rfl rfl 1 (by decide) (hts (.fieldLink RX0 15 "SignedCore$Display" "ys" "[I") kw_58) (fun _ h9 => h9) rfl hin rfl (tyX0_ok 1 (by decide)) rfl rfl (Nat.le_of_ble_eq_true rfl) dX0_init_17 (fun H locs hP hD hS => ?_)
  have hP : va_P D vwCl [(a, .inr (0, [.ref q1, .ref q2, .int 0])), (q1, .inl (cI, 64, .inl (fun _ => 0))), (q2, .inl (cI, 64, .inl (fun _ => 0)))] H := hP
  have hD : va_D A [(a, .inr (0, [.ref q1, .ref q2, .int 0])), (q1, .inl (cI, 64, .inl (fun _ => 0))), (q2, .inl (cI, 64, .inl (fun _ => 0)))] := hD
  exact hret (q1, q2) _ _ _ _ trivial hP hD hS dX0_init_20
set_option maxRecDepth 100000 in
set_option maxHeartbeats 8000000 in
theorem kX2_init (l : Launch) (D : va_G) (cI : ClassId) (a : Nat) : MetN l yX2_init (wsU yX2_init cX2_init 1 none) { frames := 1, cells := 0, slots := 0, locals := 12 } D cI [.ref a] [(a, .inr (2, [.int 0, .int 0, .int 0, .int 0, .int 0, .int 0, .int 0, .int 0]))] 0 0 (fun u : Unit => [(a, .inr (2, [.int 0, .int 0, .int 0, .int 0, .int 0, .int 0, .int (-9), .int 0]))]) (fun _ => True) := by
  refine MetN.of (by decide) (Nat.le_of_ble_eq_true rfl) ?_
  intro p e s m below meth c A Q ls hx hb hml hown hts hK hN hA hin hret hP hD hS hl
  have hown : s.vm.findClass RX2 = some m.cls := hown
  have hin : meth.name = "<init>" := hin
  have hl : lv_has ls 1 [(0, .ref a)] := hl
  refine lv_aload_n hx hb dX2_init_0 rfl (lv_at hl 0 rfl) ?_
  refine W.objInit hx hb hown (hts (.methodLink RX2 3 objectInit) kw_73) (hts (.instanceMethod objectInit) kw_14) (hts _ kw_15) rfl (by rw [hml]; exact hl.1) rfl dX2_init_1 (Nat.le_of_ble_eq_true rfl) (Nat.le_of_ble_eq_true rfl) ?_
  refine W.eq (g2 := F0 m 4 ls []) rfl ?_
  refine lv_aload_n hx hb dX2_init_4 rfl (lv_at hl 0 rfl) ?_
  refine lv_bipush (v := (-9 : Int32)) hx hb dX2_init_5 (by decide) ?_
  refine va_put (D := D) (ci := 2) (v := .int (-9)) (ty := .int) (C := RX2) (T := TX2) (N := 8) hx hb hts inX2 tyX2 tyX2_ok nmX2 hown hK hP hD hS 0 rfl rfl 6 (by decide) (hts (.fieldLink RX2 9 "SignedCore$Tally" "haltedAt" "I") kw_86) (fun _ h9 => h9) rfl (tyX2_ok 6 (by decide)) rfl rfl (Nat.le_of_ble_eq_true rfl) dX2_init_7 (fun H locs hP hD hS => ?_)
  exact hret () _ _ _ _ trivial hP hD hS dX2_init_10
def st0 : St := ((0, 0, 0, 0, 0), (0, 0, 0, 0, 0), (fun _ => 0, fun _ => 0, fun _ => 0, fun _ => 0, fun _ => 0), (0, 0, 0, 0, 0), (0, 0, 0, 0, 0, 0, -9, 0), 0)
def hof (l : List Nat) (k : Nat) : Nat := l.getD k 0
set_option maxRecDepth 100000 in
set_option maxHeartbeats 8000000 in
theorem kX4_init (l : Launch) (D : va_G) (cI : ClassId) (a : Nat) : MetN l yX4_init (wsU yX4_init cX4_init 1 none) { frames := 2, cells := 9, slots := 4405, locals := 32 } D cI [.ref a] [(a, .inr (4, [.null, .int 0, .int 0, .int 0, .int 0, .int 0, .int 0, .int 0, .int 0, .int 0, .int 0, .null, .null, .null, .null]))] 9 4405 (fun u : (Nat → Nat) => wX u cI st0) (fun u => u 0 = a) := by
  refine MetN.of (by decide) (Nat.le_of_ble_eq_true rfl) ?_
  intro p e s m below meth c A Q ls hx hb hml hown hts hK hN hA hin hret hP hD hS hl
  have hown : s.vm.findClass RX4 = some m.cls := hown
  have hin : meth.name = "<init>" := hin
  have hl : lv_has ls 1 [(0, .ref a)] := hl
  refine lv_aload_n hx hb dX4_init_0 rfl (lv_at hl 0 rfl) ?_
  refine W.objInit hx hb hown (hts (.methodLink RX4 1 objectInit) kw_13) (hts (.instanceMethod objectInit) kw_14) (hts _ kw_15) rfl (by rw [hml]; exact hl.1) rfl dX4_init_1 (Nat.le_of_ble_eq_true rfl) (Nat.le_of_ble_eq_true rfl) ?_
  refine W.eq (g2 := F0 m 4 ls []) rfl ?_
  refine lv_aload_n hx hb dX4_init_4 rfl (lv_at hl 0 rfl) ?_
  refine lv_sipush (v := (4096 : Int32)) hx hb dX4_init_5 (by decide) ?_
  refine new_I (N := 4096) hx hb hts hK hP hD hS hA (by decide) (by decide) (by decide) (Nat.le_of_ble_eq_true rfl) (Nat.le_of_ble_eq_true rfl) dX4_init_8 (fun q1 H hP hD hS => ?_)
  have hP : va_P D vwCl [(a, .inr (4, [.null, .int 0, .int 0, .int 0, .int 0, .int 0, .int 0, .int 0, .int 0, .int 0, .int 0, .null, .null, .null, .null])), (q1, .inl (cI, 4096, .inl (fun _ => 0)))] H := hP
  have hD : va_D A [(a, .inr (4, [.null, .int 0, .int 0, .int 0, .int 0, .int 0, .int 0, .int 0, .int 0, .int 0, .int 0, .null, .null, .null, .null])), (q1, .inl (cI, 4096, .inl (fun _ => 0)))] := hD
  refine va_putF (D := D) (ci := 4) (v := .ref q1) (ty := .array .int) (C := RX4) (T := TX4) (N := 15) hx hb hts inX4 tyX4 tyX4_ok nmX4 hown hK hP hD hS 0 rfl rfl 0 (by decide) (hts (.fieldLink RX4 9 "SignedCore" "cells" "[I") kw_107) (fun _ h9 => h9) rfl hin rfl (tyX4_ok 0 (by decide)) rfl rfl (Nat.le_of_ble_eq_true rfl) dX4_init_10 (fun H locs hP hD hS => ?_)
  have hP : va_P D vwCl [(a, .inr (4, [.ref q1, .int 0, .int 0, .int 0, .int 0, .int 0, .int 0, .int 0, .int 0, .int 0, .int 0, .null, .null, .null, .null])), (q1, .inl (cI, 4096, .inl (fun _ => 0)))] H := hP
  have hD : va_D A [(a, .inr (4, [.ref q1, .int 0, .int 0, .int 0, .int 0, .int 0, .int 0, .int 0, .int 0, .int 0, .int 0, .null, .null, .null, .null])), (q1, .inl (cI, 4096, .inl (fun _ => 0)))] := hD
  refine lv_aload_n hx hb dX4_init_13 rfl (lv_at hl 0 rfl) ?_
  refine va_new (D := D) (ci := 3) (fs := [.null, .int 0, .int 0]) (C := RX3) (T := TX3) (N := 3) hx hb hts inX3 tyX3 tyX3_ok hown (hts (.classLink RX4 13 RX3) kw_16) (hts (.instantiable RX3 3) kw_17) (hts (.initialized RX3) kw_2) hK hP hD hS hA rfl (fun j hj => by rcases (show j = 0 ∨ j = 1 ∨ j = 2 by omega) with rfl | rfl | rfl <;> rfl) (Nat.le_of_ble_eq_true rfl) (Nat.le_of_ble_eq_true rfl) dX4_init_14 (fun q2 H hP hD hS => ?_)
  refine lv_dup hx hb dX4_init_17 rfl ?_
  have hP : va_P D vwCl ([(a, .inr (4, [.ref q1, .int 0, .int 0, .int 0, .int 0, .int 0, .int 0, .int 0, .int 0, .int 0, .int 0, .null, .null, .null, .null])), (q1, .inl (cI, 4096, .inl (fun _ => 0)))] ++ [(q2, .inr (3, [.null, .int 0, .int 0]))]) H := hP
  have hD : va_D A ([(a, .inr (4, [.ref q1, .int 0, .int 0, .int 0, .int 0, .int 0, .int 0, .int 0, .int 0, .int 0, .int 0, .null, .null, .null, .null])), (q1, .inl (cI, 4096, .inl (fun _ => 0)))] ++ [(q2, .inr (3, [.null, .int 0, .int 0]))]) := hD
  refine call_N (kX3_init l D cI q2) ⟨hx, hb, hml, hown, hts, hK, hN, hA⟩ kw_18 kw_19 kw_2 kw_20 rfl (by decide +kernel) ⟨rfl, rfl⟩ ⟨Nat.le_of_ble_eq_true rfl, Nat.le_of_ble_eq_true rfl⟩ hP hD hS hl.1 (Nat.le_of_ble_eq_true rfl) dX4_init_18 ⟨Nat.le_of_ble_eq_true rfl, Nat.le_of_ble_eq_true rfl⟩ (fun u H locs _ hP hD hS => ?_)
  obtain ⟨q3, rfl⟩ : ∃ z, z = u := ⟨_, rfl⟩
  have hP : va_P D vwCl [(a, .inr (4, [.ref q1, .int 0, .int 0, .int 0, .int 0, .int 0, .int 0, .int 0, .int 0, .int 0, .int 0, .null, .null, .null, .null])), (q1, .inl (cI, 4096, .inl (fun _ => 0))), (q2, .inr (3, [.ref q3, .int 0, .int 0])), (q3, .inl (cI, 100, .inl (fun _ => 0)))] H := hP
  have hD : va_D A [(a, .inr (4, [.ref q1, .int 0, .int 0, .int 0, .int 0, .int 0, .int 0, .int 0, .int 0, .int 0, .int 0, .null, .null, .null, .null])), (q1, .inl (cI, 4096, .inl (fun _ => 0))), (q2, .inr (3, [.ref q3, .int 0, .int 0])), (q3, .inl (cI, 100, .inl (fun _ => 0)))] := hD
  refine va_putF (D := D) (ci := 4) (v := .ref q2) (ty := .object "SignedCore$TypedRow") (C := RX4) (T := TX4) (N := 15) hx hb hts inX4 tyX4 tyX4_ok nmX4 hown hK hP hD hS 0 rfl rfl 11 (by decide) (hts (.fieldLink RX4 16 "SignedCore" "typedRow" "LSignedCore$TypedRow;") kw_118) (fun _ h9 => h9) rfl hin rfl (tyX4_ok 11 (by decide)) rfl rfl (Nat.le_of_ble_eq_true rfl) dX4_init_21 (fun H locs hP hD hS => ?_)
  have hP : va_P D vwCl [(a, .inr (4, [.ref q1, .int 0, .int 0, .int 0, .int 0, .int 0, .int 0, .int 0, .int 0, .int 0, .int 0, .ref q2, .null, .null, .null])), (q1, .inl (cI, 4096, .inl (fun _ => 0))), (q2, .inr (3, [.ref q3, .int 0, .int 0])), (q3, .inl (cI, 100, .inl (fun _ => 0)))] H := hP
  have hD : va_D A [(a, .inr (4, [.ref q1, .int 0, .int 0, .int 0, .int 0, .int 0, .int 0, .int 0, .int 0, .int 0, .int 0, .ref q2, .null, .null, .null])), (q1, .inl (cI, 4096, .inl (fun _ => 0))), (q2, .inr (3, [.ref q3, .int 0, .int 0])), (q3, .inl (cI, 100, .inl (fun _ => 0)))] := hD
  refine lv_aload_n hx hb dX4_init_24 rfl (lv_at hl 0 rfl) ?_
  refine va_new (D := D) (ci := 1) (fs := [.null, .int 0, .int 0]) (C := RX1) (T := TX1) (N := 3) hx hb hts inX1 tyX1 tyX1_ok hown (hts (.classLink RX4 20 RX1) kw_33) (hts (.instantiable RX1 3) kw_34) (hts (.initialized RX1) kw_3) hK hP hD hS hA rfl (fun j hj => by rcases (show j = 0 ∨ j = 1 ∨ j = 2 by omega) with rfl | rfl | rfl <;> rfl) (Nat.le_of_ble_eq_true rfl) (Nat.le_of_ble_eq_true rfl) dX4_init_25 (fun q4 H hP hD hS => ?_)
  refine lv_dup hx hb dX4_init_28 rfl ?_
  have hP : va_P D vwCl ([(a, .inr (4, [.ref q1, .int 0, .int 0, .int 0, .int 0, .int 0, .int 0, .int 0, .int 0, .int 0, .int 0, .ref q2, .null, .null, .null])), (q1, .inl (cI, 4096, .inl (fun _ => 0))), (q2, .inr (3, [.ref q3, .int 0, .int 0])), (q3, .inl (cI, 100, .inl (fun _ => 0)))] ++ [(q4, .inr (1, [.null, .int 0, .int 0]))]) H := hP
  have hD : va_D A ([(a, .inr (4, [.ref q1, .int 0, .int 0, .int 0, .int 0, .int 0, .int 0, .int 0, .int 0, .int 0, .int 0, .ref q2, .null, .null, .null])), (q1, .inl (cI, 4096, .inl (fun _ => 0))), (q2, .inr (3, [.ref q3, .int 0, .int 0])), (q3, .inl (cI, 100, .inl (fun _ => 0)))] ++ [(q4, .inr (1, [.null, .int 0, .int 0]))]) := hD
  refine call_N (kX1_init l D cI q4) ⟨hx, hb, hml, hown, hts, hK, hN, hA⟩ kw_35 kw_36 kw_3 kw_37 rfl (by decide +kernel) ⟨rfl, rfl⟩ ⟨Nat.le_of_ble_eq_true rfl, Nat.le_of_ble_eq_true rfl⟩ hP hD hS hl.1 (Nat.le_of_ble_eq_true rfl) dX4_init_29 ⟨Nat.le_of_ble_eq_true rfl, Nat.le_of_ble_eq_true rfl⟩ (fun u H locs _ hP hD hS => ?_)
  obtain ⟨q5, rfl⟩ : ∃ z, z = u := ⟨_, rfl⟩
  have hP : va_P D vwCl [(a, .inr (4, [.ref q1, .int 0, .int 0, .int 0, .int 0, .int 0, .int 0, .int 0, .int 0, .int 0, .int 0, .ref q2, .null, .null, .null])), (q1, .inl (cI, 4096, .inl (fun _ => 0))), (q2, .inr (3, [.ref q3, .int 0, .int 0])), (q3, .inl (cI, 100, .inl (fun _ => 0))), (q4, .inr (1, [.ref q5, .int 0, .int 0])), (q5, .inl (cI, 64, .inl (fun _ => 0)))] H := hP
  have hD : va_D A [(a, .inr (4, [.ref q1, .int 0, .int 0, .int 0, .int 0, .int 0, .int 0, .int 0, .int 0, .int 0, .int 0, .ref q2, .null, .null, .null])), (q1, .inl (cI, 4096, .inl (fun _ => 0))), (q2, .inr (3, [.ref q3, .int 0, .int 0])), (q3, .inl (cI, 100, .inl (fun _ => 0))), (q4, .inr (1, [.ref q5, .int 0, .int 0])), (q5, .inl (cI, 64, .inl (fun _ => 0)))] := hD
  refine va_putF (D := D) (ci := 4) (v := .ref q4) (ty := .object "SignedCore$SentRow") (C := RX4) (T := TX4) (N := 15) hx hb hts inX4 tyX4 tyX4_ok nmX4 hown hK hP hD hS 0 rfl rfl 12 (by decide) (hts (.fieldLink RX4 23 "SignedCore" "sentRow" "LSignedCore$SentRow;") kw_119) (fun _ h9 => h9) rfl hin rfl (tyX4_ok 12 (by decide)) rfl rfl (Nat.le_of_ble_eq_true rfl) dX4_init_32 (fun H locs hP hD hS => ?_)
  have hP : va_P D vwCl [(a, .inr (4, [.ref q1, .int 0, .int 0, .int 0, .int 0, .int 0, .int 0, .int 0, .int 0, .int 0, .int 0, .ref q2, .ref q4, .null, .null])), (q1, .inl (cI, 4096, .inl (fun _ => 0))), (q2, .inr (3, [.ref q3, .int 0, .int 0])), (q3, .inl (cI, 100, .inl (fun _ => 0))), (q4, .inr (1, [.ref q5, .int 0, .int 0])), (q5, .inl (cI, 64, .inl (fun _ => 0)))] H := hP
  have hD : va_D A [(a, .inr (4, [.ref q1, .int 0, .int 0, .int 0, .int 0, .int 0, .int 0, .int 0, .int 0, .int 0, .int 0, .ref q2, .ref q4, .null, .null])), (q1, .inl (cI, 4096, .inl (fun _ => 0))), (q2, .inr (3, [.ref q3, .int 0, .int 0])), (q3, .inl (cI, 100, .inl (fun _ => 0))), (q4, .inr (1, [.ref q5, .int 0, .int 0])), (q5, .inl (cI, 64, .inl (fun _ => 0)))] := hD
  refine lv_aload_n hx hb dX4_init_35 rfl (lv_at hl 0 rfl) ?_
  refine va_new (D := D) (ci := 0) (fs := [.null, .null, .int 0]) (C := RX0) (T := TX0) (N := 3) hx hb hts inX0 tyX0 tyX0_ok hown (hts (.classLink RX4 27 RX0) kw_51) (hts (.instantiable RX0 3) kw_52) (hts (.initialized RX0) kw_4) hK hP hD hS hA rfl (fun j hj => by rcases (show j = 0 ∨ j = 1 ∨ j = 2 by omega) with rfl | rfl | rfl <;> rfl) (Nat.le_of_ble_eq_true rfl) (Nat.le_of_ble_eq_true rfl) dX4_init_36 (fun q6 H hP hD hS => ?_)
  refine lv_dup hx hb dX4_init_39 rfl ?_
  have hP : va_P D vwCl ([(a, .inr (4, [.ref q1, .int 0, .int 0, .int 0, .int 0, .int 0, .int 0, .int 0, .int 0, .int 0, .int 0, .ref q2, .ref q4, .null, .null])), (q1, .inl (cI, 4096, .inl (fun _ => 0))), (q2, .inr (3, [.ref q3, .int 0, .int 0])), (q3, .inl (cI, 100, .inl (fun _ => 0))), (q4, .inr (1, [.ref q5, .int 0, .int 0])), (q5, .inl (cI, 64, .inl (fun _ => 0)))] ++ [(q6, .inr (0, [.null, .null, .int 0]))]) H := hP
  have hD : va_D A ([(a, .inr (4, [.ref q1, .int 0, .int 0, .int 0, .int 0, .int 0, .int 0, .int 0, .int 0, .int 0, .int 0, .ref q2, .ref q4, .null, .null])), (q1, .inl (cI, 4096, .inl (fun _ => 0))), (q2, .inr (3, [.ref q3, .int 0, .int 0])), (q3, .inl (cI, 100, .inl (fun _ => 0))), (q4, .inr (1, [.ref q5, .int 0, .int 0])), (q5, .inl (cI, 64, .inl (fun _ => 0)))] ++ [(q6, .inr (0, [.null, .null, .int 0]))]) := hD
  refine call_N (kX0_init l D cI q6) ⟨hx, hb, hml, hown, hts, hK, hN, hA⟩ kw_53 kw_54 kw_4 kw_55 rfl (by decide +kernel) ⟨rfl, rfl⟩ ⟨Nat.le_of_ble_eq_true rfl, Nat.le_of_ble_eq_true rfl⟩ hP hD hS hl.1 (Nat.le_of_ble_eq_true rfl) dX4_init_40 ⟨Nat.le_of_ble_eq_true rfl, Nat.le_of_ble_eq_true rfl⟩ (fun u H locs _ hP hD hS => ?_)
  obtain ⟨q7, q8⟩ := u
  have hP : va_P D vwCl [(a, .inr (4, [.ref q1, .int 0, .int 0, .int 0, .int 0, .int 0, .int 0, .int 0, .int 0, .int 0, .int 0, .ref q2, .ref q4, .null, .null])), (q1, .inl (cI, 4096, .inl (fun _ => 0))), (q2, .inr (3, [.ref q3, .int 0, .int 0])), (q3, .inl (cI, 100, .inl (fun _ => 0))), (q4, .inr (1, [.ref q5, .int 0, .int 0])), (q5, .inl (cI, 64, .inl (fun _ => 0))), (q6, .inr (0, [.ref q7, .ref q8, .int 0])), (q7, .inl (cI, 64, .inl (fun _ => 0))), (q8, .inl (cI, 64, .inl (fun _ => 0)))] H := hP
  have hD : va_D A [(a, .inr (4, [.ref q1, .int 0, .int 0, .int 0, .int 0, .int 0, .int 0, .int 0, .int 0, .int 0, .int 0, .ref q2, .ref q4, .null, .null])), (q1, .inl (cI, 4096, .inl (fun _ => 0))), (q2, .inr (3, [.ref q3, .int 0, .int 0])), (q3, .inl (cI, 100, .inl (fun _ => 0))), (q4, .inr (1, [.ref q5, .int 0, .int 0])), (q5, .inl (cI, 64, .inl (fun _ => 0))), (q6, .inr (0, [.ref q7, .ref q8, .int 0])), (q7, .inl (cI, 64, .inl (fun _ => 0))), (q8, .inl (cI, 64, .inl (fun _ => 0)))] := hD
  refine va_putF (D := D) (ci := 4) (v := .ref q6) (ty := .object "SignedCore$Display") (C := RX4) (T := TX4) (N := 15) hx hb hts inX4 tyX4 tyX4_ok nmX4 hown hK hP hD hS 0 rfl rfl 13 (by decide) (hts (.fieldLink RX4 30 "SignedCore" "display" "LSignedCore$Display;") kw_120) (fun _ h9 => h9) rfl hin rfl (tyX4_ok 13 (by decide)) rfl rfl (Nat.le_of_ble_eq_true rfl) dX4_init_43 (fun H locs hP hD hS => ?_)
  have hP : va_P D vwCl [(a, .inr (4, [.ref q1, .int 0, .int 0, .int 0, .int 0, .int 0, .int 0, .int 0, .int 0, .int 0, .int 0, .ref q2, .ref q4, .ref q6, .null])), (q1, .inl (cI, 4096, .inl (fun _ => 0))), (q2, .inr (3, [.ref q3, .int 0, .int 0])), (q3, .inl (cI, 100, .inl (fun _ => 0))), (q4, .inr (1, [.ref q5, .int 0, .int 0])), (q5, .inl (cI, 64, .inl (fun _ => 0))), (q6, .inr (0, [.ref q7, .ref q8, .int 0])), (q7, .inl (cI, 64, .inl (fun _ => 0))), (q8, .inl (cI, 64, .inl (fun _ => 0)))] H := hP
  have hD : va_D A [(a, .inr (4, [.ref q1, .int 0, .int 0, .int 0, .int 0, .int 0, .int 0, .int 0, .int 0, .int 0, .int 0, .ref q2, .ref q4, .ref q6, .null])), (q1, .inl (cI, 4096, .inl (fun _ => 0))), (q2, .inr (3, [.ref q3, .int 0, .int 0])), (q3, .inl (cI, 100, .inl (fun _ => 0))), (q4, .inr (1, [.ref q5, .int 0, .int 0])), (q5, .inl (cI, 64, .inl (fun _ => 0))), (q6, .inr (0, [.ref q7, .ref q8, .int 0])), (q7, .inl (cI, 64, .inl (fun _ => 0))), (q8, .inl (cI, 64, .inl (fun _ => 0)))] := hD
  refine lv_aload_n hx hb dX4_init_46 rfl (lv_at hl 0 rfl) ?_
  refine va_new (D := D) (ci := 2) (fs := [.int 0, .int 0, .int 0, .int 0, .int 0, .int 0, .int 0, .int 0]) (C := RX2) (T := TX2) (N := 8) hx hb hts inX2 tyX2 tyX2_ok hown (hts (.classLink RX4 34 RX2) kw_68) (hts (.instantiable RX2 8) kw_69) (hts (.initialized RX2) kw_5) hK hP hD hS hA rfl (fun j hj => by rcases (show j = 0 ∨ j = 1 ∨ j = 2 ∨ j = 3 ∨ j = 4 ∨ j = 5 ∨ j = 6 ∨ j = 7 by omega) with rfl | rfl | rfl | rfl | rfl | rfl | rfl | rfl <;> rfl) (Nat.le_of_ble_eq_true rfl) (Nat.le_of_ble_eq_true rfl) dX4_init_47 (fun q9 H hP hD hS => ?_)
  refine lv_dup hx hb dX4_init_50 rfl ?_
  have hP : va_P D vwCl ([(a, .inr (4, [.ref q1, .int 0, .int 0, .int 0, .int 0, .int 0, .int 0, .int 0, .int 0, .int 0, .int 0, .ref q2, .ref q4, .ref q6, .null])), (q1, .inl (cI, 4096, .inl (fun _ => 0))), (q2, .inr (3, [.ref q3, .int 0, .int 0])), (q3, .inl (cI, 100, .inl (fun _ => 0))), (q4, .inr (1, [.ref q5, .int 0, .int 0])), (q5, .inl (cI, 64, .inl (fun _ => 0))), (q6, .inr (0, [.ref q7, .ref q8, .int 0])), (q7, .inl (cI, 64, .inl (fun _ => 0))), (q8, .inl (cI, 64, .inl (fun _ => 0)))] ++ [(q9, .inr (2, [.int 0, .int 0, .int 0, .int 0, .int 0, .int 0, .int 0, .int 0]))]) H := hP
  have hD : va_D A ([(a, .inr (4, [.ref q1, .int 0, .int 0, .int 0, .int 0, .int 0, .int 0, .int 0, .int 0, .int 0, .int 0, .ref q2, .ref q4, .ref q6, .null])), (q1, .inl (cI, 4096, .inl (fun _ => 0))), (q2, .inr (3, [.ref q3, .int 0, .int 0])), (q3, .inl (cI, 100, .inl (fun _ => 0))), (q4, .inr (1, [.ref q5, .int 0, .int 0])), (q5, .inl (cI, 64, .inl (fun _ => 0))), (q6, .inr (0, [.ref q7, .ref q8, .int 0])), (q7, .inl (cI, 64, .inl (fun _ => 0))), (q8, .inl (cI, 64, .inl (fun _ => 0)))] ++ [(q9, .inr (2, [.int 0, .int 0, .int 0, .int 0, .int 0, .int 0, .int 0, .int 0]))]) := hD
  refine call_N (kX2_init l D cI q9) ⟨hx, hb, hml, hown, hts, hK, hN, hA⟩ kw_70 kw_71 kw_5 kw_72 rfl (by decide +kernel) ⟨rfl, rfl⟩ ⟨Nat.le_of_ble_eq_true rfl, Nat.le_of_ble_eq_true rfl⟩ hP hD hS hl.1 (Nat.le_of_ble_eq_true rfl) dX4_init_51 ⟨Nat.le_of_ble_eq_true rfl, Nat.le_of_ble_eq_true rfl⟩ (fun u H locs _ hP hD hS => ?_)
  have hP : va_P D vwCl [(a, .inr (4, [.ref q1, .int 0, .int 0, .int 0, .int 0, .int 0, .int 0, .int 0, .int 0, .int 0, .int 0, .ref q2, .ref q4, .ref q6, .null])), (q1, .inl (cI, 4096, .inl (fun _ => 0))), (q2, .inr (3, [.ref q3, .int 0, .int 0])), (q3, .inl (cI, 100, .inl (fun _ => 0))), (q4, .inr (1, [.ref q5, .int 0, .int 0])), (q5, .inl (cI, 64, .inl (fun _ => 0))), (q6, .inr (0, [.ref q7, .ref q8, .int 0])), (q7, .inl (cI, 64, .inl (fun _ => 0))), (q8, .inl (cI, 64, .inl (fun _ => 0))), (q9, .inr (2, [.int 0, .int 0, .int 0, .int 0, .int 0, .int 0, .int (-9), .int 0]))] H := hP
  have hD : va_D A [(a, .inr (4, [.ref q1, .int 0, .int 0, .int 0, .int 0, .int 0, .int 0, .int 0, .int 0, .int 0, .int 0, .ref q2, .ref q4, .ref q6, .null])), (q1, .inl (cI, 4096, .inl (fun _ => 0))), (q2, .inr (3, [.ref q3, .int 0, .int 0])), (q3, .inl (cI, 100, .inl (fun _ => 0))), (q4, .inr (1, [.ref q5, .int 0, .int 0])), (q5, .inl (cI, 64, .inl (fun _ => 0))), (q6, .inr (0, [.ref q7, .ref q8, .int 0])), (q7, .inl (cI, 64, .inl (fun _ => 0))), (q8, .inl (cI, 64, .inl (fun _ => 0))), (q9, .inr (2, [.int 0, .int 0, .int 0, .int 0, .int 0, .int 0, .int (-9), .int 0]))] := hD
  refine va_putF (D := D) (ci := 4) (v := .ref q9) (ty := .object "SignedCore$Tally") (C := RX4) (T := TX4) (N := 15) hx hb hts inX4 tyX4 tyX4_ok nmX4 hown hK hP hD hS 0 rfl rfl 14 (by decide) (hts (.fieldLink RX4 37 "SignedCore" "tally" "LSignedCore$Tally;") kw_121) (fun _ h9 => h9) rfl hin rfl (tyX4_ok 14 (by decide)) rfl rfl (Nat.le_of_ble_eq_true rfl) dX4_init_54 (fun H locs hP hD hS => ?_)
  have hP : va_P D vwCl [(a, .inr (4, [.ref q1, .int 0, .int 0, .int 0, .int 0, .int 0, .int 0, .int 0, .int 0, .int 0, .int 0, .ref q2, .ref q4, .ref q6, .ref q9])), (q1, .inl (cI, 4096, .inl (fun _ => 0))), (q2, .inr (3, [.ref q3, .int 0, .int 0])), (q3, .inl (cI, 100, .inl (fun _ => 0))), (q4, .inr (1, [.ref q5, .int 0, .int 0])), (q5, .inl (cI, 64, .inl (fun _ => 0))), (q6, .inr (0, [.ref q7, .ref q8, .int 0])), (q7, .inl (cI, 64, .inl (fun _ => 0))), (q8, .inl (cI, 64, .inl (fun _ => 0))), (q9, .inr (2, [.int 0, .int 0, .int 0, .int 0, .int 0, .int 0, .int (-9), .int 0]))] H := hP
  have hD : va_D A [(a, .inr (4, [.ref q1, .int 0, .int 0, .int 0, .int 0, .int 0, .int 0, .int 0, .int 0, .int 0, .int 0, .ref q2, .ref q4, .ref q6, .ref q9])), (q1, .inl (cI, 4096, .inl (fun _ => 0))), (q2, .inr (3, [.ref q3, .int 0, .int 0])), (q3, .inl (cI, 100, .inl (fun _ => 0))), (q4, .inr (1, [.ref q5, .int 0, .int 0])), (q5, .inl (cI, 64, .inl (fun _ => 0))), (q6, .inr (0, [.ref q7, .ref q8, .int 0])), (q7, .inl (cI, 64, .inl (fun _ => 0))), (q8, .inl (cI, 64, .inl (fun _ => 0))), (q9, .inr (2, [.int 0, .int 0, .int 0, .int 0, .int 0, .int 0, .int (-9), .int 0]))] := hD
  exact hret (hof [a, q1, q2, q3, q4, q5, q6, q7, q8, q9]) _ _ _ _ rfl hP hD hS dX4_init_57
set_option maxRecDepth 100000 in
set_option maxHeartbeats 8000000 in
theorem kX5_init (l : Launch) (D : va_G) (cI : ClassId) (a : Nat) : MetN l yX5_init (wsU yX5_init cX5_init 1 none) { frames := 1, cells := 6, slots := 4396, locals := 12 } D cI [.ref a] [(a, .inr (5, [.null, .int 0, .int 0, .int 0, .int 0, .int 0, .int 0, .int 0, .int 0, .int 0, .int 0, .null, .int 0, .int 0, .null, .int 0, .int 0, .null, .null, .int 0, .null, .int 0]))] 6 4396 (fun u : (Nat → Nat) => wM u cI st0) (fun u => u 0 = a) := by
  refine MetN.of (by decide) (Nat.le_of_ble_eq_true rfl) ?_
  intro p e s m below meth c A Q ls hx hb hml hown hts hK hN hA hin hret hP hD hS hl
  have hown : s.vm.findClass RX5 = some m.cls := hown
  have hin : meth.name = "<init>" := hin
  have hl : lv_has ls 1 [(0, .ref a)] := hl
  refine lv_aload_n hx hb dX5_init_0 rfl (lv_at hl 0 rfl) ?_
  refine W.objInit hx hb hown (hts (.methodLink RX5 1 objectInit) kw_450) (hts (.instanceMethod objectInit) kw_14) (hts _ kw_15) rfl (by rw [hml]; exact hl.1) rfl dX5_init_1 (Nat.le_of_ble_eq_true rfl) (Nat.le_of_ble_eq_true rfl) ?_
  refine W.eq (g2 := F0 m 4 ls []) rfl ?_
  refine lv_aload_n hx hb dX5_init_4 rfl (lv_at hl 0 rfl) ?_
  refine lv_sipush (v := (4096 : Int32)) hx hb dX5_init_5 (by decide) ?_
  refine new_I (N := 4096) hx hb hts hK hP hD hS hA (by decide) (by decide) (by decide) (Nat.le_of_ble_eq_true rfl) (Nat.le_of_ble_eq_true rfl) dX5_init_8 (fun q1 H hP hD hS => ?_)
  have hP : va_P D vwCl [(a, .inr (5, [.null, .int 0, .int 0, .int 0, .int 0, .int 0, .int 0, .int 0, .int 0, .int 0, .int 0, .null, .int 0, .int 0, .null, .int 0, .int 0, .null, .null, .int 0, .null, .int 0])), (q1, .inl (cI, 4096, .inl (fun _ => 0)))] H := hP
  have hD : va_D A [(a, .inr (5, [.null, .int 0, .int 0, .int 0, .int 0, .int 0, .int 0, .int 0, .int 0, .int 0, .int 0, .null, .int 0, .int 0, .null, .int 0, .int 0, .null, .null, .int 0, .null, .int 0])), (q1, .inl (cI, 4096, .inl (fun _ => 0)))] := hD
  refine va_putF (D := D) (ci := 5) (v := .ref q1) (ty := .array .int) (C := RX5) (T := TX5) (N := 22) hx hb hts inX5 tyX5 tyX5_ok nmX5 hown hK hP hD hS 0 rfl rfl 0 (by decide) (hts (.fieldLink RX5 7 "SignedCoreModel" "core" "[I") kw_451) (fun _ h9 => h9) rfl hin rfl (tyX5_ok 0 (by decide)) rfl rfl (Nat.le_of_ble_eq_true rfl) dX5_init_10 (fun H locs hP hD hS => ?_)
  have hP : va_P D vwCl [(a, .inr (5, [.ref q1, .int 0, .int 0, .int 0, .int 0, .int 0, .int 0, .int 0, .int 0, .int 0, .int 0, .null, .int 0, .int 0, .null, .int 0, .int 0, .null, .null, .int 0, .null, .int 0])), (q1, .inl (cI, 4096, .inl (fun _ => 0)))] H := hP
  have hD : va_D A [(a, .inr (5, [.ref q1, .int 0, .int 0, .int 0, .int 0, .int 0, .int 0, .int 0, .int 0, .int 0, .int 0, .null, .int 0, .int 0, .null, .int 0, .int 0, .null, .null, .int 0, .null, .int 0])), (q1, .inl (cI, 4096, .inl (fun _ => 0)))] := hD
  refine lv_aload_n hx hb dX5_init_13 rfl (lv_at hl 0 rfl) ?_
  refine lv_bipush (v := (100 : Int32)) hx hb dX5_init_14 (by decide) ?_
  refine new_I (N := 100) hx hb hts hK hP hD hS hA (by decide) (by decide) (by decide) (Nat.le_of_ble_eq_true rfl) (Nat.le_of_ble_eq_true rfl) dX5_init_16 (fun q2 H hP hD hS => ?_)
  have hP : va_P D vwCl [(a, .inr (5, [.ref q1, .int 0, .int 0, .int 0, .int 0, .int 0, .int 0, .int 0, .int 0, .int 0, .int 0, .null, .int 0, .int 0, .null, .int 0, .int 0, .null, .null, .int 0, .null, .int 0])), (q1, .inl (cI, 4096, .inl (fun _ => 0))), (q2, .inl (cI, 100, .inl (fun _ => 0)))] H := hP
  have hD : va_D A [(a, .inr (5, [.ref q1, .int 0, .int 0, .int 0, .int 0, .int 0, .int 0, .int 0, .int 0, .int 0, .int 0, .null, .int 0, .int 0, .null, .int 0, .int 0, .null, .null, .int 0, .null, .int 0])), (q1, .inl (cI, 4096, .inl (fun _ => 0))), (q2, .inl (cI, 100, .inl (fun _ => 0)))] := hD
  refine va_putF (D := D) (ci := 5) (v := .ref q2) (ty := .array .int) (C := RX5) (T := TX5) (N := 22) hx hb hts inX5 tyX5 tyX5_ok nmX5 hown hK hP hD hS 0 rfl rfl 11 (by decide) (hts (.fieldLink RX5 13 "SignedCoreModel" "row" "[I") kw_462) (fun _ h9 => h9) rfl hin rfl (tyX5_ok 11 (by decide)) rfl rfl (Nat.le_of_ble_eq_true rfl) dX5_init_18 (fun H locs hP hD hS => ?_)
  have hP : va_P D vwCl [(a, .inr (5, [.ref q1, .int 0, .int 0, .int 0, .int 0, .int 0, .int 0, .int 0, .int 0, .int 0, .int 0, .ref q2, .int 0, .int 0, .null, .int 0, .int 0, .null, .null, .int 0, .null, .int 0])), (q1, .inl (cI, 4096, .inl (fun _ => 0))), (q2, .inl (cI, 100, .inl (fun _ => 0)))] H := hP
  have hD : va_D A [(a, .inr (5, [.ref q1, .int 0, .int 0, .int 0, .int 0, .int 0, .int 0, .int 0, .int 0, .int 0, .int 0, .ref q2, .int 0, .int 0, .null, .int 0, .int 0, .null, .null, .int 0, .null, .int 0])), (q1, .inl (cI, 4096, .inl (fun _ => 0))), (q2, .inl (cI, 100, .inl (fun _ => 0)))] := hD
  refine lv_aload_n hx hb dX5_init_21 rfl (lv_at hl 0 rfl) ?_
  refine lv_bipush (v := (64 : Int32)) hx hb dX5_init_22 (by decide) ?_
  refine new_I (N := 64) hx hb hts hK hP hD hS hA (by decide) (by decide) (by decide) (Nat.le_of_ble_eq_true rfl) (Nat.le_of_ble_eq_true rfl) dX5_init_24 (fun q3 H hP hD hS => ?_)
  have hP : va_P D vwCl [(a, .inr (5, [.ref q1, .int 0, .int 0, .int 0, .int 0, .int 0, .int 0, .int 0, .int 0, .int 0, .int 0, .ref q2, .int 0, .int 0, .null, .int 0, .int 0, .null, .null, .int 0, .null, .int 0])), (q1, .inl (cI, 4096, .inl (fun _ => 0))), (q2, .inl (cI, 100, .inl (fun _ => 0))), (q3, .inl (cI, 64, .inl (fun _ => 0)))] H := hP
  have hD : va_D A [(a, .inr (5, [.ref q1, .int 0, .int 0, .int 0, .int 0, .int 0, .int 0, .int 0, .int 0, .int 0, .int 0, .ref q2, .int 0, .int 0, .null, .int 0, .int 0, .null, .null, .int 0, .null, .int 0])), (q1, .inl (cI, 4096, .inl (fun _ => 0))), (q2, .inl (cI, 100, .inl (fun _ => 0))), (q3, .inl (cI, 64, .inl (fun _ => 0)))] := hD
  refine va_putF (D := D) (ci := 5) (v := .ref q3) (ty := .array .int) (C := RX5) (T := TX5) (N := 22) hx hb hts inX5 tyX5 tyX5_ok nmX5 hown hK hP hD hS 0 rfl rfl 14 (by decide) (hts (.fieldLink RX5 16 "SignedCoreModel" "out" "[I") kw_465) (fun _ h9 => h9) rfl hin rfl (tyX5_ok 14 (by decide)) rfl rfl (Nat.le_of_ble_eq_true rfl) dX5_init_26 (fun H locs hP hD hS => ?_)
  have hP : va_P D vwCl [(a, .inr (5, [.ref q1, .int 0, .int 0, .int 0, .int 0, .int 0, .int 0, .int 0, .int 0, .int 0, .int 0, .ref q2, .int 0, .int 0, .ref q3, .int 0, .int 0, .null, .null, .int 0, .null, .int 0])), (q1, .inl (cI, 4096, .inl (fun _ => 0))), (q2, .inl (cI, 100, .inl (fun _ => 0))), (q3, .inl (cI, 64, .inl (fun _ => 0)))] H := hP
  have hD : va_D A [(a, .inr (5, [.ref q1, .int 0, .int 0, .int 0, .int 0, .int 0, .int 0, .int 0, .int 0, .int 0, .int 0, .ref q2, .int 0, .int 0, .ref q3, .int 0, .int 0, .null, .null, .int 0, .null, .int 0])), (q1, .inl (cI, 4096, .inl (fun _ => 0))), (q2, .inl (cI, 100, .inl (fun _ => 0))), (q3, .inl (cI, 64, .inl (fun _ => 0)))] := hD
  refine lv_aload_n hx hb dX5_init_29 rfl (lv_at hl 0 rfl) ?_
  refine lv_bipush (v := (64 : Int32)) hx hb dX5_init_30 (by decide) ?_
  refine new_I (N := 64) hx hb hts hK hP hD hS hA (by decide) (by decide) (by decide) (Nat.le_of_ble_eq_true rfl) (Nat.le_of_ble_eq_true rfl) dX5_init_32 (fun q4 H hP hD hS => ?_)
  have hP : va_P D vwCl [(a, .inr (5, [.ref q1, .int 0, .int 0, .int 0, .int 0, .int 0, .int 0, .int 0, .int 0, .int 0, .int 0, .ref q2, .int 0, .int 0, .ref q3, .int 0, .int 0, .null, .null, .int 0, .null, .int 0])), (q1, .inl (cI, 4096, .inl (fun _ => 0))), (q2, .inl (cI, 100, .inl (fun _ => 0))), (q3, .inl (cI, 64, .inl (fun _ => 0))), (q4, .inl (cI, 64, .inl (fun _ => 0)))] H := hP
  have hD : va_D A [(a, .inr (5, [.ref q1, .int 0, .int 0, .int 0, .int 0, .int 0, .int 0, .int 0, .int 0, .int 0, .int 0, .ref q2, .int 0, .int 0, .ref q3, .int 0, .int 0, .null, .null, .int 0, .null, .int 0])), (q1, .inl (cI, 4096, .inl (fun _ => 0))), (q2, .inl (cI, 100, .inl (fun _ => 0))), (q3, .inl (cI, 64, .inl (fun _ => 0))), (q4, .inl (cI, 64, .inl (fun _ => 0)))] := hD
  refine va_putF (D := D) (ci := 5) (v := .ref q4) (ty := .array .int) (C := RX5) (T := TX5) (N := 22) hx hb hts inX5 tyX5 tyX5_ok nmX5 hown hK hP hD hS 0 rfl rfl 17 (by decide) (hts (.fieldLink RX5 19 "SignedCoreModel" "pointX" "[I") kw_468) (fun _ h9 => h9) rfl hin rfl (tyX5_ok 17 (by decide)) rfl rfl (Nat.le_of_ble_eq_true rfl) dX5_init_34 (fun H locs hP hD hS => ?_)
  have hP : va_P D vwCl [(a, .inr (5, [.ref q1, .int 0, .int 0, .int 0, .int 0, .int 0, .int 0, .int 0, .int 0, .int 0, .int 0, .ref q2, .int 0, .int 0, .ref q3, .int 0, .int 0, .ref q4, .null, .int 0, .null, .int 0])), (q1, .inl (cI, 4096, .inl (fun _ => 0))), (q2, .inl (cI, 100, .inl (fun _ => 0))), (q3, .inl (cI, 64, .inl (fun _ => 0))), (q4, .inl (cI, 64, .inl (fun _ => 0)))] H := hP
  have hD : va_D A [(a, .inr (5, [.ref q1, .int 0, .int 0, .int 0, .int 0, .int 0, .int 0, .int 0, .int 0, .int 0, .int 0, .ref q2, .int 0, .int 0, .ref q3, .int 0, .int 0, .ref q4, .null, .int 0, .null, .int 0])), (q1, .inl (cI, 4096, .inl (fun _ => 0))), (q2, .inl (cI, 100, .inl (fun _ => 0))), (q3, .inl (cI, 64, .inl (fun _ => 0))), (q4, .inl (cI, 64, .inl (fun _ => 0)))] := hD
  refine lv_aload_n hx hb dX5_init_37 rfl (lv_at hl 0 rfl) ?_
  refine lv_bipush (v := (64 : Int32)) hx hb dX5_init_38 (by decide) ?_
  refine new_I (N := 64) hx hb hts hK hP hD hS hA (by decide) (by decide) (by decide) (Nat.le_of_ble_eq_true rfl) (Nat.le_of_ble_eq_true rfl) dX5_init_40 (fun q5 H hP hD hS => ?_)
  have hP : va_P D vwCl [(a, .inr (5, [.ref q1, .int 0, .int 0, .int 0, .int 0, .int 0, .int 0, .int 0, .int 0, .int 0, .int 0, .ref q2, .int 0, .int 0, .ref q3, .int 0, .int 0, .ref q4, .null, .int 0, .null, .int 0])), (q1, .inl (cI, 4096, .inl (fun _ => 0))), (q2, .inl (cI, 100, .inl (fun _ => 0))), (q3, .inl (cI, 64, .inl (fun _ => 0))), (q4, .inl (cI, 64, .inl (fun _ => 0))), (q5, .inl (cI, 64, .inl (fun _ => 0)))] H := hP
  have hD : va_D A [(a, .inr (5, [.ref q1, .int 0, .int 0, .int 0, .int 0, .int 0, .int 0, .int 0, .int 0, .int 0, .int 0, .ref q2, .int 0, .int 0, .ref q3, .int 0, .int 0, .ref q4, .null, .int 0, .null, .int 0])), (q1, .inl (cI, 4096, .inl (fun _ => 0))), (q2, .inl (cI, 100, .inl (fun _ => 0))), (q3, .inl (cI, 64, .inl (fun _ => 0))), (q4, .inl (cI, 64, .inl (fun _ => 0))), (q5, .inl (cI, 64, .inl (fun _ => 0)))] := hD
  refine va_putF (D := D) (ci := 5) (v := .ref q5) (ty := .array .int) (C := RX5) (T := TX5) (N := 22) hx hb hts inX5 tyX5 tyX5_ok nmX5 hown hK hP hD hS 0 rfl rfl 18 (by decide) (hts (.fieldLink RX5 22 "SignedCoreModel" "pointY" "[I") kw_469) (fun _ h9 => h9) rfl hin rfl (tyX5_ok 18 (by decide)) rfl rfl (Nat.le_of_ble_eq_true rfl) dX5_init_42 (fun H locs hP hD hS => ?_)
  have hP : va_P D vwCl [(a, .inr (5, [.ref q1, .int 0, .int 0, .int 0, .int 0, .int 0, .int 0, .int 0, .int 0, .int 0, .int 0, .ref q2, .int 0, .int 0, .ref q3, .int 0, .int 0, .ref q4, .ref q5, .int 0, .null, .int 0])), (q1, .inl (cI, 4096, .inl (fun _ => 0))), (q2, .inl (cI, 100, .inl (fun _ => 0))), (q3, .inl (cI, 64, .inl (fun _ => 0))), (q4, .inl (cI, 64, .inl (fun _ => 0))), (q5, .inl (cI, 64, .inl (fun _ => 0)))] H := hP
  have hD : va_D A [(a, .inr (5, [.ref q1, .int 0, .int 0, .int 0, .int 0, .int 0, .int 0, .int 0, .int 0, .int 0, .int 0, .ref q2, .int 0, .int 0, .ref q3, .int 0, .int 0, .ref q4, .ref q5, .int 0, .null, .int 0])), (q1, .inl (cI, 4096, .inl (fun _ => 0))), (q2, .inl (cI, 100, .inl (fun _ => 0))), (q3, .inl (cI, 64, .inl (fun _ => 0))), (q4, .inl (cI, 64, .inl (fun _ => 0))), (q5, .inl (cI, 64, .inl (fun _ => 0)))] := hD
  refine lv_aload_n hx hb dX5_init_45 rfl (lv_at hl 0 rfl) ?_
  refine lv_bipush (v := (8 : Int32)) hx hb dX5_init_46 (by decide) ?_
  refine new_I (N := 8) hx hb hts hK hP hD hS hA (by decide) (by decide) (by decide) (Nat.le_of_ble_eq_true rfl) (Nat.le_of_ble_eq_true rfl) dX5_init_48 (fun q6 H hP hD hS => ?_)
  have hP : va_P D vwCl [(a, .inr (5, [.ref q1, .int 0, .int 0, .int 0, .int 0, .int 0, .int 0, .int 0, .int 0, .int 0, .int 0, .ref q2, .int 0, .int 0, .ref q3, .int 0, .int 0, .ref q4, .ref q5, .int 0, .null, .int 0])), (q1, .inl (cI, 4096, .inl (fun _ => 0))), (q2, .inl (cI, 100, .inl (fun _ => 0))), (q3, .inl (cI, 64, .inl (fun _ => 0))), (q4, .inl (cI, 64, .inl (fun _ => 0))), (q5, .inl (cI, 64, .inl (fun _ => 0))), (q6, .inl (cI, 8, .inl (fun _ => 0)))] H := hP
  have hD : va_D A [(a, .inr (5, [.ref q1, .int 0, .int 0, .int 0, .int 0, .int 0, .int 0, .int 0, .int 0, .int 0, .int 0, .ref q2, .int 0, .int 0, .ref q3, .int 0, .int 0, .ref q4, .ref q5, .int 0, .null, .int 0])), (q1, .inl (cI, 4096, .inl (fun _ => 0))), (q2, .inl (cI, 100, .inl (fun _ => 0))), (q3, .inl (cI, 64, .inl (fun _ => 0))), (q4, .inl (cI, 64, .inl (fun _ => 0))), (q5, .inl (cI, 64, .inl (fun _ => 0))), (q6, .inl (cI, 8, .inl (fun _ => 0)))] := hD
  refine va_putF (D := D) (ci := 5) (v := .ref q6) (ty := .array .int) (C := RX5) (T := TX5) (N := 22) hx hb hts inX5 tyX5 tyX5_ok nmX5 hown hK hP hD hS 0 rfl rfl 20 (by decide) (hts (.fieldLink RX5 25 "SignedCoreModel" "ran" "[I") kw_471) (fun _ h9 => h9) rfl hin rfl (tyX5_ok 20 (by decide)) rfl rfl (Nat.le_of_ble_eq_true rfl) dX5_init_50 (fun H locs hP hD hS => ?_)
  have hP : va_P D vwCl [(a, .inr (5, [.ref q1, .int 0, .int 0, .int 0, .int 0, .int 0, .int 0, .int 0, .int 0, .int 0, .int 0, .ref q2, .int 0, .int 0, .ref q3, .int 0, .int 0, .ref q4, .ref q5, .int 0, .ref q6, .int 0])), (q1, .inl (cI, 4096, .inl (fun _ => 0))), (q2, .inl (cI, 100, .inl (fun _ => 0))), (q3, .inl (cI, 64, .inl (fun _ => 0))), (q4, .inl (cI, 64, .inl (fun _ => 0))), (q5, .inl (cI, 64, .inl (fun _ => 0))), (q6, .inl (cI, 8, .inl (fun _ => 0)))] H := hP
  have hD : va_D A [(a, .inr (5, [.ref q1, .int 0, .int 0, .int 0, .int 0, .int 0, .int 0, .int 0, .int 0, .int 0, .int 0, .ref q2, .int 0, .int 0, .ref q3, .int 0, .int 0, .ref q4, .ref q5, .int 0, .ref q6, .int 0])), (q1, .inl (cI, 4096, .inl (fun _ => 0))), (q2, .inl (cI, 100, .inl (fun _ => 0))), (q3, .inl (cI, 64, .inl (fun _ => 0))), (q4, .inl (cI, 64, .inl (fun _ => 0))), (q5, .inl (cI, 64, .inl (fun _ => 0))), (q6, .inl (cI, 8, .inl (fun _ => 0)))] := hD
  refine lv_aload_n hx hb dX5_init_53 rfl (lv_at hl 0 rfl) ?_
  refine va_get (D := D) (ci := 5) (v := .ref q6) (C := RX5) (T := TX5) (N := 22) hx hb hts inX5 hown hK hP 0 rfl rfl 20 (by decide) (hts (.fieldLink RX5 25 "SignedCoreModel" "ran" "[I") kw_471) (fun _ h9 => h9) rfl dX5_init_54 ?_
  refine lv_bipush (v := (6 : Int32)) hx hb dX5_init_57 (by decide) ?_
  refine lv_bipush (v := (-9 : Int32)) hx hb dX5_init_59 (by decide) ?_
  refine va_iast (D := D) hx hb hK hP hD hS 6 0 rfl rfl (show vp_in (6 : Int32) 8 by unfold vp_in; decide) dX5_init_61 (fun H locs hP hD hS => ?_)
  have er : upd (fun _ => 0) (Int32.toNatClampNeg (6 : Int32)) (-9) = ranf st0 := by
    rw [show Int32.toNatClampNeg (6 : Int32) = 6 from by decide]
    funext j
    unfold upd ranf
    by_cases h : j = 6
    · subst h; rfl
    · rw [if_neg h]
      simp only [if_neg h, g_t0, g_t1, g_t2, g_t3, g_t4, g_t5, g_t7, st0, ite_self]
  rw [er] at hP hD
  exact hret (hof [a, q1, q2, q3, q4, q5, q6]) _ _ _ _ rfl hP hD hS dX5_init_62
