def m_moved (a1 : Int64) (a2 : Int32) (a3 : Int32) : Int64 := (if a3 = (0 : Int32) then (((a1 <<< (Int32.toInt64 (1 : Int32) &&& 63)) &&& (((1 : Int64) <<< (Int32.toInt64 a2 &&& 63)) - (1 : Int64))) ||| ((a1 >>> (Int32.toInt64 (a2 - (1 : Int32)) &&& 63)) &&& (1 : Int64))) else (if a3 = (1 : Int32) then (((((a1 >>> (Int32.toInt64 (a2 - (1 : Int32)) &&& 63)) &&& (1 : Int64)) * ((1 : Int64) <<< (Int32.toInt64 (a2 - (1 : Int32)) &&& 63))) ||| (((a1 <<< (Int32.toInt64 (1 : Int32) &&& 63)) &&& (((1 : Int64) <<< (Int32.toInt64 a2 &&& 63)) - (1 : Int64))) &&& (((1 : Int64) <<< (Int32.toInt64 (a2 - (1 : Int32)) &&& 63)) ^^^ (-1 : Int64)))) ||| ((a1 >>> (Int32.toInt64 (a2 - (1 : Int32)) &&& 63)) &&& (1 : Int64))) else (if a3 = (2 : Int32) then ((a1 >>> (Int32.toInt64 (1 : Int32) &&& 63)) ||| ((a1 &&& (1 : Int64)) * ((1 : Int64) <<< (Int32.toInt64 (a2 - (1 : Int32)) &&& 63)))) else ((a1 >>> (Int32.toInt64 (1 : Int32) &&& 63)) ||| (((a1 >>> (Int32.toInt64 (a2 - (1 : Int32)) &&& 63)) &&& (1 : Int64)) * ((1 : Int64) <<< (Int32.toInt64 (a2 - (1 : Int32)) &&& 63)))))))
set_option maxRecDepth 100000 in
set_option maxHeartbeats 8000000 in
theorem kX5_moved (l : Launch) (D : va_G) (cI : ClassId) (w : va_W) (a1 : Int64) (a2 : Int32) (a3 : Int32) : MetL l yX5_moved (wsU yX5_moved cX5_moved 10 (some .long)) { frames := 0, cells := 0, slots := 0, locals := 0 } D cI [.long a1, .int a2, .int a3] w (fun _ : Unit => w) (fun r _ => (m_moved a1 a2 a3) = r) := by
  refine MetL.of (by decide) (Nat.le_of_ble_eq_true rfl) ?_
  intro p e s m below meth c A Q ls hx hb hml hown hts hK hN hA hret hP hD hS hl
  have hown : s.vm.findClass RX5 = some m.cls := hown
  have hl : lv_has ls 10 [(0, .long a1), (2, .int a2), (3, .int a3)] := hl
  suffices go : ∀ (H : Heap) (locs : List Loc), va_P D vwCl w H → va_D A w → va_S A s.heap H locs → W p l e ({ frames := 0, cells := 0, slots := 0, locals := 0 } : Room) s m (([.long a1, .int a2, .int a3] : List Value).toArray) below meth c H locs 0 0 Q (F0 m 0 ls []) from go _ _ hP hD hS
  intro H locs hP hD hS
  refine lv_lload_n hx hb dX5_moved_0 rfl (lv_at hl 0 rfl) ?_
  refine lv_iload_n hx hb dX5_moved_1 rfl (lv_at hl 1 rfl) ?_
  refine lv_iconst (v := (1 : Int32)) hx hb dX5_moved_2 (by decide) ?_
  refine lv_isub hx hb dX5_moved_3 ?_
  refine lv_lshr (v := (a1 >>> (Int32.toInt64 (a2 - (1 : Int32)) &&& 63))) hx hb dX5_moved_4 rfl ?_
  refine lv_lconst (v := (1 : Int64)) hx hb dX5_moved_5 (by decide) ?_
  refine lv_land hx hb dX5_moved_6 ?_
  refine lv_lstore (lv' := [(4, .long ((a1 >>> (Int32.toInt64 (a2 - (1 : Int32)) &&& 63)) &&& (1 : Int64))), (0, .long a1), (2, .int a2), (3, .int a3)]) hx hb dX5_moved_7 hl (by decide) rfl (fun ls hl => ?_)
  refine lv_lconst (v := (1 : Int64)) hx hb dX5_moved_9 (by decide) ?_
  refine lv_iload_n hx hb dX5_moved_10 rfl (lv_at hl 2 rfl) ?_
  refine lv_lshl (v := ((1 : Int64) <<< (Int32.toInt64 a2 &&& 63))) hx hb dX5_moved_11 rfl ?_
  refine lv_lconst (v := (1 : Int64)) hx hb dX5_moved_12 (by decide) ?_
  refine lv_lsub hx hb dX5_moved_13 ?_
  refine lv_lstore (lv' := [(6, .long (((1 : Int64) <<< (Int32.toInt64 a2 &&& 63)) - (1 : Int64))), (4, .long ((a1 >>> (Int32.toInt64 (a2 - (1 : Int32)) &&& 63)) &&& (1 : Int64))), (0, .long a1), (2, .int a2), (3, .int a3)]) hx hb dX5_moved_14 hl (by decide) rfl (fun ls hl => ?_)
  refine lv_lconst (v := (1 : Int64)) hx hb dX5_moved_16 (by decide) ?_
  refine lv_iload_n hx hb dX5_moved_17 rfl (lv_at hl 3 rfl) ?_
  refine lv_iconst (v := (1 : Int32)) hx hb dX5_moved_18 (by decide) ?_
  refine lv_isub hx hb dX5_moved_19 ?_
  refine lv_lshl (v := ((1 : Int64) <<< (Int32.toInt64 (a2 - (1 : Int32)) &&& 63))) hx hb dX5_moved_20 rfl ?_
  refine lv_lstore (lv' := [(8, .long ((1 : Int64) <<< (Int32.toInt64 (a2 - (1 : Int32)) &&& 63))), (6, .long (((1 : Int64) <<< (Int32.toInt64 a2 &&& 63)) - (1 : Int64))), (4, .long ((a1 >>> (Int32.toInt64 (a2 - (1 : Int32)) &&& 63)) &&& (1 : Int64))), (0, .long a1), (2, .int a2), (3, .int a3)]) hx hb dX5_moved_21 hl (by decide) rfl (fun ls hl => ?_)
  refine lv_iload_n hx hb dX5_moved_23 rfl (lv_at hl 5 rfl) ?_
  by_cases s_24_1_0 : a3 = (0 : Int32)
  · refine lv_tableIn (off := 28) (tgt := 52) hx hb dX5_moved_24 (by rw [s_24_1_0]; decide) (by rw [s_24_1_0]; decide) (by rw [s_24_1_0]; rfl) (by decide) ?_
    refine lv_lload_n hx hb dX5_moved_52 rfl (lv_at hl 3 rfl) ?_
    refine lv_iconst (v := (1 : Int32)) hx hb dX5_moved_53 (by decide) ?_
    refine lv_lshl (v := (a1 <<< (Int32.toInt64 (1 : Int32) &&& 63))) hx hb dX5_moved_54 rfl ?_
    refine lv_lload hx hb dX5_moved_55 (lv_at hl 1 rfl) ?_
    refine lv_land hx hb dX5_moved_57 ?_
    refine lv_lload hx hb dX5_moved_58 (lv_at hl 2 rfl) ?_
    refine lv_lor hx hb dX5_moved_60 ?_
    have hE : m_moved a1 a2 a3 = (((a1 <<< (Int32.toInt64 (1 : Int32) &&& 63)) &&& (((1 : Int64) <<< (Int32.toInt64 a2 &&& 63)) - (1 : Int64))) ||| ((a1 >>> (Int32.toInt64 (a2 - (1 : Int32)) &&& 63)) &&& (1 : Int64))) := (by unfold m_moved; rw [if_pos s_24_1_0])
    exact hret (((a1 <<< (Int32.toInt64 (1 : Int32) &&& 63)) &&& (((1 : Int64) <<< (Int32.toInt64 a2 &&& 63)) - (1 : Int64))) ||| ((a1 >>> (Int32.toInt64 (a2 - (1 : Int32)) &&& 63)) &&& (1 : Int64))) () _ _ _ _ hE hP hD hS dX5_moved_61
  by_cases s_24_1_1 : a3 = (1 : Int32)
  · refine lv_tableIn (off := 38) (tgt := 62) hx hb dX5_moved_24 (by rw [s_24_1_1]; decide) (by rw [s_24_1_1]; decide) (by rw [s_24_1_1]; rfl) (by decide) ?_
    refine lv_lload hx hb dX5_moved_62 (lv_at hl 2 rfl) ?_
    refine lv_lload hx hb dX5_moved_64 (lv_at hl 0 rfl) ?_
    refine lv_lmul hx hb dX5_moved_66 ?_
    refine lv_lload_n hx hb dX5_moved_67 rfl (lv_at hl 3 rfl) ?_
    refine lv_iconst (v := (1 : Int32)) hx hb dX5_moved_68 (by decide) ?_
    refine lv_lshl (v := (a1 <<< (Int32.toInt64 (1 : Int32) &&& 63))) hx hb dX5_moved_69 rfl ?_
    refine lv_lload hx hb dX5_moved_70 (lv_at hl 1 rfl) ?_
    refine lv_land hx hb dX5_moved_72 ?_
    refine lv_lload hx hb dX5_moved_73 (lv_at hl 0 rfl) ?_
    refine lv_ldc2 (v := (-1 : Int64)) hx hb hown (hts _ kw_635) dX5_moved_75 ?_
    refine lv_lxor hx hb dX5_moved_78 ?_
    refine lv_land hx hb dX5_moved_79 ?_
    refine lv_lor hx hb dX5_moved_80 ?_
    refine lv_lload hx hb dX5_moved_81 (lv_at hl 2 rfl) ?_
    refine lv_lor hx hb dX5_moved_83 ?_
    have hE : m_moved a1 a2 a3 = (((((a1 >>> (Int32.toInt64 (a2 - (1 : Int32)) &&& 63)) &&& (1 : Int64)) * ((1 : Int64) <<< (Int32.toInt64 (a2 - (1 : Int32)) &&& 63))) ||| (((a1 <<< (Int32.toInt64 (1 : Int32) &&& 63)) &&& (((1 : Int64) <<< (Int32.toInt64 a2 &&& 63)) - (1 : Int64))) &&& (((1 : Int64) <<< (Int32.toInt64 (a2 - (1 : Int32)) &&& 63)) ^^^ (-1 : Int64)))) ||| ((a1 >>> (Int32.toInt64 (a2 - (1 : Int32)) &&& 63)) &&& (1 : Int64))) := (by unfold m_moved; rw [if_neg s_24_1_0, if_pos s_24_1_1])
    exact hret (((((a1 >>> (Int32.toInt64 (a2 - (1 : Int32)) &&& 63)) &&& (1 : Int64)) * ((1 : Int64) <<< (Int32.toInt64 (a2 - (1 : Int32)) &&& 63))) ||| (((a1 <<< (Int32.toInt64 (1 : Int32) &&& 63)) &&& (((1 : Int64) <<< (Int32.toInt64 a2 &&& 63)) - (1 : Int64))) &&& (((1 : Int64) <<< (Int32.toInt64 (a2 - (1 : Int32)) &&& 63)) ^^^ (-1 : Int64)))) ||| ((a1 >>> (Int32.toInt64 (a2 - (1 : Int32)) &&& 63)) &&& (1 : Int64))) () _ _ _ _ hE hP hD hS dX5_moved_84
  by_cases s_24_1_2 : a3 = (2 : Int32)
  · refine lv_tableIn (off := 61) (tgt := 85) hx hb dX5_moved_24 (by rw [s_24_1_2]; decide) (by rw [s_24_1_2]; decide) (by rw [s_24_1_2]; rfl) (by decide) ?_
    refine lv_lload_n hx hb dX5_moved_85 rfl (lv_at hl 3 rfl) ?_
    refine lv_iconst (v := (1 : Int32)) hx hb dX5_moved_86 (by decide) ?_
    refine lv_lshr (v := (a1 >>> (Int32.toInt64 (1 : Int32) &&& 63))) hx hb dX5_moved_87 rfl ?_
    refine lv_lload_n hx hb dX5_moved_88 rfl (lv_at hl 3 rfl) ?_
    refine lv_lconst (v := (1 : Int64)) hx hb dX5_moved_89 (by decide) ?_
    refine lv_land hx hb dX5_moved_90 ?_
    refine lv_lload hx hb dX5_moved_91 (lv_at hl 0 rfl) ?_
    refine lv_lmul hx hb dX5_moved_93 ?_
    refine lv_lor hx hb dX5_moved_94 ?_
    have hE : m_moved a1 a2 a3 = ((a1 >>> (Int32.toInt64 (1 : Int32) &&& 63)) ||| ((a1 &&& (1 : Int64)) * ((1 : Int64) <<< (Int32.toInt64 (a2 - (1 : Int32)) &&& 63)))) := (by unfold m_moved; rw [if_neg s_24_1_0, if_neg s_24_1_1, if_pos s_24_1_2])
    exact hret ((a1 >>> (Int32.toInt64 (1 : Int32) &&& 63)) ||| ((a1 &&& (1 : Int64)) * ((1 : Int64) <<< (Int32.toInt64 (a2 - (1 : Int32)) &&& 63)))) () _ _ _ _ hE hP hD hS dX5_moved_95
  refine lv_tableOut (tgt := 96) hx hb dX5_moved_24 (by have q0 := lv_neT s_24_1_0 (show (0 : Int32).toInt = 0 by decide); have q1 := lv_neT s_24_1_1 (show (1 : Int32).toInt = 1 by decide); have q2 := lv_neT s_24_1_2 (show (2 : Int32).toInt = 2 by decide); omega) (by decide) ?_
  refine lv_lload_n hx hb dX5_moved_96 rfl (lv_at hl 3 rfl) ?_
  refine lv_iconst (v := (1 : Int32)) hx hb dX5_moved_97 (by decide) ?_
  refine lv_lshr (v := (a1 >>> (Int32.toInt64 (1 : Int32) &&& 63))) hx hb dX5_moved_98 rfl ?_
  refine lv_lload hx hb dX5_moved_99 (lv_at hl 2 rfl) ?_
  refine lv_lload hx hb dX5_moved_101 (lv_at hl 0 rfl) ?_
  refine lv_lmul hx hb dX5_moved_103 ?_
  refine lv_lor hx hb dX5_moved_104 ?_
  have hE : m_moved a1 a2 a3 = ((a1 >>> (Int32.toInt64 (1 : Int32) &&& 63)) ||| (((a1 >>> (Int32.toInt64 (a2 - (1 : Int32)) &&& 63)) &&& (1 : Int64)) * ((1 : Int64) <<< (Int32.toInt64 (a2 - (1 : Int32)) &&& 63)))) := (by unfold m_moved; rw [if_neg s_24_1_0, if_neg s_24_1_1, if_neg s_24_1_2])
  exact hret ((a1 >>> (Int32.toInt64 (1 : Int32) &&& 63)) ||| (((a1 >>> (Int32.toInt64 (a2 - (1 : Int32)) &&& 63)) &&& (1 : Int64)) * ((1 : Int64) <<< (Int32.toInt64 (a2 - (1 : Int32)) &&& 63)))) () _ _ _ _ hE hP hD hS dX5_moved_105
def m_shifts_24 : Nat → St → Int32 → Int32 → Int32 → St
  | 0, σ, _, _, _ => σ
  | n + 1, σ, x2_24, x3_24, x4_24 => (if x4_24 ≤ (0 : Int32) then σ else (if x3_24 = (1 : Int32) then m_shifts_24 n (s_ac σ (Int64.toInt32 (m_moved (Int32.toInt64 (g_ac σ)) (18 : Int32) x2_24))) x2_24 x3_24 (x4_24 + (-1 : Int32)) else (if x3_24 = (2 : Int32) then m_shifts_24 n (s_io σ (Int64.toInt32 (m_moved (Int32.toInt64 (g_io σ)) (18 : Int32) x2_24))) x2_24 x3_24 (x4_24 + (-1 : Int32)) else m_shifts_24 n (s_io (s_ac σ (Int64.toInt32 ((m_moved (((Int32.toInt64 (g_ac σ)) <<< (Int32.toInt64 (18 : Int32) &&& 63)) ||| (Int32.toInt64 (g_io σ))) (36 : Int32) x2_24) >>> (Int32.toInt64 (18 : Int32) &&& 63)))) (Int64.toInt32 ((m_moved (((Int32.toInt64 (g_ac σ)) <<< (Int32.toInt64 (18 : Int32) &&& 63)) ||| (Int32.toInt64 (g_io σ))) (36 : Int32) x2_24) &&& (262143 : Int64)))) x2_24 x3_24 (x4_24 + (-1 : Int32)))))
def m_shifts (σ : St) (a1 : Int32) : St := m_shifts_24 (Int32.toNatClampNeg (m_ones (a1 &&& (511 : Int32))) + 1) σ ((a1 >>> ((11 : Int32) &&& 31)) &&& (3 : Int32)) ((a1 >>> ((9 : Int32) &&& 31)) &&& (3 : Int32)) (m_ones (a1 &&& (511 : Int32)))
set_option maxRecDepth 100000 in
set_option maxHeartbeats 8000000 in
theorem kX5_shifts (l : Launch) (D : va_G) (cI : ClassId) (h : Nat → Nat) (σ : St) (a1 : Int32) : MetV l yX5_shifts (wsU yX5_shifts cX5_shifts 7 none) { frames := 1, cells := 0, slots := 0, locals := 29 } D cI [.ref (h 0), .int a1] (wM h cI σ) (fun u : St => wM h cI u) (fun u => (m_shifts σ a1) = u) := by
  refine MetV.of (by decide) (Nat.le_of_ble_eq_true rfl) ?_
  intro p e s m below meth c A Q ls hx hb hml hown hts hK hN hA hret hP hD hS hl
  have hown : s.vm.findClass RX5 = some m.cls := hown
  have hl : lv_has ls 7 [(0, .ref (h 0)), (1, .int a1)] := hl
  have J_24 : ∀ (n : Nat) (σ' : St) (x2_24 : Int32) (x3_24 : Int32) (x4_24 : Int32) (H : Heap) (locs : List Loc) (ls : Array Slot), (Int32.toNatClampNeg x4_24 < n) → m_shifts σ a1 = m_shifts_24 n σ' x2_24 x3_24 x4_24 → lv_has ls 7 [(0, .ref (h 0)), (2, .int x2_24), (3, .int x3_24), (4, .int x4_24)] → va_P D vwCl (wM h cI σ') H → va_D A (wM h cI σ') → va_S A s.heap H locs → W p l e ({ frames := 1, cells := 0, slots := 0, locals := 29 } : Room) s m (([.ref (h 0), .int a1] : List Value).toArray) below meth c H locs 0 0 Q (F0 m 24 ls []) := by
    intro n
    induction n with
    | zero => intro σ' x2_24 x3_24 x4_24 H locs ls hI E hl hP hD hS; exact absurd hI (Nat.not_lt_zero _)
    | succ n ih =>
      intro σ' x2_24 x3_24 x4_24 H locs ls hI E hl hP hD hS
      refine lv_iload hx hb dX5_shifts_24 (lv_at hl 3 rfl) ?_
      refine lv_if_le (tgt := 126) hx hb dX5_shifts_26 (by decide) (fun c_26_1 => ?_) (fun c_26_1 => ?_)
      · have c_26_1 : x4_24 ≤ (0 : Int32) := c_26_1
        have hE : m_shifts σ a1 = σ' := (E.trans (by rw [m_shifts_24, if_pos c_26_1]))
        exact hret σ' _ _ _ _ hE hP hD hS dX5_shifts_126
      · have c_26_1 : ¬ (x4_24 ≤ (0 : Int32)) := c_26_1
        refine lv_iload_n hx hb dX5_shifts_29 rfl (lv_at hl 2 rfl) ?_
        refine lv_iconst (v := (1 : Int32)) hx hb dX5_shifts_30 (by decide) ?_
        refine lv_icmp_ne (tgt := 53) hx hb dX5_shifts_31 (by decide) (fun c_31_2 => ?_) (fun c_31_2 => ?_)
        · have c_31_2 : ¬ (x3_24 = (1 : Int32)) := c_31_2
          refine lv_iload_n hx hb dX5_shifts_53 rfl (lv_at hl 2 rfl) ?_
          refine lv_iconst (v := (2 : Int32)) hx hb dX5_shifts_54 (by decide) ?_
          refine lv_icmp_ne (tgt := 77) hx hb dX5_shifts_55 (by decide) (fun c_55_3 => ?_) (fun c_55_3 => ?_)
          · have c_55_3 : ¬ (x3_24 = (2 : Int32)) := c_55_3
            refine lv_aload_n hx hb dX5_shifts_77 rfl (lv_at hl 0 rfl) ?_
            refine gM_ac (v := (g_ac σ')) hx hb hts hown hK hP kw_452 rfl dX5_shifts_78 ?_
            refine lv_i2l (v := (Int32.toInt64 (g_ac σ'))) hx hb dX5_shifts_81 rfl ?_
            refine lv_bipush (v := (18 : Int32)) hx hb dX5_shifts_82 (by decide) ?_
            refine lv_lshl (v := ((Int32.toInt64 (g_ac σ')) <<< (Int32.toInt64 (18 : Int32) &&& 63))) hx hb dX5_shifts_84 rfl ?_
            refine lv_aload_n hx hb dX5_shifts_85 rfl (lv_at hl 0 rfl) ?_
            refine gM_io (v := (g_io σ')) hx hb hts hown hK hP kw_453 rfl dX5_shifts_86 ?_
            refine lv_i2l (v := (Int32.toInt64 (g_io σ'))) hx hb dX5_shifts_89 rfl ?_
            refine lv_lor hx hb dX5_shifts_90 ?_
            refine lv_bipush (v := (36 : Int32)) hx hb dX5_shifts_91 (by decide) ?_
            refine lv_iload_n hx hb dX5_shifts_93 rfl (lv_at hl 1 rfl) ?_
            refine call_Sl 3 (kX5_moved l D cI _ (((Int32.toInt64 (g_ac σ')) <<< (Int32.toInt64 (18 : Int32) &&& 63)) ||| (Int32.toInt64 (g_io σ'))) (36 : Int32) x2_24) ⟨hx, hb, hml, hown, hts, hK, hN, hA⟩ ⟨kw_632, kw_633, kw_6, kw_634, by decide +kernel, rfl, rfl, Nat.le_of_ble_eq_true rfl, Nat.le_of_ble_eq_true rfl⟩ rfl hP hD hS hl.1 rfl (Nat.le_of_ble_eq_true rfl) dX5_shifts_94 ⟨Nat.zero_le _, Nat.zero_le _⟩ (fun r94 u H locs hw hP hD hS => ?_)
            have hw : (m_moved (((Int32.toInt64 (g_ac σ')) <<< (Int32.toInt64 (18 : Int32) &&& 63)) ||| (Int32.toInt64 (g_io σ'))) (36 : Int32) x2_24) = r94 := hw
            subst hw
            refine lv_lstore (lv' := [(5, .long (m_moved (((Int32.toInt64 (g_ac σ')) <<< (Int32.toInt64 (18 : Int32) &&& 63)) ||| (Int32.toInt64 (g_io σ'))) (36 : Int32) x2_24)), (0, .ref (h 0)), (2, .int x2_24), (3, .int x3_24), (4, .int x4_24)]) hx hb dX5_shifts_97 hl (by decide) rfl (fun ls hl => ?_)
            refine lv_aload_n hx hb dX5_shifts_99 rfl (lv_at hl 1 rfl) ?_
            refine lv_lload hx hb dX5_shifts_100 (lv_at hl 0 rfl) ?_
            refine lv_bipush (v := (18 : Int32)) hx hb dX5_shifts_102 (by decide) ?_
            refine lv_lshr (v := ((m_moved (((Int32.toInt64 (g_ac σ')) <<< (Int32.toInt64 (18 : Int32) &&& 63)) ||| (Int32.toInt64 (g_io σ'))) (36 : Int32) x2_24) >>> (Int32.toInt64 (18 : Int32) &&& 63))) hx hb dX5_shifts_104 rfl ?_
            refine lv_l2i (v := (Int64.toInt32 ((m_moved (((Int32.toInt64 (g_ac σ')) <<< (Int32.toInt64 (18 : Int32) &&& 63)) ||| (Int32.toInt64 (g_io σ'))) (36 : Int32) x2_24) >>> (Int32.toInt64 (18 : Int32) &&& 63)))) hx hb dX5_shifts_105 rfl ?_
            refine pM_ac hx hb hts hown hK hP hD hS kw_452 dX5_shifts_106 (fun H locs hP hD hS => ?_)
            refine lv_aload_n hx hb dX5_shifts_109 rfl (lv_at hl 1 rfl) ?_
            refine lv_lload hx hb dX5_shifts_110 (lv_at hl 0 rfl) ?_
            refine lv_ldc2 (v := (262143 : Int64)) hx hb hown (hts _ kw_636) dX5_shifts_112 ?_
            refine lv_land hx hb dX5_shifts_115 ?_
            refine lv_l2i (v := (Int64.toInt32 ((m_moved (((Int32.toInt64 (g_ac σ')) <<< (Int32.toInt64 (18 : Int32) &&& 63)) ||| (Int32.toInt64 (g_io σ'))) (36 : Int32) x2_24) &&& (262143 : Int64)))) hx hb dX5_shifts_116 rfl ?_
            refine pM_io hx hb hts hown hK hP hD hS kw_453 dX5_shifts_117 (fun H locs hP hD hS => ?_)
            refine lv_iinc (v := (x4_24 + (-1 : Int32))) (lv' := [(4, .int (x4_24 + (-1 : Int32))), (5, .long (m_moved (((Int32.toInt64 (g_ac σ')) <<< (Int32.toInt64 (18 : Int32) &&& 63)) ||| (Int32.toInt64 (g_io σ'))) (36 : Int32) x2_24)), (0, .ref (h 0)), (2, .int x2_24), (3, .int x3_24)]) hx hb dX5_shifts_120 hl (k := 4) rfl (rfl) (by decide) rfl (fun ls hl => ?_)
            refine lv_goto (tgt := 24) hx hb dX5_shifts_123 (by decide) ?_
            exact ih (s_io (s_ac σ' (Int64.toInt32 ((m_moved (((Int32.toInt64 (g_ac σ')) <<< (Int32.toInt64 (18 : Int32) &&& 63)) ||| (Int32.toInt64 (g_io σ'))) (36 : Int32) x2_24) >>> (Int32.toInt64 (18 : Int32) &&& 63)))) (Int64.toInt32 ((m_moved (((Int32.toInt64 (g_ac σ')) <<< (Int32.toInt64 (18 : Int32) &&& 63)) ||| (Int32.toInt64 (g_io σ'))) (36 : Int32) x2_24) &&& (262143 : Int64)))) x2_24 x3_24 (x4_24 + (-1 : Int32)) _ _ _ (lp_dn (by assumption) hI) (E.trans (by rw [m_shifts_24, if_neg c_26_1, if_neg c_31_2, if_neg c_55_3])) (lv_sub hl [2, 3, 4, 0] rfl) hP hD hS
          · have c_55_3 : x3_24 = (2 : Int32) := c_55_3
            refine lv_aload_n hx hb dX5_shifts_58 rfl (lv_at hl 0 rfl) ?_
            refine lv_aload_n hx hb dX5_shifts_59 rfl (lv_at hl 0 rfl) ?_
            refine gM_io (v := (g_io σ')) hx hb hts hown hK hP kw_453 rfl dX5_shifts_60 ?_
            refine lv_i2l (v := (Int32.toInt64 (g_io σ'))) hx hb dX5_shifts_63 rfl ?_
            refine lv_bipush (v := (18 : Int32)) hx hb dX5_shifts_64 (by decide) ?_
            refine lv_iload_n hx hb dX5_shifts_66 rfl (lv_at hl 1 rfl) ?_
            refine call_Sl 3 (kX5_moved l D cI _ (Int32.toInt64 (g_io σ')) (18 : Int32) x2_24) ⟨hx, hb, hml, hown, hts, hK, hN, hA⟩ ⟨kw_632, kw_633, kw_6, kw_634, by decide +kernel, rfl, rfl, Nat.le_of_ble_eq_true rfl, Nat.le_of_ble_eq_true rfl⟩ rfl hP hD hS hl.1 rfl (Nat.le_of_ble_eq_true rfl) dX5_shifts_67 ⟨Nat.zero_le _, Nat.zero_le _⟩ (fun r67 u H locs hw hP hD hS => ?_)
            have hw : (m_moved (Int32.toInt64 (g_io σ')) (18 : Int32) x2_24) = r67 := hw
            subst hw
            refine lv_l2i (v := (Int64.toInt32 (m_moved (Int32.toInt64 (g_io σ')) (18 : Int32) x2_24))) hx hb dX5_shifts_70 rfl ?_
            refine pM_io hx hb hts hown hK hP hD hS kw_453 dX5_shifts_71 (fun H locs hP hD hS => ?_)
            refine lv_goto (tgt := 120) hx hb dX5_shifts_74 (by decide) ?_
            refine lv_iinc (v := (x4_24 + (-1 : Int32))) (lv' := [(4, .int (x4_24 + (-1 : Int32))), (0, .ref (h 0)), (2, .int x2_24), (3, .int x3_24)]) hx hb dX5_shifts_120 hl (k := 3) rfl (rfl) (by decide) rfl (fun ls hl => ?_)
            refine lv_goto (tgt := 24) hx hb dX5_shifts_123 (by decide) ?_
            exact ih (s_io σ' (Int64.toInt32 (m_moved (Int32.toInt64 (g_io σ')) (18 : Int32) x2_24))) x2_24 x3_24 (x4_24 + (-1 : Int32)) _ _ _ (lp_dn (by assumption) hI) (E.trans (by rw [m_shifts_24, if_neg c_26_1, if_neg c_31_2, if_pos c_55_3])) (lv_sub hl [1, 2, 3, 0] rfl) hP hD hS
        · have c_31_2 : x3_24 = (1 : Int32) := c_31_2
          refine lv_aload_n hx hb dX5_shifts_34 rfl (lv_at hl 0 rfl) ?_
          refine lv_aload_n hx hb dX5_shifts_35 rfl (lv_at hl 0 rfl) ?_
          refine gM_ac (v := (g_ac σ')) hx hb hts hown hK hP kw_452 rfl dX5_shifts_36 ?_
          refine lv_i2l (v := (Int32.toInt64 (g_ac σ'))) hx hb dX5_shifts_39 rfl ?_
          refine lv_bipush (v := (18 : Int32)) hx hb dX5_shifts_40 (by decide) ?_
          refine lv_iload_n hx hb dX5_shifts_42 rfl (lv_at hl 1 rfl) ?_
          refine call_Sl 3 (kX5_moved l D cI _ (Int32.toInt64 (g_ac σ')) (18 : Int32) x2_24) ⟨hx, hb, hml, hown, hts, hK, hN, hA⟩ ⟨kw_632, kw_633, kw_6, kw_634, by decide +kernel, rfl, rfl, Nat.le_of_ble_eq_true rfl, Nat.le_of_ble_eq_true rfl⟩ rfl hP hD hS hl.1 rfl (Nat.le_of_ble_eq_true rfl) dX5_shifts_43 ⟨Nat.zero_le _, Nat.zero_le _⟩ (fun r43 u H locs hw hP hD hS => ?_)
          have hw : (m_moved (Int32.toInt64 (g_ac σ')) (18 : Int32) x2_24) = r43 := hw
          subst hw
          refine lv_l2i (v := (Int64.toInt32 (m_moved (Int32.toInt64 (g_ac σ')) (18 : Int32) x2_24))) hx hb dX5_shifts_46 rfl ?_
          refine pM_ac hx hb hts hown hK hP hD hS kw_452 dX5_shifts_47 (fun H locs hP hD hS => ?_)
          refine lv_goto (tgt := 120) hx hb dX5_shifts_50 (by decide) ?_
          refine lv_iinc (v := (x4_24 + (-1 : Int32))) (lv' := [(4, .int (x4_24 + (-1 : Int32))), (0, .ref (h 0)), (2, .int x2_24), (3, .int x3_24)]) hx hb dX5_shifts_120 hl (k := 3) rfl (rfl) (by decide) rfl (fun ls hl => ?_)
          refine lv_goto (tgt := 24) hx hb dX5_shifts_123 (by decide) ?_
          exact ih (s_ac σ' (Int64.toInt32 (m_moved (Int32.toInt64 (g_ac σ')) (18 : Int32) x2_24))) x2_24 x3_24 (x4_24 + (-1 : Int32)) _ _ _ (lp_dn (by assumption) hI) (E.trans (by rw [m_shifts_24, if_neg c_26_1, if_pos c_31_2])) (lv_sub hl [1, 2, 3, 0] rfl) hP hD hS
  suffices go : ∀ (H : Heap) (locs : List Loc), va_P D vwCl (wM h cI σ) H → va_D A (wM h cI σ) → va_S A s.heap H locs → W p l e ({ frames := 1, cells := 0, slots := 0, locals := 29 } : Room) s m (([.ref (h 0), .int a1] : List Value).toArray) below meth c H locs 0 0 Q (F0 m 0 ls []) from go _ _ hP hD hS
  intro H locs hP hD hS
  refine lv_iload_n hx hb dX5_shifts_0 rfl (lv_at hl 1 rfl) ?_
  refine lv_bipush (v := (11 : Int32)) hx hb dX5_shifts_1 (by decide) ?_
  refine lv_ishr hx hb dX5_shifts_3 ?_
  refine lv_iconst (v := (3 : Int32)) hx hb dX5_shifts_4 (by decide) ?_
  refine lv_iand hx hb dX5_shifts_5 ?_
  refine lv_istore_n (lv' := [(2, .int ((a1 >>> ((11 : Int32) &&& 31)) &&& (3 : Int32))), (0, .ref (h 0)), (1, .int a1)]) hx hb dX5_shifts_6 rfl hl (by decide) rfl (fun ls hl => ?_)
  refine lv_iload_n hx hb dX5_shifts_7 rfl (lv_at hl 2 rfl) ?_
  refine lv_bipush (v := (9 : Int32)) hx hb dX5_shifts_8 (by decide) ?_
  refine lv_ishr hx hb dX5_shifts_10 ?_
  refine lv_iconst (v := (3 : Int32)) hx hb dX5_shifts_11 (by decide) ?_
  refine lv_iand hx hb dX5_shifts_12 ?_
  refine lv_istore_n (lv' := [(3, .int ((a1 >>> ((9 : Int32) &&& 31)) &&& (3 : Int32))), (2, .int ((a1 >>> ((11 : Int32) &&& 31)) &&& (3 : Int32))), (0, .ref (h 0)), (1, .int a1)]) hx hb dX5_shifts_13 rfl hl (by decide) rfl (fun ls hl => ?_)
  refine lv_iload_n hx hb dX5_shifts_14 rfl (lv_at hl 3 rfl) ?_
  refine lv_sipush (v := (511 : Int32)) hx hb dX5_shifts_15 (by decide) ?_
  refine lv_iand hx hb dX5_shifts_18 ?_
  refine call_Si 1 (kX5_ones l D cI _ (a1 &&& (511 : Int32))) ⟨hx, hb, hml, hown, hts, hK, hN, hA⟩ ⟨kw_629, kw_630, kw_6, kw_631, by decide +kernel, rfl, rfl, Nat.le_of_ble_eq_true rfl, Nat.le_of_ble_eq_true rfl⟩ rfl hP hD hS hl.1 rfl (Nat.le_of_ble_eq_true rfl) dX5_shifts_19 ⟨Nat.zero_le _, Nat.zero_le _⟩ (fun r19 u H locs hw hP hD hS => ?_)
  have hw : (m_ones (a1 &&& (511 : Int32))) = r19 := hw
  subst hw
  refine lv_istore (lv' := [(4, .int (m_ones (a1 &&& (511 : Int32)))), (3, .int ((a1 >>> ((9 : Int32) &&& 31)) &&& (3 : Int32))), (2, .int ((a1 >>> ((11 : Int32) &&& 31)) &&& (3 : Int32))), (0, .ref (h 0)), (1, .int a1)]) hx hb dX5_shifts_22 hl (by decide) rfl (fun ls hl => ?_)
  exact J_24 (Int32.toNatClampNeg (m_ones (a1 &&& (511 : Int32))) + 1) σ ((a1 >>> ((11 : Int32) &&& 31)) &&& (3 : Int32)) ((a1 >>> ((9 : Int32) &&& 31)) &&& (3 : Int32)) (m_ones (a1 &&& (511 : Int32))) _ _ _ (Nat.lt_succ_self _) (by unfold m_shifts; rfl) (lv_sub hl [3, 2, 1, 0] rfl) hP hD hS
