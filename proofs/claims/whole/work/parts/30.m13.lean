def m_reads (σ : St) (a1 : Int32) (a2 : Int32) : Int32 := (if (m_in a1 (0 : Int32) (262143 : Int32)) = (0 : Int32) then (-1 : Int32) else (if (m_in a2 (0 : Int32) (5 : Int32)) = (0 : Int32) then (-1 : Int32) else (if a2 = (0 : Int32) then (a1 >>> ((13 : Int32) &&& 31)) else (if a2 = (1 : Int32) then ((a1 >>> ((12 : Int32) &&& 31)) &&& (1 : Int32)) else (if a2 = (2 : Int32) then (a1 &&& (4095 : Int32)) else (if a2 = (3 : Int32) then (m_ones (a1 &&& (511 : Int32))) else (if a2 = (4 : Int32) then (if (m_hasAddress (a1 >>> ((13 : Int32) &&& 31))) = (0 : Int32) then (0 : Int32) else (1 : Int32)) else (if (m_isIllegal a1) = (0 : Int32) then (0 : Int32) else (1 : Int32)))))))))
set_option maxRecDepth 100000 in
set_option maxHeartbeats 8000000 in
theorem kX5_reads (l : Launch) (D : va_G) (cI : ClassId) (h : Nat → Nat) (σ : St) (a1 : Int32) (a2 : Int32) : MetI l yX5_reads (wsU yX5_reads cX5_reads 3 (some .int)) { frames := 2, cells := 0, slots := 0, locals := 42 } D cI [.ref (h 0), .int a1, .int a2] (wM h cI σ) (fun _ : Unit => wM h cI σ) (fun r _ => (m_reads σ a1 a2) = r) := by
  refine MetI.of (by decide) (Nat.le_of_ble_eq_true rfl) ?_
  intro p e s m below meth c A Q ls hx hb hml hown hts hK hN hA hret hP hD hS hl
  have hown : s.vm.findClass RX5 = some m.cls := hown
  have hl : lv_has ls 3 [(0, .ref (h 0)), (1, .int a1), (2, .int a2)] := hl
  suffices go : ∀ (H : Heap) (locs : List Loc), va_P D vwCl (wM h cI σ) H → va_D A (wM h cI σ) → va_S A s.heap H locs → W p l e ({ frames := 2, cells := 0, slots := 0, locals := 42 } : Room) s m (([.ref (h 0), .int a1, .int a2] : List Value).toArray) below meth c H locs 0 0 Q (F0 m 0 ls []) from go _ _ hP hD hS
  intro H locs hP hD hS
  refine lv_iload_n hx hb dX5_reads_0 rfl (lv_at hl 1 rfl) ?_
  refine lv_iconst (v := (0 : Int32)) hx hb dX5_reads_1 (by decide) ?_
  refine lv_ldc (v := (262143 : Int32)) hx hb hown (hts _ kw_525) dX5_reads_2 ?_
  refine call_Si 3 (kX5_in l D cI _ a1 (0 : Int32) (262143 : Int32)) ⟨hx, hb, hml, hown, hts, hK, hN, hA⟩ ⟨kw_522, kw_523, kw_6, kw_524, by decide +kernel, rfl, rfl, Nat.le_of_ble_eq_true rfl, Nat.le_of_ble_eq_true rfl⟩ rfl hP hD hS hl.1 rfl (Nat.le_of_ble_eq_true rfl) dX5_reads_4 ⟨Nat.zero_le _, Nat.zero_le _⟩ (fun r4 u H locs hw hP hD hS => ?_)
  have hw : (m_in a1 (0 : Int32) (262143 : Int32)) = r4 := hw
  subst hw
  refine lv_if_eq (tgt := 19) hx hb dX5_reads_7 (by decide) (fun c_7_1 => ?_) (fun c_7_1 => ?_)
  · have c_7_1 : (m_in a1 (0 : Int32) (262143 : Int32)) = (0 : Int32) := c_7_1
    refine lv_iconst (v := (-1 : Int32)) hx hb dX5_reads_19 (by decide) ?_
    have hE : m_reads σ a1 a2 = (-1 : Int32) := (by unfold m_reads; rw [if_pos c_7_1])
    exact hret (-1 : Int32) () _ _ _ _ rfl hE hP hD hS dX5_reads_20
  · have c_7_1 : ¬ ((m_in a1 (0 : Int32) (262143 : Int32)) = (0 : Int32)) := c_7_1
    refine lv_iload_n hx hb dX5_reads_10 rfl (lv_at hl 2 rfl) ?_
    refine lv_iconst (v := (0 : Int32)) hx hb dX5_reads_11 (by decide) ?_
    refine lv_iconst (v := (5 : Int32)) hx hb dX5_reads_12 (by decide) ?_
    refine call_Si 3 (kX5_in l D cI _ a2 (0 : Int32) (5 : Int32)) ⟨hx, hb, hml, hown, hts, hK, hN, hA⟩ ⟨kw_522, kw_523, kw_6, kw_524, by decide +kernel, rfl, rfl, Nat.le_of_ble_eq_true rfl, Nat.le_of_ble_eq_true rfl⟩ rfl hP hD hS hl.1 rfl (Nat.le_of_ble_eq_true rfl) dX5_reads_13 ⟨Nat.zero_le _, Nat.zero_le _⟩ (fun r13 u H locs hw hP hD hS => ?_)
    have hw : (m_in a2 (0 : Int32) (5 : Int32)) = r13 := hw
    subst hw
    refine lv_if_ne (tgt := 21) hx hb dX5_reads_16 (by decide) (fun c_16_2 => ?_) (fun c_16_2 => ?_)
    · have c_16_2 : ¬ ((m_in a2 (0 : Int32) (5 : Int32)) = (0 : Int32)) := c_16_2
      refine lv_iload_n hx hb dX5_reads_21 rfl (lv_at hl 2 rfl) ?_
      by_cases s_22_3_0 : a2 = (0 : Int32)
      · refine lv_tableIn (off := 34) (tgt := 56) hx hb dX5_reads_22 (by rw [s_22_3_0]; decide) (by rw [s_22_3_0]; decide) (by rw [s_22_3_0]; rfl) (by decide) ?_
        refine lv_iload_n hx hb dX5_reads_56 rfl (lv_at hl 1 rfl) ?_
        refine lv_bipush (v := (13 : Int32)) hx hb dX5_reads_57 (by decide) ?_
        refine lv_ishr hx hb dX5_reads_59 ?_
        have hE : m_reads σ a1 a2 = (a1 >>> ((13 : Int32) &&& 31)) := (by unfold m_reads; rw [if_neg c_7_1, if_neg c_16_2, if_pos s_22_3_0])
        exact hret (a1 >>> ((13 : Int32) &&& 31)) () _ _ _ _ rfl hE hP hD hS dX5_reads_60
      by_cases s_22_3_1 : a2 = (1 : Int32)
      · refine lv_tableIn (off := 39) (tgt := 61) hx hb dX5_reads_22 (by rw [s_22_3_1]; decide) (by rw [s_22_3_1]; decide) (by rw [s_22_3_1]; rfl) (by decide) ?_
        refine lv_iload_n hx hb dX5_reads_61 rfl (lv_at hl 1 rfl) ?_
        refine lv_bipush (v := (12 : Int32)) hx hb dX5_reads_62 (by decide) ?_
        refine lv_ishr hx hb dX5_reads_64 ?_
        refine lv_iconst (v := (1 : Int32)) hx hb dX5_reads_65 (by decide) ?_
        refine lv_iand hx hb dX5_reads_66 ?_
        have hE : m_reads σ a1 a2 = ((a1 >>> ((12 : Int32) &&& 31)) &&& (1 : Int32)) := (by unfold m_reads; rw [if_neg c_7_1, if_neg c_16_2, if_neg s_22_3_0, if_pos s_22_3_1])
        exact hret ((a1 >>> ((12 : Int32) &&& 31)) &&& (1 : Int32)) () _ _ _ _ rfl hE hP hD hS dX5_reads_67
      by_cases s_22_3_2 : a2 = (2 : Int32)
      · refine lv_tableIn (off := 46) (tgt := 68) hx hb dX5_reads_22 (by rw [s_22_3_2]; decide) (by rw [s_22_3_2]; decide) (by rw [s_22_3_2]; rfl) (by decide) ?_
        refine lv_iload_n hx hb dX5_reads_68 rfl (lv_at hl 1 rfl) ?_
        refine lv_sipush (v := (4095 : Int32)) hx hb dX5_reads_69 (by decide) ?_
        refine lv_iand hx hb dX5_reads_72 ?_
        have hE : m_reads σ a1 a2 = (a1 &&& (4095 : Int32)) := (by unfold m_reads; rw [if_neg c_7_1, if_neg c_16_2, if_neg s_22_3_0, if_neg s_22_3_1, if_pos s_22_3_2])
        exact hret (a1 &&& (4095 : Int32)) () _ _ _ _ rfl hE hP hD hS dX5_reads_73
      by_cases s_22_3_3 : a2 = (3 : Int32)
      · refine lv_tableIn (off := 52) (tgt := 74) hx hb dX5_reads_22 (by rw [s_22_3_3]; decide) (by rw [s_22_3_3]; decide) (by rw [s_22_3_3]; rfl) (by decide) ?_
        refine lv_iload_n hx hb dX5_reads_74 rfl (lv_at hl 1 rfl) ?_
        refine lv_sipush (v := (511 : Int32)) hx hb dX5_reads_75 (by decide) ?_
        refine lv_iand hx hb dX5_reads_78 ?_
        refine call_Si 1 (kX5_ones l D cI _ (a1 &&& (511 : Int32))) ⟨hx, hb, hml, hown, hts, hK, hN, hA⟩ ⟨kw_629, kw_630, kw_6, kw_631, by decide +kernel, rfl, rfl, Nat.le_of_ble_eq_true rfl, Nat.le_of_ble_eq_true rfl⟩ rfl hP hD hS hl.1 rfl (Nat.le_of_ble_eq_true rfl) dX5_reads_79 ⟨Nat.zero_le _, Nat.zero_le _⟩ (fun r79 u H locs hw hP hD hS => ?_)
        have hw : (m_ones (a1 &&& (511 : Int32))) = r79 := hw
        subst hw
        have hE : m_reads σ a1 a2 = (m_ones (a1 &&& (511 : Int32))) := (by unfold m_reads; rw [if_neg c_7_1, if_neg c_16_2, if_neg s_22_3_0, if_neg s_22_3_1, if_neg s_22_3_2, if_pos s_22_3_3])
        exact hret (m_ones (a1 &&& (511 : Int32))) () _ _ _ _ rfl hE hP hD hS dX5_reads_82
      by_cases s_22_3_4 : a2 = (4 : Int32)
      · refine lv_tableIn (off := 61) (tgt := 83) hx hb dX5_reads_22 (by rw [s_22_3_4]; decide) (by rw [s_22_3_4]; decide) (by rw [s_22_3_4]; rfl) (by decide) ?_
        refine lv_iload_n hx hb dX5_reads_83 rfl (lv_at hl 1 rfl) ?_
        refine lv_bipush (v := (13 : Int32)) hx hb dX5_reads_84 (by decide) ?_
        refine lv_ishr hx hb dX5_reads_86 ?_
        refine call_Si 1 (kX5_hasAddress l D cI _ (a1 >>> ((13 : Int32) &&& 31))) ⟨hx, hb, hml, hown, hts, hK, hN, hA⟩ ⟨kw_581, kw_582, kw_6, kw_583, by decide +kernel, rfl, rfl, Nat.le_of_ble_eq_true rfl, Nat.le_of_ble_eq_true rfl⟩ rfl hP hD hS hl.1 rfl (Nat.le_of_ble_eq_true rfl) dX5_reads_87 ⟨Nat.zero_le _, Nat.zero_le _⟩ (fun r87 u H locs hw hP hD hS => ?_)
        have hw : (m_hasAddress (a1 >>> ((13 : Int32) &&& 31))) = r87 := hw
        subst hw
        refine lv_if_eq (tgt := 97) hx hb dX5_reads_90 (by decide) (fun c_90_4 => ?_) (fun c_90_4 => ?_)
        · have c_90_4 : (m_hasAddress (a1 >>> ((13 : Int32) &&& 31))) = (0 : Int32) := c_90_4
          refine lv_iconst (v := (0 : Int32)) hx hb dX5_reads_97 (by decide) ?_
          have hE : m_reads σ a1 a2 = (0 : Int32) := (by unfold m_reads; rw [if_neg c_7_1, if_neg c_16_2, if_neg s_22_3_0, if_neg s_22_3_1, if_neg s_22_3_2, if_neg s_22_3_3, if_pos s_22_3_4, if_pos c_90_4])
          exact hret (0 : Int32) () _ _ _ _ rfl hE hP hD hS dX5_reads_98
        · have c_90_4 : ¬ ((m_hasAddress (a1 >>> ((13 : Int32) &&& 31))) = (0 : Int32)) := c_90_4
          refine lv_iconst (v := (1 : Int32)) hx hb dX5_reads_93 (by decide) ?_
          refine lv_goto (tgt := 98) hx hb dX5_reads_94 (by decide) ?_
          have hE : m_reads σ a1 a2 = (1 : Int32) := (by unfold m_reads; rw [if_neg c_7_1, if_neg c_16_2, if_neg s_22_3_0, if_neg s_22_3_1, if_neg s_22_3_2, if_neg s_22_3_3, if_pos s_22_3_4, if_neg c_90_4])
          exact hret (1 : Int32) () _ _ _ _ rfl hE hP hD hS dX5_reads_98
      refine lv_tableOut (tgt := 99) hx hb dX5_reads_22 (by have q0 := lv_neT s_22_3_0 (show (0 : Int32).toInt = 0 by decide); have q1 := lv_neT s_22_3_1 (show (1 : Int32).toInt = 1 by decide); have q2 := lv_neT s_22_3_2 (show (2 : Int32).toInt = 2 by decide); have q3 := lv_neT s_22_3_3 (show (3 : Int32).toInt = 3 by decide); have q4 := lv_neT s_22_3_4 (show (4 : Int32).toInt = 4 by decide); omega) (by decide) ?_
      refine lv_iload_n hx hb dX5_reads_99 rfl (lv_at hl 1 rfl) ?_
      refine call_Si 1 (kX5_isIllegal l D cI _ a1) ⟨hx, hb, hml, hown, hts, hK, hN, hA⟩ ⟨kw_575, kw_576, kw_6, kw_577, by decide +kernel, rfl, rfl, Nat.le_of_ble_eq_true rfl, Nat.le_of_ble_eq_true rfl⟩ rfl hP hD hS hl.1 rfl (Nat.le_of_ble_eq_true rfl) dX5_reads_100 ⟨Nat.zero_le _, Nat.zero_le _⟩ (fun r100 u H locs hw hP hD hS => ?_)
      have hw : (m_isIllegal a1) = r100 := hw
      subst hw
      refine lv_if_eq (tgt := 110) hx hb dX5_reads_103 (by decide) (fun c_103_5 => ?_) (fun c_103_5 => ?_)
      · have c_103_5 : (m_isIllegal a1) = (0 : Int32) := c_103_5
        refine lv_iconst (v := (0 : Int32)) hx hb dX5_reads_110 (by decide) ?_
        have hE : m_reads σ a1 a2 = (0 : Int32) := (by unfold m_reads; rw [if_neg c_7_1, if_neg c_16_2, if_neg s_22_3_0, if_neg s_22_3_1, if_neg s_22_3_2, if_neg s_22_3_3, if_neg s_22_3_4, if_pos c_103_5])
        exact hret (0 : Int32) () _ _ _ _ rfl hE hP hD hS dX5_reads_111
      · have c_103_5 : ¬ ((m_isIllegal a1) = (0 : Int32)) := c_103_5
        refine lv_iconst (v := (1 : Int32)) hx hb dX5_reads_106 (by decide) ?_
        refine lv_goto (tgt := 111) hx hb dX5_reads_107 (by decide) ?_
        have hE : m_reads σ a1 a2 = (1 : Int32) := (by unfold m_reads; rw [if_neg c_7_1, if_neg c_16_2, if_neg s_22_3_0, if_neg s_22_3_1, if_neg s_22_3_2, if_neg s_22_3_3, if_neg s_22_3_4, if_neg c_103_5])
        exact hret (1 : Int32) () _ _ _ _ rfl hE hP hD hS dX5_reads_111
    · have c_16_2 : (m_in a2 (0 : Int32) (5 : Int32)) = (0 : Int32) := c_16_2
      refine lv_iconst (v := (-1 : Int32)) hx hb dX5_reads_19 (by decide) ?_
      have hE : m_reads σ a1 a2 = (-1 : Int32) := (by unfold m_reads; rw [if_neg c_7_1, if_pos c_16_2])
      exact hret (-1 : Int32) () _ _ _ _ rfl hE hP hD hS dX5_reads_20
def m_digest_4 : Nat → St → Int32 → Int32 → Int32
  | 0, σ, _, _ => 0
  | n + 1, σ, x1_4, x2_4 => (if (4096 : Int32) ≤ x2_4 then x1_4 else m_digest_4 n σ (((31 : Int32) * x1_4) + ((g_cells σ) (Int32.toNatClampNeg x2_4))) (x2_4 + (1 : Int32)))
def m_digest (σ : St)  : Int32 := m_digest_4 (4097) σ (0 : Int32) (0 : Int32)
set_option maxRecDepth 100000 in
set_option maxHeartbeats 8000000 in
theorem kX5_digest (l : Launch) (D : va_G) (cI : ClassId) (h : Nat → Nat) (σ : St)  : MetI l yX5_digest (wsU yX5_digest cX5_digest 3 (some .int)) { frames := 0, cells := 0, slots := 0, locals := 0 } D cI [.ref (h 0)] (wM h cI σ) (fun _ : Unit => wM h cI σ) (fun r _ => (m_digest σ) = r) := by
  refine MetI.of (by decide) (Nat.le_of_ble_eq_true rfl) ?_
  intro p e s m below meth c A Q ls hx hb hml hown hts hK hN hA hret hP hD hS hl
  have hown : s.vm.findClass RX5 = some m.cls := hown
  have hl : lv_has ls 3 [(0, .ref (h 0))] := hl
  have J_4 : ∀ (n : Nat) (x1_4 : Int32) (x2_4 : Int32) (H : Heap) (locs : List Loc) (ls : Array Slot), (∃ k : Nat, x2_4 = nI k ∧ k ≤ 4096 ∧ k + n = 4097) → m_digest σ = m_digest_4 n σ x1_4 x2_4 → lv_has ls 3 [(0, .ref (h 0)), (1, .int x1_4), (2, .int x2_4)] → va_P D vwCl (wM h cI σ) H → va_D A (wM h cI σ) → va_S A s.heap H locs → W p l e ({ frames := 0, cells := 0, slots := 0, locals := 0 } : Room) s m (([.ref (h 0)] : List Value).toArray) below meth c H locs 0 0 Q (F0 m 4 ls []) := by
    intro n
    induction n with
    | zero => intro x1_4 x2_4 H locs ls hI E hl hP hD hS; obtain ⟨k, hk1, hk2, hk3⟩ := hI; omega
    | succ n ih =>
      intro x1_4 x2_4 H locs ls hI E hl hP hD hS
      obtain ⟨k, hk1, hk2, hk3⟩ := hI
      refine lv_iload_n hx hb dX5_digest_4 rfl (lv_at hl 2 rfl) ?_
      refine lv_sipush (v := (4096 : Int32)) hx hb dX5_digest_5 (by decide) ?_
      refine lv_icmp_ge (tgt := 29) hx hb dX5_digest_8 (by decide) (fun c_8_1 => ?_) (fun c_8_1 => ?_)
      · have c_8_1 : (4096 : Int32) ≤ x2_4 := c_8_1
        refine lv_iload_n hx hb dX5_digest_29 rfl (lv_at hl 1 rfl) ?_
        have hE : m_digest σ = x1_4 := (E.trans (by rw [m_digest_4, if_pos c_8_1]))
        exact hret x1_4 () _ _ _ _ rfl hE hP hD hS dX5_digest_30
      · have c_8_1 : ¬ ((4096 : Int32) ≤ x2_4) := c_8_1
        refine lv_bipush (v := (31 : Int32)) hx hb dX5_digest_11 (by decide) ?_
        refine lv_iload_n hx hb dX5_digest_13 rfl (lv_at hl 1 rfl) ?_
        refine lv_imul hx hb dX5_digest_14 ?_
        refine lv_aload_n hx hb dX5_digest_15 rfl (lv_at hl 0 rfl) ?_
        refine gM_ref1 hx hb hts hown hK hP kw_451 dX5_digest_16 ?_
        refine lv_iload_n hx hb dX5_digest_19 rfl (lv_at hl 2 rfl) ?_
        refine aM_cells (v := ((g_cells σ) (Int32.toNatClampNeg x2_4))) hx hb hK hP (by exact vp_k hk1 (lp_c (by assumption) hk1 hk2 (by decide)) (by decide)) rfl dX5_digest_20 ?_
        refine lv_iadd hx hb dX5_digest_21 ?_
        refine lv_istore_n (lv' := [(1, .int (((31 : Int32) * x1_4) + ((g_cells σ) (Int32.toNatClampNeg x2_4)))), (0, .ref (h 0)), (2, .int x2_4)]) hx hb dX5_digest_22 rfl hl (by decide) rfl (fun ls hl => ?_)
        refine lv_iinc (v := (x2_4 + (1 : Int32))) (lv' := [(2, .int (x2_4 + (1 : Int32))), (1, .int (((31 : Int32) * x1_4) + ((g_cells σ) (Int32.toNatClampNeg x2_4)))), (0, .ref (h 0))]) hx hb dX5_digest_23 hl (k := 2) rfl (rfl) (by decide) rfl (fun ls hl => ?_)
        refine lv_goto (tgt := 4) hx hb dX5_digest_26 (by decide) ?_
        exact ih (((31 : Int32) * x1_4) + ((g_cells σ) (Int32.toNatClampNeg x2_4))) (x2_4 + (1 : Int32)) _ _ _ (⟨k + 1, by rw [hk1]; exact nI_1 k, lp_c (by assumption) hk1 hk2 (by decide), by omega⟩) (E.trans (by rw [m_digest_4, if_neg c_8_1])) (lv_sub hl [2, 1, 0] rfl) hP hD hS
  suffices go : ∀ (H : Heap) (locs : List Loc), va_P D vwCl (wM h cI σ) H → va_D A (wM h cI σ) → va_S A s.heap H locs → W p l e ({ frames := 0, cells := 0, slots := 0, locals := 0 } : Room) s m (([.ref (h 0)] : List Value).toArray) below meth c H locs 0 0 Q (F0 m 0 ls []) from go _ _ hP hD hS
  intro H locs hP hD hS
  refine lv_iconst (v := (0 : Int32)) hx hb dX5_digest_0 (by decide) ?_
  refine lv_istore_n (lv' := [(1, .int (0 : Int32)), (0, .ref (h 0))]) hx hb dX5_digest_1 rfl hl (by decide) rfl (fun ls hl => ?_)
  refine lv_iconst (v := (0 : Int32)) hx hb dX5_digest_2 (by decide) ?_
  refine lv_istore_n (lv' := [(2, .int (0 : Int32)), (1, .int (0 : Int32)), (0, .ref (h 0))]) hx hb dX5_digest_3 rfl hl (by decide) rfl (fun ls hl => ?_)
  exact J_4 (4097) (0 : Int32) (0 : Int32) _ _ _ (⟨0, rfl, Nat.zero_le _, rfl⟩) (by unfold m_digest; rfl) (lv_sub hl [2, 1, 0] rfl) hP hD hS
