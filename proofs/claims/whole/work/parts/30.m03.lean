def m_isIllegal (a1 : Int32) : Int32 := (if (a1 >>> ((13 : Int32) &&& 31)) = (0 : Int32) then (1 : Int32) else (if (a1 >>> ((13 : Int32) &&& 31)) = (5 : Int32) then (1 : Int32) else (if (a1 >>> ((13 : Int32) &&& 31)) = (6 : Int32) then (1 : Int32) else (if (a1 >>> ((13 : Int32) &&& 31)) = (15 : Int32) then (1 : Int32) else (if (a1 >>> ((13 : Int32) &&& 31)) = (30 : Int32) then (1 : Int32) else (if (a1 >>> ((13 : Int32) &&& 31)) = (27 : Int32) then (if ((a1 >>> ((9 : Int32) &&& 31)) &&& (3 : Int32)) = (0 : Int32) then (1 : Int32) else (0 : Int32)) else (0 : Int32)))))))
set_option maxRecDepth 100000 in
set_option maxHeartbeats 8000000 in
theorem kX5_isIllegal (l : Launch) (D : va_G) (cI : ClassId) (w : va_W) (a1 : Int32) : MetI l yX5_isIllegal (wsU yX5_isIllegal cX5_isIllegal 3 (some .boolean)) { frames := 0, cells := 0, slots := 0, locals := 0 } D cI [.int a1] w (fun _ : Unit => w) (fun r _ => (m_isIllegal a1) = r) := by
  refine MetI.of (by decide) (Nat.le_of_ble_eq_true rfl) ?_
  intro p e s m below meth c A Q ls hx hb hml hown hts hK hN hA hret hP hD hS hl
  have hown : s.vm.findClass RX5 = some m.cls := hown
  have hl : lv_has ls 3 [(0, .int a1)] := hl
  suffices go : ∀ (H : Heap) (locs : List Loc), va_P D vwCl w H → va_D A w → va_S A s.heap H locs → W p l e ({ frames := 0, cells := 0, slots := 0, locals := 0 } : Room) s m (([.int a1] : List Value).toArray) below meth c H locs 0 0 Q (F0 m 0 ls []) from go _ _ hP hD hS
  intro H locs hP hD hS
  refine lv_iload_n hx hb dX5_isIllegal_0 rfl (lv_at hl 0 rfl) ?_
  refine lv_bipush (v := (13 : Int32)) hx hb dX5_isIllegal_1 (by decide) ?_
  refine lv_ishr hx hb dX5_isIllegal_3 ?_
  refine lv_istore_n (lv' := [(1, .int (a1 >>> ((13 : Int32) &&& 31))), (0, .int a1)]) hx hb dX5_isIllegal_4 rfl hl (by decide) rfl (fun ls hl => ?_)
  refine lv_iload_n hx hb dX5_isIllegal_5 rfl (lv_at hl 1 rfl) ?_
  refine lv_bipush (v := (9 : Int32)) hx hb dX5_isIllegal_6 (by decide) ?_
  refine lv_ishr hx hb dX5_isIllegal_8 ?_
  refine lv_iconst (v := (3 : Int32)) hx hb dX5_isIllegal_9 (by decide) ?_
  refine lv_iand hx hb dX5_isIllegal_10 ?_
  refine lv_istore_n (lv' := [(2, .int ((a1 >>> ((9 : Int32) &&& 31)) &&& (3 : Int32))), (1, .int (a1 >>> ((13 : Int32) &&& 31))), (0, .int a1)]) hx hb dX5_isIllegal_11 rfl hl (by decide) rfl (fun ls hl => ?_)
  refine lv_iload_n hx hb dX5_isIllegal_12 rfl (lv_at hl 1 rfl) ?_
  refine lv_if_eq (tgt := 49) hx hb dX5_isIllegal_13 (by decide) (fun c_13_1 => ?_) (fun c_13_1 => ?_)
  · have c_13_1 : (a1 >>> ((13 : Int32) &&& 31)) = (0 : Int32) := c_13_1
    refine lv_iconst (v := (1 : Int32)) hx hb dX5_isIllegal_49 (by decide) ?_
    refine lv_goto (tgt := 54) hx hb dX5_isIllegal_50 (by decide) ?_
    have hE : m_isIllegal a1 = (1 : Int32) := (by unfold m_isIllegal; rw [if_pos c_13_1])
    exact hret (1 : Int32) () _ _ _ _ rfl hE hP hD hS dX5_isIllegal_54
  · have c_13_1 : ¬ ((a1 >>> ((13 : Int32) &&& 31)) = (0 : Int32)) := c_13_1
    refine lv_iload_n hx hb dX5_isIllegal_16 rfl (lv_at hl 1 rfl) ?_
    refine lv_iconst (v := (5 : Int32)) hx hb dX5_isIllegal_17 (by decide) ?_
    refine lv_icmp_eq (tgt := 49) hx hb dX5_isIllegal_18 (by decide) (fun c_18_2 => ?_) (fun c_18_2 => ?_)
    · have c_18_2 : (a1 >>> ((13 : Int32) &&& 31)) = (5 : Int32) := c_18_2
      refine lv_iconst (v := (1 : Int32)) hx hb dX5_isIllegal_49 (by decide) ?_
      refine lv_goto (tgt := 54) hx hb dX5_isIllegal_50 (by decide) ?_
      have hE : m_isIllegal a1 = (1 : Int32) := (by unfold m_isIllegal; rw [if_neg c_13_1, if_pos c_18_2])
      exact hret (1 : Int32) () _ _ _ _ rfl hE hP hD hS dX5_isIllegal_54
    · have c_18_2 : ¬ ((a1 >>> ((13 : Int32) &&& 31)) = (5 : Int32)) := c_18_2
      refine lv_iload_n hx hb dX5_isIllegal_21 rfl (lv_at hl 1 rfl) ?_
      refine lv_bipush (v := (6 : Int32)) hx hb dX5_isIllegal_22 (by decide) ?_
      refine lv_icmp_eq (tgt := 49) hx hb dX5_isIllegal_24 (by decide) (fun c_24_3 => ?_) (fun c_24_3 => ?_)
      · have c_24_3 : (a1 >>> ((13 : Int32) &&& 31)) = (6 : Int32) := c_24_3
        refine lv_iconst (v := (1 : Int32)) hx hb dX5_isIllegal_49 (by decide) ?_
        refine lv_goto (tgt := 54) hx hb dX5_isIllegal_50 (by decide) ?_
        have hE : m_isIllegal a1 = (1 : Int32) := (by unfold m_isIllegal; rw [if_neg c_13_1, if_neg c_18_2, if_pos c_24_3])
        exact hret (1 : Int32) () _ _ _ _ rfl hE hP hD hS dX5_isIllegal_54
      · have c_24_3 : ¬ ((a1 >>> ((13 : Int32) &&& 31)) = (6 : Int32)) := c_24_3
        refine lv_iload_n hx hb dX5_isIllegal_27 rfl (lv_at hl 1 rfl) ?_
        refine lv_bipush (v := (15 : Int32)) hx hb dX5_isIllegal_28 (by decide) ?_
        refine lv_icmp_eq (tgt := 49) hx hb dX5_isIllegal_30 (by decide) (fun c_30_4 => ?_) (fun c_30_4 => ?_)
        · have c_30_4 : (a1 >>> ((13 : Int32) &&& 31)) = (15 : Int32) := c_30_4
          refine lv_iconst (v := (1 : Int32)) hx hb dX5_isIllegal_49 (by decide) ?_
          refine lv_goto (tgt := 54) hx hb dX5_isIllegal_50 (by decide) ?_
          have hE : m_isIllegal a1 = (1 : Int32) := (by unfold m_isIllegal; rw [if_neg c_13_1, if_neg c_18_2, if_neg c_24_3, if_pos c_30_4])
          exact hret (1 : Int32) () _ _ _ _ rfl hE hP hD hS dX5_isIllegal_54
        · have c_30_4 : ¬ ((a1 >>> ((13 : Int32) &&& 31)) = (15 : Int32)) := c_30_4
          refine lv_iload_n hx hb dX5_isIllegal_33 rfl (lv_at hl 1 rfl) ?_
          refine lv_bipush (v := (30 : Int32)) hx hb dX5_isIllegal_34 (by decide) ?_
          refine lv_icmp_eq (tgt := 49) hx hb dX5_isIllegal_36 (by decide) (fun c_36_5 => ?_) (fun c_36_5 => ?_)
          · have c_36_5 : (a1 >>> ((13 : Int32) &&& 31)) = (30 : Int32) := c_36_5
            refine lv_iconst (v := (1 : Int32)) hx hb dX5_isIllegal_49 (by decide) ?_
            refine lv_goto (tgt := 54) hx hb dX5_isIllegal_50 (by decide) ?_
            have hE : m_isIllegal a1 = (1 : Int32) := (by unfold m_isIllegal; rw [if_neg c_13_1, if_neg c_18_2, if_neg c_24_3, if_neg c_30_4, if_pos c_36_5])
            exact hret (1 : Int32) () _ _ _ _ rfl hE hP hD hS dX5_isIllegal_54
          · have c_36_5 : ¬ ((a1 >>> ((13 : Int32) &&& 31)) = (30 : Int32)) := c_36_5
            refine lv_iload_n hx hb dX5_isIllegal_39 rfl (lv_at hl 1 rfl) ?_
            refine lv_bipush (v := (27 : Int32)) hx hb dX5_isIllegal_40 (by decide) ?_
            refine lv_icmp_ne (tgt := 53) hx hb dX5_isIllegal_42 (by decide) (fun c_42_6 => ?_) (fun c_42_6 => ?_)
            · have c_42_6 : ¬ ((a1 >>> ((13 : Int32) &&& 31)) = (27 : Int32)) := c_42_6
              refine lv_iconst (v := (0 : Int32)) hx hb dX5_isIllegal_53 (by decide) ?_
              have hE : m_isIllegal a1 = (0 : Int32) := (by unfold m_isIllegal; rw [if_neg c_13_1, if_neg c_18_2, if_neg c_24_3, if_neg c_30_4, if_neg c_36_5, if_neg c_42_6])
              exact hret (0 : Int32) () _ _ _ _ rfl hE hP hD hS dX5_isIllegal_54
            · have c_42_6 : (a1 >>> ((13 : Int32) &&& 31)) = (27 : Int32) := c_42_6
              refine lv_iload_n hx hb dX5_isIllegal_45 rfl (lv_at hl 0 rfl) ?_
              refine lv_if_ne (tgt := 53) hx hb dX5_isIllegal_46 (by decide) (fun c_46_7 => ?_) (fun c_46_7 => ?_)
              · have c_46_7 : ¬ (((a1 >>> ((9 : Int32) &&& 31)) &&& (3 : Int32)) = (0 : Int32)) := c_46_7
                refine lv_iconst (v := (0 : Int32)) hx hb dX5_isIllegal_53 (by decide) ?_
                have hE : m_isIllegal a1 = (0 : Int32) := (by unfold m_isIllegal; rw [if_neg c_13_1, if_neg c_18_2, if_neg c_24_3, if_neg c_30_4, if_neg c_36_5, if_pos c_42_6, if_neg c_46_7])
                exact hret (0 : Int32) () _ _ _ _ rfl hE hP hD hS dX5_isIllegal_54
              · have c_46_7 : ((a1 >>> ((9 : Int32) &&& 31)) &&& (3 : Int32)) = (0 : Int32) := c_46_7
                refine lv_iconst (v := (1 : Int32)) hx hb dX5_isIllegal_49 (by decide) ?_
                refine lv_goto (tgt := 54) hx hb dX5_isIllegal_50 (by decide) ?_
                have hE : m_isIllegal a1 = (1 : Int32) := (by unfold m_isIllegal; rw [if_neg c_13_1, if_neg c_18_2, if_neg c_24_3, if_neg c_30_4, if_neg c_36_5, if_pos c_42_6, if_pos c_46_7])
                exact hret (1 : Int32) () _ _ _ _ rfl hE hP hD hS dX5_isIllegal_54
def m_addressOf_25 : Nat → St → Int32 → Int32 → Int32 → Int32 × St
  | 0, σ, _, _, _ => (0, σ)
  | n + 1, σ, x2_25, x3_25, x4_25 => (if x3_25 = (0 : Int32) then (x2_25, σ) else (if x4_25 = (32 : Int32) then ((-1 : Int32), σ) else (if ((((g_cells σ) (Int32.toNatClampNeg x2_25)) >>> ((12 : Int32) &&& 31)) &&& (1 : Int32)) = (1 : Int32) then m_addressOf_25 n (s_t2 σ ((g_t2 σ) + (1 : Int32))) (((g_cells σ) (Int32.toNatClampNeg x2_25)) &&& (4095 : Int32)) (1 : Int32) (x4_25 + (1 : Int32)) else m_addressOf_25 n (s_t2 σ ((g_t2 σ) + (1 : Int32))) (((g_cells σ) (Int32.toNatClampNeg x2_25)) &&& (4095 : Int32)) (0 : Int32) (x4_25 + (1 : Int32)))))
def m_addressOf (σ : St) (a1 : Int32) : Int32 × St := (if ((a1 >>> ((12 : Int32) &&& 31)) &&& (1 : Int32)) = (1 : Int32) then m_addressOf_25 (33) σ (a1 &&& (4095 : Int32)) (1 : Int32) (0 : Int32) else m_addressOf_25 (33) σ (a1 &&& (4095 : Int32)) (0 : Int32) (0 : Int32))
set_option maxRecDepth 100000 in
set_option maxHeartbeats 8000000 in
theorem kX5_addressOf (l : Launch) (D : va_G) (cI : ClassId) (h : Nat → Nat) (σ : St) (a1 : Int32) : MetI l yX5_addressOf (wsU yX5_addressOf cX5_addressOf 6 (some .int)) { frames := 0, cells := 0, slots := 0, locals := 0 } D cI [.ref (h 0), .int a1] (wM h cI σ) (fun u : St => wM h cI u) (fun r u => (m_addressOf σ a1).1 = r ∧ (m_addressOf σ a1).2 = u) := by
  refine MetI.of (by decide) (Nat.le_of_ble_eq_true rfl) ?_
  intro p e s m below meth c A Q ls hx hb hml hown hts hK hN hA hret hP hD hS hl
  have hown : s.vm.findClass RX5 = some m.cls := hown
  have hl : lv_has ls 6 [(0, .ref (h 0)), (1, .int a1)] := hl
  have J_25 : ∀ (n : Nat) (σ' : St) (x2_25 : Int32) (x3_25 : Int32) (x4_25 : Int32) (H : Heap) (locs : List Loc) (ls : Array Slot), (∃ k : Nat, x4_25 = nI k ∧ k ≤ 32 ∧ k + n = 33 ∧ vp_in x2_25 4096) → m_addressOf σ a1 = m_addressOf_25 n σ' x2_25 x3_25 x4_25 → lv_has ls 6 [(0, .ref (h 0)), (2, .int x2_25), (3, .int x3_25), (4, .int x4_25)] → va_P D vwCl (wM h cI σ') H → va_D A (wM h cI σ') → va_S A s.heap H locs → W p l e ({ frames := 0, cells := 0, slots := 0, locals := 0 } : Room) s m (([.ref (h 0), .int a1] : List Value).toArray) below meth c H locs 0 0 Q (F0 m 25 ls []) := by
    intro n
    induction n with
    | zero => intro σ' x2_25 x3_25 x4_25 H locs ls hI E hl hP hD hS; obtain ⟨k, hk1, hk2, hk3, hk4⟩ := hI; omega
    | succ n ih =>
      intro σ' x2_25 x3_25 x4_25 H locs ls hI E hl hP hD hS
      obtain ⟨k, hk1, hk2, hk3, hk4⟩ := hI
      refine lv_iload_n hx hb dX5_addressOf_25 rfl (lv_at hl 2 rfl) ?_
      refine lv_if_eq (tgt := 86) hx hb dX5_addressOf_26 (by decide) (fun c_26_2 => ?_) (fun c_26_2 => ?_)
      · have c_26_2 : x3_25 = (0 : Int32) := c_26_2
        refine lv_iload_n hx hb dX5_addressOf_86 rfl (lv_at hl 1 rfl) ?_
        have hE : m_addressOf σ a1 = (x2_25, σ') := (E.trans (by rw [m_addressOf_25, if_pos c_26_2]))
        exact hret x2_25 σ' _ _ _ _ rfl ⟨by rw [hE], by rw [hE]⟩ hP hD hS dX5_addressOf_87
      · have c_26_2 : ¬ (x3_25 = (0 : Int32)) := c_26_2
        refine lv_iload hx hb dX5_addressOf_29 (lv_at hl 3 rfl) ?_
        refine lv_bipush (v := (32 : Int32)) hx hb dX5_addressOf_31 (by decide) ?_
        refine lv_icmp_ne (tgt := 38) hx hb dX5_addressOf_33 (by decide) (fun c_33_3 => ?_) (fun c_33_3 => ?_)
        · have c_33_3 : ¬ (x4_25 = (32 : Int32)) := c_33_3
          refine lv_aload_n hx hb dX5_addressOf_38 rfl (lv_at hl 0 rfl) ?_
          refine gM_ref1 hx hb hts hown hK hP kw_451 dX5_addressOf_39 ?_
          refine lv_iload_n hx hb dX5_addressOf_42 rfl (lv_at hl 1 rfl) ?_
          refine aM_cells (v := ((g_cells σ') (Int32.toNatClampNeg x2_25))) hx hb hK hP (by exact hk4) rfl dX5_addressOf_43 ?_
          refine lv_istore (lv' := [(5, .int ((g_cells σ') (Int32.toNatClampNeg x2_25))), (0, .ref (h 0)), (2, .int x2_25), (3, .int x3_25), (4, .int x4_25)]) hx hb dX5_addressOf_44 hl (by decide) rfl (fun ls hl => ?_)
          refine lv_aload_n hx hb dX5_addressOf_46 rfl (lv_at hl 1 rfl) ?_
          refine gM_ref6 hx hb hts hown hK hP kw_471 dX5_addressOf_47 ?_
          refine lv_iconst (v := (2 : Int32)) hx hb dX5_addressOf_50 (by decide) ?_
          refine lv_dup2_11 hx hb dX5_addressOf_51 rfl rfl ?_
          refine aM_ran2 (v := (g_t2 σ')) hx hb hK hP rfl dX5_addressOf_52 ?_
          refine lv_iconst (v := (1 : Int32)) hx hb dX5_addressOf_53 (by decide) ?_
          refine lv_iadd hx hb dX5_addressOf_54 ?_
          refine bM_ran2 hx hb hK hP hD hS dX5_addressOf_55 (fun H locs hP hD hS => ?_)
          refine lv_iload hx hb dX5_addressOf_56 (lv_at hl 0 rfl) ?_
          refine lv_sipush (v := (4095 : Int32)) hx hb dX5_addressOf_58 (by decide) ?_
          refine lv_iand hx hb dX5_addressOf_61 ?_
          refine lv_istore_n (lv' := [(2, .int (((g_cells σ') (Int32.toNatClampNeg x2_25)) &&& (4095 : Int32))), (5, .int ((g_cells σ') (Int32.toNatClampNeg x2_25))), (0, .ref (h 0)), (3, .int x3_25), (4, .int x4_25)]) hx hb dX5_addressOf_62 rfl hl (by decide) rfl (fun ls hl => ?_)
          refine lv_iload hx hb dX5_addressOf_63 (lv_at hl 1 rfl) ?_
          refine lv_bipush (v := (12 : Int32)) hx hb dX5_addressOf_65 (by decide) ?_
          refine lv_ishr hx hb dX5_addressOf_67 ?_
          refine lv_iconst (v := (1 : Int32)) hx hb dX5_addressOf_68 (by decide) ?_
          refine lv_iand hx hb dX5_addressOf_69 ?_
          refine lv_iconst (v := (1 : Int32)) hx hb dX5_addressOf_70 (by decide) ?_
          refine lv_icmp_ne (tgt := 78) hx hb dX5_addressOf_71 (by decide) (fun c_71_4 => ?_) (fun c_71_4 => ?_)
          · have c_71_4 : ¬ (((((g_cells σ') (Int32.toNatClampNeg x2_25)) >>> ((12 : Int32) &&& 31)) &&& (1 : Int32)) = (1 : Int32)) := c_71_4
            refine lv_iconst (v := (0 : Int32)) hx hb dX5_addressOf_78 (by decide) ?_
            refine lv_istore_n (lv' := [(3, .int (0 : Int32)), (2, .int (((g_cells σ') (Int32.toNatClampNeg x2_25)) &&& (4095 : Int32))), (5, .int ((g_cells σ') (Int32.toNatClampNeg x2_25))), (0, .ref (h 0)), (4, .int x4_25)]) hx hb dX5_addressOf_79 rfl hl (by decide) rfl (fun ls hl => ?_)
            refine lv_iinc (v := (x4_25 + (1 : Int32))) (lv' := [(4, .int (x4_25 + (1 : Int32))), (3, .int (0 : Int32)), (2, .int (((g_cells σ') (Int32.toNatClampNeg x2_25)) &&& (4095 : Int32))), (5, .int ((g_cells σ') (Int32.toNatClampNeg x2_25))), (0, .ref (h 0))]) hx hb dX5_addressOf_80 hl (k := 4) rfl (rfl) (by decide) rfl (fun ls hl => ?_)
            refine lv_goto (tgt := 25) hx hb dX5_addressOf_83 (by decide) ?_
            exact ih (s_t2 σ' ((g_t2 σ') + (1 : Int32))) (((g_cells σ') (Int32.toNatClampNeg x2_25)) &&& (4095 : Int32)) (0 : Int32) (x4_25 + (1 : Int32)) _ _ _ (⟨k + 1, by rw [hk1]; exact nI_1 k, lp_ne (N := 32) (by assumption) hk1 hk2 (by decide), by omega, pk_andIn _ 12 (by decide) (by decide)⟩) (E.trans (by rw [m_addressOf_25, if_neg c_26_2, if_neg c_33_3, if_neg c_71_4])) (lv_sub hl [4, 2, 1, 0] rfl) hP hD hS
          · have c_71_4 : ((((g_cells σ') (Int32.toNatClampNeg x2_25)) >>> ((12 : Int32) &&& 31)) &&& (1 : Int32)) = (1 : Int32) := c_71_4
            refine lv_iconst (v := (1 : Int32)) hx hb dX5_addressOf_74 (by decide) ?_
            refine lv_goto (tgt := 79) hx hb dX5_addressOf_75 (by decide) ?_
            refine lv_istore_n (lv' := [(3, .int (1 : Int32)), (2, .int (((g_cells σ') (Int32.toNatClampNeg x2_25)) &&& (4095 : Int32))), (5, .int ((g_cells σ') (Int32.toNatClampNeg x2_25))), (0, .ref (h 0)), (4, .int x4_25)]) hx hb dX5_addressOf_79 rfl hl (by decide) rfl (fun ls hl => ?_)
            refine lv_iinc (v := (x4_25 + (1 : Int32))) (lv' := [(4, .int (x4_25 + (1 : Int32))), (3, .int (1 : Int32)), (2, .int (((g_cells σ') (Int32.toNatClampNeg x2_25)) &&& (4095 : Int32))), (5, .int ((g_cells σ') (Int32.toNatClampNeg x2_25))), (0, .ref (h 0))]) hx hb dX5_addressOf_80 hl (k := 4) rfl (rfl) (by decide) rfl (fun ls hl => ?_)
            refine lv_goto (tgt := 25) hx hb dX5_addressOf_83 (by decide) ?_
            exact ih (s_t2 σ' ((g_t2 σ') + (1 : Int32))) (((g_cells σ') (Int32.toNatClampNeg x2_25)) &&& (4095 : Int32)) (1 : Int32) (x4_25 + (1 : Int32)) _ _ _ (⟨k + 1, by rw [hk1]; exact nI_1 k, lp_ne (N := 32) (by assumption) hk1 hk2 (by decide), by omega, pk_andIn _ 12 (by decide) (by decide)⟩) (E.trans (by rw [m_addressOf_25, if_neg c_26_2, if_neg c_33_3, if_pos c_71_4])) (lv_sub hl [4, 2, 1, 0] rfl) hP hD hS
        · have c_33_3 : x4_25 = (32 : Int32) := c_33_3
          refine lv_iconst (v := (-1 : Int32)) hx hb dX5_addressOf_36 (by decide) ?_
          have hE : m_addressOf σ a1 = ((-1 : Int32), σ') := (E.trans (by rw [m_addressOf_25, if_neg c_26_2, if_pos c_33_3]))
          exact hret (-1 : Int32) σ' _ _ _ _ rfl ⟨by rw [hE], by rw [hE]⟩ hP hD hS dX5_addressOf_37
  suffices go : ∀ (H : Heap) (locs : List Loc), va_P D vwCl (wM h cI σ) H → va_D A (wM h cI σ) → va_S A s.heap H locs → W p l e ({ frames := 0, cells := 0, slots := 0, locals := 0 } : Room) s m (([.ref (h 0), .int a1] : List Value).toArray) below meth c H locs 0 0 Q (F0 m 0 ls []) from go _ _ hP hD hS
  intro H locs hP hD hS
  refine lv_iload_n hx hb dX5_addressOf_0 rfl (lv_at hl 1 rfl) ?_
  refine lv_sipush (v := (4095 : Int32)) hx hb dX5_addressOf_1 (by decide) ?_
  refine lv_iand hx hb dX5_addressOf_4 ?_
  refine lv_istore_n (lv' := [(2, .int (a1 &&& (4095 : Int32))), (0, .ref (h 0)), (1, .int a1)]) hx hb dX5_addressOf_5 rfl hl (by decide) rfl (fun ls hl => ?_)
  refine lv_iload_n hx hb dX5_addressOf_6 rfl (lv_at hl 2 rfl) ?_
  refine lv_bipush (v := (12 : Int32)) hx hb dX5_addressOf_7 (by decide) ?_
  refine lv_ishr hx hb dX5_addressOf_9 ?_
  refine lv_iconst (v := (1 : Int32)) hx hb dX5_addressOf_10 (by decide) ?_
  refine lv_iand hx hb dX5_addressOf_11 ?_
  refine lv_iconst (v := (1 : Int32)) hx hb dX5_addressOf_12 (by decide) ?_
  refine lv_icmp_ne (tgt := 20) hx hb dX5_addressOf_13 (by decide) (fun c_13_1 => ?_) (fun c_13_1 => ?_)
  · have c_13_1 : ¬ (((a1 >>> ((12 : Int32) &&& 31)) &&& (1 : Int32)) = (1 : Int32)) := c_13_1
    refine lv_iconst (v := (0 : Int32)) hx hb dX5_addressOf_20 (by decide) ?_
    refine lv_istore_n (lv' := [(3, .int (0 : Int32)), (2, .int (a1 &&& (4095 : Int32))), (0, .ref (h 0)), (1, .int a1)]) hx hb dX5_addressOf_21 rfl hl (by decide) rfl (fun ls hl => ?_)
    refine lv_iconst (v := (0 : Int32)) hx hb dX5_addressOf_22 (by decide) ?_
    refine lv_istore (lv' := [(4, .int (0 : Int32)), (3, .int (0 : Int32)), (2, .int (a1 &&& (4095 : Int32))), (0, .ref (h 0)), (1, .int a1)]) hx hb dX5_addressOf_23 hl (by decide) rfl (fun ls hl => ?_)
    exact J_25 (33) σ (a1 &&& (4095 : Int32)) (0 : Int32) (0 : Int32) _ _ _ (⟨0, rfl, Nat.zero_le _, rfl, pk_andIn _ 12 (by decide) (by decide)⟩) (by unfold m_addressOf; rw [if_neg c_13_1]) (lv_sub hl [3, 2, 1, 0] rfl) hP hD hS
  · have c_13_1 : ((a1 >>> ((12 : Int32) &&& 31)) &&& (1 : Int32)) = (1 : Int32) := c_13_1
    refine lv_iconst (v := (1 : Int32)) hx hb dX5_addressOf_16 (by decide) ?_
    refine lv_goto (tgt := 21) hx hb dX5_addressOf_17 (by decide) ?_
    refine lv_istore_n (lv' := [(3, .int (1 : Int32)), (2, .int (a1 &&& (4095 : Int32))), (0, .ref (h 0)), (1, .int a1)]) hx hb dX5_addressOf_21 rfl hl (by decide) rfl (fun ls hl => ?_)
    refine lv_iconst (v := (0 : Int32)) hx hb dX5_addressOf_22 (by decide) ?_
    refine lv_istore (lv' := [(4, .int (0 : Int32)), (3, .int (1 : Int32)), (2, .int (a1 &&& (4095 : Int32))), (0, .ref (h 0)), (1, .int a1)]) hx hb dX5_addressOf_23 hl (by decide) rfl (fun ls hl => ?_)
    exact J_25 (33) σ (a1 &&& (4095 : Int32)) (1 : Int32) (0 : Int32) _ _ _ (⟨0, rfl, Nat.zero_le _, rfl, pk_andIn _ 12 (by decide) (by decide)⟩) (by unfold m_addressOf; rw [if_pos c_13_1]) (lv_sub hl [3, 2, 1, 0] rfl) hP hD hS
theorem m_addr_25 : ∀ (n : Nat) (σ : St) (a b d : Int32), vp_in a 4096 → ((m_addressOf_25 n σ a b d).1 = (-1 : Int32) ∨ vp_in (m_addressOf_25 n σ a b d).1 4096) ∧ ∃ v, (m_addressOf_25 n σ a b d).2 = s_t2 σ v := by
  intro n
  induction n with
  | zero => intro σ a b d h; exact ⟨Or.inr (show vp_in (0 : Int32) 4096 by unfold vp_in; decide), g_t2 σ, rfl⟩
  | succ n ih =>
    intro σ a b d h
    rw [m_addressOf_25]
    split
    · exact ⟨Or.inr h, g_t2 σ, rfl⟩
    · split
      · exact ⟨Or.inl rfl, g_t2 σ, rfl⟩
      · split
        · obtain ⟨h1, v, h2⟩ := ih (s_t2 σ ((g_t2 σ) + (1 : Int32))) _ 1 (d + 1) (pk_andIn (g_cells σ (Int32.toNatClampNeg a)) 12 (m := 4095) (by decide) (by decide))
          exact ⟨h1, v, h2⟩
        · obtain ⟨h1, v, h2⟩ := ih (s_t2 σ ((g_t2 σ) + (1 : Int32))) _ 0 (d + 1) (pk_andIn (g_cells σ (Int32.toNatClampNeg a)) 12 (m := 4095) (by decide) (by decide))
          exact ⟨h1, v, h2⟩
theorem m_addr (σ : St) (w : Int32) : ((m_addressOf σ w).1 = (-1 : Int32) ∨ vp_in (m_addressOf σ w).1 4096) ∧ ∃ v, (m_addressOf σ w).2 = s_t2 σ v := by
  unfold m_addressOf
  split <;> exact m_addr_25 _ _ _ _ _ (pk_andIn _ 12 (by decide) (by decide))
theorem m_addr_in {σ : St} {w : Int32} (h : ¬ (m_addressOf σ w).1 < (0 : Int32)) : vp_in (m_addressOf σ w).1 4096 := by
  rcases (m_addr σ w).1 with q | q
  · exact absurd (by rw [q]; decide) h
  · exact q
theorem m_addr_in2 {σ : St} {w : Int32} (h : (0 : Int32) ≤ (m_addressOf σ w).1) : vp_in (m_addressOf σ w).1 4096 := by
  rcases (m_addr σ w).1 with q | q
  · exact absurd (by rw [q] at h; exact h) (by decide)
  · exact q
theorem mi_addr {σ : St} {w : Int32} (h : MI σ) : MI (m_addressOf σ w).2 := by
  obtain ⟨v, hv⟩ := (m_addr σ w).2
  rw [hv]; exact h
def m_place (σ : St)  : Int32 := ((g_pc σ) ||| ((g_ov σ) <<< ((17 : Int32) &&& 31)))
set_option maxRecDepth 100000 in
set_option maxHeartbeats 8000000 in
theorem kX5_place (l : Launch) (D : va_G) (cI : ClassId) (h : Nat → Nat) (σ : St)  : MetI l yX5_place (wsU yX5_place cX5_place 1 (some .int)) { frames := 0, cells := 0, slots := 0, locals := 0 } D cI [.ref (h 0)] (wM h cI σ) (fun _ : Unit => wM h cI σ) (fun r _ => (m_place σ) = r) := by
  refine MetI.of (by decide) (Nat.le_of_ble_eq_true rfl) ?_
  intro p e s m below meth c A Q ls hx hb hml hown hts hK hN hA hret hP hD hS hl
  have hown : s.vm.findClass RX5 = some m.cls := hown
  have hl : lv_has ls 1 [(0, .ref (h 0))] := hl
  suffices go : ∀ (H : Heap) (locs : List Loc), va_P D vwCl (wM h cI σ) H → va_D A (wM h cI σ) → va_S A s.heap H locs → W p l e ({ frames := 0, cells := 0, slots := 0, locals := 0 } : Room) s m (([.ref (h 0)] : List Value).toArray) below meth c H locs 0 0 Q (F0 m 0 ls []) from go _ _ hP hD hS
  intro H locs hP hD hS
  refine lv_aload_n hx hb dX5_place_0 rfl (lv_at hl 0 rfl) ?_
  refine gM_pc (v := (g_pc σ)) hx hb hts hown hK hP kw_454 rfl dX5_place_1 ?_
  refine lv_aload_n hx hb dX5_place_4 rfl (lv_at hl 0 rfl) ?_
  refine gM_ov (v := (g_ov σ)) hx hb hts hown hK hP kw_455 rfl dX5_place_5 ?_
  refine lv_bipush (v := (17 : Int32)) hx hb dX5_place_8 (by decide) ?_
  refine lv_ishl hx hb dX5_place_10 ?_
  refine lv_ior hx hb dX5_place_11 ?_
  have hE : m_place σ = ((g_pc σ) ||| ((g_ov σ) <<< ((17 : Int32) &&& 31))) := (by unfold m_place; rfl)
  exact hret ((g_pc σ) ||| ((g_ov σ) <<< ((17 : Int32) &&& 31))) () _ _ _ _ rfl hE hP hD hS dX5_place_12
def m_skips (σ : St) (a1 : Int32) : St := (if a1 = (0 : Int32) then σ else (s_t4 (s_pc σ (((g_pc σ) + (1 : Int32)) &&& (4095 : Int32))) ((g_t4 σ) + (1 : Int32))))
set_option maxRecDepth 100000 in
set_option maxHeartbeats 8000000 in
theorem kX5_skips (l : Launch) (D : va_G) (cI : ClassId) (h : Nat → Nat) (σ : St) (a1 : Int32) : MetV l yX5_skips (wsU yX5_skips cX5_skips 2 none) { frames := 0, cells := 0, slots := 0, locals := 0 } D cI [.ref (h 0), .int a1] (wM h cI σ) (fun u : St => wM h cI u) (fun u => (m_skips σ a1) = u) := by
  refine MetV.of (by decide) (Nat.le_of_ble_eq_true rfl) ?_
  intro p e s m below meth c A Q ls hx hb hml hown hts hK hN hA hret hP hD hS hl
  have hown : s.vm.findClass RX5 = some m.cls := hown
  have hl : lv_has ls 2 [(0, .ref (h 0)), (1, .int a1)] := hl
  suffices go : ∀ (H : Heap) (locs : List Loc), va_P D vwCl (wM h cI σ) H → va_D A (wM h cI σ) → va_S A s.heap H locs → W p l e ({ frames := 0, cells := 0, slots := 0, locals := 0 } : Room) s m (([.ref (h 0), .int a1] : List Value).toArray) below meth c H locs 0 0 Q (F0 m 0 ls []) from go _ _ hP hD hS
  intro H locs hP hD hS
  refine lv_iload_n hx hb dX5_skips_0 rfl (lv_at hl 1 rfl) ?_
  refine lv_if_eq (tgt := 28) hx hb dX5_skips_1 (by decide) (fun c_1_1 => ?_) (fun c_1_1 => ?_)
  · have c_1_1 : a1 = (0 : Int32) := c_1_1
    have hE : m_skips σ a1 = σ := (by unfold m_skips; rw [if_pos c_1_1])
    exact hret σ _ _ _ _ hE hP hD hS dX5_skips_28
  · have c_1_1 : ¬ (a1 = (0 : Int32)) := c_1_1
    refine lv_aload_n hx hb dX5_skips_4 rfl (lv_at hl 0 rfl) ?_
    refine lv_aload_n hx hb dX5_skips_5 rfl (lv_at hl 0 rfl) ?_
    refine gM_pc (v := (g_pc σ)) hx hb hts hown hK hP kw_454 rfl dX5_skips_6 ?_
    refine lv_iconst (v := (1 : Int32)) hx hb dX5_skips_9 (by decide) ?_
    refine lv_iadd hx hb dX5_skips_10 ?_
    refine lv_sipush (v := (4095 : Int32)) hx hb dX5_skips_11 (by decide) ?_
    refine lv_iand hx hb dX5_skips_14 ?_
    refine pM_pc hx hb hts hown hK hP hD hS kw_454 dX5_skips_15 (fun H locs hP hD hS => ?_)
    refine lv_aload_n hx hb dX5_skips_18 rfl (lv_at hl 0 rfl) ?_
    refine gM_ref6 hx hb hts hown hK hP kw_471 dX5_skips_19 ?_
    refine lv_iconst (v := (4 : Int32)) hx hb dX5_skips_22 (by decide) ?_
    refine lv_dup2_11 hx hb dX5_skips_23 rfl rfl ?_
    refine aM_ran4 (v := (g_t4 σ)) hx hb hK hP rfl dX5_skips_24 ?_
    refine lv_iconst (v := (1 : Int32)) hx hb dX5_skips_25 (by decide) ?_
    refine lv_iadd hx hb dX5_skips_26 ?_
    refine bM_ran4 hx hb hK hP hD hS dX5_skips_27 (fun H locs hP hD hS => ?_)
    have hE : m_skips σ a1 = (s_t4 (s_pc σ (((g_pc σ) + (1 : Int32)) &&& (4095 : Int32))) ((g_t4 σ) + (1 : Int32))) := (by unfold m_skips; rw [if_neg c_1_1])
    exact hret (s_t4 (s_pc σ (((g_pc σ) + (1 : Int32)) &&& (4095 : Int32))) ((g_t4 σ) + (1 : Int32))) _ _ _ _ hE hP hD hS dX5_skips_28
