def m_step_98 (σ : St)  : St := (if (g_ended (m_does (s_pc σ (((g_pc σ) + (1 : Int32)) &&& (4095 : Int32))) ((g_cells σ) (Int32.toNatClampNeg (g_pc σ))))) = (0 : Int32) then (s_t6 (m_does (s_pc σ (((g_pc σ) + (1 : Int32)) &&& (4095 : Int32))) ((g_cells σ) (Int32.toNatClampNeg (g_pc σ)))) (g_t6 (m_does (s_pc σ (((g_pc σ) + (1 : Int32)) &&& (4095 : Int32))) ((g_cells σ) (Int32.toNatClampNeg (g_pc σ)))))) else (s_t6 (m_does (s_pc σ (((g_pc σ) + (1 : Int32)) &&& (4095 : Int32))) ((g_cells σ) (Int32.toNatClampNeg (g_pc σ)))) (g_pc σ)))
def m_step (σ : St)  : St := (if (g_asked σ) = (0 : Int32) then m_step_98 (s_t7 (s_t0 σ ((g_t0 σ) + (1 : Int32))) ((g_t7 σ) + (1 : Int32))) else (if (g_on σ) = (0 : Int32) then m_step_98 (s_t7 (s_t0 σ ((g_t0 σ) + (1 : Int32))) ((g_t7 σ) + (1 : Int32))) else (if (g_under σ) = (0 : Int32) then (s_t1 (s_asked (s_under (s_pc (s_cells (s_cells (s_cells (s_t7 (s_t0 σ ((g_t0 σ) + (1 : Int32))) ((g_t7 σ) + (1 : Int32))) (upd (g_cells σ) (Int32.toNatClampNeg (0 : Int32)) (g_ac σ))) (upd (upd (g_cells σ) (Int32.toNatClampNeg (0 : Int32)) (g_ac σ)) (Int32.toNatClampNeg (1 : Int32)) (m_place (s_cells (s_t7 (s_t0 σ ((g_t0 σ) + (1 : Int32))) ((g_t7 σ) + (1 : Int32))) (upd (g_cells σ) (Int32.toNatClampNeg (0 : Int32)) (g_ac σ)))))) (upd (upd (upd (g_cells σ) (Int32.toNatClampNeg (0 : Int32)) (g_ac σ)) (Int32.toNatClampNeg (1 : Int32)) (m_place (s_cells (s_t7 (s_t0 σ ((g_t0 σ) + (1 : Int32))) ((g_t7 σ) + (1 : Int32))) (upd (g_cells σ) (Int32.toNatClampNeg (0 : Int32)) (g_ac σ))))) (Int32.toNatClampNeg (2 : Int32)) (g_io σ))) (3 : Int32)) (1 : Int32)) (0 : Int32)) ((g_t1 σ) + (1 : Int32))) else m_step_98 (s_t7 (s_t0 σ ((g_t0 σ) + (1 : Int32))) ((g_t7 σ) + (1 : Int32))))))
set_option maxRecDepth 100000 in
set_option maxHeartbeats 8000000 in
theorem kX5_step (l : Launch) (D : va_G) (cI : ClassId) (h : Nat → Nat) (σ : St)  (hM : MI σ) (hpc : vp_in (g_pc σ) 4096) : MetV l yX5_step (wsU yX5_step cX5_step 2 none) { frames := 4, cells := 0, slots := 0, locals := 93 } D cI [.ref (h 0)] (wM h cI σ) (fun u : St => wM h cI u) (fun u => (m_step σ) = u) := by
  refine MetV.of (by decide) (Nat.le_of_ble_eq_true rfl) ?_
  intro p e s m below meth c A Q ls hx hb hml hown hts hK hN hA hret hP hD hS hl
  have hown : s.vm.findClass RX5 = some m.cls := hown
  have hl : lv_has ls 2 [(0, .ref (h 0))] := hl
  have J_98 : ∀ (σ' : St) (H : Heap) (locs : List Loc) (ls : Array Slot), (MI σ' ∧ vp_in (g_pc σ') 4096) → m_step σ = m_step_98 σ' → lv_has ls 2 [(0, .ref (h 0))] → va_P D vwCl (wM h cI σ') H → va_D A (wM h cI σ') → va_S A s.heap H locs → W p l e ({ frames := 4, cells := 0, slots := 0, locals := 93 } : Room) s m (([.ref (h 0)] : List Value).toArray) below meth c H locs 0 0 Q (F0 m 98 ls []) := by
    intro σ'  H locs ls hI E hl hP hD hS
    refine lv_aload_n hx hb dX5_step_98 rfl (lv_at hl 0 rfl) ?_
    refine gM_pc (v := (g_pc σ')) hx hb hts hown hK hP kw_454 rfl dX5_step_99 ?_
    refine lv_istore_n (lv' := [(1, .int (g_pc σ')), (0, .ref (h 0))]) hx hb dX5_step_102 rfl hl (by decide) rfl (fun ls hl => ?_)
    refine lv_aload_n hx hb dX5_step_103 rfl (lv_at hl 1 rfl) ?_
    refine lv_aload_n hx hb dX5_step_104 rfl (lv_at hl 1 rfl) ?_
    refine gM_pc (v := (g_pc σ')) hx hb hts hown hK hP kw_454 rfl dX5_step_105 ?_
    refine lv_iconst (v := (1 : Int32)) hx hb dX5_step_108 (by decide) ?_
    refine lv_iadd hx hb dX5_step_109 ?_
    refine lv_sipush (v := (4095 : Int32)) hx hb dX5_step_110 (by decide) ?_
    refine lv_iand hx hb dX5_step_113 ?_
    refine pM_pc hx hb hts hown hK hP hD hS kw_454 dX5_step_114 (fun H locs hP hD hS => ?_)
    refine lv_aload_n hx hb dX5_step_117 rfl (lv_at hl 1 rfl) ?_
    refine lv_aload_n hx hb dX5_step_118 rfl (lv_at hl 1 rfl) ?_
    refine gM_ref1 hx hb hts hown hK hP kw_451 dX5_step_119 ?_
    refine lv_iload_n hx hb dX5_step_122 rfl (lv_at hl 0 rfl) ?_
    refine aM_cells (v := ((g_cells σ') (Int32.toNatClampNeg (g_pc σ')))) hx hb hK hP (hI.2) rfl dX5_step_123 ?_
    refine call_Vv 1 (kX5_does l D cI h (s_pc σ' (((g_pc σ') + (1 : Int32)) &&& (4095 : Int32))) ((g_cells σ') (Int32.toNatClampNeg (g_pc σ'))) (hI.1)) ⟨hx, hb, hml, hown, hts, hK, hN, hA⟩ ⟨kw_567, kw_569, ks_yX5_does, kw_6, kw_570, by decide +kernel, rfl, rfl, Nat.le_of_ble_eq_true rfl, Nat.le_of_ble_eq_true rfl⟩ rfl (va_recv hK hP (ci := 5) (q0 := 0) rfl rfl) hP hD hS hl.1 rfl (Nat.le_of_ble_eq_true rfl) dX5_step_124 ⟨Nat.zero_le _, Nat.zero_le _⟩ (fun u H locs hw hP hD hS => ?_)
    have hw : (m_does (s_pc σ' (((g_pc σ') + (1 : Int32)) &&& (4095 : Int32))) ((g_cells σ') (Int32.toNatClampNeg (g_pc σ')))) = u := hw
    subst hw
    refine lv_aload_n hx hb dX5_step_127 rfl (lv_at hl 1 rfl) ?_
    refine gM_ref6 hx hb hts hown hK hP kw_471 dX5_step_128 ?_
    refine lv_bipush (v := (6 : Int32)) hx hb dX5_step_131 (by decide) ?_
    refine lv_aload_n hx hb dX5_step_133 rfl (lv_at hl 1 rfl) ?_
    refine gM_ended (v := (g_ended (m_does (s_pc σ' (((g_pc σ') + (1 : Int32)) &&& (4095 : Int32))) ((g_cells σ') (Int32.toNatClampNeg (g_pc σ')))))) hx hb hts hown hK hP kw_472 rfl dX5_step_134 ?_
    refine lv_if_ne (tgt := 150) hx hb dX5_step_137 (by decide) (fun c_137_2 => ?_) (fun c_137_2 => ?_)
    · have c_137_2 : ¬ ((g_ended (m_does (s_pc σ' (((g_pc σ') + (1 : Int32)) &&& (4095 : Int32))) ((g_cells σ') (Int32.toNatClampNeg (g_pc σ'))))) = (0 : Int32)) := c_137_2
      refine lv_iload_n hx hb dX5_step_150 rfl (lv_at hl 0 rfl) ?_
      refine bM_ran6 hx hb hK hP hD hS dX5_step_151 (fun H locs hP hD hS => ?_)
      have hE : m_step σ = (s_t6 (m_does (s_pc σ' (((g_pc σ') + (1 : Int32)) &&& (4095 : Int32))) ((g_cells σ') (Int32.toNatClampNeg (g_pc σ')))) (g_pc σ')) := (E.trans (by unfold m_step_98; rw [if_neg c_137_2]))
      exact hret (s_t6 (m_does (s_pc σ' (((g_pc σ') + (1 : Int32)) &&& (4095 : Int32))) ((g_cells σ') (Int32.toNatClampNeg (g_pc σ')))) (g_pc σ')) _ _ _ _ hE hP hD hS dX5_step_152
    · have c_137_2 : (g_ended (m_does (s_pc σ' (((g_pc σ') + (1 : Int32)) &&& (4095 : Int32))) ((g_cells σ') (Int32.toNatClampNeg (g_pc σ'))))) = (0 : Int32) := c_137_2
      refine lv_aload_n hx hb dX5_step_140 rfl (lv_at hl 1 rfl) ?_
      refine gM_ref6 hx hb hts hown hK hP kw_471 dX5_step_141 ?_
      refine lv_bipush (v := (6 : Int32)) hx hb dX5_step_144 (by decide) ?_
      refine aM_ran6 (v := (g_t6 (m_does (s_pc σ' (((g_pc σ') + (1 : Int32)) &&& (4095 : Int32))) ((g_cells σ') (Int32.toNatClampNeg (g_pc σ')))))) hx hb hK hP rfl dX5_step_146 ?_
      refine lv_goto (tgt := 151) hx hb dX5_step_147 (by decide) ?_
      refine bM_ran6 hx hb hK hP hD hS dX5_step_151 (fun H locs hP hD hS => ?_)
      have hE : m_step σ = (s_t6 (m_does (s_pc σ' (((g_pc σ') + (1 : Int32)) &&& (4095 : Int32))) ((g_cells σ') (Int32.toNatClampNeg (g_pc σ')))) (g_t6 (m_does (s_pc σ' (((g_pc σ') + (1 : Int32)) &&& (4095 : Int32))) ((g_cells σ') (Int32.toNatClampNeg (g_pc σ')))))) := (E.trans (by unfold m_step_98; rw [if_pos c_137_2]))
      exact hret (s_t6 (m_does (s_pc σ' (((g_pc σ') + (1 : Int32)) &&& (4095 : Int32))) ((g_cells σ') (Int32.toNatClampNeg (g_pc σ')))) (g_t6 (m_does (s_pc σ' (((g_pc σ') + (1 : Int32)) &&& (4095 : Int32))) ((g_cells σ') (Int32.toNatClampNeg (g_pc σ')))))) _ _ _ _ hE hP hD hS dX5_step_152
  suffices go : ∀ (H : Heap) (locs : List Loc), va_P D vwCl (wM h cI σ) H → va_D A (wM h cI σ) → va_S A s.heap H locs → W p l e ({ frames := 4, cells := 0, slots := 0, locals := 93 } : Room) s m (([.ref (h 0)] : List Value).toArray) below meth c H locs 0 0 Q (F0 m 0 ls []) from go _ _ hP hD hS
  intro H locs hP hD hS
  refine lv_aload_n hx hb dX5_step_0 rfl (lv_at hl 0 rfl) ?_
  refine gM_ref6 hx hb hts hown hK hP kw_471 dX5_step_1 ?_
  refine lv_iconst (v := (0 : Int32)) hx hb dX5_step_4 (by decide) ?_
  refine lv_dup2_11 hx hb dX5_step_5 rfl rfl ?_
  refine aM_ran0 (v := (g_t0 σ)) hx hb hK hP rfl dX5_step_6 ?_
  refine lv_iconst (v := (1 : Int32)) hx hb dX5_step_7 (by decide) ?_
  refine lv_iadd hx hb dX5_step_8 ?_
  refine bM_ran0 hx hb hK hP hD hS dX5_step_9 (fun H locs hP hD hS => ?_)
  refine lv_aload_n hx hb dX5_step_10 rfl (lv_at hl 0 rfl) ?_
  refine gM_ref6 hx hb hts hown hK hP kw_471 dX5_step_11 ?_
  refine lv_bipush (v := (7 : Int32)) hx hb dX5_step_14 (by decide) ?_
  refine lv_dup2_11 hx hb dX5_step_16 rfl rfl ?_
  refine aM_ran7 (v := (g_t7 σ)) hx hb hK hP rfl dX5_step_17 ?_
  refine lv_iconst (v := (1 : Int32)) hx hb dX5_step_18 (by decide) ?_
  refine lv_iadd hx hb dX5_step_19 ?_
  refine bM_ran7 hx hb hK hP hD hS dX5_step_20 (fun H locs hP hD hS => ?_)
  refine lv_aload_n hx hb dX5_step_21 rfl (lv_at hl 0 rfl) ?_
  refine gM_asked (v := (g_asked σ)) hx hb hts hown hK hP kw_458 rfl dX5_step_22 ?_
  refine lv_if_eq (tgt := 98) hx hb dX5_step_25 (by decide) (fun c_25_1 => ?_) (fun c_25_1 => ?_)
  · have c_25_1 : (g_asked σ) = (0 : Int32) := c_25_1
    exact J_98 (s_t7 (s_t0 σ ((g_t0 σ) + (1 : Int32))) ((g_t7 σ) + (1 : Int32))) _ _ _ (⟨hM, hpc⟩) (by unfold m_step; rw [if_pos c_25_1]) (lv_sub hl [0] rfl) hP hD hS
  · have c_25_1 : ¬ ((g_asked σ) = (0 : Int32)) := c_25_1
    refine lv_aload_n hx hb dX5_step_28 rfl (lv_at hl 0 rfl) ?_
    refine gM_on (v := (g_on σ)) hx hb hts hown hK hP kw_457 rfl dX5_step_29 ?_
    refine lv_if_eq (tgt := 98) hx hb dX5_step_32 (by decide) (fun c_32_3 => ?_) (fun c_32_3 => ?_)
    · have c_32_3 : (g_on σ) = (0 : Int32) := c_32_3
      exact J_98 (s_t7 (s_t0 σ ((g_t0 σ) + (1 : Int32))) ((g_t7 σ) + (1 : Int32))) _ _ _ (⟨hM, hpc⟩) (by unfold m_step; rw [if_neg c_25_1, if_pos c_32_3]) (lv_sub hl [0] rfl) hP hD hS
    · have c_32_3 : ¬ ((g_on σ) = (0 : Int32)) := c_32_3
      refine lv_aload_n hx hb dX5_step_35 rfl (lv_at hl 0 rfl) ?_
      refine gM_under (v := (g_under σ)) hx hb hts hown hK hP kw_459 rfl dX5_step_36 ?_
      refine lv_if_ne (tgt := 98) hx hb dX5_step_39 (by decide) (fun c_39_4 => ?_) (fun c_39_4 => ?_)
      · have c_39_4 : ¬ ((g_under σ) = (0 : Int32)) := c_39_4
        exact J_98 (s_t7 (s_t0 σ ((g_t0 σ) + (1 : Int32))) ((g_t7 σ) + (1 : Int32))) _ _ _ (⟨hM, hpc⟩) (by unfold m_step; rw [if_neg c_25_1, if_neg c_32_3, if_neg c_39_4]) (lv_sub hl [0] rfl) hP hD hS
      · have c_39_4 : (g_under σ) = (0 : Int32) := c_39_4
        refine lv_aload_n hx hb dX5_step_42 rfl (lv_at hl 0 rfl) ?_
        refine gM_ref1 hx hb hts hown hK hP kw_451 dX5_step_43 ?_
        refine lv_iconst (v := (0 : Int32)) hx hb dX5_step_46 (by decide) ?_
        refine lv_aload_n hx hb dX5_step_47 rfl (lv_at hl 0 rfl) ?_
        refine gM_ac (v := (g_ac σ)) hx hb hts hown hK hP kw_452 rfl dX5_step_48 ?_
        refine bM_cells (f := (g_cells σ)) hx hb hK hP hD hS (by unfold vp_in; decide) rfl dX5_step_51 (fun H locs hP hD hS => ?_)
        refine lv_aload_n hx hb dX5_step_52 rfl (lv_at hl 0 rfl) ?_
        refine gM_ref1 hx hb hts hown hK hP kw_451 dX5_step_53 ?_
        refine lv_iconst (v := (1 : Int32)) hx hb dX5_step_56 (by decide) ?_
        refine lv_aload_n hx hb dX5_step_57 rfl (lv_at hl 0 rfl) ?_
        refine call_Vi 0 (kX5_place l D cI h _) ⟨hx, hb, hml, hown, hts, hK, hN, hA⟩ ⟨kw_563, kw_565, ks_yX5_place, kw_6, kw_566, by decide +kernel, rfl, rfl, Nat.le_of_ble_eq_true rfl, Nat.le_of_ble_eq_true rfl⟩ rfl (va_recv hK hP (ci := 5) (q0 := 0) rfl rfl) hP hD hS hl.1 rfl (Nat.le_of_ble_eq_true rfl) dX5_step_58 ⟨Nat.zero_le _, Nat.zero_le _⟩ (fun r58 u H locs hw hP hD hS => ?_)
        have hw : (m_place (s_cells (s_t7 (s_t0 σ ((g_t0 σ) + (1 : Int32))) ((g_t7 σ) + (1 : Int32))) (upd (g_cells σ) (Int32.toNatClampNeg (0 : Int32)) (g_ac σ)))) = r58 := hw
        subst hw
        refine bM_cells (f := (upd (g_cells σ) (Int32.toNatClampNeg (0 : Int32)) (g_ac σ))) hx hb hK hP hD hS (by unfold vp_in; decide) rfl dX5_step_61 (fun H locs hP hD hS => ?_)
        refine lv_aload_n hx hb dX5_step_62 rfl (lv_at hl 0 rfl) ?_
        refine gM_ref1 hx hb hts hown hK hP kw_451 dX5_step_63 ?_
        refine lv_iconst (v := (2 : Int32)) hx hb dX5_step_66 (by decide) ?_
        refine lv_aload_n hx hb dX5_step_67 rfl (lv_at hl 0 rfl) ?_
        refine gM_io (v := (g_io σ)) hx hb hts hown hK hP kw_453 rfl dX5_step_68 ?_
        refine bM_cells (f := (upd (upd (g_cells σ) (Int32.toNatClampNeg (0 : Int32)) (g_ac σ)) (Int32.toNatClampNeg (1 : Int32)) (m_place (s_cells (s_t7 (s_t0 σ ((g_t0 σ) + (1 : Int32))) ((g_t7 σ) + (1 : Int32))) (upd (g_cells σ) (Int32.toNatClampNeg (0 : Int32)) (g_ac σ)))))) hx hb hK hP hD hS (by unfold vp_in; decide) rfl dX5_step_71 (fun H locs hP hD hS => ?_)
        refine lv_aload_n hx hb dX5_step_72 rfl (lv_at hl 0 rfl) ?_
        refine lv_iconst (v := (3 : Int32)) hx hb dX5_step_73 (by decide) ?_
        refine pM_pc hx hb hts hown hK hP hD hS kw_454 dX5_step_74 (fun H locs hP hD hS => ?_)
        refine lv_aload_n hx hb dX5_step_77 rfl (lv_at hl 0 rfl) ?_
        refine lv_iconst (v := (1 : Int32)) hx hb dX5_step_78 (by decide) ?_
        refine pM_under hx hb hts hown hK hP hD hS kw_459 ⟨rfl, rfl⟩ dX5_step_79 (fun H locs hP hD hS => ?_)
        refine lv_aload_n hx hb dX5_step_82 rfl (lv_at hl 0 rfl) ?_
        refine lv_iconst (v := (0 : Int32)) hx hb dX5_step_83 (by decide) ?_
        refine pM_asked hx hb hts hown hK hP hD hS kw_458 ⟨rfl, rfl⟩ dX5_step_84 (fun H locs hP hD hS => ?_)
        refine lv_aload_n hx hb dX5_step_87 rfl (lv_at hl 0 rfl) ?_
        refine gM_ref6 hx hb hts hown hK hP kw_471 dX5_step_88 ?_
        refine lv_iconst (v := (1 : Int32)) hx hb dX5_step_91 (by decide) ?_
        refine lv_dup2_11 hx hb dX5_step_92 rfl rfl ?_
        refine aM_ran1 (v := (g_t1 σ)) hx hb hK hP rfl dX5_step_93 ?_
        refine lv_iconst (v := (1 : Int32)) hx hb dX5_step_94 (by decide) ?_
        refine lv_iadd hx hb dX5_step_95 ?_
        refine bM_ran1 hx hb hK hP hD hS dX5_step_96 (fun H locs hP hD hS => ?_)
        have hE : m_step σ = (s_t1 (s_asked (s_under (s_pc (s_cells (s_cells (s_cells (s_t7 (s_t0 σ ((g_t0 σ) + (1 : Int32))) ((g_t7 σ) + (1 : Int32))) (upd (g_cells σ) (Int32.toNatClampNeg (0 : Int32)) (g_ac σ))) (upd (upd (g_cells σ) (Int32.toNatClampNeg (0 : Int32)) (g_ac σ)) (Int32.toNatClampNeg (1 : Int32)) (m_place (s_cells (s_t7 (s_t0 σ ((g_t0 σ) + (1 : Int32))) ((g_t7 σ) + (1 : Int32))) (upd (g_cells σ) (Int32.toNatClampNeg (0 : Int32)) (g_ac σ)))))) (upd (upd (upd (g_cells σ) (Int32.toNatClampNeg (0 : Int32)) (g_ac σ)) (Int32.toNatClampNeg (1 : Int32)) (m_place (s_cells (s_t7 (s_t0 σ ((g_t0 σ) + (1 : Int32))) ((g_t7 σ) + (1 : Int32))) (upd (g_cells σ) (Int32.toNatClampNeg (0 : Int32)) (g_ac σ))))) (Int32.toNatClampNeg (2 : Int32)) (g_io σ))) (3 : Int32)) (1 : Int32)) (0 : Int32)) ((g_t1 σ) + (1 : Int32))) := (by unfold m_step; rw [if_neg c_25_1, if_neg c_32_3, if_pos c_39_4])
        exact hret (s_t1 (s_asked (s_under (s_pc (s_cells (s_cells (s_cells (s_t7 (s_t0 σ ((g_t0 σ) + (1 : Int32))) ((g_t7 σ) + (1 : Int32))) (upd (g_cells σ) (Int32.toNatClampNeg (0 : Int32)) (g_ac σ))) (upd (upd (g_cells σ) (Int32.toNatClampNeg (0 : Int32)) (g_ac σ)) (Int32.toNatClampNeg (1 : Int32)) (m_place (s_cells (s_t7 (s_t0 σ ((g_t0 σ) + (1 : Int32))) ((g_t7 σ) + (1 : Int32))) (upd (g_cells σ) (Int32.toNatClampNeg (0 : Int32)) (g_ac σ)))))) (upd (upd (upd (g_cells σ) (Int32.toNatClampNeg (0 : Int32)) (g_ac σ)) (Int32.toNatClampNeg (1 : Int32)) (m_place (s_cells (s_t7 (s_t0 σ ((g_t0 σ) + (1 : Int32))) ((g_t7 σ) + (1 : Int32))) (upd (g_cells σ) (Int32.toNatClampNeg (0 : Int32)) (g_ac σ))))) (Int32.toNatClampNeg (2 : Int32)) (g_io σ))) (3 : Int32)) (1 : Int32)) (0 : Int32)) ((g_t1 σ) + (1 : Int32))) _ _ _ _ hE hP hD hS dX5_step_97
def m_run_52 : Nat → St → Int32 → Int32 → Int32 × St
  | 0, σ, _, _ => (0, σ)
  | n + 1, σ, x1_52, x2_52 => (if x1_52 ≤ x2_52 then ((g_ended σ), σ) else (if (g_ended σ) = (0 : Int32) then m_run_52 n (m_step σ) x1_52 (x2_52 + (1 : Int32)) else ((g_ended σ), σ)))
def m_run (σ : St) (a1 : Int32) : Int32 × St := (if (m_in a1 (1 : Int32) (5000 : Int32)) = (0 : Int32) then ((-1 : Int32), σ) else m_run_52 (Int32.toNatClampNeg a1 + 1) (s_ended (s_t6 (s_t5 (s_t4 (s_t3 (s_t2 (s_t1 (s_t0 σ (0 : Int32)) (0 : Int32)) (0 : Int32)) (0 : Int32)) (0 : Int32)) (0 : Int32)) (-9 : Int32)) (0 : Int32)) a1 (0 : Int32))
def m_reset (σ : St) : St := s_ended (s_t6 (s_t5 (s_t4 (s_t3 (s_t2 (s_t1 (s_t0 σ 0) 0) 0) 0) 0) 0) (-9)) 0
def MOK : Nat → St → Prop
  | 0, _ => True
  | n + 1, σ => (MI σ ∧ vp_in (g_pc σ) 4096) ∧ (g_ended σ = 0 → MOK n (m_step σ))
set_option maxRecDepth 100000 in
set_option maxHeartbeats 8000000 in
theorem kX5_run (l : Launch) (D : va_G) (cI : ClassId) (h : Nat → Nat) (σ : St) (a1 : Int32) (hR : ¬ m_in a1 (1 : Int32) (5000 : Int32) = (0 : Int32) → MOK (Int32.toNatClampNeg a1 + 1) (m_reset σ)) : MetI l yX5_run (wsU yX5_run cX5_run 3 (some .int)) { frames := 5, cells := 0, slots := 0, locals := 114 } D cI [.ref (h 0), .int a1] (wM h cI σ) (fun u : St => wM h cI u) (fun r u => (m_run σ a1).1 = r ∧ (m_run σ a1).2 = u) := by
  refine MetI.of (by decide) (Nat.le_of_ble_eq_true rfl) ?_
  intro p e s m below meth c A Q ls hx hb hml hown hts hK hN hA hret hP hD hS hl
  have hown : s.vm.findClass RX5 = some m.cls := hown
  have hl : lv_has ls 3 [(0, .ref (h 0)), (1, .int a1)] := hl
  have J_52 : ∀ (n : Nat) (σ' : St) (x1_52 : Int32) (x2_52 : Int32) (H : Heap) (locs : List Loc) (ls : Array Slot), (∃ k : Nat, x2_52 = nI k ∧ x1_52 = a1 ∧ k ≤ Int32.toNatClampNeg a1 ∧ k + n = Int32.toNatClampNeg a1 + 1 ∧ MOK n σ') → m_run σ a1 = m_run_52 n σ' x1_52 x2_52 → lv_has ls 3 [(0, .ref (h 0)), (1, .int x1_52), (2, .int x2_52)] → va_P D vwCl (wM h cI σ') H → va_D A (wM h cI σ') → va_S A s.heap H locs → W p l e ({ frames := 5, cells := 0, slots := 0, locals := 114 } : Room) s m (([.ref (h 0), .int a1] : List Value).toArray) below meth c H locs 0 0 Q (F0 m 52 ls []) := by
    intro n
    induction n with
    | zero => intro σ' x1_52 x2_52 H locs ls hI E hl hP hD hS; obtain ⟨k, hk1, hk2, hk3, hk4, hk5⟩ := hI; omega
    | succ n ih =>
      intro σ' x1_52 x2_52 H locs ls hI E hl hP hD hS
      obtain ⟨k, hk1, hk2, hk3, hk4, hk5⟩ := hI
      refine lv_iload_n hx hb dX5_run_52 rfl (lv_at hl 2 rfl) ?_
      refine lv_iload_n hx hb dX5_run_53 rfl (lv_at hl 1 rfl) ?_
      refine lv_icmp_ge (tgt := 74) hx hb dX5_run_54 (by decide) (fun c_54_2 => ?_) (fun c_54_2 => ?_)
      · have c_54_2 : x1_52 ≤ x2_52 := c_54_2
        refine lv_aload_n hx hb dX5_run_74 rfl (lv_at hl 0 rfl) ?_
        refine gM_ended (v := (g_ended σ')) hx hb hts hown hK hP kw_472 rfl dX5_run_75 ?_
        have hE : m_run σ a1 = ((g_ended σ'), σ') := (E.trans (by rw [m_run_52, if_pos c_54_2]))
        exact hret (g_ended σ') σ' _ _ _ _ rfl ⟨by rw [hE], by rw [hE]⟩ hP hD hS dX5_run_78
      · have c_54_2 : ¬ (x1_52 ≤ x2_52) := c_54_2
        refine lv_aload_n hx hb dX5_run_57 rfl (lv_at hl 0 rfl) ?_
        refine gM_ended (v := (g_ended σ')) hx hb hts hown hK hP kw_472 rfl dX5_run_58 ?_
        refine lv_if_ne (tgt := 74) hx hb dX5_run_61 (by decide) (fun c_61_3 => ?_) (fun c_61_3 => ?_)
        · have c_61_3 : ¬ ((g_ended σ') = (0 : Int32)) := c_61_3
          refine lv_aload_n hx hb dX5_run_74 rfl (lv_at hl 0 rfl) ?_
          refine gM_ended (v := (g_ended σ')) hx hb hts hown hK hP kw_472 rfl dX5_run_75 ?_
          have hE : m_run σ a1 = ((g_ended σ'), σ') := (E.trans (by rw [m_run_52, if_neg c_54_2, if_neg c_61_3]))
          exact hret (g_ended σ') σ' _ _ _ _ rfl ⟨by rw [hE], by rw [hE]⟩ hP hD hS dX5_run_78
        · have c_61_3 : (g_ended σ') = (0 : Int32) := c_61_3
          refine lv_aload_n hx hb dX5_run_64 rfl (lv_at hl 0 rfl) ?_
          refine call_Vv 0 (kX5_step l D cI h σ' (hk5.1.1) (hk5.1.2)) ⟨hx, hb, hml, hown, hts, hK, hN, hA⟩ ⟨kw_559, kw_561, ks_yX5_step, kw_6, kw_562, by decide +kernel, rfl, rfl, Nat.le_of_ble_eq_true rfl, Nat.le_of_ble_eq_true rfl⟩ rfl (va_recv hK hP (ci := 5) (q0 := 0) rfl rfl) hP hD hS hl.1 rfl (Nat.le_of_ble_eq_true rfl) dX5_run_65 ⟨Nat.zero_le _, Nat.zero_le _⟩ (fun u H locs hw hP hD hS => ?_)
          have hw : (m_step σ') = u := hw
          subst hw
          refine lv_iinc (v := (x2_52 + (1 : Int32))) (lv' := [(2, .int (x2_52 + (1 : Int32))), (0, .ref (h 0)), (1, .int x1_52)]) hx hb dX5_run_68 hl (k := 2) rfl (rfl) (by decide) rfl (fun ls hl => ?_)
          refine lv_goto (tgt := 52) hx hb dX5_run_71 (by decide) ?_
          exact ih (m_step σ') x1_52 (x2_52 + (1 : Int32)) _ _ _ (⟨k + 1, by rw [hk1]; exact nI_1 k, hk2, hk2 ▸ lp_ge (by assumption) hk1 (by rw [hk2]; exact hk3), by omega, hk5.2 (by assumption)⟩) (E.trans (by rw [m_run_52, if_neg c_54_2, if_pos c_61_3])) (lv_sub hl [1, 2, 0] rfl) hP hD hS
  suffices go : ∀ (H : Heap) (locs : List Loc), va_P D vwCl (wM h cI σ) H → va_D A (wM h cI σ) → va_S A s.heap H locs → W p l e ({ frames := 5, cells := 0, slots := 0, locals := 114 } : Room) s m (([.ref (h 0), .int a1] : List Value).toArray) below meth c H locs 0 0 Q (F0 m 0 ls []) from go _ _ hP hD hS
  intro H locs hP hD hS
  refine lv_iload_n hx hb dX5_run_0 rfl (lv_at hl 1 rfl) ?_
  refine lv_iconst (v := (1 : Int32)) hx hb dX5_run_1 (by decide) ?_
  refine lv_sipush (v := (5000 : Int32)) hx hb dX5_run_2 (by decide) ?_
  refine call_Si 3 (kX5_in l D cI _ a1 (1 : Int32) (5000 : Int32)) ⟨hx, hb, hml, hown, hts, hK, hN, hA⟩ ⟨kw_522, kw_523, kw_6, kw_524, by decide +kernel, rfl, rfl, Nat.le_of_ble_eq_true rfl, Nat.le_of_ble_eq_true rfl⟩ rfl hP hD hS hl.1 rfl (Nat.le_of_ble_eq_true rfl) dX5_run_5 ⟨Nat.zero_le _, Nat.zero_le _⟩ (fun r5 u H locs hw hP hD hS => ?_)
  have hw : (m_in a1 (1 : Int32) (5000 : Int32)) = r5 := hw
  subst hw
  refine lv_if_ne (tgt := 13) hx hb dX5_run_8 (by decide) (fun c_8_1 => ?_) (fun c_8_1 => ?_)
  · have c_8_1 : ¬ ((m_in a1 (1 : Int32) (5000 : Int32)) = (0 : Int32)) := c_8_1
    refine lv_iconst (v := (0 : Int32)) hx hb dX5_run_13 (by decide) ?_
    refine lv_istore_n (lv' := [(2, .int (0 : Int32)), (0, .ref (h 0)), (1, .int a1)]) hx hb dX5_run_14 rfl hl (by decide) rfl (fun ls hl => ?_)
    refine lv_iload_n hx hb dX5_run_15 rfl (lv_at hl 0 rfl) ?_
    refine lv_bipush (v := (7 : Int32)) hx hb dX5_run_16 (by decide) ?_
    refine lv_icmp_ge (tgt := 45) hx hb dX5_run_18 (by decide) (fun q => absurd q (by decide)) (fun _ => ?_)
    refine lv_aload_n hx hb dX5_run_21 rfl (lv_at hl 1 rfl) ?_
    refine gM_ref6 hx hb hts hown hK hP kw_471 dX5_run_22 ?_
    refine lv_iload_n hx hb dX5_run_25 rfl (lv_at hl 0 rfl) ?_
    refine lv_iload_n hx hb dX5_run_26 rfl (lv_at hl 0 rfl) ?_
    refine lv_bipush (v := (6 : Int32)) hx hb dX5_run_27 (by decide) ?_
    refine lv_icmp_ne (tgt := 37) hx hb dX5_run_29 (by decide) (fun _ => ?_) (fun q => absurd q (by decide))
    refine lv_iconst (v := (0 : Int32)) hx hb dX5_run_37 (by decide) ?_
    refine bM_ran0 hx hb hK hP hD hS dX5_run_38 (fun H locs hP hD hS => ?_)
    refine lv_iinc (v := (1 : Int32)) (lv' := [(2, .int (1 : Int32)), (0, .ref (h 0)), (1, .int a1)]) hx hb dX5_run_39 hl (k := 0) rfl (by decide) (by decide) rfl (fun ls hl => ?_)
    refine lv_goto (tgt := 15) hx hb dX5_run_42 (by decide) ?_
    refine lv_iload_n hx hb dX5_run_15 rfl (lv_at hl 0 rfl) ?_
    refine lv_bipush (v := (7 : Int32)) hx hb dX5_run_16 (by decide) ?_
    refine lv_icmp_ge (tgt := 45) hx hb dX5_run_18 (by decide) (fun q => absurd q (by decide)) (fun _ => ?_)
    refine lv_aload_n hx hb dX5_run_21 rfl (lv_at hl 1 rfl) ?_
    refine gM_ref6 hx hb hts hown hK hP kw_471 dX5_run_22 ?_
    refine lv_iload_n hx hb dX5_run_25 rfl (lv_at hl 0 rfl) ?_
    refine lv_iload_n hx hb dX5_run_26 rfl (lv_at hl 0 rfl) ?_
    refine lv_bipush (v := (6 : Int32)) hx hb dX5_run_27 (by decide) ?_
    refine lv_icmp_ne (tgt := 37) hx hb dX5_run_29 (by decide) (fun _ => ?_) (fun q => absurd q (by decide))
    refine lv_iconst (v := (0 : Int32)) hx hb dX5_run_37 (by decide) ?_
    refine bM_ran1 hx hb hK hP hD hS dX5_run_38 (fun H locs hP hD hS => ?_)
    refine lv_iinc (v := (2 : Int32)) (lv' := [(2, .int (2 : Int32)), (0, .ref (h 0)), (1, .int a1)]) hx hb dX5_run_39 hl (k := 0) rfl (by decide) (by decide) rfl (fun ls hl => ?_)
    refine lv_goto (tgt := 15) hx hb dX5_run_42 (by decide) ?_
    refine lv_iload_n hx hb dX5_run_15 rfl (lv_at hl 0 rfl) ?_
    refine lv_bipush (v := (7 : Int32)) hx hb dX5_run_16 (by decide) ?_
    refine lv_icmp_ge (tgt := 45) hx hb dX5_run_18 (by decide) (fun q => absurd q (by decide)) (fun _ => ?_)
    refine lv_aload_n hx hb dX5_run_21 rfl (lv_at hl 1 rfl) ?_
    refine gM_ref6 hx hb hts hown hK hP kw_471 dX5_run_22 ?_
    refine lv_iload_n hx hb dX5_run_25 rfl (lv_at hl 0 rfl) ?_
    refine lv_iload_n hx hb dX5_run_26 rfl (lv_at hl 0 rfl) ?_
    refine lv_bipush (v := (6 : Int32)) hx hb dX5_run_27 (by decide) ?_
    refine lv_icmp_ne (tgt := 37) hx hb dX5_run_29 (by decide) (fun _ => ?_) (fun q => absurd q (by decide))
    refine lv_iconst (v := (0 : Int32)) hx hb dX5_run_37 (by decide) ?_
    refine bM_ran2 hx hb hK hP hD hS dX5_run_38 (fun H locs hP hD hS => ?_)
    refine lv_iinc (v := (3 : Int32)) (lv' := [(2, .int (3 : Int32)), (0, .ref (h 0)), (1, .int a1)]) hx hb dX5_run_39 hl (k := 0) rfl (by decide) (by decide) rfl (fun ls hl => ?_)
    refine lv_goto (tgt := 15) hx hb dX5_run_42 (by decide) ?_
    refine lv_iload_n hx hb dX5_run_15 rfl (lv_at hl 0 rfl) ?_
    refine lv_bipush (v := (7 : Int32)) hx hb dX5_run_16 (by decide) ?_
    refine lv_icmp_ge (tgt := 45) hx hb dX5_run_18 (by decide) (fun q => absurd q (by decide)) (fun _ => ?_)
    refine lv_aload_n hx hb dX5_run_21 rfl (lv_at hl 1 rfl) ?_
    refine gM_ref6 hx hb hts hown hK hP kw_471 dX5_run_22 ?_
    refine lv_iload_n hx hb dX5_run_25 rfl (lv_at hl 0 rfl) ?_
    refine lv_iload_n hx hb dX5_run_26 rfl (lv_at hl 0 rfl) ?_
    refine lv_bipush (v := (6 : Int32)) hx hb dX5_run_27 (by decide) ?_
    refine lv_icmp_ne (tgt := 37) hx hb dX5_run_29 (by decide) (fun _ => ?_) (fun q => absurd q (by decide))
    refine lv_iconst (v := (0 : Int32)) hx hb dX5_run_37 (by decide) ?_
    refine bM_ran3 hx hb hK hP hD hS dX5_run_38 (fun H locs hP hD hS => ?_)
    refine lv_iinc (v := (4 : Int32)) (lv' := [(2, .int (4 : Int32)), (0, .ref (h 0)), (1, .int a1)]) hx hb dX5_run_39 hl (k := 0) rfl (by decide) (by decide) rfl (fun ls hl => ?_)
    refine lv_goto (tgt := 15) hx hb dX5_run_42 (by decide) ?_
    refine lv_iload_n hx hb dX5_run_15 rfl (lv_at hl 0 rfl) ?_
    refine lv_bipush (v := (7 : Int32)) hx hb dX5_run_16 (by decide) ?_
    refine lv_icmp_ge (tgt := 45) hx hb dX5_run_18 (by decide) (fun q => absurd q (by decide)) (fun _ => ?_)
    refine lv_aload_n hx hb dX5_run_21 rfl (lv_at hl 1 rfl) ?_
    refine gM_ref6 hx hb hts hown hK hP kw_471 dX5_run_22 ?_
    refine lv_iload_n hx hb dX5_run_25 rfl (lv_at hl 0 rfl) ?_
    refine lv_iload_n hx hb dX5_run_26 rfl (lv_at hl 0 rfl) ?_
    refine lv_bipush (v := (6 : Int32)) hx hb dX5_run_27 (by decide) ?_
    refine lv_icmp_ne (tgt := 37) hx hb dX5_run_29 (by decide) (fun _ => ?_) (fun q => absurd q (by decide))
    refine lv_iconst (v := (0 : Int32)) hx hb dX5_run_37 (by decide) ?_
    refine bM_ran4 hx hb hK hP hD hS dX5_run_38 (fun H locs hP hD hS => ?_)
    refine lv_iinc (v := (5 : Int32)) (lv' := [(2, .int (5 : Int32)), (0, .ref (h 0)), (1, .int a1)]) hx hb dX5_run_39 hl (k := 0) rfl (by decide) (by decide) rfl (fun ls hl => ?_)
    refine lv_goto (tgt := 15) hx hb dX5_run_42 (by decide) ?_
    refine lv_iload_n hx hb dX5_run_15 rfl (lv_at hl 0 rfl) ?_
    refine lv_bipush (v := (7 : Int32)) hx hb dX5_run_16 (by decide) ?_
    refine lv_icmp_ge (tgt := 45) hx hb dX5_run_18 (by decide) (fun q => absurd q (by decide)) (fun _ => ?_)
    refine lv_aload_n hx hb dX5_run_21 rfl (lv_at hl 1 rfl) ?_
    refine gM_ref6 hx hb hts hown hK hP kw_471 dX5_run_22 ?_
    refine lv_iload_n hx hb dX5_run_25 rfl (lv_at hl 0 rfl) ?_
    refine lv_iload_n hx hb dX5_run_26 rfl (lv_at hl 0 rfl) ?_
    refine lv_bipush (v := (6 : Int32)) hx hb dX5_run_27 (by decide) ?_
    refine lv_icmp_ne (tgt := 37) hx hb dX5_run_29 (by decide) (fun _ => ?_) (fun q => absurd q (by decide))
    refine lv_iconst (v := (0 : Int32)) hx hb dX5_run_37 (by decide) ?_
    refine bM_ran5 hx hb hK hP hD hS dX5_run_38 (fun H locs hP hD hS => ?_)
    refine lv_iinc (v := (6 : Int32)) (lv' := [(2, .int (6 : Int32)), (0, .ref (h 0)), (1, .int a1)]) hx hb dX5_run_39 hl (k := 0) rfl (by decide) (by decide) rfl (fun ls hl => ?_)
    refine lv_goto (tgt := 15) hx hb dX5_run_42 (by decide) ?_
    refine lv_iload_n hx hb dX5_run_15 rfl (lv_at hl 0 rfl) ?_
    refine lv_bipush (v := (7 : Int32)) hx hb dX5_run_16 (by decide) ?_
    refine lv_icmp_ge (tgt := 45) hx hb dX5_run_18 (by decide) (fun q => absurd q (by decide)) (fun _ => ?_)
    refine lv_aload_n hx hb dX5_run_21 rfl (lv_at hl 1 rfl) ?_
    refine gM_ref6 hx hb hts hown hK hP kw_471 dX5_run_22 ?_
    refine lv_iload_n hx hb dX5_run_25 rfl (lv_at hl 0 rfl) ?_
    refine lv_iload_n hx hb dX5_run_26 rfl (lv_at hl 0 rfl) ?_
    refine lv_bipush (v := (6 : Int32)) hx hb dX5_run_27 (by decide) ?_
    refine lv_icmp_ne (tgt := 37) hx hb dX5_run_29 (by decide) (fun q => absurd q (by decide)) (fun _ => ?_)
    refine lv_bipush (v := (-9 : Int32)) hx hb dX5_run_32 (by decide) ?_
    refine lv_goto (tgt := 38) hx hb dX5_run_34 (by decide) ?_
    refine bM_ran6 hx hb hK hP hD hS dX5_run_38 (fun H locs hP hD hS => ?_)
    refine lv_iinc (v := (7 : Int32)) (lv' := [(2, .int (7 : Int32)), (0, .ref (h 0)), (1, .int a1)]) hx hb dX5_run_39 hl (k := 0) rfl (by decide) (by decide) rfl (fun ls hl => ?_)
    refine lv_goto (tgt := 15) hx hb dX5_run_42 (by decide) ?_
    refine lv_iload_n hx hb dX5_run_15 rfl (lv_at hl 0 rfl) ?_
    refine lv_bipush (v := (7 : Int32)) hx hb dX5_run_16 (by decide) ?_
    refine lv_icmp_ge (tgt := 45) hx hb dX5_run_18 (by decide) (fun _ => ?_) (fun q => absurd q (by decide))
    refine lv_aload_n hx hb dX5_run_45 rfl (lv_at hl 1 rfl) ?_
    refine lv_iconst (v := (0 : Int32)) hx hb dX5_run_46 (by decide) ?_
    refine pM_ended hx hb hts hown hK hP hD hS kw_472 dX5_run_47 (fun H locs hP hD hS => ?_)
    refine lv_iconst (v := (0 : Int32)) hx hb dX5_run_50 (by decide) ?_
    refine lv_istore_n (lv' := [(2, .int (0 : Int32)), (0, .ref (h 0)), (1, .int a1)]) hx hb dX5_run_51 rfl hl (by decide) rfl (fun ls hl => ?_)
    exact J_52 (Int32.toNatClampNeg a1 + 1) (s_ended (s_t6 (s_t5 (s_t4 (s_t3 (s_t2 (s_t1 (s_t0 σ (0 : Int32)) (0 : Int32)) (0 : Int32)) (0 : Int32)) (0 : Int32)) (0 : Int32)) (-9 : Int32)) (0 : Int32)) a1 (0 : Int32) _ _ _ (⟨0, rfl, rfl, Nat.zero_le _, by omega, hR (by assumption)⟩) (by unfold m_run; rw [if_neg c_8_1]) (lv_sub hl [1, 2, 0] rfl) hP hD hS
  · have c_8_1 : (m_in a1 (1 : Int32) (5000 : Int32)) = (0 : Int32) := c_8_1
    refine lv_iconst (v := (-1 : Int32)) hx hb dX5_run_11 (by decide) ?_
    have hE : m_run σ a1 = ((-1 : Int32), σ) := (by unfold m_run; rw [if_pos c_8_1])
    exact hret (-1 : Int32) σ _ _ _ _ rfl ⟨by rw [hE], by rw [hE]⟩ hP hD hS dX5_run_12
