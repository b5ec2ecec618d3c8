def m_operates_196 (σ : St) (z1_196 : Int32) : St := (s_ended σ z1_196)
def m_operates_176 (σ : St) (x1_176 : Int32) (z1_176 : Int32) : St := (if (x1_176 &&& (256 : Int32)) ≤ (0 : Int32) then m_operates_196 (s_flags σ z1_176) (g_ended σ) else m_operates_196 (s_flags σ z1_176) (1 : Int32))
def m_operates_150 (σ : St) (x1_150 : Int32) (z0_150 : Int32) : St := (if (x1_150 &&& (8 : Int32)) ≤ (0 : Int32) then m_operates_176 σ x1_150 ((g_flags σ) &&& (z0_150 ^^^ (-1 : Int32))) else m_operates_176 σ x1_150 ((g_flags σ) ||| z0_150))
def m_operates_118 (σ : St) (x1_118 : Int32) (z1_118 : Int32) : St := (if (x1_118 &&& (7 : Int32)) = (0 : Int32) then m_operates_150 (s_ac σ z1_118) x1_118 (0 : Int32) else (if (x1_118 &&& (7 : Int32)) = (7 : Int32) then m_operates_150 (s_ac σ z1_118) x1_118 (63 : Int32) else m_operates_150 (s_ac σ z1_118) x1_118 ((1 : Int32) <<< (((x1_118 &&& (7 : Int32)) - (1 : Int32)) &&& 31))))
def m_operates_92 (σ : St) (x1_92 : Int32) (z1_92 : Int32) : St := (if (x1_92 &&& (512 : Int32)) ≤ (0 : Int32) then m_operates_118 (s_ac σ z1_92) x1_92 z1_92 else m_operates_118 (s_ac σ z1_92) x1_92 (m_not z1_92))
def m_operates_65 (σ : St) (x1_65 : Int32) (z1_65 : Int32) : St := (if (x1_65 &&& (64 : Int32)) ≤ (0 : Int32) then m_operates_92 (s_ac σ z1_65) x1_65 z1_65 else m_operates_92 (s_ac σ z1_65) x1_65 (z1_65 ||| (m_place (s_ac σ z1_65))))
def m_operates_37 (σ : St) (x1_37 : Int32) (z1_37 : Int32) : St := (if (x1_37 &&& (1024 : Int32)) ≤ (0 : Int32) then m_operates_65 (s_io σ z1_37) x1_37 (g_ac σ) else m_operates_65 (s_io σ z1_37) x1_37 ((g_ac σ) ||| (g_test σ)))
def m_operates_17 (σ : St) (x1_17 : Int32) (z1_17 : Int32) : St := (if (x1_17 &&& (2048 : Int32)) ≤ (0 : Int32) then m_operates_37 (s_ac σ z1_17) x1_17 (g_io σ) else m_operates_37 (s_ac σ z1_17) x1_17 (0 : Int32))
def m_operates (σ : St) (a1 : Int32) : St := (if (a1 &&& (128 : Int32)) ≤ (0 : Int32) then m_operates_17 σ a1 (g_ac σ) else m_operates_17 σ a1 (0 : Int32))
set_option maxRecDepth 100000 in
set_option maxHeartbeats 8000000 in
theorem kX5_operates (l : Launch) (D : va_G) (cI : ClassId) (h : Nat → Nat) (σ : St) (a1 : Int32) : MetV l yX5_operates (wsU yX5_operates cX5_operates 4 none) { frames := 1, cells := 0, slots := 0, locals := 20 } D cI [.ref (h 0), .int a1] (wM h cI σ) (fun u : St => wM h cI u) (fun u => (m_operates σ a1) = u) := by
  refine MetV.of (by decide) (Nat.le_of_ble_eq_true rfl) ?_
  intro p e s m below meth c A Q ls hx hb hml hown hts hK hN hA hret hP hD hS hl
  have hown : s.vm.findClass RX5 = some m.cls := hown
  have hl : lv_has ls 4 [(0, .ref (h 0)), (1, .int a1)] := hl
  have J_196 : ∀ (σ' : St) (z1_196 : Int32) (H : Heap) (locs : List Loc) (ls : Array Slot), m_operates σ a1 = m_operates_196 σ' z1_196 → lv_has ls 4 [(0, .ref (h 0))] → va_P D vwCl (wM h cI σ') H → va_D A (wM h cI σ') → va_S A s.heap H locs → W p l e ({ frames := 1, cells := 0, slots := 0, locals := 20 } : Room) s m (([.ref (h 0), .int a1] : List Value).toArray) below meth c H locs 0 0 Q (F0 m 196 ls [.int z1_196, .ref (h 0)]) := by
    intro σ' z1_196 H locs ls E hl hP hD hS
    refine pM_ended hx hb hts hown hK hP hD hS kw_472 dX5_operates_196 (fun H locs hP hD hS => ?_)
    have hE : m_operates σ a1 = (s_ended σ' z1_196) := (E.trans (by unfold m_operates_196; rfl))
    exact hret (s_ended σ' z1_196) _ _ _ _ hE hP hD hS dX5_operates_199
  have J_176 : ∀ (σ' : St) (x1_176 : Int32) (z1_176 : Int32) (H : Heap) (locs : List Loc) (ls : Array Slot), m_operates σ a1 = m_operates_176 σ' x1_176 z1_176 → lv_has ls 4 [(0, .ref (h 0)), (1, .int x1_176)] → va_P D vwCl (wM h cI σ') H → va_D A (wM h cI σ') → va_S A s.heap H locs → W p l e ({ frames := 1, cells := 0, slots := 0, locals := 20 } : Room) s m (([.ref (h 0), .int a1] : List Value).toArray) below meth c H locs 0 0 Q (F0 m 176 ls [.int z1_176, .ref (h 0)]) := by
    intro σ' x1_176 z1_176 H locs ls E hl hP hD hS
    refine pM_flags hx hb hts hown hK hP hD hS kw_456 dX5_operates_176 (fun H locs hP hD hS => ?_)
    refine lv_aload_n hx hb dX5_operates_179 rfl (lv_at hl 0 rfl) ?_
    refine lv_iload_n hx hb dX5_operates_180 rfl (lv_at hl 1 rfl) ?_
    refine lv_sipush (v := (256 : Int32)) hx hb dX5_operates_181 (by decide) ?_
    refine lv_iand hx hb dX5_operates_184 ?_
    refine lv_if_le (tgt := 192) hx hb dX5_operates_185 (by decide) (fun c_185_9 => ?_) (fun c_185_9 => ?_)
    · have c_185_9 : (x1_176 &&& (256 : Int32)) ≤ (0 : Int32) := c_185_9
      refine lv_aload_n hx hb dX5_operates_192 rfl (lv_at hl 0 rfl) ?_
      refine gM_ended (v := (g_ended σ')) hx hb hts hown hK hP kw_472 rfl dX5_operates_193 ?_
      exact J_196 (s_flags σ' z1_176) (g_ended σ') _ _ _ (E.trans (by unfold m_operates_176; rw [if_pos c_185_9])) (lv_sub hl [0] rfl) hP hD hS
    · have c_185_9 : ¬ ((x1_176 &&& (256 : Int32)) ≤ (0 : Int32)) := c_185_9
      refine lv_iconst (v := (1 : Int32)) hx hb dX5_operates_188 (by decide) ?_
      refine lv_goto (tgt := 196) hx hb dX5_operates_189 (by decide) ?_
      exact J_196 (s_flags σ' z1_176) (1 : Int32) _ _ _ (E.trans (by unfold m_operates_176; rw [if_neg c_185_9])) (lv_sub hl [0] rfl) hP hD hS
  have J_150 : ∀ (σ' : St) (x1_150 : Int32) (z0_150 : Int32) (H : Heap) (locs : List Loc) (ls : Array Slot), m_operates σ a1 = m_operates_150 σ' x1_150 z0_150 → lv_has ls 4 [(0, .ref (h 0)), (1, .int x1_150)] → va_P D vwCl (wM h cI σ') H → va_D A (wM h cI σ') → va_S A s.heap H locs → W p l e ({ frames := 1, cells := 0, slots := 0, locals := 20 } : Room) s m (([.ref (h 0), .int a1] : List Value).toArray) below meth c H locs 0 0 Q (F0 m 150 ls [.int z0_150]) := by
    intro σ' x1_150 z0_150 H locs ls E hl hP hD hS
    refine lv_istore_n (lv' := [(3, .int z0_150), (0, .ref (h 0)), (1, .int x1_150)]) hx hb dX5_operates_150 rfl hl (by decide) rfl (fun ls hl => ?_)
    refine lv_aload_n hx hb dX5_operates_151 rfl (lv_at hl 1 rfl) ?_
    refine lv_iload_n hx hb dX5_operates_152 rfl (lv_at hl 2 rfl) ?_
    refine lv_bipush (v := (8 : Int32)) hx hb dX5_operates_153 (by decide) ?_
    refine lv_iand hx hb dX5_operates_155 ?_
    refine lv_if_le (tgt := 168) hx hb dX5_operates_156 (by decide) (fun c_156_8 => ?_) (fun c_156_8 => ?_)
    · have c_156_8 : (x1_150 &&& (8 : Int32)) ≤ (0 : Int32) := c_156_8
      refine lv_aload_n hx hb dX5_operates_168 rfl (lv_at hl 1 rfl) ?_
      refine gM_flags (v := (g_flags σ')) hx hb hts hown hK hP kw_456 rfl dX5_operates_169 ?_
      refine lv_iload_n hx hb dX5_operates_172 rfl (lv_at hl 0 rfl) ?_
      refine lv_iconst (v := (-1 : Int32)) hx hb dX5_operates_173 (by decide) ?_
      refine lv_ixor hx hb dX5_operates_174 ?_
      refine lv_iand hx hb dX5_operates_175 ?_
      exact J_176 σ' x1_150 ((g_flags σ') &&& (z0_150 ^^^ (-1 : Int32))) _ _ _ (E.trans (by unfold m_operates_150; rw [if_pos c_156_8])) (lv_sub hl [1, 2] rfl) hP hD hS
    · have c_156_8 : ¬ ((x1_150 &&& (8 : Int32)) ≤ (0 : Int32)) := c_156_8
      refine lv_aload_n hx hb dX5_operates_159 rfl (lv_at hl 1 rfl) ?_
      refine gM_flags (v := (g_flags σ')) hx hb hts hown hK hP kw_456 rfl dX5_operates_160 ?_
      refine lv_iload_n hx hb dX5_operates_163 rfl (lv_at hl 0 rfl) ?_
      refine lv_ior hx hb dX5_operates_164 ?_
      refine lv_goto (tgt := 176) hx hb dX5_operates_165 (by decide) ?_
      exact J_176 σ' x1_150 ((g_flags σ') ||| z0_150) _ _ _ (E.trans (by unfold m_operates_150; rw [if_neg c_156_8])) (lv_sub hl [1, 2] rfl) hP hD hS
  have J_118 : ∀ (σ' : St) (x1_118 : Int32) (z1_118 : Int32) (H : Heap) (locs : List Loc) (ls : Array Slot), m_operates σ a1 = m_operates_118 σ' x1_118 z1_118 → lv_has ls 4 [(0, .ref (h 0)), (1, .int x1_118)] → va_P D vwCl (wM h cI σ') H → va_D A (wM h cI σ') → va_S A s.heap H locs → W p l e ({ frames := 1, cells := 0, slots := 0, locals := 20 } : Room) s m (([.ref (h 0), .int a1] : List Value).toArray) below meth c H locs 0 0 Q (F0 m 118 ls [.int z1_118, .ref (h 0)]) := by
    intro σ' x1_118 z1_118 H locs ls E hl hP hD hS
    refine pM_ac hx hb hts hown hK hP hD hS kw_452 dX5_operates_118 (fun H locs hP hD hS => ?_)
    refine lv_iload_n hx hb dX5_operates_121 rfl (lv_at hl 1 rfl) ?_
    refine lv_bipush (v := (7 : Int32)) hx hb dX5_operates_122 (by decide) ?_
    refine lv_iand hx hb dX5_operates_124 ?_
    refine lv_istore_n (lv' := [(2, .int (x1_118 &&& (7 : Int32))), (0, .ref (h 0)), (1, .int x1_118)]) hx hb dX5_operates_125 rfl hl (by decide) rfl (fun ls hl => ?_)
    refine lv_iload_n hx hb dX5_operates_126 rfl (lv_at hl 0 rfl) ?_
    refine lv_if_ne (tgt := 134) hx hb dX5_operates_127 (by decide) (fun c_127_6 => ?_) (fun c_127_6 => ?_)
    · have c_127_6 : ¬ ((x1_118 &&& (7 : Int32)) = (0 : Int32)) := c_127_6
      refine lv_iload_n hx hb dX5_operates_134 rfl (lv_at hl 0 rfl) ?_
      refine lv_bipush (v := (7 : Int32)) hx hb dX5_operates_135 (by decide) ?_
      refine lv_icmp_ne (tgt := 145) hx hb dX5_operates_137 (by decide) (fun c_137_7 => ?_) (fun c_137_7 => ?_)
      · have c_137_7 : ¬ ((x1_118 &&& (7 : Int32)) = (7 : Int32)) := c_137_7
        refine lv_iconst (v := (1 : Int32)) hx hb dX5_operates_145 (by decide) ?_
        refine lv_iload_n hx hb dX5_operates_146 rfl (lv_at hl 0 rfl) ?_
        refine lv_iconst (v := (1 : Int32)) hx hb dX5_operates_147 (by decide) ?_
        refine lv_isub hx hb dX5_operates_148 ?_
        refine lv_ishl hx hb dX5_operates_149 ?_
        exact J_150 (s_ac σ' z1_118) x1_118 ((1 : Int32) <<< (((x1_118 &&& (7 : Int32)) - (1 : Int32)) &&& 31)) _ _ _ (E.trans (by unfold m_operates_118; rw [if_neg c_127_6, if_neg c_137_7])) (lv_sub hl [1, 2] rfl) hP hD hS
      · have c_137_7 : (x1_118 &&& (7 : Int32)) = (7 : Int32) := c_137_7
        refine lv_bipush (v := (63 : Int32)) hx hb dX5_operates_140 (by decide) ?_
        refine lv_goto (tgt := 150) hx hb dX5_operates_142 (by decide) ?_
        exact J_150 (s_ac σ' z1_118) x1_118 (63 : Int32) _ _ _ (E.trans (by unfold m_operates_118; rw [if_neg c_127_6, if_pos c_137_7])) (lv_sub hl [1, 2] rfl) hP hD hS
    · have c_127_6 : (x1_118 &&& (7 : Int32)) = (0 : Int32) := c_127_6
      refine lv_iconst (v := (0 : Int32)) hx hb dX5_operates_130 (by decide) ?_
      refine lv_goto (tgt := 150) hx hb dX5_operates_131 (by decide) ?_
      exact J_150 (s_ac σ' z1_118) x1_118 (0 : Int32) _ _ _ (E.trans (by unfold m_operates_118; rw [if_pos c_127_6])) (lv_sub hl [1, 2] rfl) hP hD hS
  have J_92 : ∀ (σ' : St) (x1_92 : Int32) (z1_92 : Int32) (H : Heap) (locs : List Loc) (ls : Array Slot), m_operates σ a1 = m_operates_92 σ' x1_92 z1_92 → lv_has ls 4 [(0, .ref (h 0)), (1, .int x1_92)] → va_P D vwCl (wM h cI σ') H → va_D A (wM h cI σ') → va_S A s.heap H locs → W p l e ({ frames := 1, cells := 0, slots := 0, locals := 20 } : Room) s m (([.ref (h 0), .int a1] : List Value).toArray) below meth c H locs 0 0 Q (F0 m 92 ls [.int z1_92, .ref (h 0)]) := by
    intro σ' x1_92 z1_92 H locs ls E hl hP hD hS
    refine pM_ac hx hb hts hown hK hP hD hS kw_452 dX5_operates_92 (fun H locs hP hD hS => ?_)
    refine lv_aload_n hx hb dX5_operates_95 rfl (lv_at hl 0 rfl) ?_
    refine lv_iload_n hx hb dX5_operates_96 rfl (lv_at hl 1 rfl) ?_
    refine lv_sipush (v := (512 : Int32)) hx hb dX5_operates_97 (by decide) ?_
    refine lv_iand hx hb dX5_operates_100 ?_
    refine lv_if_le (tgt := 114) hx hb dX5_operates_101 (by decide) (fun c_101_5 => ?_) (fun c_101_5 => ?_)
    · have c_101_5 : (x1_92 &&& (512 : Int32)) ≤ (0 : Int32) := c_101_5
      refine lv_aload_n hx hb dX5_operates_114 rfl (lv_at hl 0 rfl) ?_
      refine gM_ac (v := z1_92) hx hb hts hown hK hP kw_452 rfl dX5_operates_115 ?_
      exact J_118 (s_ac σ' z1_92) x1_92 z1_92 _ _ _ (E.trans (by unfold m_operates_92; rw [if_pos c_101_5])) (lv_sub hl [0, 1] rfl) hP hD hS
    · have c_101_5 : ¬ ((x1_92 &&& (512 : Int32)) ≤ (0 : Int32)) := c_101_5
      refine lv_aload_n hx hb dX5_operates_104 rfl (lv_at hl 0 rfl) ?_
      refine gM_ac (v := z1_92) hx hb hts hown hK hP kw_452 rfl dX5_operates_105 ?_
      refine call_Si 1 (kX5_not l D cI _ z1_92) ⟨hx, hb, hml, hown, hts, hK, hN, hA⟩ ⟨kw_598, kw_599, kw_6, kw_600, by decide +kernel, rfl, rfl, Nat.le_of_ble_eq_true rfl, Nat.le_of_ble_eq_true rfl⟩ rfl hP hD hS hl.1 rfl (Nat.le_of_ble_eq_true rfl) dX5_operates_108 ⟨Nat.zero_le _, Nat.zero_le _⟩ (fun r108 u H locs hw hP hD hS => ?_)
      have hw : (m_not z1_92) = r108 := hw
      subst hw
      refine lv_goto (tgt := 118) hx hb dX5_operates_111 (by decide) ?_
      exact J_118 (s_ac σ' z1_92) x1_92 (m_not z1_92) _ _ _ (E.trans (by unfold m_operates_92; rw [if_neg c_101_5])) (lv_sub hl [0, 1] rfl) hP hD hS
  have J_65 : ∀ (σ' : St) (x1_65 : Int32) (z1_65 : Int32) (H : Heap) (locs : List Loc) (ls : Array Slot), m_operates σ a1 = m_operates_65 σ' x1_65 z1_65 → lv_has ls 4 [(0, .ref (h 0)), (1, .int x1_65)] → va_P D vwCl (wM h cI σ') H → va_D A (wM h cI σ') → va_S A s.heap H locs → W p l e ({ frames := 1, cells := 0, slots := 0, locals := 20 } : Room) s m (([.ref (h 0), .int a1] : List Value).toArray) below meth c H locs 0 0 Q (F0 m 65 ls [.int z1_65, .ref (h 0)]) := by
    intro σ' x1_65 z1_65 H locs ls E hl hP hD hS
    refine pM_ac hx hb hts hown hK hP hD hS kw_452 dX5_operates_65 (fun H locs hP hD hS => ?_)
    refine lv_aload_n hx hb dX5_operates_68 rfl (lv_at hl 0 rfl) ?_
    refine lv_iload_n hx hb dX5_operates_69 rfl (lv_at hl 1 rfl) ?_
    refine lv_bipush (v := (64 : Int32)) hx hb dX5_operates_70 (by decide) ?_
    refine lv_iand hx hb dX5_operates_72 ?_
    refine lv_if_le (tgt := 88) hx hb dX5_operates_73 (by decide) (fun c_73_4 => ?_) (fun c_73_4 => ?_)
    · have c_73_4 : (x1_65 &&& (64 : Int32)) ≤ (0 : Int32) := c_73_4
      refine lv_aload_n hx hb dX5_operates_88 rfl (lv_at hl 0 rfl) ?_
      refine gM_ac (v := z1_65) hx hb hts hown hK hP kw_452 rfl dX5_operates_89 ?_
      exact J_92 (s_ac σ' z1_65) x1_65 z1_65 _ _ _ (E.trans (by unfold m_operates_65; rw [if_pos c_73_4])) (lv_sub hl [0, 1] rfl) hP hD hS
    · have c_73_4 : ¬ ((x1_65 &&& (64 : Int32)) ≤ (0 : Int32)) := c_73_4
      refine lv_aload_n hx hb dX5_operates_76 rfl (lv_at hl 0 rfl) ?_
      refine gM_ac (v := z1_65) hx hb hts hown hK hP kw_452 rfl dX5_operates_77 ?_
      refine lv_aload_n hx hb dX5_operates_80 rfl (lv_at hl 0 rfl) ?_
      refine call_Vi 0 (kX5_place l D cI h _) ⟨hx, hb, hml, hown, hts, hK, hN, hA⟩ ⟨kw_563, kw_565, ks_yX5_place, kw_6, kw_566, by decide +kernel, rfl, rfl, Nat.le_of_ble_eq_true rfl, Nat.le_of_ble_eq_true rfl⟩ rfl (va_recv hK hP (ci := 5) (q0 := 0) rfl rfl) hP hD hS hl.1 rfl (Nat.le_of_ble_eq_true rfl) dX5_operates_81 ⟨Nat.zero_le _, Nat.zero_le _⟩ (fun r81 u H locs hw hP hD hS => ?_)
      have hw : (m_place (s_ac σ' z1_65)) = r81 := hw
      subst hw
      refine lv_ior hx hb dX5_operates_84 ?_
      refine lv_goto (tgt := 92) hx hb dX5_operates_85 (by decide) ?_
      exact J_92 (s_ac σ' z1_65) x1_65 (z1_65 ||| (m_place (s_ac σ' z1_65))) _ _ _ (E.trans (by unfold m_operates_65; rw [if_neg c_73_4])) (lv_sub hl [0, 1] rfl) hP hD hS
  have J_37 : ∀ (σ' : St) (x1_37 : Int32) (z1_37 : Int32) (H : Heap) (locs : List Loc) (ls : Array Slot), m_operates σ a1 = m_operates_37 σ' x1_37 z1_37 → lv_has ls 4 [(0, .ref (h 0)), (1, .int x1_37)] → va_P D vwCl (wM h cI σ') H → va_D A (wM h cI σ') → va_S A s.heap H locs → W p l e ({ frames := 1, cells := 0, slots := 0, locals := 20 } : Room) s m (([.ref (h 0), .int a1] : List Value).toArray) below meth c H locs 0 0 Q (F0 m 37 ls [.int z1_37, .ref (h 0)]) := by
    intro σ' x1_37 z1_37 H locs ls E hl hP hD hS
    refine pM_io hx hb hts hown hK hP hD hS kw_453 dX5_operates_37 (fun H locs hP hD hS => ?_)
    refine lv_aload_n hx hb dX5_operates_40 rfl (lv_at hl 0 rfl) ?_
    refine lv_iload_n hx hb dX5_operates_41 rfl (lv_at hl 1 rfl) ?_
    refine lv_sipush (v := (1024 : Int32)) hx hb dX5_operates_42 (by decide) ?_
    refine lv_iand hx hb dX5_operates_45 ?_
    refine lv_if_le (tgt := 61) hx hb dX5_operates_46 (by decide) (fun c_46_3 => ?_) (fun c_46_3 => ?_)
    · have c_46_3 : (x1_37 &&& (1024 : Int32)) ≤ (0 : Int32) := c_46_3
      refine lv_aload_n hx hb dX5_operates_61 rfl (lv_at hl 0 rfl) ?_
      refine gM_ac (v := (g_ac σ')) hx hb hts hown hK hP kw_452 rfl dX5_operates_62 ?_
      exact J_65 (s_io σ' z1_37) x1_37 (g_ac σ') _ _ _ (E.trans (by unfold m_operates_37; rw [if_pos c_46_3])) (lv_sub hl [0, 1] rfl) hP hD hS
    · have c_46_3 : ¬ ((x1_37 &&& (1024 : Int32)) ≤ (0 : Int32)) := c_46_3
      refine lv_aload_n hx hb dX5_operates_49 rfl (lv_at hl 0 rfl) ?_
      refine gM_ac (v := (g_ac σ')) hx hb hts hown hK hP kw_452 rfl dX5_operates_50 ?_
      refine lv_aload_n hx hb dX5_operates_53 rfl (lv_at hl 0 rfl) ?_
      refine gM_test (v := (g_test σ')) hx hb hts hown hK hP kw_461 rfl dX5_operates_54 ?_
      refine lv_ior hx hb dX5_operates_57 ?_
      refine lv_goto (tgt := 65) hx hb dX5_operates_58 (by decide) ?_
      exact J_65 (s_io σ' z1_37) x1_37 ((g_ac σ') ||| (g_test σ')) _ _ _ (E.trans (by unfold m_operates_37; rw [if_neg c_46_3])) (lv_sub hl [0, 1] rfl) hP hD hS
  have J_17 : ∀ (σ' : St) (x1_17 : Int32) (z1_17 : Int32) (H : Heap) (locs : List Loc) (ls : Array Slot), m_operates σ a1 = m_operates_17 σ' x1_17 z1_17 → lv_has ls 4 [(0, .ref (h 0)), (1, .int x1_17)] → va_P D vwCl (wM h cI σ') H → va_D A (wM h cI σ') → va_S A s.heap H locs → W p l e ({ frames := 1, cells := 0, slots := 0, locals := 20 } : Room) s m (([.ref (h 0), .int a1] : List Value).toArray) below meth c H locs 0 0 Q (F0 m 17 ls [.int z1_17, .ref (h 0)]) := by
    intro σ' x1_17 z1_17 H locs ls E hl hP hD hS
    refine pM_ac hx hb hts hown hK hP hD hS kw_452 dX5_operates_17 (fun H locs hP hD hS => ?_)
    refine lv_aload_n hx hb dX5_operates_20 rfl (lv_at hl 0 rfl) ?_
    refine lv_iload_n hx hb dX5_operates_21 rfl (lv_at hl 1 rfl) ?_
    refine lv_sipush (v := (2048 : Int32)) hx hb dX5_operates_22 (by decide) ?_
    refine lv_iand hx hb dX5_operates_25 ?_
    refine lv_if_le (tgt := 33) hx hb dX5_operates_26 (by decide) (fun c_26_2 => ?_) (fun c_26_2 => ?_)
    · have c_26_2 : (x1_17 &&& (2048 : Int32)) ≤ (0 : Int32) := c_26_2
      refine lv_aload_n hx hb dX5_operates_33 rfl (lv_at hl 0 rfl) ?_
      refine gM_io (v := (g_io σ')) hx hb hts hown hK hP kw_453 rfl dX5_operates_34 ?_
      exact J_37 (s_ac σ' z1_17) x1_17 (g_io σ') _ _ _ (E.trans (by unfold m_operates_17; rw [if_pos c_26_2])) (lv_sub hl [0, 1] rfl) hP hD hS
    · have c_26_2 : ¬ ((x1_17 &&& (2048 : Int32)) ≤ (0 : Int32)) := c_26_2
      refine lv_iconst (v := (0 : Int32)) hx hb dX5_operates_29 (by decide) ?_
      refine lv_goto (tgt := 37) hx hb dX5_operates_30 (by decide) ?_
      exact J_37 (s_ac σ' z1_17) x1_17 (0 : Int32) _ _ _ (E.trans (by unfold m_operates_17; rw [if_neg c_26_2])) (lv_sub hl [0, 1] rfl) hP hD hS
  suffices go : ∀ (H : Heap) (locs : List Loc), va_P D vwCl (wM h cI σ) H → va_D A (wM h cI σ) → va_S A s.heap H locs → W p l e ({ frames := 1, cells := 0, slots := 0, locals := 20 } : Room) s m (([.ref (h 0), .int a1] : List Value).toArray) below meth c H locs 0 0 Q (F0 m 0 ls []) from go _ _ hP hD hS
  intro H locs hP hD hS
  refine lv_aload_n hx hb dX5_operates_0 rfl (lv_at hl 0 rfl) ?_
  refine lv_iload_n hx hb dX5_operates_1 rfl (lv_at hl 1 rfl) ?_
  refine lv_sipush (v := (128 : Int32)) hx hb dX5_operates_2 (by decide) ?_
  refine lv_iand hx hb dX5_operates_5 ?_
  refine lv_if_le (tgt := 13) hx hb dX5_operates_6 (by decide) (fun c_6_1 => ?_) (fun c_6_1 => ?_)
  · have c_6_1 : (a1 &&& (128 : Int32)) ≤ (0 : Int32) := c_6_1
    refine lv_aload_n hx hb dX5_operates_13 rfl (lv_at hl 0 rfl) ?_
    refine gM_ac (v := (g_ac σ)) hx hb hts hown hK hP kw_452 rfl dX5_operates_14 ?_
    exact J_17 σ a1 (g_ac σ) _ _ _ (by unfold m_operates; rw [if_pos c_6_1]) (lv_sub hl [0, 1] rfl) hP hD hS
  · have c_6_1 : ¬ ((a1 &&& (128 : Int32)) ≤ (0 : Int32)) := c_6_1
    refine lv_iconst (v := (0 : Int32)) hx hb dX5_operates_9 (by decide) ?_
    refine lv_goto (tgt := 17) hx hb dX5_operates_10 (by decide) ?_
    exact J_17 σ a1 (0 : Int32) _ _ _ (by unfold m_operates; rw [if_neg c_6_1]) (lv_sub hl [0, 1] rfl) hP hD hS
