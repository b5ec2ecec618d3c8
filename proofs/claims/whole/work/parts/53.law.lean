theorem ncl_in : ∀ q ∈ ncl, Cond.fieldLinkNest RX4 q.1 q.2.1 q.2.2.1 q.2.2.2 "SignedCore" ∈ lw_tbl := by
  unfold ncl
  exact List.forall_mem_cons.mpr ⟨kw_87, List.forall_mem_cons.mpr ⟨kw_75, List.forall_mem_cons.mpr ⟨kw_77, List.forall_mem_cons.mpr ⟨kw_79, List.forall_mem_cons.mpr ⟨kw_81, List.forall_mem_cons.mpr ⟨kw_83, List.forall_mem_cons.mpr ⟨kw_85, List.forall_mem_cons.mpr ⟨kw_89, List.forall_mem_cons.mpr ⟨kw_60, List.forall_mem_cons.mpr ⟨kw_43, List.forall_mem_cons.mpr ⟨kw_41,  fun _ h => absurd h List.not_mem_nil⟩⟩⟩⟩⟩⟩⟩⟩⟩⟩⟩
theorem cN_of {args : Array Value} {s : State} (hts : ∀ w ∈ lw_tbl, w.before args s = true) : cN s := by
  intro w hw
  obtain ⟨q, hq, rfl⟩ := List.mem_map.mp hw
  exact va_Nw.of rfl (hts _ (ncl_in q hq))
set_option maxRecDepth 100000 in
set_option maxHeartbeats 16000000 in
/-- the law's loop: at its head, with 5 k ints read, class and reference hold one state -/
theorem law_loop {p : Program} {l : Launch} {e : Env} {s : State} {m : MethodId} {below : List Frame} {meth : Method} {c : Code} {D : va_G} {cI : ClassId} {b L : Nat} {xs : Nat → Int32} (hL : L ≤ 2560) (C0 : lw_At p s m meth c b L xs) (hK : va_K D vwCl [(cI, .int)] s) (hN : cN s) :
    ∀ (n k : Nat) (σ : St) (x3 : Int32) (fX fM : Nat → Nat) (H : Heap) (locs : List Loc) (ls : Array Slot), k + n = 513 → 5 * k ≤ L → x3 = nI (5 * k) → IV (1 + 5001 * k) σ → va_P D vwCl (wX fX cI σ ++ wM fM cI σ) H → va_D (fun q : Nat => s.heap.size ≤ q) (wX fX cI σ ++ wM fM cI σ) → va_S (fun q : Nat => s.heap.size ≤ q) s.heap H locs → lv_has ls 4 [(0, .ref b), (1, .ref (fX 0)), (2, .ref (fM 0)), (3, .int x3)] → W p l e room_1 s m #[Value.ref b] below meth c H locs 17 8838 (lw_Z below #[Value.ref b] s) (F0 m 18 ls []) := by
  obtain ⟨hx, hb, hr, hml, hown, hts0, hX, hbl, hlocks, hgv⟩ := C0
  have hown : s.vm.findClass RL = some m.cls := hown
  have hts : ∀ w ∈ wsG, w.before #[Value.ref b] s = true := fun w h => hts0 w (wsG_in h)
  have hA : ∀ q : Nat, s.heap.size ≤ q → (fun q : Nat => s.heap.size ≤ q) q := fun _ h => h
  have hbA : ¬ (fun q : Nat => s.heap.size ≤ q) b := Nat.not_le.mpr hbl
  intro n
  induction n with
  | zero => intro k σ x3 fX fM H locs ls h1 h2; omega
  | succ n ih =>
    intro k σ x3 fX fM H locs ls h1 h2 ex hI hP hD hS hl
    have hB : 1 + 5001 * k + 5001 < 2147483648 := by omega
    have up : ∀ {τ : St}, IV (1 + 5001 * k) τ → IV (1 + 5001 * (k + 1)) τ := fun q => q.mono (by omega) (by omega)
    refine lv_iload_n hx hb dL_law_18 rfl (lv_at hl 3 rfl) ?_
    refine lv_aload_n hx hb dL_law_19 rfl (lv_at hl 0 rfl) ?_
    refine va_slen hx hb hX hbl hbA hS dL_law_20 ?_
    refine lv_iconst (v := (5 : Int32)) hx hb dL_law_21 (by decide) ?_
    refine lv_isub hx hb dL_law_22 ?_
    refine lv_icmp_gt (tgt := 583) hx hb dL_law_23 (by decide) (fun _ => ?_) (fun c23 => ?_)
    · refine lv_iconst (v := 1) hx hb dL_law_583 (by decide) ?_
      refine va_forget (fun q hq => hS.2.2 q hq) ?_
      refine W.widen (k := 17) (n := 8838) (Nat.le_refl 17) (Nat.le_refl 8838) ?_
      exact lw_ret hx hb hr hlocks dL_law_584
    · have c23 : ¬ (nI L - (5 : Int32)) < x3 := c23
      have hlt : 5 * k + 5 ≤ L := by
        have q : ¬ (nI L - nI 5).toInt < (nI (5 * k)).toInt := fun z => c23 (by rw [ex]; exact Int32.lt_iff_toInt_lt.mpr z)
        rw [pk_sub_toInt (by omega) (by decide), nI_toInt (by omega)] at q
        omega
      have v0 : vp_in x3 L := by rw [ex]; exact vp_in_nI (by omega) (by omega)
      have v1 : vp_in (x3 + (1 : Int32)) L := by rw [ex, nI_1]; exact vp_in_nI (by omega) (by omega)
      have v2 : vp_in (x3 + (2 : Int32)) L := by rw [ex, show (2 : Int32) = nI 2 from rfl, nI_add]; exact vp_in_nI (by omega) (by omega)
      have v3 : vp_in (x3 + (3 : Int32)) L := by rw [ex, show (3 : Int32) = nI 3 from rfl, nI_add]; exact vp_in_nI (by omega) (by omega)
      have v4 : vp_in (x3 + (4 : Int32)) L := by rw [ex, show (4 : Int32) = nI 4 from rfl, nI_add]; exact vp_in_nI (by omega) (by omega)
      have nxt : ∀ (τ : St) (H : Heap) (locs : List Loc), IV (1 + 5001 * (k + 1)) τ → va_P D vwCl (wX fX cI τ ++ wM fM cI τ) H → va_D (fun q : Nat => s.heap.size ≤ q) (wX fX cI τ ++ wM fM cI τ) → va_S (fun q : Nat => s.heap.size ≤ q) s.heap H locs → W p l e room_1 s m #[Value.ref b] below meth c H locs 17 8838 (lw_Z below #[Value.ref b] s) (F0 m 577 ls []) := by
        intro τ H locs hI hP hD hS
        refine lv_iinc (v := x3 + (5 : Int32)) (lv' := [(3, .int (x3 + (5 : Int32))), (0, .ref b), (1, .ref (fX 0)), (2, .ref (fM 0))]) hx hb dL_law_577 hl (k := 3) rfl rfl (by decide) rfl (fun ls hl => ?_)
        refine lv_goto (tgt := 18) hx hb dL_law_580 (by decide) ?_
        exact ih (k + 1) τ (x3 + (5 : Int32)) fX fM H locs ls (by omega) (by omega) (by rw [ex, show (5 : Int32) = nI 5 from rfl, nI_add]; congr 1) hI hP hD hS (lv_sub hl [1, 2, 3, 0] rfl)
      refine lv_aload_n hx hb dL_law_26 rfl (lv_at hl 0 rfl) ?_
      refine lv_iload_n hx hb dL_law_27 rfl (lv_at hl 3 rfl) ?_
      refine va_sld hx hb hX hbl hbA hS v0 dL_law_28 ?_
      refine lv_bipush (v := (31 : Int32)) hx hb dL_law_29 (by decide) ?_
      refine lv_iand hx hb dL_law_31 ?_
      refine lv_topi (fun w ew => ?_)
      by_cases s_0 : w = (0 : Int32)
      · refine lv_tableIn (off := 84) (tgt := 116) hx hb dL_law_32 (by rw [s_0]; decide) (by rw [s_0]; decide) (by rw [s_0]; rfl) (by decide) ?_
        refine lv_aload_n hx hb dL_law_116 rfl (lv_at hl 1 rfl) ?_
        refine lv_aload_n hx hb dL_law_117 rfl (lv_at hl 0 rfl) ?_
        refine lv_iload_n hx hb dL_law_118 rfl (lv_at hl 3 rfl) ?_
        refine lv_iconst (v := (1 : Int32)) hx hb dL_law_119 (by decide) ?_
        refine lv_iadd hx hb dL_law_120 ?_
        refine va_sld hx hb hX hbl hbA hS v1 dL_law_121 ?_
        refine lv_aload_n hx hb dL_law_122 rfl (lv_at hl 0 rfl) ?_
        refine lv_iload_n hx hb dL_law_123 rfl (lv_at hl 3 rfl) ?_
        refine lv_iconst (v := (2 : Int32)) hx hb dL_law_124 (by decide) ?_
        refine lv_iadd hx hb dL_law_125 ?_
        refine va_sld hx hb hX hbl hbA hS v2 dL_law_126 ?_
        refine call_Vi1 2 (kX4_put l D cI fX σ (xs (Int32.toNatClampNeg (x3 + (1 : Int32)))) (xs (Int32.toNatClampNeg (x3 + (2 : Int32))))) ⟨hx, hb, hml, hown, hts, hK, hN, hA⟩ ⟨kw_153, kw_154, kw_155, kw_1, kw_156, by decide +kernel, rfl, rfl, Nat.le_of_ble_eq_true rfl, Nat.le_of_ble_eq_true rfl⟩ rfl (va_recv hK hP (ci := 4) (q0 := 0) rfl rfl) hP hD hS hl.1 rfl (Nat.le_of_ble_eq_true rfl) dL_law_127 ⟨Nat.le_of_ble_eq_true rfl, Nat.le_of_ble_eq_true rfl⟩ (fun r1 u H locs hw hP hD hS => ?_)
        obtain ⟨hw, hw2⟩ : (x4_put σ (xs (Int32.toNatClampNeg (x3 + (1 : Int32)))) (xs (Int32.toNatClampNeg (x3 + (2 : Int32))))).1 = r1 ∧ (x4_put σ (xs (Int32.toNatClampNeg (x3 + (1 : Int32)))) (xs (Int32.toNatClampNeg (x3 + (2 : Int32))))).2 = u := hw
        subst hw
        subst hw2
        have hP : va_P D vwCl (wX fX cI (x4_put σ (xs (Int32.toNatClampNeg (x3 + (1 : Int32)))) (xs (Int32.toNatClampNeg (x3 + (2 : Int32))))).2 ++ wM fM cI σ) H := hP
        have hD : va_D (fun q : Nat => s.heap.size ≤ q) (wX fX cI (x4_put σ (xs (Int32.toNatClampNeg (x3 + (1 : Int32)))) (xs (Int32.toNatClampNeg (x3 + (2 : Int32))))).2 ++ wM fM cI σ) := hD
        refine lv_aload_n hx hb dL_law_130 rfl (lv_at hl 2 rfl) ?_
        refine lv_aload_n hx hb dL_law_131 rfl (lv_at hl 0 rfl) ?_
        refine lv_iload_n hx hb dL_law_132 rfl (lv_at hl 3 rfl) ?_
        refine lv_iconst (v := (1 : Int32)) hx hb dL_law_133 (by decide) ?_
        refine lv_iadd hx hb dL_law_134 ?_
        refine va_sld hx hb hX hbl hbA hS v1 dL_law_135 ?_
        refine lv_aload_n hx hb dL_law_136 rfl (lv_at hl 0 rfl) ?_
        refine lv_iload_n hx hb dL_law_137 rfl (lv_at hl 3 rfl) ?_
        refine lv_iconst (v := (2 : Int32)) hx hb dL_law_138 (by decide) ?_
        refine lv_iadd hx hb dL_law_139 ?_
        refine va_sld hx hb hX hbl hbA hS v2 dL_law_140 ?_
        refine call_Vi2 2 (kX5_put l D cI fM σ (xs (Int32.toNatClampNeg (x3 + (1 : Int32)))) (xs (Int32.toNatClampNeg (x3 + (2 : Int32))))) ⟨hx, hb, hml, hown, hts, hK, hN, hA⟩ ⟨kw_518, kw_519, kw_520, kw_6, kw_521, by decide +kernel, rfl, rfl, Nat.le_of_ble_eq_true rfl, Nat.le_of_ble_eq_true rfl⟩ rfl (va_recv hK hP (ci := 5) (q0 := 10) rfl rfl) hP hD hS hl.1 rfl (Nat.le_of_ble_eq_true rfl) dL_law_141 ⟨Nat.le_of_ble_eq_true rfl, Nat.le_of_ble_eq_true rfl⟩ (fun r2 u H locs hw hP hD hS => ?_)
        obtain ⟨hw, hw2⟩ : (m_put σ (xs (Int32.toNatClampNeg (x3 + (1 : Int32)))) (xs (Int32.toNatClampNeg (x3 + (2 : Int32))))).1 = r2 ∧ (m_put σ (xs (Int32.toNatClampNeg (x3 + (1 : Int32)))) (xs (Int32.toNatClampNeg (x3 + (2 : Int32))))).2 = u := hw
        subst hw
        subst hw2
        have hP : va_P D vwCl (wX fX cI (x4_put σ (xs (Int32.toNatClampNeg (x3 + (1 : Int32)))) (xs (Int32.toNatClampNeg (x3 + (2 : Int32))))).2 ++ wM fM cI (m_put σ (xs (Int32.toNatClampNeg (x3 + (1 : Int32)))) (xs (Int32.toNatClampNeg (x3 + (2 : Int32))))).2) H := hP
        have hD : va_D (fun q : Nat => s.heap.size ≤ q) (wX fX cI (x4_put σ (xs (Int32.toNatClampNeg (x3 + (1 : Int32)))) (xs (Int32.toNatClampNeg (x3 + (2 : Int32))))).2 ++ wM fM cI (m_put σ (xs (Int32.toNatClampNeg (x3 + (1 : Int32)))) (xs (Int32.toNatClampNeg (x3 + (2 : Int32))))).2) := hD
        rw [(T_put hI (xs (Int32.toNatClampNeg (x3 + (1 : Int32)))) (xs (Int32.toNatClampNeg (x3 + (2 : Int32))))).1] at hP hD ⊢
        refine lv_icmp_eq (tgt := 577) hx hb dL_law_144 (by decide) (fun _ => ?_) (fun q => absurd rfl q)
        exact nxt (x4_put σ (xs (Int32.toNatClampNeg (x3 + (1 : Int32)))) (xs (Int32.toNatClampNeg (x3 + (2 : Int32))))).2 H locs (up (T_put hI (xs (Int32.toNatClampNeg (x3 + (1 : Int32)))) (xs (Int32.toNatClampNeg (x3 + (2 : Int32))))).2) hP hD hS
      by_cases s_1 : w = (1 : Int32)
      · refine lv_tableIn (off := 117) (tgt := 149) hx hb dL_law_32 (by rw [s_1]; decide) (by rw [s_1]; decide) (by rw [s_1]; rfl) (by decide) ?_
        refine lv_aload_n hx hb dL_law_149 rfl (lv_at hl 1 rfl) ?_
        refine lv_aload_n hx hb dL_law_150 rfl (lv_at hl 0 rfl) ?_
        refine lv_iload_n hx hb dL_law_151 rfl (lv_at hl 3 rfl) ?_
        refine lv_iconst (v := (1 : Int32)) hx hb dL_law_152 (by decide) ?_
        refine lv_iadd hx hb dL_law_153 ?_
        refine va_sld hx hb hX hbl hbA hS v1 dL_law_154 ?_
        refine call_Vi1 1 (kX4_core l D cI fX σ (xs (Int32.toNatClampNeg (x3 + (1 : Int32))))) ⟨hx, hb, hml, hown, hts, hK, hN, hA⟩ ⟨kw_172, kw_173, kw_174, kw_1, kw_175, by decide +kernel, rfl, rfl, Nat.le_of_ble_eq_true rfl, Nat.le_of_ble_eq_true rfl⟩ rfl (va_recv hK hP (ci := 4) (q0 := 0) rfl rfl) hP hD hS hl.1 rfl (Nat.le_of_ble_eq_true rfl) dL_law_155 ⟨Nat.le_of_ble_eq_true rfl, Nat.le_of_ble_eq_true rfl⟩ (fun r1 u H locs hw hP hD hS => ?_)
        have hw : (x4_core σ (xs (Int32.toNatClampNeg (x3 + (1 : Int32))))) = r1 := hw
        subst hw
        have hP : va_P D vwCl (wX fX cI σ ++ wM fM cI σ) H := hP
        have hD : va_D (fun q : Nat => s.heap.size ≤ q) (wX fX cI σ ++ wM fM cI σ) := hD
        refine lv_aload_n hx hb dL_law_158 rfl (lv_at hl 2 rfl) ?_
        refine lv_aload_n hx hb dL_law_159 rfl (lv_at hl 0 rfl) ?_
        refine lv_iload_n hx hb dL_law_160 rfl (lv_at hl 3 rfl) ?_
        refine lv_iconst (v := (1 : Int32)) hx hb dL_law_161 (by decide) ?_
        refine lv_iadd hx hb dL_law_162 ?_
        refine va_sld hx hb hX hbl hbA hS v1 dL_law_163 ?_
        refine call_Vi2 1 (kX5_core l D cI fM σ (xs (Int32.toNatClampNeg (x3 + (1 : Int32))))) ⟨hx, hb, hml, hown, hts, hK, hN, hA⟩ ⟨kw_526, kw_527, kw_528, kw_6, kw_529, by decide +kernel, rfl, rfl, Nat.le_of_ble_eq_true rfl, Nat.le_of_ble_eq_true rfl⟩ rfl (va_recv hK hP (ci := 5) (q0 := 10) rfl rfl) hP hD hS hl.1 rfl (Nat.le_of_ble_eq_true rfl) dL_law_164 ⟨Nat.le_of_ble_eq_true rfl, Nat.le_of_ble_eq_true rfl⟩ (fun r2 u H locs hw hP hD hS => ?_)
        have hw : (m_core σ (xs (Int32.toNatClampNeg (x3 + (1 : Int32))))) = r2 := hw
        subst hw
        have hP : va_P D vwCl (wX fX cI σ ++ wM fM cI σ) H := hP
        have hD : va_D (fun q : Nat => s.heap.size ≤ q) (wX fX cI σ ++ wM fM cI σ) := hD
        rw [T_core σ (xs (Int32.toNatClampNeg (x3 + (1 : Int32))))]
        refine lv_icmp_eq (tgt := 577) hx hb dL_law_167 (by decide) (fun _ => ?_) (fun q => absurd rfl q)
        exact nxt σ H locs (up hI) hP hD hS
      by_cases s_2 : w = (2 : Int32)
      · refine lv_tableIn (off := 140) (tgt := 172) hx hb dL_law_32 (by rw [s_2]; decide) (by rw [s_2]; decide) (by rw [s_2]; rfl) (by decide) ?_
        refine lv_aload_n hx hb dL_law_172 rfl (lv_at hl 1 rfl) ?_
        refine lv_aload_n hx hb dL_law_173 rfl (lv_at hl 0 rfl) ?_
        refine lv_iload_n hx hb dL_law_174 rfl (lv_at hl 3 rfl) ?_
        refine lv_iconst (v := (1 : Int32)) hx hb dL_law_175 (by decide) ?_
        refine lv_iadd hx hb dL_law_176 ?_
        refine va_sld hx hb hX hbl hbA hS v1 dL_law_177 ?_
        refine lv_aload_n hx hb dL_law_178 rfl (lv_at hl 0 rfl) ?_
        refine lv_iload_n hx hb dL_law_179 rfl (lv_at hl 3 rfl) ?_
        refine lv_iconst (v := (2 : Int32)) hx hb dL_law_180 (by decide) ?_
        refine lv_iadd hx hb dL_law_181 ?_
        refine va_sld hx hb hX hbl hbA hS v2 dL_law_182 ?_
        refine lv_i2l (v := (Int32.toInt64 (xs (Int32.toNatClampNeg (x3 + (2 : Int32)))))) hx hb dL_law_183 rfl ?_
        refine lv_bipush (v := (32 : Int32)) hx hb dL_law_184 (by decide) ?_
        refine lv_lshl (v := ((Int32.toInt64 (xs (Int32.toNatClampNeg (x3 + (2 : Int32))))) <<< (Int32.toInt64 (32 : Int32) &&& 63))) hx hb dL_law_186 rfl ?_
        refine lv_aload_n hx hb dL_law_187 rfl (lv_at hl 0 rfl) ?_
        refine lv_iload_n hx hb dL_law_188 rfl (lv_at hl 3 rfl) ?_
        refine lv_iconst (v := (3 : Int32)) hx hb dL_law_189 (by decide) ?_
        refine lv_iadd hx hb dL_law_190 ?_
        refine va_sld hx hb hX hbl hbA hS v3 dL_law_191 ?_
        refine lv_i2l (v := (Int32.toInt64 (xs (Int32.toNatClampNeg (x3 + (3 : Int32)))))) hx hb dL_law_192 rfl ?_
        refine lv_ldc2 (v := (4294967295 : Int64)) hx hb hown (hts _ kw_680) dL_law_193 ?_
        refine lv_land hx hb dL_law_196 ?_
        refine lv_lor hx hb dL_law_197 ?_
        refine lv_aload_n hx hb dL_law_198 rfl (lv_at hl 0 rfl) ?_
        refine lv_iload_n hx hb dL_law_199 rfl (lv_at hl 3 rfl) ?_
        refine lv_iconst (v := (4 : Int32)) hx hb dL_law_200 (by decide) ?_
        refine lv_iadd hx hb dL_law_201 ?_
        refine va_sld hx hb hX hbl hbA hS v4 dL_law_202 ?_
        refine call_Vi1 3 (kX4_load l D cI fX σ (xs (Int32.toNatClampNeg (x3 + (1 : Int32)))) (((Int32.toInt64 (xs (Int32.toNatClampNeg (x3 + (2 : Int32))))) <<< (Int32.toInt64 (32 : Int32) &&& 63)) ||| ((Int32.toInt64 (xs (Int32.toNatClampNeg (x3 + (3 : Int32))))) &&& (4294967295 : Int64))) (xs (Int32.toNatClampNeg (x3 + (4 : Int32))))) ⟨hx, hb, hml, hown, hts, hK, hN, hA⟩ ⟨kw_176, kw_177, kw_178, kw_1, kw_179, by decide +kernel, rfl, rfl, Nat.le_of_ble_eq_true rfl, Nat.le_of_ble_eq_true rfl⟩ rfl (va_recv hK hP (ci := 4) (q0 := 0) rfl rfl) hP hD hS hl.1 rfl (Nat.le_of_ble_eq_true rfl) dL_law_203 ⟨Nat.le_of_ble_eq_true rfl, Nat.le_of_ble_eq_true rfl⟩ (fun r1 u H locs hw hP hD hS => ?_)
        obtain ⟨hw, hw2⟩ : (x4_load σ (xs (Int32.toNatClampNeg (x3 + (1 : Int32)))) (((Int32.toInt64 (xs (Int32.toNatClampNeg (x3 + (2 : Int32))))) <<< (Int32.toInt64 (32 : Int32) &&& 63)) ||| ((Int32.toInt64 (xs (Int32.toNatClampNeg (x3 + (3 : Int32))))) &&& (4294967295 : Int64))) (xs (Int32.toNatClampNeg (x3 + (4 : Int32))))).1 = r1 ∧ (x4_load σ (xs (Int32.toNatClampNeg (x3 + (1 : Int32)))) (((Int32.toInt64 (xs (Int32.toNatClampNeg (x3 + (2 : Int32))))) <<< (Int32.toInt64 (32 : Int32) &&& 63)) ||| ((Int32.toInt64 (xs (Int32.toNatClampNeg (x3 + (3 : Int32))))) &&& (4294967295 : Int64))) (xs (Int32.toNatClampNeg (x3 + (4 : Int32))))).2 = u := hw
        subst hw
        subst hw2
        have hP : va_P D vwCl (wX fX cI (x4_load σ (xs (Int32.toNatClampNeg (x3 + (1 : Int32)))) (((Int32.toInt64 (xs (Int32.toNatClampNeg (x3 + (2 : Int32))))) <<< (Int32.toInt64 (32 : Int32) &&& 63)) ||| ((Int32.toInt64 (xs (Int32.toNatClampNeg (x3 + (3 : Int32))))) &&& (4294967295 : Int64))) (xs (Int32.toNatClampNeg (x3 + (4 : Int32))))).2 ++ wM fM cI σ) H := hP
        have hD : va_D (fun q : Nat => s.heap.size ≤ q) (wX fX cI (x4_load σ (xs (Int32.toNatClampNeg (x3 + (1 : Int32)))) (((Int32.toInt64 (xs (Int32.toNatClampNeg (x3 + (2 : Int32))))) <<< (Int32.toInt64 (32 : Int32) &&& 63)) ||| ((Int32.toInt64 (xs (Int32.toNatClampNeg (x3 + (3 : Int32))))) &&& (4294967295 : Int64))) (xs (Int32.toNatClampNeg (x3 + (4 : Int32))))).2 ++ wM fM cI σ) := hD
        refine lv_aload_n hx hb dL_law_206 rfl (lv_at hl 2 rfl) ?_
        refine lv_aload_n hx hb dL_law_207 rfl (lv_at hl 0 rfl) ?_
        refine lv_iload_n hx hb dL_law_208 rfl (lv_at hl 3 rfl) ?_
        refine lv_iconst (v := (1 : Int32)) hx hb dL_law_209 (by decide) ?_
        refine lv_iadd hx hb dL_law_210 ?_
        refine va_sld hx hb hX hbl hbA hS v1 dL_law_211 ?_
        refine lv_aload_n hx hb dL_law_212 rfl (lv_at hl 0 rfl) ?_
        refine lv_iload_n hx hb dL_law_213 rfl (lv_at hl 3 rfl) ?_
        refine lv_iconst (v := (2 : Int32)) hx hb dL_law_214 (by decide) ?_
        refine lv_iadd hx hb dL_law_215 ?_
        refine va_sld hx hb hX hbl hbA hS v2 dL_law_216 ?_
        refine lv_i2l (v := (Int32.toInt64 (xs (Int32.toNatClampNeg (x3 + (2 : Int32)))))) hx hb dL_law_217 rfl ?_
        refine lv_bipush (v := (32 : Int32)) hx hb dL_law_218 (by decide) ?_
        refine lv_lshl (v := ((Int32.toInt64 (xs (Int32.toNatClampNeg (x3 + (2 : Int32))))) <<< (Int32.toInt64 (32 : Int32) &&& 63))) hx hb dL_law_220 rfl ?_
        refine lv_aload_n hx hb dL_law_221 rfl (lv_at hl 0 rfl) ?_
        refine lv_iload_n hx hb dL_law_222 rfl (lv_at hl 3 rfl) ?_
        refine lv_iconst (v := (3 : Int32)) hx hb dL_law_223 (by decide) ?_
        refine lv_iadd hx hb dL_law_224 ?_
        refine va_sld hx hb hX hbl hbA hS v3 dL_law_225 ?_
        refine lv_i2l (v := (Int32.toInt64 (xs (Int32.toNatClampNeg (x3 + (3 : Int32)))))) hx hb dL_law_226 rfl ?_
        refine lv_ldc2 (v := (4294967295 : Int64)) hx hb hown (hts _ kw_680) dL_law_227 ?_
        refine lv_land hx hb dL_law_230 ?_
        refine lv_lor hx hb dL_law_231 ?_
        refine lv_aload_n hx hb dL_law_232 rfl (lv_at hl 0 rfl) ?_
        refine lv_iload_n hx hb dL_law_233 rfl (lv_at hl 3 rfl) ?_
        refine lv_iconst (v := (4 : Int32)) hx hb dL_law_234 (by decide) ?_
        refine lv_iadd hx hb dL_law_235 ?_
        refine va_sld hx hb hX hbl hbA hS v4 dL_law_236 ?_
        refine call_Vi2 3 (kX5_load l D cI fM σ (xs (Int32.toNatClampNeg (x3 + (1 : Int32)))) (((Int32.toInt64 (xs (Int32.toNatClampNeg (x3 + (2 : Int32))))) <<< (Int32.toInt64 (32 : Int32) &&& 63)) ||| ((Int32.toInt64 (xs (Int32.toNatClampNeg (x3 + (3 : Int32))))) &&& (4294967295 : Int64))) (xs (Int32.toNatClampNeg (x3 + (4 : Int32))))) ⟨hx, hb, hml, hown, hts, hK, hN, hA⟩ ⟨kw_530, kw_531, kw_532, kw_6, kw_533, by decide +kernel, rfl, rfl, Nat.le_of_ble_eq_true rfl, Nat.le_of_ble_eq_true rfl⟩ rfl (va_recv hK hP (ci := 5) (q0 := 10) rfl rfl) hP hD hS hl.1 rfl (Nat.le_of_ble_eq_true rfl) dL_law_237 ⟨Nat.le_of_ble_eq_true rfl, Nat.le_of_ble_eq_true rfl⟩ (fun r2 u H locs hw hP hD hS => ?_)
        obtain ⟨hw, hw2⟩ : (m_load σ (xs (Int32.toNatClampNeg (x3 + (1 : Int32)))) (((Int32.toInt64 (xs (Int32.toNatClampNeg (x3 + (2 : Int32))))) <<< (Int32.toInt64 (32 : Int32) &&& 63)) ||| ((Int32.toInt64 (xs (Int32.toNatClampNeg (x3 + (3 : Int32))))) &&& (4294967295 : Int64))) (xs (Int32.toNatClampNeg (x3 + (4 : Int32))))).1 = r2 ∧ (m_load σ (xs (Int32.toNatClampNeg (x3 + (1 : Int32)))) (((Int32.toInt64 (xs (Int32.toNatClampNeg (x3 + (2 : Int32))))) <<< (Int32.toInt64 (32 : Int32) &&& 63)) ||| ((Int32.toInt64 (xs (Int32.toNatClampNeg (x3 + (3 : Int32))))) &&& (4294967295 : Int64))) (xs (Int32.toNatClampNeg (x3 + (4 : Int32))))).2 = u := hw
        subst hw
        subst hw2
        have hP : va_P D vwCl (wX fX cI (x4_load σ (xs (Int32.toNatClampNeg (x3 + (1 : Int32)))) (((Int32.toInt64 (xs (Int32.toNatClampNeg (x3 + (2 : Int32))))) <<< (Int32.toInt64 (32 : Int32) &&& 63)) ||| ((Int32.toInt64 (xs (Int32.toNatClampNeg (x3 + (3 : Int32))))) &&& (4294967295 : Int64))) (xs (Int32.toNatClampNeg (x3 + (4 : Int32))))).2 ++ wM fM cI (m_load σ (xs (Int32.toNatClampNeg (x3 + (1 : Int32)))) (((Int32.toInt64 (xs (Int32.toNatClampNeg (x3 + (2 : Int32))))) <<< (Int32.toInt64 (32 : Int32) &&& 63)) ||| ((Int32.toInt64 (xs (Int32.toNatClampNeg (x3 + (3 : Int32))))) &&& (4294967295 : Int64))) (xs (Int32.toNatClampNeg (x3 + (4 : Int32))))).2) H := hP
        have hD : va_D (fun q : Nat => s.heap.size ≤ q) (wX fX cI (x4_load σ (xs (Int32.toNatClampNeg (x3 + (1 : Int32)))) (((Int32.toInt64 (xs (Int32.toNatClampNeg (x3 + (2 : Int32))))) <<< (Int32.toInt64 (32 : Int32) &&& 63)) ||| ((Int32.toInt64 (xs (Int32.toNatClampNeg (x3 + (3 : Int32))))) &&& (4294967295 : Int64))) (xs (Int32.toNatClampNeg (x3 + (4 : Int32))))).2 ++ wM fM cI (m_load σ (xs (Int32.toNatClampNeg (x3 + (1 : Int32)))) (((Int32.toInt64 (xs (Int32.toNatClampNeg (x3 + (2 : Int32))))) <<< (Int32.toInt64 (32 : Int32) &&& 63)) ||| ((Int32.toInt64 (xs (Int32.toNatClampNeg (x3 + (3 : Int32))))) &&& (4294967295 : Int64))) (xs (Int32.toNatClampNeg (x3 + (4 : Int32))))).2) := hD
        rw [(T_load hI (xs (Int32.toNatClampNeg (x3 + (1 : Int32)))) (((Int32.toInt64 (xs (Int32.toNatClampNeg (x3 + (2 : Int32))))) <<< (Int32.toInt64 (32 : Int32) &&& 63)) ||| ((Int32.toInt64 (xs (Int32.toNatClampNeg (x3 + (3 : Int32))))) &&& (4294967295 : Int64))) (xs (Int32.toNatClampNeg (x3 + (4 : Int32))))).1] at hP hD ⊢
        refine lv_icmp_eq (tgt := 577) hx hb dL_law_240 (by decide) (fun _ => ?_) (fun q => absurd rfl q)
        exact nxt (x4_load σ (xs (Int32.toNatClampNeg (x3 + (1 : Int32)))) (((Int32.toInt64 (xs (Int32.toNatClampNeg (x3 + (2 : Int32))))) <<< (Int32.toInt64 (32 : Int32) &&& 63)) ||| ((Int32.toInt64 (xs (Int32.toNatClampNeg (x3 + (3 : Int32))))) &&& (4294967295 : Int64))) (xs (Int32.toNatClampNeg (x3 + (4 : Int32))))).2 H locs (up (T_load hI (xs (Int32.toNatClampNeg (x3 + (1 : Int32)))) (((Int32.toInt64 (xs (Int32.toNatClampNeg (x3 + (2 : Int32))))) <<< (Int32.toInt64 (32 : Int32) &&& 63)) ||| ((Int32.toInt64 (xs (Int32.toNatClampNeg (x3 + (3 : Int32))))) &&& (4294967295 : Int64))) (xs (Int32.toNatClampNeg (x3 + (4 : Int32))))).2) hP hD hS
      by_cases s_3 : w = (3 : Int32)
      · refine lv_tableIn (off := 213) (tgt := 245) hx hb dL_law_32 (by rw [s_3]; decide) (by rw [s_3]; decide) (by rw [s_3]; rfl) (by decide) ?_
        refine lv_aload_n hx hb dL_law_245 rfl (lv_at hl 1 rfl) ?_
        refine lv_aload_n hx hb dL_law_246 rfl (lv_at hl 0 rfl) ?_
        refine lv_iload_n hx hb dL_law_247 rfl (lv_at hl 3 rfl) ?_
        refine lv_iconst (v := (1 : Int32)) hx hb dL_law_248 (by decide) ?_
        refine lv_iadd hx hb dL_law_249 ?_
        refine va_sld hx hb hX hbl hbA hS v1 dL_law_250 ?_
        refine call_Vi1 1 (kX4_told l D cI fX σ (xs (Int32.toNatClampNeg (x3 + (1 : Int32))))) ⟨hx, hb, hml, hown, hts, hK, hN, hA⟩ ⟨kw_181, kw_182, kw_183, kw_1, kw_184, by decide +kernel, rfl, rfl, Nat.le_of_ble_eq_true rfl, Nat.le_of_ble_eq_true rfl⟩ rfl (va_recv hK hP (ci := 4) (q0 := 0) rfl rfl) hP hD hS hl.1 rfl (Nat.le_of_ble_eq_true rfl) dL_law_251 ⟨Nat.le_of_ble_eq_true rfl, Nat.le_of_ble_eq_true rfl⟩ (fun r1 u H locs hw hP hD hS => ?_)
        have hw : (x4_told σ (xs (Int32.toNatClampNeg (x3 + (1 : Int32))))) = r1 := hw
        subst hw
        have hP : va_P D vwCl (wX fX cI σ ++ wM fM cI σ) H := hP
        have hD : va_D (fun q : Nat => s.heap.size ≤ q) (wX fX cI σ ++ wM fM cI σ) := hD
        refine lv_aload_n hx hb dL_law_254 rfl (lv_at hl 2 rfl) ?_
        refine lv_aload_n hx hb dL_law_255 rfl (lv_at hl 0 rfl) ?_
        refine lv_iload_n hx hb dL_law_256 rfl (lv_at hl 3 rfl) ?_
        refine lv_iconst (v := (1 : Int32)) hx hb dL_law_257 (by decide) ?_
        refine lv_iadd hx hb dL_law_258 ?_
        refine va_sld hx hb hX hbl hbA hS v1 dL_law_259 ?_
        refine call_Vi2 1 (kX5_told l D cI fM σ (xs (Int32.toNatClampNeg (x3 + (1 : Int32))))) ⟨hx, hb, hml, hown, hts, hK, hN, hA⟩ ⟨kw_534, kw_535, kw_536, kw_6, kw_537, by decide +kernel, rfl, rfl, Nat.le_of_ble_eq_true rfl, Nat.le_of_ble_eq_true rfl⟩ rfl (va_recv hK hP (ci := 5) (q0 := 10) rfl rfl) hP hD hS hl.1 rfl (Nat.le_of_ble_eq_true rfl) dL_law_260 ⟨Nat.le_of_ble_eq_true rfl, Nat.le_of_ble_eq_true rfl⟩ (fun r2 u H locs hw hP hD hS => ?_)
        have hw : (m_told σ (xs (Int32.toNatClampNeg (x3 + (1 : Int32))))) = r2 := hw
        subst hw
        have hP : va_P D vwCl (wX fX cI σ ++ wM fM cI σ) H := hP
        have hD : va_D (fun q : Nat => s.heap.size ≤ q) (wX fX cI σ ++ wM fM cI σ) := hD
        rw [T_told hI (xs (Int32.toNatClampNeg (x3 + (1 : Int32))))]
        refine lv_icmp_eq (tgt := 577) hx hb dL_law_263 (by decide) (fun _ => ?_) (fun q => absurd rfl q)
        exact nxt σ H locs (up hI) hP hD hS
      by_cases s_4 : w = (4 : Int32)
      · refine lv_tableIn (off := 236) (tgt := 268) hx hb dL_law_32 (by rw [s_4]; decide) (by rw [s_4]; decide) (by rw [s_4]; rfl) (by decide) ?_
        refine lv_aload_n hx hb dL_law_268 rfl (lv_at hl 1 rfl) ?_
        refine lv_aload_n hx hb dL_law_269 rfl (lv_at hl 0 rfl) ?_
        refine lv_iload_n hx hb dL_law_270 rfl (lv_at hl 3 rfl) ?_
        refine lv_iconst (v := (1 : Int32)) hx hb dL_law_271 (by decide) ?_
        refine lv_iadd hx hb dL_law_272 ?_
        refine va_sld hx hb hX hbl hbA hS v1 dL_law_273 ?_
        refine lv_aload_n hx hb dL_law_274 rfl (lv_at hl 0 rfl) ?_
        refine lv_iload_n hx hb dL_law_275 rfl (lv_at hl 3 rfl) ?_
        refine lv_iconst (v := (2 : Int32)) hx hb dL_law_276 (by decide) ?_
        refine lv_iadd hx hb dL_law_277 ?_
        refine va_sld hx hb hX hbl hbA hS v2 dL_law_278 ?_
        refine call_Vi1 2 (kX4_set l D cI fX σ (xs (Int32.toNatClampNeg (x3 + (1 : Int32)))) (xs (Int32.toNatClampNeg (x3 + (2 : Int32))))) ⟨hx, hb, hml, hown, hts, hK, hN, hA⟩ ⟨kw_185, kw_186, kw_187, kw_1, kw_188, by decide +kernel, rfl, rfl, Nat.le_of_ble_eq_true rfl, Nat.le_of_ble_eq_true rfl⟩ rfl (va_recv hK hP (ci := 4) (q0 := 0) rfl rfl) hP hD hS hl.1 rfl (Nat.le_of_ble_eq_true rfl) dL_law_279 ⟨Nat.le_of_ble_eq_true rfl, Nat.le_of_ble_eq_true rfl⟩ (fun r1 u H locs hw hP hD hS => ?_)
        obtain ⟨hw, hw2⟩ : (x4_set σ (xs (Int32.toNatClampNeg (x3 + (1 : Int32)))) (xs (Int32.toNatClampNeg (x3 + (2 : Int32))))).1 = r1 ∧ (x4_set σ (xs (Int32.toNatClampNeg (x3 + (1 : Int32)))) (xs (Int32.toNatClampNeg (x3 + (2 : Int32))))).2 = u := hw
        subst hw
        subst hw2
        have hP : va_P D vwCl (wX fX cI (x4_set σ (xs (Int32.toNatClampNeg (x3 + (1 : Int32)))) (xs (Int32.toNatClampNeg (x3 + (2 : Int32))))).2 ++ wM fM cI σ) H := hP
        have hD : va_D (fun q : Nat => s.heap.size ≤ q) (wX fX cI (x4_set σ (xs (Int32.toNatClampNeg (x3 + (1 : Int32)))) (xs (Int32.toNatClampNeg (x3 + (2 : Int32))))).2 ++ wM fM cI σ) := hD
        refine lv_aload_n hx hb dL_law_282 rfl (lv_at hl 2 rfl) ?_
        refine lv_aload_n hx hb dL_law_283 rfl (lv_at hl 0 rfl) ?_
        refine lv_iload_n hx hb dL_law_284 rfl (lv_at hl 3 rfl) ?_
        refine lv_iconst (v := (1 : Int32)) hx hb dL_law_285 (by decide) ?_
        refine lv_iadd hx hb dL_law_286 ?_
        refine va_sld hx hb hX hbl hbA hS v1 dL_law_287 ?_
        refine lv_aload_n hx hb dL_law_288 rfl (lv_at hl 0 rfl) ?_
        refine lv_iload_n hx hb dL_law_289 rfl (lv_at hl 3 rfl) ?_
        refine lv_iconst (v := (2 : Int32)) hx hb dL_law_290 (by decide) ?_
        refine lv_iadd hx hb dL_law_291 ?_
        refine va_sld hx hb hX hbl hbA hS v2 dL_law_292 ?_
        refine call_Vi2 2 (kX5_set l D cI fM σ (xs (Int32.toNatClampNeg (x3 + (1 : Int32)))) (xs (Int32.toNatClampNeg (x3 + (2 : Int32))))) ⟨hx, hb, hml, hown, hts, hK, hN, hA⟩ ⟨kw_538, kw_539, kw_540, kw_6, kw_541, by decide +kernel, rfl, rfl, Nat.le_of_ble_eq_true rfl, Nat.le_of_ble_eq_true rfl⟩ rfl (va_recv hK hP (ci := 5) (q0 := 10) rfl rfl) hP hD hS hl.1 rfl (Nat.le_of_ble_eq_true rfl) dL_law_293 ⟨Nat.le_of_ble_eq_true rfl, Nat.le_of_ble_eq_true rfl⟩ (fun r2 u H locs hw hP hD hS => ?_)
        obtain ⟨hw, hw2⟩ : (m_set σ (xs (Int32.toNatClampNeg (x3 + (1 : Int32)))) (xs (Int32.toNatClampNeg (x3 + (2 : Int32))))).1 = r2 ∧ (m_set σ (xs (Int32.toNatClampNeg (x3 + (1 : Int32)))) (xs (Int32.toNatClampNeg (x3 + (2 : Int32))))).2 = u := hw
        subst hw
        subst hw2
        have hP : va_P D vwCl (wX fX cI (x4_set σ (xs (Int32.toNatClampNeg (x3 + (1 : Int32)))) (xs (Int32.toNatClampNeg (x3 + (2 : Int32))))).2 ++ wM fM cI (m_set σ (xs (Int32.toNatClampNeg (x3 + (1 : Int32)))) (xs (Int32.toNatClampNeg (x3 + (2 : Int32))))).2) H := hP
        have hD : va_D (fun q : Nat => s.heap.size ≤ q) (wX fX cI (x4_set σ (xs (Int32.toNatClampNeg (x3 + (1 : Int32)))) (xs (Int32.toNatClampNeg (x3 + (2 : Int32))))).2 ++ wM fM cI (m_set σ (xs (Int32.toNatClampNeg (x3 + (1 : Int32)))) (xs (Int32.toNatClampNeg (x3 + (2 : Int32))))).2) := hD
        rw [(T_set hI (xs (Int32.toNatClampNeg (x3 + (1 : Int32)))) (xs (Int32.toNatClampNeg (x3 + (2 : Int32))))).1] at hP hD ⊢
        refine lv_icmp_eq (tgt := 577) hx hb dL_law_296 (by decide) (fun _ => ?_) (fun q => absurd rfl q)
        exact nxt (x4_set σ (xs (Int32.toNatClampNeg (x3 + (1 : Int32)))) (xs (Int32.toNatClampNeg (x3 + (2 : Int32))))).2 H locs (up (T_set hI (xs (Int32.toNatClampNeg (x3 + (1 : Int32)))) (xs (Int32.toNatClampNeg (x3 + (2 : Int32))))).2) hP hD hS
      by_cases s_5 : w = (5 : Int32)
      · refine lv_tableIn (off := 269) (tgt := 301) hx hb dL_law_32 (by rw [s_5]; decide) (by rw [s_5]; decide) (by rw [s_5]; rfl) (by decide) ?_
        refine lv_aload_n hx hb dL_law_301 rfl (lv_at hl 1 rfl) ?_
        refine lv_aload_n hx hb dL_law_302 rfl (lv_at hl 0 rfl) ?_
        refine lv_iload_n hx hb dL_law_303 rfl (lv_at hl 3 rfl) ?_
        refine lv_iconst (v := (1 : Int32)) hx hb dL_law_304 (by decide) ?_
        refine lv_iadd hx hb dL_law_305 ?_
        refine va_sld hx hb hX hbl hbA hS v1 dL_law_306 ?_
        refine lv_aload_n hx hb dL_law_307 rfl (lv_at hl 0 rfl) ?_
        refine lv_iload_n hx hb dL_law_308 rfl (lv_at hl 3 rfl) ?_
        refine lv_iconst (v := (2 : Int32)) hx hb dL_law_309 (by decide) ?_
        refine lv_iadd hx hb dL_law_310 ?_
        refine va_sld hx hb hX hbl hbA hS v2 dL_law_311 ?_
        refine call_Vi1 2 (kX4_switches l D cI fX σ (xs (Int32.toNatClampNeg (x3 + (1 : Int32)))) (xs (Int32.toNatClampNeg (x3 + (2 : Int32))))) ⟨hx, hb, hml, hown, hts, hK, hN, hA⟩ ⟨kw_193, kw_194, kw_195, kw_1, kw_196, by decide +kernel, rfl, rfl, Nat.le_of_ble_eq_true rfl, Nat.le_of_ble_eq_true rfl⟩ rfl (va_recv hK hP (ci := 4) (q0 := 0) rfl rfl) hP hD hS hl.1 rfl (Nat.le_of_ble_eq_true rfl) dL_law_312 ⟨Nat.le_of_ble_eq_true rfl, Nat.le_of_ble_eq_true rfl⟩ (fun r1 u H locs hw hP hD hS => ?_)
        obtain ⟨hw, hw2⟩ : (x4_switches σ (xs (Int32.toNatClampNeg (x3 + (1 : Int32)))) (xs (Int32.toNatClampNeg (x3 + (2 : Int32))))).1 = r1 ∧ (x4_switches σ (xs (Int32.toNatClampNeg (x3 + (1 : Int32)))) (xs (Int32.toNatClampNeg (x3 + (2 : Int32))))).2 = u := hw
        subst hw
        subst hw2
        have hP : va_P D vwCl (wX fX cI (x4_switches σ (xs (Int32.toNatClampNeg (x3 + (1 : Int32)))) (xs (Int32.toNatClampNeg (x3 + (2 : Int32))))).2 ++ wM fM cI σ) H := hP
        have hD : va_D (fun q : Nat => s.heap.size ≤ q) (wX fX cI (x4_switches σ (xs (Int32.toNatClampNeg (x3 + (1 : Int32)))) (xs (Int32.toNatClampNeg (x3 + (2 : Int32))))).2 ++ wM fM cI σ) := hD
        refine lv_aload_n hx hb dL_law_315 rfl (lv_at hl 2 rfl) ?_
        refine lv_aload_n hx hb dL_law_316 rfl (lv_at hl 0 rfl) ?_
        refine lv_iload_n hx hb dL_law_317 rfl (lv_at hl 3 rfl) ?_
        refine lv_iconst (v := (1 : Int32)) hx hb dL_law_318 (by decide) ?_
        refine lv_iadd hx hb dL_law_319 ?_
        refine va_sld hx hb hX hbl hbA hS v1 dL_law_320 ?_
        refine lv_aload_n hx hb dL_law_321 rfl (lv_at hl 0 rfl) ?_
        refine lv_iload_n hx hb dL_law_322 rfl (lv_at hl 3 rfl) ?_
        refine lv_iconst (v := (2 : Int32)) hx hb dL_law_323 (by decide) ?_
        refine lv_iadd hx hb dL_law_324 ?_
        refine va_sld hx hb hX hbl hbA hS v2 dL_law_325 ?_
        refine call_Vi2 2 (kX5_switches l D cI fM σ (xs (Int32.toNatClampNeg (x3 + (1 : Int32)))) (xs (Int32.toNatClampNeg (x3 + (2 : Int32))))) ⟨hx, hb, hml, hown, hts, hK, hN, hA⟩ ⟨kw_543, kw_544, kw_545, kw_6, kw_546, by decide +kernel, rfl, rfl, Nat.le_of_ble_eq_true rfl, Nat.le_of_ble_eq_true rfl⟩ rfl (va_recv hK hP (ci := 5) (q0 := 10) rfl rfl) hP hD hS hl.1 rfl (Nat.le_of_ble_eq_true rfl) dL_law_326 ⟨Nat.le_of_ble_eq_true rfl, Nat.le_of_ble_eq_true rfl⟩ (fun r2 u H locs hw hP hD hS => ?_)
        obtain ⟨hw, hw2⟩ : (m_switches σ (xs (Int32.toNatClampNeg (x3 + (1 : Int32)))) (xs (Int32.toNatClampNeg (x3 + (2 : Int32))))).1 = r2 ∧ (m_switches σ (xs (Int32.toNatClampNeg (x3 + (1 : Int32)))) (xs (Int32.toNatClampNeg (x3 + (2 : Int32))))).2 = u := hw
        subst hw
        subst hw2
        have hP : va_P D vwCl (wX fX cI (x4_switches σ (xs (Int32.toNatClampNeg (x3 + (1 : Int32)))) (xs (Int32.toNatClampNeg (x3 + (2 : Int32))))).2 ++ wM fM cI (m_switches σ (xs (Int32.toNatClampNeg (x3 + (1 : Int32)))) (xs (Int32.toNatClampNeg (x3 + (2 : Int32))))).2) H := hP
        have hD : va_D (fun q : Nat => s.heap.size ≤ q) (wX fX cI (x4_switches σ (xs (Int32.toNatClampNeg (x3 + (1 : Int32)))) (xs (Int32.toNatClampNeg (x3 + (2 : Int32))))).2 ++ wM fM cI (m_switches σ (xs (Int32.toNatClampNeg (x3 + (1 : Int32)))) (xs (Int32.toNatClampNeg (x3 + (2 : Int32))))).2) := hD
        rw [(T_switches hI (xs (Int32.toNatClampNeg (x3 + (1 : Int32)))) (xs (Int32.toNatClampNeg (x3 + (2 : Int32))))).1] at hP hD ⊢
        refine lv_icmp_eq (tgt := 577) hx hb dL_law_329 (by decide) (fun _ => ?_) (fun q => absurd rfl q)
        exact nxt (x4_switches σ (xs (Int32.toNatClampNeg (x3 + (1 : Int32)))) (xs (Int32.toNatClampNeg (x3 + (2 : Int32))))).2 H locs (up (T_switches hI (xs (Int32.toNatClampNeg (x3 + (1 : Int32)))) (xs (Int32.toNatClampNeg (x3 + (2 : Int32))))).2) hP hD hS
      by_cases s_6 : w = (6 : Int32)
      · refine lv_tableIn (off := 302) (tgt := 334) hx hb dL_law_32 (by rw [s_6]; decide) (by rw [s_6]; decide) (by rw [s_6]; rfl) (by decide) ?_
        refine lv_aload_n hx hb dL_law_334 rfl (lv_at hl 1 rfl) ?_
        refine lv_aload_n hx hb dL_law_335 rfl (lv_at hl 0 rfl) ?_
        refine lv_iload_n hx hb dL_law_336 rfl (lv_at hl 3 rfl) ?_
        refine lv_iconst (v := (1 : Int32)) hx hb dL_law_337 (by decide) ?_
        refine lv_iadd hx hb dL_law_338 ?_
        refine va_sld hx hb hX hbl hbA hS v1 dL_law_339 ?_
        refine call_Vi1 1 (kX4_type l D cI fX σ (xs (Int32.toNatClampNeg (x3 + (1 : Int32))))) ⟨hx, hb, hml, hown, hts, hK, hN, hA⟩ ⟨kw_197, kw_198, kw_199, kw_1, kw_200, by decide +kernel, rfl, rfl, Nat.le_of_ble_eq_true rfl, Nat.le_of_ble_eq_true rfl⟩ rfl (va_recv hK hP (ci := 4) (q0 := 0) rfl rfl) hP hD hS hl.1 rfl (Nat.le_of_ble_eq_true rfl) dL_law_340 ⟨Nat.le_of_ble_eq_true rfl, Nat.le_of_ble_eq_true rfl⟩ (fun r1 u H locs hw hP hD hS => ?_)
        obtain ⟨hw, hw2⟩ : (x4_type σ (xs (Int32.toNatClampNeg (x3 + (1 : Int32))))).1 = r1 ∧ (x4_type σ (xs (Int32.toNatClampNeg (x3 + (1 : Int32))))).2 = u := hw
        subst hw
        subst hw2
        have hP : va_P D vwCl (wX fX cI (x4_type σ (xs (Int32.toNatClampNeg (x3 + (1 : Int32))))).2 ++ wM fM cI σ) H := hP
        have hD : va_D (fun q : Nat => s.heap.size ≤ q) (wX fX cI (x4_type σ (xs (Int32.toNatClampNeg (x3 + (1 : Int32))))).2 ++ wM fM cI σ) := hD
        refine lv_aload_n hx hb dL_law_343 rfl (lv_at hl 2 rfl) ?_
        refine lv_aload_n hx hb dL_law_344 rfl (lv_at hl 0 rfl) ?_
        refine lv_iload_n hx hb dL_law_345 rfl (lv_at hl 3 rfl) ?_
        refine lv_iconst (v := (1 : Int32)) hx hb dL_law_346 (by decide) ?_
        refine lv_iadd hx hb dL_law_347 ?_
        refine va_sld hx hb hX hbl hbA hS v1 dL_law_348 ?_
        refine call_Vi2 1 (kX5_type l D cI fM σ (xs (Int32.toNatClampNeg (x3 + (1 : Int32)))) (MI_s hI (by omega))) ⟨hx, hb, hml, hown, hts, hK, hN, hA⟩ ⟨kw_547, kw_548, kw_549, kw_6, kw_550, by decide +kernel, rfl, rfl, Nat.le_of_ble_eq_true rfl, Nat.le_of_ble_eq_true rfl⟩ rfl (va_recv hK hP (ci := 5) (q0 := 10) rfl rfl) hP hD hS hl.1 rfl (Nat.le_of_ble_eq_true rfl) dL_law_349 ⟨Nat.le_of_ble_eq_true rfl, Nat.le_of_ble_eq_true rfl⟩ (fun r2 u H locs hw hP hD hS => ?_)
        obtain ⟨hw, hw2⟩ : (m_type σ (xs (Int32.toNatClampNeg (x3 + (1 : Int32))))).1 = r2 ∧ (m_type σ (xs (Int32.toNatClampNeg (x3 + (1 : Int32))))).2 = u := hw
        subst hw
        subst hw2
        have hP : va_P D vwCl (wX fX cI (x4_type σ (xs (Int32.toNatClampNeg (x3 + (1 : Int32))))).2 ++ wM fM cI (m_type σ (xs (Int32.toNatClampNeg (x3 + (1 : Int32))))).2) H := hP
        have hD : va_D (fun q : Nat => s.heap.size ≤ q) (wX fX cI (x4_type σ (xs (Int32.toNatClampNeg (x3 + (1 : Int32))))).2 ++ wM fM cI (m_type σ (xs (Int32.toNatClampNeg (x3 + (1 : Int32))))).2) := hD
        rw [(T_type hI (xs (Int32.toNatClampNeg (x3 + (1 : Int32))))).1] at hP hD ⊢
        refine lv_icmp_eq (tgt := 577) hx hb dL_law_352 (by decide) (fun _ => ?_) (fun q => absurd rfl q)
        exact nxt (x4_type σ (xs (Int32.toNatClampNeg (x3 + (1 : Int32))))).2 H locs (up (T_type hI (xs (Int32.toNatClampNeg (x3 + (1 : Int32))))).2) hP hD hS
      by_cases s_7 : w = (7 : Int32)
      · refine lv_tableIn (off := 325) (tgt := 357) hx hb dL_law_32 (by rw [s_7]; decide) (by rw [s_7]; decide) (by rw [s_7]; rfl) (by decide) ?_
        refine lv_aload_n hx hb dL_law_357 rfl (lv_at hl 1 rfl) ?_
        refine call_Vi1 0 (kX4_ask l D cI fX σ) ⟨hx, hb, hml, hown, hts, hK, hN, hA⟩ ⟨kw_209, kw_210, kw_211, kw_1, kw_212, by decide +kernel, rfl, rfl, Nat.le_of_ble_eq_true rfl, Nat.le_of_ble_eq_true rfl⟩ rfl (va_recv hK hP (ci := 4) (q0 := 0) rfl rfl) hP hD hS hl.1 rfl (Nat.le_of_ble_eq_true rfl) dL_law_358 ⟨Nat.le_of_ble_eq_true rfl, Nat.le_of_ble_eq_true rfl⟩ (fun r1 u H locs hw hP hD hS => ?_)
        obtain ⟨hw, hw2⟩ : (x4_ask σ).1 = r1 ∧ (x4_ask σ).2 = u := hw
        subst hw
        subst hw2
        have hP : va_P D vwCl (wX fX cI (x4_ask σ).2 ++ wM fM cI σ) H := hP
        have hD : va_D (fun q : Nat => s.heap.size ≤ q) (wX fX cI (x4_ask σ).2 ++ wM fM cI σ) := hD
        refine lv_aload_n hx hb dL_law_361 rfl (lv_at hl 2 rfl) ?_
        refine call_Vi2 0 (kX5_ask l D cI fM σ) ⟨hx, hb, hml, hown, hts, hK, hN, hA⟩ ⟨kw_551, kw_552, kw_553, kw_6, kw_554, by decide +kernel, rfl, rfl, Nat.le_of_ble_eq_true rfl, Nat.le_of_ble_eq_true rfl⟩ rfl (va_recv hK hP (ci := 5) (q0 := 10) rfl rfl) hP hD hS hl.1 rfl (Nat.le_of_ble_eq_true rfl) dL_law_362 ⟨Nat.le_of_ble_eq_true rfl, Nat.le_of_ble_eq_true rfl⟩ (fun r2 u H locs hw hP hD hS => ?_)
        obtain ⟨hw, hw2⟩ : (m_ask σ).1 = r2 ∧ (m_ask σ).2 = u := hw
        subst hw
        subst hw2
        have hP : va_P D vwCl (wX fX cI (x4_ask σ).2 ++ wM fM cI (m_ask σ).2) H := hP
        have hD : va_D (fun q : Nat => s.heap.size ≤ q) (wX fX cI (x4_ask σ).2 ++ wM fM cI (m_ask σ).2) := hD
        rw [(T_ask hI).1] at hP hD ⊢
        refine lv_icmp_eq (tgt := 577) hx hb dL_law_365 (by decide) (fun _ => ?_) (fun q => absurd rfl q)
        exact nxt (x4_ask σ).2 H locs (up (T_ask hI).2) hP hD hS
      by_cases s_8 : w = (8 : Int32)
      · refine lv_tableIn (off := 338) (tgt := 370) hx hb dL_law_32 (by rw [s_8]; decide) (by rw [s_8]; decide) (by rw [s_8]; rfl) (by decide) ?_
        refine lv_aload_n hx hb dL_law_370 rfl (lv_at hl 1 rfl) ?_
        refine lv_aload_n hx hb dL_law_371 rfl (lv_at hl 0 rfl) ?_
        refine lv_iload_n hx hb dL_law_372 rfl (lv_at hl 3 rfl) ?_
        refine lv_iconst (v := (1 : Int32)) hx hb dL_law_373 (by decide) ?_
        refine lv_iadd hx hb dL_law_374 ?_
        refine va_sld hx hb hX hbl hbA hS v1 dL_law_375 ?_
        obtain ⟨⟨rr, er⟩, hI2, hR⟩ := E_run hI hB (xs (Int32.toNatClampNeg (x3 + (1 : Int32))))
        refine call_Vi1 1 (kX4_run l D cI fX σ (xs (Int32.toNatClampNeg (x3 + (1 : Int32))))) ⟨hx, hb, hml, hown, hts, hK, hN, hA⟩ ⟨kw_213, kw_214, kw_215, kw_1, kw_216, by decide +kernel, rfl, rfl, Nat.le_of_ble_eq_true rfl, Nat.le_of_ble_eq_true rfl⟩ rfl (va_recv hK hP (ci := 4) (q0 := 0) rfl rfl) hP hD hS hl.1 rfl (Nat.le_of_ble_eq_true rfl) dL_law_376 ⟨Nat.le_of_ble_eq_true rfl, Nat.le_of_ble_eq_true rfl⟩ (fun r1 u H locs hw hP hD hS => ?_)
        obtain ⟨hw, hw2⟩ : (x4_run σ (xs (Int32.toNatClampNeg (x3 + (1 : Int32))))).1 = r1 ∧ (x4_run σ (xs (Int32.toNatClampNeg (x3 + (1 : Int32))))).2 = u := hw
        subst hw
        subst hw2
        have hP : va_P D vwCl (wX fX cI (x4_run σ (xs (Int32.toNatClampNeg (x3 + (1 : Int32))))).2 ++ wM fM cI σ) H := hP
        have hD : va_D (fun q : Nat => s.heap.size ≤ q) (wX fX cI (x4_run σ (xs (Int32.toNatClampNeg (x3 + (1 : Int32))))).2 ++ wM fM cI σ) := hD
        refine lv_aload_n hx hb dL_law_379 rfl (lv_at hl 2 rfl) ?_
        refine lv_aload_n hx hb dL_law_380 rfl (lv_at hl 0 rfl) ?_
        refine lv_iload_n hx hb dL_law_381 rfl (lv_at hl 3 rfl) ?_
        refine lv_iconst (v := (1 : Int32)) hx hb dL_law_382 (by decide) ?_
        refine lv_iadd hx hb dL_law_383 ?_
        refine va_sld hx hb hX hbl hbA hS v1 dL_law_384 ?_
        refine call_Vi2 1 (kX5_run l D cI fM σ (xs (Int32.toNatClampNeg (x3 + (1 : Int32)))) hR) ⟨hx, hb, hml, hown, hts, hK, hN, hA⟩ ⟨kw_555, kw_556, kw_557, kw_6, kw_558, by decide +kernel, rfl, rfl, Nat.le_of_ble_eq_true rfl, Nat.le_of_ble_eq_true rfl⟩ rfl (va_recv hK hP (ci := 5) (q0 := 10) rfl rfl) hP hD hS hl.1 rfl (Nat.le_of_ble_eq_true rfl) dL_law_385 ⟨Nat.le_of_ble_eq_true rfl, Nat.le_of_ble_eq_true rfl⟩ (fun r2 u H locs hw hP hD hS => ?_)
        obtain ⟨hw, hw2⟩ : (m_run σ (xs (Int32.toNatClampNeg (x3 + (1 : Int32))))).1 = r2 ∧ (m_run σ (xs (Int32.toNatClampNeg (x3 + (1 : Int32))))).2 = u := hw
        subst hw
        subst hw2
        have hP : va_P D vwCl (wX fX cI (x4_run σ (xs (Int32.toNatClampNeg (x3 + (1 : Int32))))).2 ++ wM fM cI (m_run σ (xs (Int32.toNatClampNeg (x3 + (1 : Int32))))).2) H := hP
        have hD : va_D (fun q : Nat => s.heap.size ≤ q) (wX fX cI (x4_run σ (xs (Int32.toNatClampNeg (x3 + (1 : Int32))))).2 ++ wM fM cI (m_run σ (xs (Int32.toNatClampNeg (x3 + (1 : Int32))))).2) := hD
        rw [er] at hP hD ⊢
        refine lv_icmp_eq (tgt := 577) hx hb dL_law_388 (by decide) (fun _ => ?_) (fun q => absurd rfl q)
        exact nxt (s_ended (x4_run σ (xs (Int32.toNatClampNeg (x3 + (1 : Int32))))).2 rr) H locs (hI2.mono (by omega) (by omega)) hP hD hS
      by_cases s_9 : w = (9 : Int32)
      · refine lv_tableIn (off := 361) (tgt := 393) hx hb dL_law_32 (by rw [s_9]; decide) (by rw [s_9]; decide) (by rw [s_9]; rfl) (by decide) ?_
        refine lv_aload_n hx hb dL_law_393 rfl (lv_at hl 1 rfl) ?_
        refine lv_aload_n hx hb dL_law_394 rfl (lv_at hl 0 rfl) ?_
        refine lv_iload_n hx hb dL_law_395 rfl (lv_at hl 3 rfl) ?_
        refine lv_iconst (v := (1 : Int32)) hx hb dL_law_396 (by decide) ?_
        refine lv_iadd hx hb dL_law_397 ?_
        refine va_sld hx hb hX hbl hbA hS v1 dL_law_398 ?_
        refine call_Vi1 1 (kX4_ran l D cI fX σ (xs (Int32.toNatClampNeg (x3 + (1 : Int32))))) ⟨hx, hb, hml, hown, hts, hK, hN, hA⟩ ⟨kw_390, kw_391, kw_392, kw_1, kw_393, by decide +kernel, rfl, rfl, Nat.le_of_ble_eq_true rfl, Nat.le_of_ble_eq_true rfl⟩ rfl (va_recv hK hP (ci := 4) (q0 := 0) rfl rfl) hP hD hS hl.1 rfl (Nat.le_of_ble_eq_true rfl) dL_law_399 ⟨Nat.le_of_ble_eq_true rfl, Nat.le_of_ble_eq_true rfl⟩ (fun r1 u H locs hw hP hD hS => ?_)
        have hw : (x4_ran σ (xs (Int32.toNatClampNeg (x3 + (1 : Int32))))) = r1 := hw
        subst hw
        have hP : va_P D vwCl (wX fX cI σ ++ wM fM cI σ) H := hP
        have hD : va_D (fun q : Nat => s.heap.size ≤ q) (wX fX cI σ ++ wM fM cI σ) := hD
        refine lv_aload_n hx hb dL_law_402 rfl (lv_at hl 2 rfl) ?_
        refine lv_aload_n hx hb dL_law_403 rfl (lv_at hl 0 rfl) ?_
        refine lv_iload_n hx hb dL_law_404 rfl (lv_at hl 3 rfl) ?_
        refine lv_iconst (v := (1 : Int32)) hx hb dL_law_405 (by decide) ?_
        refine lv_iadd hx hb dL_law_406 ?_
        refine va_sld hx hb hX hbl hbA hS v1 dL_law_407 ?_
        refine call_Vi2 1 (kX5_ran l D cI fM σ (xs (Int32.toNatClampNeg (x3 + (1 : Int32))))) ⟨hx, hb, hml, hown, hts, hK, hN, hA⟩ ⟨kw_645, kw_646, kw_647, kw_6, kw_648, by decide +kernel, rfl, rfl, Nat.le_of_ble_eq_true rfl, Nat.le_of_ble_eq_true rfl⟩ rfl (va_recv hK hP (ci := 5) (q0 := 10) rfl rfl) hP hD hS hl.1 rfl (Nat.le_of_ble_eq_true rfl) dL_law_408 ⟨Nat.le_of_ble_eq_true rfl, Nat.le_of_ble_eq_true rfl⟩ (fun r2 u H locs hw hP hD hS => ?_)
        have hw : (m_ran σ (xs (Int32.toNatClampNeg (x3 + (1 : Int32))))) = r2 := hw
        subst hw
        have hP : va_P D vwCl (wX fX cI σ ++ wM fM cI σ) H := hP
        have hD : va_D (fun q : Nat => s.heap.size ≤ q) (wX fX cI σ ++ wM fM cI σ) := hD
        rw [T_ran σ (xs (Int32.toNatClampNeg (x3 + (1 : Int32))))]
        refine lv_icmp_eq (tgt := 577) hx hb dL_law_411 (by decide) (fun _ => ?_) (fun q => absurd rfl q)
        exact nxt σ H locs (up hI) hP hD hS
      by_cases s_10 : w = (10 : Int32)
      · refine lv_tableIn (off := 384) (tgt := 416) hx hb dL_law_32 (by rw [s_10]; decide) (by rw [s_10]; decide) (by rw [s_10]; rfl) (by decide) ?_
        refine lv_aload_n hx hb dL_law_416 rfl (lv_at hl 1 rfl) ?_
        refine lv_aload_n hx hb dL_law_417 rfl (lv_at hl 0 rfl) ?_
        refine lv_iload_n hx hb dL_law_418 rfl (lv_at hl 3 rfl) ?_
        refine lv_iconst (v := (1 : Int32)) hx hb dL_law_419 (by decide) ?_
        refine lv_iadd hx hb dL_law_420 ?_
        refine va_sld hx hb hX hbl hbA hS v1 dL_law_421 ?_
        refine lv_aload_n hx hb dL_law_422 rfl (lv_at hl 0 rfl) ?_
        refine lv_iload_n hx hb dL_law_423 rfl (lv_at hl 3 rfl) ?_
        refine lv_iconst (v := (2 : Int32)) hx hb dL_law_424 (by decide) ?_
        refine lv_iadd hx hb dL_law_425 ?_
        refine va_sld hx hb hX hbl hbA hS v2 dL_law_426 ?_
        refine call_Vi1 2 (kX4_point l D cI fX σ (xs (Int32.toNatClampNeg (x3 + (1 : Int32)))) (xs (Int32.toNatClampNeg (x3 + (2 : Int32))))) ⟨hx, hb, hml, hown, hts, hK, hN, hA⟩ ⟨kw_394, kw_395, kw_396, kw_1, kw_397, by decide +kernel, rfl, rfl, Nat.le_of_ble_eq_true rfl, Nat.le_of_ble_eq_true rfl⟩ rfl (va_recv hK hP (ci := 4) (q0 := 0) rfl rfl) hP hD hS hl.1 rfl (Nat.le_of_ble_eq_true rfl) dL_law_427 ⟨Nat.le_of_ble_eq_true rfl, Nat.le_of_ble_eq_true rfl⟩ (fun r1 u H locs hw hP hD hS => ?_)
        have hw : (x4_point σ (xs (Int32.toNatClampNeg (x3 + (1 : Int32)))) (xs (Int32.toNatClampNeg (x3 + (2 : Int32))))) = r1 := hw
        subst hw
        have hP : va_P D vwCl (wX fX cI σ ++ wM fM cI σ) H := hP
        have hD : va_D (fun q : Nat => s.heap.size ≤ q) (wX fX cI σ ++ wM fM cI σ) := hD
        refine lv_aload_n hx hb dL_law_430 rfl (lv_at hl 2 rfl) ?_
        refine lv_aload_n hx hb dL_law_431 rfl (lv_at hl 0 rfl) ?_
        refine lv_iload_n hx hb dL_law_432 rfl (lv_at hl 3 rfl) ?_
        refine lv_iconst (v := (1 : Int32)) hx hb dL_law_433 (by decide) ?_
        refine lv_iadd hx hb dL_law_434 ?_
        refine va_sld hx hb hX hbl hbA hS v1 dL_law_435 ?_
        refine lv_aload_n hx hb dL_law_436 rfl (lv_at hl 0 rfl) ?_
        refine lv_iload_n hx hb dL_law_437 rfl (lv_at hl 3 rfl) ?_
        refine lv_iconst (v := (2 : Int32)) hx hb dL_law_438 (by decide) ?_
        refine lv_iadd hx hb dL_law_439 ?_
        refine va_sld hx hb hX hbl hbA hS v2 dL_law_440 ?_
        refine call_Vi2 2 (kX5_point l D cI fM σ (xs (Int32.toNatClampNeg (x3 + (1 : Int32)))) (xs (Int32.toNatClampNeg (x3 + (2 : Int32)))) (MI_s hI (by omega))) ⟨hx, hb, hml, hown, hts, hK, hN, hA⟩ ⟨kw_649, kw_650, kw_651, kw_6, kw_652, by decide +kernel, rfl, rfl, Nat.le_of_ble_eq_true rfl, Nat.le_of_ble_eq_true rfl⟩ rfl (va_recv hK hP (ci := 5) (q0 := 10) rfl rfl) hP hD hS hl.1 rfl (Nat.le_of_ble_eq_true rfl) dL_law_441 ⟨Nat.le_of_ble_eq_true rfl, Nat.le_of_ble_eq_true rfl⟩ (fun r2 u H locs hw hP hD hS => ?_)
        have hw : (m_point σ (xs (Int32.toNatClampNeg (x3 + (1 : Int32)))) (xs (Int32.toNatClampNeg (x3 + (2 : Int32))))) = r2 := hw
        subst hw
        have hP : va_P D vwCl (wX fX cI σ ++ wM fM cI σ) H := hP
        have hD : va_D (fun q : Nat => s.heap.size ≤ q) (wX fX cI σ ++ wM fM cI σ) := hD
        rw [T_point hI (by omega) (xs (Int32.toNatClampNeg (x3 + (1 : Int32)))) (xs (Int32.toNatClampNeg (x3 + (2 : Int32))))]
        refine lv_icmp_eq (tgt := 577) hx hb dL_law_444 (by decide) (fun _ => ?_) (fun q => absurd rfl q)
        exact nxt σ H locs (up hI) hP hD hS
      by_cases s_11 : w = (11 : Int32)
      · refine lv_tableIn (off := 417) (tgt := 449) hx hb dL_law_32 (by rw [s_11]; decide) (by rw [s_11]; decide) (by rw [s_11]; rfl) (by decide) ?_
        refine lv_aload_n hx hb dL_law_449 rfl (lv_at hl 1 rfl) ?_
        refine call_Vi1 0 (kX4_points l D cI fX σ) ⟨hx, hb, hml, hown, hts, hK, hN, hA⟩ ⟨kw_414, kw_415, kw_416, kw_1, kw_417, by decide +kernel, rfl, rfl, Nat.le_of_ble_eq_true rfl, Nat.le_of_ble_eq_true rfl⟩ rfl (va_recv hK hP (ci := 4) (q0 := 0) rfl rfl) hP hD hS hl.1 rfl (Nat.le_of_ble_eq_true rfl) dL_law_450 ⟨Nat.le_of_ble_eq_true rfl, Nat.le_of_ble_eq_true rfl⟩ (fun r1 u H locs hw hP hD hS => ?_)
        have hw : (x4_points σ) = r1 := hw
        subst hw
        have hP : va_P D vwCl (wX fX cI σ ++ wM fM cI σ) H := hP
        have hD : va_D (fun q : Nat => s.heap.size ≤ q) (wX fX cI σ ++ wM fM cI σ) := hD
        refine lv_aload_n hx hb dL_law_453 rfl (lv_at hl 2 rfl) ?_
        refine call_Vi2 0 (kX5_points l D cI fM σ) ⟨hx, hb, hml, hown, hts, hK, hN, hA⟩ ⟨kw_653, kw_654, kw_655, kw_6, kw_656, by decide +kernel, rfl, rfl, Nat.le_of_ble_eq_true rfl, Nat.le_of_ble_eq_true rfl⟩ rfl (va_recv hK hP (ci := 5) (q0 := 10) rfl rfl) hP hD hS hl.1 rfl (Nat.le_of_ble_eq_true rfl) dL_law_454 ⟨Nat.le_of_ble_eq_true rfl, Nat.le_of_ble_eq_true rfl⟩ (fun r2 u H locs hw hP hD hS => ?_)
        have hw : (m_points σ) = r2 := hw
        subst hw
        have hP : va_P D vwCl (wX fX cI σ ++ wM fM cI σ) H := hP
        have hD : va_D (fun q : Nat => s.heap.size ≤ q) (wX fX cI σ ++ wM fM cI σ) := hD
        rw [T_points σ]
        refine lv_icmp_eq (tgt := 577) hx hb dL_law_457 (by decide) (fun _ => ?_) (fun q => absurd rfl q)
        exact nxt σ H locs (up hI) hP hD hS
      by_cases s_12 : w = (12 : Int32)
      · refine lv_tableIn (off := 430) (tgt := 462) hx hb dL_law_32 (by rw [s_12]; decide) (by rw [s_12]; decide) (by rw [s_12]; rfl) (by decide) ?_
        refine lv_aload_n hx hb dL_law_462 rfl (lv_at hl 1 rfl) ?_
        refine lv_aload_n hx hb dL_law_463 rfl (lv_at hl 0 rfl) ?_
        refine lv_iload_n hx hb dL_law_464 rfl (lv_at hl 3 rfl) ?_
        refine lv_iconst (v := (1 : Int32)) hx hb dL_law_465 (by decide) ?_
        refine lv_iadd hx hb dL_law_466 ?_
        refine va_sld hx hb hX hbl hbA hS v1 dL_law_467 ?_
        refine call_Vi1 1 (kX4_out l D cI fX σ (xs (Int32.toNatClampNeg (x3 + (1 : Int32))))) ⟨hx, hb, hml, hown, hts, hK, hN, hA⟩ ⟨kw_418, kw_419, kw_420, kw_1, kw_421, by decide +kernel, rfl, rfl, Nat.le_of_ble_eq_true rfl, Nat.le_of_ble_eq_true rfl⟩ rfl (va_recv hK hP (ci := 4) (q0 := 0) rfl rfl) hP hD hS hl.1 rfl (Nat.le_of_ble_eq_true rfl) dL_law_468 ⟨Nat.le_of_ble_eq_true rfl, Nat.le_of_ble_eq_true rfl⟩ (fun r1 u H locs hw hP hD hS => ?_)
        have hw : (x4_out σ (xs (Int32.toNatClampNeg (x3 + (1 : Int32))))) = r1 := hw
        subst hw
        have hP : va_P D vwCl (wX fX cI σ ++ wM fM cI σ) H := hP
        have hD : va_D (fun q : Nat => s.heap.size ≤ q) (wX fX cI σ ++ wM fM cI σ) := hD
        refine lv_aload_n hx hb dL_law_471 rfl (lv_at hl 2 rfl) ?_
        refine lv_aload_n hx hb dL_law_472 rfl (lv_at hl 0 rfl) ?_
        refine lv_iload_n hx hb dL_law_473 rfl (lv_at hl 3 rfl) ?_
        refine lv_iconst (v := (1 : Int32)) hx hb dL_law_474 (by decide) ?_
        refine lv_iadd hx hb dL_law_475 ?_
        refine va_sld hx hb hX hbl hbA hS v1 dL_law_476 ?_
        refine call_Vi2 1 (kX5_out l D cI fM σ (xs (Int32.toNatClampNeg (x3 + (1 : Int32)))) (MI_s hI (by omega))) ⟨hx, hb, hml, hown, hts, hK, hN, hA⟩ ⟨kw_657, kw_658, kw_659, kw_6, kw_660, by decide +kernel, rfl, rfl, Nat.le_of_ble_eq_true rfl, Nat.le_of_ble_eq_true rfl⟩ rfl (va_recv hK hP (ci := 5) (q0 := 10) rfl rfl) hP hD hS hl.1 rfl (Nat.le_of_ble_eq_true rfl) dL_law_477 ⟨Nat.le_of_ble_eq_true rfl, Nat.le_of_ble_eq_true rfl⟩ (fun r2 u H locs hw hP hD hS => ?_)
        have hw : (m_out σ (xs (Int32.toNatClampNeg (x3 + (1 : Int32))))) = r2 := hw
        subst hw
        have hP : va_P D vwCl (wX fX cI σ ++ wM fM cI σ) H := hP
        have hD : va_D (fun q : Nat => s.heap.size ≤ q) (wX fX cI σ ++ wM fM cI σ) := hD
        rw [T_out hI (xs (Int32.toNatClampNeg (x3 + (1 : Int32))))]
        refine lv_icmp_eq (tgt := 577) hx hb dL_law_480 (by decide) (fun _ => ?_) (fun q => absurd rfl q)
        exact nxt σ H locs (up hI) hP hD hS
      by_cases s_13 : w = (13 : Int32)
      · refine lv_tableIn (off := 453) (tgt := 485) hx hb dL_law_32 (by rw [s_13]; decide) (by rw [s_13]; decide) (by rw [s_13]; rfl) (by decide) ?_
        refine lv_aload_n hx hb dL_law_485 rfl (lv_at hl 1 rfl) ?_
        refine lv_aload_n hx hb dL_law_486 rfl (lv_at hl 0 rfl) ?_
        refine lv_iload_n hx hb dL_law_487 rfl (lv_at hl 3 rfl) ?_
        refine lv_iconst (v := (1 : Int32)) hx hb dL_law_488 (by decide) ?_
        refine lv_iadd hx hb dL_law_489 ?_
        refine va_sld hx hb hX hbl hbA hS v1 dL_law_490 ?_
        refine call_Vi1 1 (kX4_value l D cI fX σ (xs (Int32.toNatClampNeg (x3 + (1 : Int32))))) ⟨hx, hb, hml, hown, hts, hK, hN, hA⟩ ⟨kw_426, kw_427, kw_428, kw_1, kw_429, by decide +kernel, rfl, rfl, Nat.le_of_ble_eq_true rfl, Nat.le_of_ble_eq_true rfl⟩ rfl (va_recv hK hP (ci := 4) (q0 := 0) rfl rfl) hP hD hS hl.1 rfl (Nat.le_of_ble_eq_true rfl) dL_law_491 ⟨Nat.le_of_ble_eq_true rfl, Nat.le_of_ble_eq_true rfl⟩ (fun r1 u H locs hw hP hD hS => ?_)
        have hw : (x4_value σ (xs (Int32.toNatClampNeg (x3 + (1 : Int32))))) = r1 := hw
        subst hw
        have hP : va_P D vwCl (wX fX cI σ ++ wM fM cI σ) H := hP
        have hD : va_D (fun q : Nat => s.heap.size ≤ q) (wX fX cI σ ++ wM fM cI σ) := hD
        refine lv_aload_n hx hb dL_law_494 rfl (lv_at hl 2 rfl) ?_
        refine lv_aload_n hx hb dL_law_495 rfl (lv_at hl 0 rfl) ?_
        refine lv_iload_n hx hb dL_law_496 rfl (lv_at hl 3 rfl) ?_
        refine lv_iconst (v := (1 : Int32)) hx hb dL_law_497 (by decide) ?_
        refine lv_iadd hx hb dL_law_498 ?_
        refine va_sld hx hb hX hbl hbA hS v1 dL_law_499 ?_
        refine call_Vi2 1 (kX5_value l D cI fM σ (xs (Int32.toNatClampNeg (x3 + (1 : Int32))))) ⟨hx, hb, hml, hown, hts, hK, hN, hA⟩ ⟨kw_661, kw_662, kw_663, kw_6, kw_664, by decide +kernel, rfl, rfl, Nat.le_of_ble_eq_true rfl, Nat.le_of_ble_eq_true rfl⟩ rfl (va_recv hK hP (ci := 5) (q0 := 10) rfl rfl) hP hD hS hl.1 rfl (Nat.le_of_ble_eq_true rfl) dL_law_500 ⟨Nat.le_of_ble_eq_true rfl, Nat.le_of_ble_eq_true rfl⟩ (fun r2 u H locs hw hP hD hS => ?_)
        have hw : (m_value σ (xs (Int32.toNatClampNeg (x3 + (1 : Int32))))) = r2 := hw
        subst hw
        have hP : va_P D vwCl (wX fX cI σ ++ wM fM cI σ) H := hP
        have hD : va_D (fun q : Nat => s.heap.size ≤ q) (wX fX cI σ ++ wM fM cI σ) := hD
        rw [T_value σ (xs (Int32.toNatClampNeg (x3 + (1 : Int32))))]
        refine lv_icmp_eq (tgt := 577) hx hb dL_law_503 (by decide) (fun _ => ?_) (fun q => absurd rfl q)
        exact nxt σ H locs (up hI) hP hD hS
      by_cases s_14 : w = (14 : Int32)
      · refine lv_tableIn (off := 476) (tgt := 508) hx hb dL_law_32 (by rw [s_14]; decide) (by rw [s_14]; decide) (by rw [s_14]; rfl) (by decide) ?_
        refine lv_aload_n hx hb dL_law_508 rfl (lv_at hl 1 rfl) ?_
        refine lv_aload_n hx hb dL_law_509 rfl (lv_at hl 0 rfl) ?_
        refine lv_iload_n hx hb dL_law_510 rfl (lv_at hl 3 rfl) ?_
        refine lv_iconst (v := (1 : Int32)) hx hb dL_law_511 (by decide) ?_
        refine lv_iadd hx hb dL_law_512 ?_
        refine va_sld hx hb hX hbl hbA hS v1 dL_law_513 ?_
        refine call_Vi1 1 (kX4_word l D cI fX σ (xs (Int32.toNatClampNeg (x3 + (1 : Int32))))) ⟨hx, hb, hml, hown, hts, hK, hN, hA⟩ ⟨kw_431, kw_432, kw_433, kw_1, kw_434, by decide +kernel, rfl, rfl, Nat.le_of_ble_eq_true rfl, Nat.le_of_ble_eq_true rfl⟩ rfl (va_recv hK hP (ci := 4) (q0 := 0) rfl rfl) hP hD hS hl.1 rfl (Nat.le_of_ble_eq_true rfl) dL_law_514 ⟨Nat.le_of_ble_eq_true rfl, Nat.le_of_ble_eq_true rfl⟩ (fun r1 u H locs hw hP hD hS => ?_)
        have hw : (x4_word σ (xs (Int32.toNatClampNeg (x3 + (1 : Int32))))) = r1 := hw
        subst hw
        have hP : va_P D vwCl (wX fX cI σ ++ wM fM cI σ) H := hP
        have hD : va_D (fun q : Nat => s.heap.size ≤ q) (wX fX cI σ ++ wM fM cI σ) := hD
        refine lv_aload_n hx hb dL_law_517 rfl (lv_at hl 2 rfl) ?_
        refine lv_aload_n hx hb dL_law_518 rfl (lv_at hl 0 rfl) ?_
        refine lv_iload_n hx hb dL_law_519 rfl (lv_at hl 3 rfl) ?_
        refine lv_iconst (v := (1 : Int32)) hx hb dL_law_520 (by decide) ?_
        refine lv_iadd hx hb dL_law_521 ?_
        refine va_sld hx hb hX hbl hbA hS v1 dL_law_522 ?_
        refine call_Vi2 1 (kX5_word l D cI fM σ (xs (Int32.toNatClampNeg (x3 + (1 : Int32))))) ⟨hx, hb, hml, hown, hts, hK, hN, hA⟩ ⟨kw_666, kw_667, kw_668, kw_6, kw_669, by decide +kernel, rfl, rfl, Nat.le_of_ble_eq_true rfl, Nat.le_of_ble_eq_true rfl⟩ rfl (va_recv hK hP (ci := 5) (q0 := 10) rfl rfl) hP hD hS hl.1 rfl (Nat.le_of_ble_eq_true rfl) dL_law_523 ⟨Nat.le_of_ble_eq_true rfl, Nat.le_of_ble_eq_true rfl⟩ (fun r2 u H locs hw hP hD hS => ?_)
        have hw : (m_word σ (xs (Int32.toNatClampNeg (x3 + (1 : Int32))))) = r2 := hw
        subst hw
        have hP : va_P D vwCl (wX fX cI σ ++ wM fM cI σ) H := hP
        have hD : va_D (fun q : Nat => s.heap.size ≤ q) (wX fX cI σ ++ wM fM cI σ) := hD
        rw [T_word σ (xs (Int32.toNatClampNeg (x3 + (1 : Int32))))]
        refine lv_icmp_eq (tgt := 577) hx hb dL_law_526 (by decide) (fun _ => ?_) (fun q => absurd rfl q)
        exact nxt σ H locs (up hI) hP hD hS
      by_cases s_15 : w = (15 : Int32)
      · refine lv_tableIn (off := 499) (tgt := 531) hx hb dL_law_32 (by rw [s_15]; decide) (by rw [s_15]; decide) (by rw [s_15]; rfl) (by decide) ?_
        refine lv_aload_n hx hb dL_law_531 rfl (lv_at hl 1 rfl) ?_
        refine lv_aload_n hx hb dL_law_532 rfl (lv_at hl 0 rfl) ?_
        refine lv_iload_n hx hb dL_law_533 rfl (lv_at hl 3 rfl) ?_
        refine lv_iconst (v := (1 : Int32)) hx hb dL_law_534 (by decide) ?_
        refine lv_iadd hx hb dL_law_535 ?_
        refine va_sld hx hb hX hbl hbA hS v1 dL_law_536 ?_
        refine lv_aload_n hx hb dL_law_537 rfl (lv_at hl 0 rfl) ?_
        refine lv_iload_n hx hb dL_law_538 rfl (lv_at hl 3 rfl) ?_
        refine lv_iconst (v := (2 : Int32)) hx hb dL_law_539 (by decide) ?_
        refine lv_iadd hx hb dL_law_540 ?_
        refine va_sld hx hb hX hbl hbA hS v2 dL_law_541 ?_
        refine call_Vi1 2 (kX4_reads l D cI fX σ (xs (Int32.toNatClampNeg (x3 + (1 : Int32)))) (xs (Int32.toNatClampNeg (x3 + (2 : Int32))))) ⟨hx, hb, hml, hown, hts, hK, hN, hA⟩ ⟨kw_437, kw_438, kw_439, kw_1, kw_440, by decide +kernel, rfl, rfl, Nat.le_of_ble_eq_true rfl, Nat.le_of_ble_eq_true rfl⟩ rfl (va_recv hK hP (ci := 4) (q0 := 0) rfl rfl) hP hD hS hl.1 rfl (Nat.le_of_ble_eq_true rfl) dL_law_542 ⟨Nat.le_of_ble_eq_true rfl, Nat.le_of_ble_eq_true rfl⟩ (fun r1 u H locs hw hP hD hS => ?_)
        have hw : (x4_reads σ (xs (Int32.toNatClampNeg (x3 + (1 : Int32)))) (xs (Int32.toNatClampNeg (x3 + (2 : Int32))))) = r1 := hw
        subst hw
        have hP : va_P D vwCl (wX fX cI σ ++ wM fM cI σ) H := hP
        have hD : va_D (fun q : Nat => s.heap.size ≤ q) (wX fX cI σ ++ wM fM cI σ) := hD
        refine lv_aload_n hx hb dL_law_545 rfl (lv_at hl 2 rfl) ?_
        refine lv_aload_n hx hb dL_law_546 rfl (lv_at hl 0 rfl) ?_
        refine lv_iload_n hx hb dL_law_547 rfl (lv_at hl 3 rfl) ?_
        refine lv_iconst (v := (1 : Int32)) hx hb dL_law_548 (by decide) ?_
        refine lv_iadd hx hb dL_law_549 ?_
        refine va_sld hx hb hX hbl hbA hS v1 dL_law_550 ?_
        refine lv_aload_n hx hb dL_law_551 rfl (lv_at hl 0 rfl) ?_
        refine lv_iload_n hx hb dL_law_552 rfl (lv_at hl 3 rfl) ?_
        refine lv_iconst (v := (2 : Int32)) hx hb dL_law_553 (by decide) ?_
        refine lv_iadd hx hb dL_law_554 ?_
        refine va_sld hx hb hX hbl hbA hS v2 dL_law_555 ?_
        refine call_Vi2 2 (kX5_reads l D cI fM σ (xs (Int32.toNatClampNeg (x3 + (1 : Int32)))) (xs (Int32.toNatClampNeg (x3 + (2 : Int32))))) ⟨hx, hb, hml, hown, hts, hK, hN, hA⟩ ⟨kw_672, kw_673, kw_674, kw_6, kw_675, by decide +kernel, rfl, rfl, Nat.le_of_ble_eq_true rfl, Nat.le_of_ble_eq_true rfl⟩ rfl (va_recv hK hP (ci := 5) (q0 := 10) rfl rfl) hP hD hS hl.1 rfl (Nat.le_of_ble_eq_true rfl) dL_law_556 ⟨Nat.le_of_ble_eq_true rfl, Nat.le_of_ble_eq_true rfl⟩ (fun r2 u H locs hw hP hD hS => ?_)
        have hw : (m_reads σ (xs (Int32.toNatClampNeg (x3 + (1 : Int32)))) (xs (Int32.toNatClampNeg (x3 + (2 : Int32))))) = r2 := hw
        subst hw
        have hP : va_P D vwCl (wX fX cI σ ++ wM fM cI σ) H := hP
        have hD : va_D (fun q : Nat => s.heap.size ≤ q) (wX fX cI σ ++ wM fM cI σ) := hD
        rw [T_reads σ (xs (Int32.toNatClampNeg (x3 + (1 : Int32)))) (xs (Int32.toNatClampNeg (x3 + (2 : Int32))))]
        refine lv_icmp_eq (tgt := 577) hx hb dL_law_559 (by decide) (fun _ => ?_) (fun q => absurd rfl q)
        exact nxt σ H locs (up hI) hP hD hS
      by_cases s_16 : w = (16 : Int32)
      · refine lv_tableIn (off := 532) (tgt := 564) hx hb dL_law_32 (by rw [s_16]; decide) (by rw [s_16]; decide) (by rw [s_16]; rfl) (by decide) ?_
        refine lv_aload_n hx hb dL_law_564 rfl (lv_at hl 1 rfl) ?_
        refine call_Vi1 0 (kX4_digest l D cI fX σ) ⟨hx, hb, hml, hown, hts, hK, hN, hA⟩ ⟨kw_441, kw_442, kw_443, kw_1, kw_444, by decide +kernel, rfl, rfl, Nat.le_of_ble_eq_true rfl, Nat.le_of_ble_eq_true rfl⟩ rfl (va_recv hK hP (ci := 4) (q0 := 0) rfl rfl) hP hD hS hl.1 rfl (Nat.le_of_ble_eq_true rfl) dL_law_565 ⟨Nat.le_of_ble_eq_true rfl, Nat.le_of_ble_eq_true rfl⟩ (fun r1 u H locs hw hP hD hS => ?_)
        have hw : (x4_digest σ) = r1 := hw
        subst hw
        have hP : va_P D vwCl (wX fX cI σ ++ wM fM cI σ) H := hP
        have hD : va_D (fun q : Nat => s.heap.size ≤ q) (wX fX cI σ ++ wM fM cI σ) := hD
        refine lv_aload_n hx hb dL_law_568 rfl (lv_at hl 2 rfl) ?_
        refine call_Vi2 0 (kX5_digest l D cI fM σ) ⟨hx, hb, hml, hown, hts, hK, hN, hA⟩ ⟨kw_676, kw_677, kw_678, kw_6, kw_679, by decide +kernel, rfl, rfl, Nat.le_of_ble_eq_true rfl, Nat.le_of_ble_eq_true rfl⟩ rfl (va_recv hK hP (ci := 5) (q0 := 10) rfl rfl) hP hD hS hl.1 rfl (Nat.le_of_ble_eq_true rfl) dL_law_569 ⟨Nat.le_of_ble_eq_true rfl, Nat.le_of_ble_eq_true rfl⟩ (fun r2 u H locs hw hP hD hS => ?_)
        have hw : (m_digest σ) = r2 := hw
        subst hw
        have hP : va_P D vwCl (wX fX cI σ ++ wM fM cI σ) H := hP
        have hD : va_D (fun q : Nat => s.heap.size ≤ q) (wX fX cI σ ++ wM fM cI σ) := hD
        rw [T_digest σ]
        refine lv_icmp_eq (tgt := 577) hx hb dL_law_572 (by decide) (fun _ => ?_) (fun q => absurd rfl q)
        exact nxt σ H locs (up hI) hP hD hS
      refine lv_tableOut (tgt := 577) hx hb dL_law_32 (by have q0 := lv_neT s_0 (show (0 : Int32).toInt = 0 by decide); have q1 := lv_neT s_1 (show (1 : Int32).toInt = 1 by decide); have q2 := lv_neT s_2 (show (2 : Int32).toInt = 2 by decide); have q3 := lv_neT s_3 (show (3 : Int32).toInt = 3 by decide); have q4 := lv_neT s_4 (show (4 : Int32).toInt = 4 by decide); have q5 := lv_neT s_5 (show (5 : Int32).toInt = 5 by decide); have q6 := lv_neT s_6 (show (6 : Int32).toInt = 6 by decide); have q7 := lv_neT s_7 (show (7 : Int32).toInt = 7 by decide); have q8 := lv_neT s_8 (show (8 : Int32).toInt = 8 by decide); have q9 := lv_neT s_9 (show (9 : Int32).toInt = 9 by decide); have q10 := lv_neT s_10 (show (10 : Int32).toInt = 10 by decide); have q11 := lv_neT s_11 (show (11 : Int32).toInt = 11 by decide); have q12 := lv_neT s_12 (show (12 : Int32).toInt = 12 by decide); have q13 := lv_neT s_13 (show (13 : Int32).toInt = 13 by decide); have q14 := lv_neT s_14 (show (14 : Int32).toInt = 14 by decide); have q15 := lv_neT s_15 (show (15 : Int32).toInt = 15 by decide); have q16 := lv_neT s_16 (show (16 : Int32).toInt = 16 by decide); omega) (by decide) ?_
      exact nxt σ H locs (up hI) hP hD hS
