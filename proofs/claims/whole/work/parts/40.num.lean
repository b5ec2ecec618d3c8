/-! numbers: words of 18 bits, their bits, shifts; g_ and pf_ and nx_ rows are the kit's (laws/BITS.to-paste) -/
theorem u_tn {n : Nat} (h : n < 2 ^ 64) : (UInt64.ofNat n).toNat = n := Nat.mod_eq_of_lt h
theorem g_and {a b c : Nat} (ha : a < 2 ^ 64) (hb : b < 2 ^ 64) (hc : a &&& b = c) : lN a &&& lN b = lN c := by
  subst hc
  have h : UInt64.ofNat a &&& UInt64.ofNat b = UInt64.ofNat (a &&& b) := UInt64.toNat_inj.mp (by rw [UInt64.toNat_and, u_tn ha, u_tn hb, u_tn (Nat.and_lt_two_pow a hb)])
  have h2 := congrArg UInt64.toInt64 h
  exact h2
theorem g_and1 {a : Nat} (ha : a < 2 ^ 64) : lN a &&& 1 = lN (a % 2) := g_and (b := 1) ha (by decide) (Nat.and_two_pow_sub_one_eq_mod a 1)
theorem g_mask {a s p : Nat} (hp : 2 ^ s = p) (hs : s < 64) (ha : a < 2 ^ 64) : lN a &&& lN (p - 1) = lN (a % p) := by
  subst hp
  have := Nat.pow_lt_pow_right (show 1 < 2 by decide) hs
  exact g_and ha (by omega) (Nat.and_two_pow_sub_one_eq_mod a s)
theorem g_or {k p a b : Nat} (hp : 2 ^ k = p) (ha : a < p) (h : b * p + a < 2 ^ 64) : lN (b * p) ||| lN a = lN (b * p + a) := by
  subst hp
  have h1 : b * 2 ^ k ||| a = b * 2 ^ k + a := by rw [← Nat.shiftLeft_eq, Nat.shiftLeft_add_eq_or_of_lt ha]
  have h3 : UInt64.ofNat (b * 2 ^ k) ||| UInt64.ofNat a = UInt64.ofNat (b * 2 ^ k + a) := UInt64.toNat_inj.mp (by rw [UInt64.toNat_or, u_tn (by omega), u_tn (by omega), u_tn h, h1])
  have h2 := congrArg UInt64.toInt64 h3
  exact h2
theorem g_or' {k p a b : Nat} (hp : 2 ^ k = p) (ha : a < p) (h : a + b * p < 2 ^ 64) : lN a ||| lN (b * p) = lN (a + b * p) := by
  rw [Int64.or_comm, g_or hp ha (by omega), Nat.add_comm]
theorem g_ushr {a k p : Nat} {y : UInt64} (hy : y = UInt64.ofNat k) (hk : k < 64) (hp : 2 ^ k = p) (ha : a < 2 ^ 64) : ((lN a).toUInt64 >>> y).toInt64 = lN (a / p) := by
  subst hy hp
  have h : UInt64.ofNat a >>> UInt64.ofNat k = UInt64.ofNat (a / 2 ^ k) := UInt64.toNat_inj.mp (by rw [UInt64.toNat_shiftRight, u_tn ha, u_tn (by omega), u_tn (Nat.lt_of_le_of_lt (Nat.div_le_self _ _) ha), Nat.mod_eq_of_lt hk, Nat.shiftRight_eq_div_pow])
  have h2 := congrArg UInt64.toInt64 h
  exact h2
theorem g_shl {a k p : Nat} {y : Int64} (hy : y.toBitVec.smod 64 = BitVec.ofNat 64 k) (hk : k < 64) (hp : 2 ^ k = p) (ha : a < 2 ^ 64) : lN a <<< y = lN (a * p) := by
  subst hp
  apply Int64.toBitVec_inj.mp
  rw [Int64.toBitVec_shiftLeft, hy]
  apply BitVec.eq_of_toNat_eq
  have hb : (lN a).toBitVec.toNat = a := Nat.mod_eq_of_lt ha
  have hk' : (BitVec.ofNat 64 k).toNat = k := Nat.mod_eq_of_lt (by omega)
  have h : ((lN a).toBitVec <<< BitVec.ofNat 64 k).toNat = (a * 2 ^ k) % 2 ^ 64 := by simp only [BitVec.shiftLeft_eq', BitVec.toNat_shiftLeft, hb, hk', Nat.shiftLeft_eq]
  exact h
theorem pf_lI {a : Nat} (h : a < 2 ^ 63) : (lN a).toInt = (a : Int) := lg_ofNat_toInt h
theorem pf_shr {a d : Nat} {D : Int64} (hD : (D.toBitVec.smod 64).toNat = d) (h : a < 2 ^ 62) : lN a >>> D = lN (a / 2 ^ d) := by
  have hd : a / 2 ^ d ≤ a := Nat.div_le_self _ _
  apply Int64.toInt_inj.mp
  have e : (lN a >>> D).toInt = (lN a).toInt >>> d := by
    rw [← hD]
    exact BitVec.toInt_sshiftRight ..
  rw [e, Int.shiftRight_eq_div_pow, pf_lI (by omega), pf_lI (by omega)]
  rfl
theorem nx_and (a b : Nat) : nI a &&& nI b = nI (a &&& b) := by
  apply Int32.toBitVec_inj.1
  show BitVec.ofNat 32 a &&& BitVec.ofNat 32 b = BitVec.ofNat 32 (a &&& b)
  apply BitVec.eq_of_getLsbD_eq
  intro i hi
  simp [hi]
def Wd (x : Int32) : Prop := vp_in x 262144
theorem wd_of {x : Int32} (h : Wd x) : ∃ n, n < 262144 ∧ x = nI n := vp_in_of h (by decide)
theorem wd_nI {n : Nat} (h : n < 262144) : Wd (nI n) := vp_in_nI h (by decide)
theorem ab_g (x : Int32) {m : Int32} {k : Nat} (hm : m.toBitVec = BitVec.twoPow 32 k) : x &&& m = if x.toBitVec.getLsbD k = true then m else 0 := by
  apply Int32.toBitVec_inj.mp
  rw [Int32.toBitVec_and, hm, BitVec.and_twoPow]
  by_cases h : x.toBitVec.getLsbD k = true
  · rw [if_pos h, if_pos h, hm]
  · rw [if_neg h, if_neg h]; rfl
theorem nI_bit {n k : Nat} (hk : k < 32) : (nI n).toBitVec.getLsbD k = decide (n / 2 ^ k % 2 = 1) := by
  show (BitVec.ofNat 32 n).getLsbD k = _
  rw [BitVec.getLsbD_ofNat, Nat.testBit_eq_decide_div_mod_eq]
  simp [hk]
theorem ab_n {n k : Nat} {m : Int32} (hk : k < 32) (hm : m.toBitVec = BitVec.twoPow 32 k) : nI n &&& m = if n / 2 ^ k % 2 = 1 then m else 0 := by
  rw [ab_g _ hm, nI_bit hk]
  simp
theorem ab_0 (x : Int32) {m : Int32} {k : Nat} (hm : m.toBitVec = BitVec.twoPow 32 k) (h0 : ¬ m ≤ 0) : x &&& m ≤ 0 ↔ x &&& m = 0 := by
  rw [ab_g x hm]
  by_cases h : x.toBitVec.getLsbD k = true
  · rw [if_pos h]; exact ⟨fun q => absurd q h0, fun q => by rw [q]; decide⟩
  · rw [if_neg h]; decide
theorem n_or {k p a b : Nat} (hp : 2 ^ k = p) (ha : a < p) : nI (b * p) ||| nI a = nI (b * p + a) := by
  subst hp
  have h1 : b * 2 ^ k ||| a = b * 2 ^ k + a := by rw [← Nat.shiftLeft_eq, Nat.shiftLeft_add_eq_or_of_lt ha]
  rw [← h1]
  apply Int32.toBitVec_inj.1
  show BitVec.ofNat 32 _ ||| BitVec.ofNat 32 a = BitVec.ofNat 32 _
  apply BitVec.eq_of_getLsbD_eq
  intro i hi
  simp [hi]
theorem n_or' {k p a b : Nat} (hp : 2 ^ k = p) (ha : a < p) : nI a ||| nI (b * p) = nI (b * p + a) := by rw [Int32.or_comm, n_or hp ha]
theorem n_and {n k : Nat} {m : Int32} (h : n < 2 ^ 32) (hm : m.toBitVec.toNat = 2 ^ k - 1) : nI n &&& m = nI (n % 2 ^ k) := pk_andN h k hm
theorem n_id {n k : Nat} {m : Int32} (h : n < 2 ^ k) (hk : k ≤ 31) (hm : m.toBitVec.toNat = 2 ^ k - 1) : nI n &&& m = nI n := by
  have : 2 ^ k ≤ 2 ^ 31 := Nat.pow_le_pow_right (by decide) hk
  rw [n_and (by omega) hm, Nat.mod_eq_of_lt h]
theorem ad_id {a : Int32} (h : vp_in a 4096) : a &&& (4095 : Int32) = a := by
  obtain ⟨n, hn, rfl⟩ := vp_in_of h (by decide)
  exact n_id (k := 12) hn (by decide) (by decide)
theorem ad_in (a : Int32) : vp_in (a &&& (4095 : Int32)) 4096 := pk_andIn a 12 (by decide) (by decide)
theorem nI_ne {a b : Nat} (ha : a < 2 ^ 31) (hb : b < 2 ^ 31) (h : a ≠ b) : ¬ nI a = nI b := fun q => h ((nI_eq ha hb).mp q)
/-- the sign -/
theorem sg_m {n : Nat} (h : n < 262144) : m_sign (nI n) = nI (n / 131072) := pk_shrN (by omega) _ 17 (by decide)
theorem sg_x {n : Nat} (h : n < 262144) : x4_signOf (nI n) = nI (n / 131072) := by
  unfold x4_signOf
  rw [ab_n (k := 17) (by decide) (by decide)]
  by_cases q : n / 2 ^ 17 % 2 = 1
  · rw [if_pos q, if_neg (by decide), show n / 131072 = 1 by omega]; rfl
  · rw [if_neg q, if_pos rfl, show n / 131072 = 0 by omega]; rfl
theorem sg {w : Int32} (h : Wd w) : m_sign w = x4_signOf w := by
  obtain ⟨n, hn, rfl⟩ := wd_of h
  rw [sg_m hn, sg_x hn]
theorem sg2 (w : Int32) : x4_signOf w = 0 ∨ x4_signOf w = 1 := by
  unfold x4_signOf; split
  · exact Or.inl rfl
  · exact Or.inr rfl
/-- the bit I -/
theorem hi_x {n : Nat} : x4_hasI (nI n) = nI (n / 4096 % 2) := by
  unfold x4_hasI
  rw [ab_n (k := 12) (by decide) (by decide)]
  by_cases q : n / 2 ^ 12 % 2 = 1
  · rw [if_pos q, if_neg (by decide), show n / 4096 % 2 = 1 by omega]; rfl
  · rw [if_neg q, if_pos rfl, show n / 4096 % 2 = 0 by omega]; rfl
theorem hi {w : Int32} (h : Wd w) : (w >>> ((12 : Int32) &&& 31)) &&& (1 : Int32) = x4_hasI w := by
  obtain ⟨n, hn, rfl⟩ := wd_of h
  rw [hi_x, pk_shrN (by omega) _ 12 (by decide), n_and (k := 1) (by omega) (by decide)]
theorem hi2 (w : Int32) : x4_hasI w = 0 ∨ x4_hasI w = 1 := by
  unfold x4_hasI; split
  · exact Or.inl rfl
  · exact Or.inr rfl
/-- codes -/
theorem cd {w : Int32} (h : Wd w) : ∃ k, k < 32 ∧ w >>> ((13 : Int32) &&& 31) = nI k := by
  obtain ⟨n, hn, rfl⟩ := wd_of h
  exact ⟨n / 2 ^ 13, by omega, pk_shrN (by omega) _ 13 (by decide)⟩
theorem ha_k : ∀ k, k < 32 → m_hasAddress (nI k) = (if (nI k) < (1 : Int32) then x4_hasAddress_15 (nI k) else (if (nI k) ≤ (4 : Int32) then (1 : Int32) else x4_hasAddress_15 (nI k))) := by decide +kernel
theorem ha_e {w : Int32} (h : Wd w) : m_hasAddress (w >>> ((13 : Int32) &&& 31)) = x4_hasAddress w := by
  obtain ⟨k, hk, e⟩ := cd h
  unfold x4_hasAddress x4_codeOf
  rw [e]
  exact ha_k k hk
theorem il_e (w : Int32) : m_isIllegal w = x4_isIllegal w := by
  unfold m_isIllegal x4_isIllegal x4_shiftKindOf x4_codeOf
  rw [Int32.and_assoc, show (15 : Int32) &&& 3 = 3 by decide]
  generalize w >>> ((13 : Int32) &&& 31) = c
  by_cases h1 : c = 30
  · subst h1; rfl
  · rw [if_neg h1, if_neg h1]
/-- how many ones -/
theorem on_k : ∀ k, k < 512 → m_ones (nI k) = j_bitCount_0f7a4 (nI k) := by decide +kernel
theorem on_9 : ∀ k, k < 512 → (m_ones (nI k)).toNatClampNeg ≤ 9 ∧ m_ones (nI k) = nI (m_ones (nI k)).toNatClampNeg := by decide +kernel
theorem on_e (w : Int32) : m_ones (w &&& (511 : Int32)) = x4_onesOf w := by
  obtain ⟨j, hj, e⟩ := pk_andE w (m := 511) 9 (by decide)
  unfold x4_onesOf
  rw [e]
  exact on_k j hj
theorem on_n (w : Int32) : ∃ t, t ≤ 9 ∧ m_ones (w &&& (511 : Int32)) = nI t := by
  obtain ⟨j, hj, e⟩ := pk_andE w (m := 511) 9 (by decide)
  rw [e]
  exact ⟨_, (on_9 j hj).1, (on_9 j hj).2⟩
/-- the place -/
theorem pl_e {a b : Int32} (ha : vp_in a 4096) (hb : vp_in b 2) : a ||| (b <<< ((17 : Int32) &&& 31)) = if b = (0 : Int32) then a else a + (131072 : Int32) := by
  obtain ⟨n, hn, rfl⟩ := vp_in_of ha (by decide)
  obtain ⟨j, hj, rfl⟩ := vp_in_of hb (by decide)
  rw [pk_shlN _ 17 (by decide) (by omega), n_or' (k := 17) rfl (by omega)]
  rcases (show j = 0 ∨ j = 1 by omega) with q | q
  · subst q; rw [if_pos (show nI 0 = (0 : Int32) from rfl), Nat.zero_mul, Nat.zero_add]
  · subst q; rw [if_neg (by decide), show (131072 : Int32) = nI 131072 from rfl, nI_add]; congr 1; omega
theorem pl_w {a b : Int32} (ha : vp_in a 4096) (hb : vp_in b 2) : Wd (if b = (0 : Int32) then a else a + (131072 : Int32)) := by
  obtain ⟨n, hn, rfl⟩ := vp_in_of ha (by decide)
  split
  · exact wd_nI (by omega)
  · rw [show (131072 : Int32) = nI 131072 from rfl, nI_add]; exact wd_nI (by omega)
/-- sums -/
theorem sm_w {x y : Int32} (hx : Wd x) (hy : Wd y) : Wd (x4_sum x y) := by
  obtain ⟨a, ha, rfl⟩ := wd_of hx
  obtain ⟨b, hb, rfl⟩ := wd_of hy
  unfold x4_sum
  rw [nI_add, show (262143 : Int32) = nI 262143 from rfl]
  split
  · rename_i q
    have := (nI_leI (by omega) (by decide)).mp q
    exact wd_nI (by omega)
  · rename_i q
    have h1 : ¬ (a + b) ≤ 262143 := fun z => q ((nI_leI (by omega) (by decide)).mpr z)
    rw [pk_sub (by omega)]
    exact wd_nI (by omega)
theorem nt_w {x : Int32} (hx : Wd x) : Wd (x4_not x) := by
  obtain ⟨a, ha, rfl⟩ := wd_of hx
  unfold x4_not
  rw [show (262143 : Int32) = nI 262143 from rfl, pk_sub (by omega)]
  exact wd_nI (by omega)
theorem mz_w {x : Int32} (hx : Wd x) : Wd (x4_withoutMinusZero x) := by
  unfold x4_withoutMinusZero
  split
  · exact wd_nI (n := 0) (by omega)
  · exact hx
theorem and_w {x : Int32} (y : Int32) (hx : Wd x) : Wd (x &&& y) := by
  obtain ⟨a, ha, rfl⟩ := wd_of hx
  have h1 : (nI a &&& y) = nI (a &&& y.toBitVec.toNat) := by
    have : y = nI y.toBitVec.toNat := Int32.toBitVec_inj.mp (by show _ = BitVec.ofNat 32 _; simp)
    rw [this, nx_and]; congr 2; exact (pk_tn y.toBitVec.isLt).symm
  rw [h1]
  exact wd_nI (Nat.lt_of_le_of_lt Nat.and_le_left ha)
theorem or_w {x y : Int32} (hx : Wd x) (hy : Wd y) : Wd (x ||| y) := by
  obtain ⟨a, ha, rfl⟩ := wd_of hx
  obtain ⟨b, hb, rfl⟩ := wd_of hy
  have h1 : nI a ||| nI b = nI (a ||| b) := by
    apply Int32.toBitVec_inj.1
    show BitVec.ofNat 32 _ ||| BitVec.ofNat 32 _ = BitVec.ofNat 32 _
    apply BitVec.eq_of_getLsbD_eq
    intro i hi
    simp [hi]
  rw [h1]
  exact wd_nI (Nat.or_lt_two_pow (n := 18) ha hb)
theorem xor_w {x y : Int32} (hx : Wd x) (hy : Wd y) : Wd (x ^^^ y) := by
  obtain ⟨a, ha, rfl⟩ := wd_of hx
  obtain ⟨b, hb, rfl⟩ := wd_of hy
  have h1 : nI a ^^^ nI b = nI (a ^^^ b) := by
    apply Int32.toBitVec_inj.1
    show BitVec.ofNat 32 _ ^^^ BitVec.ofNat 32 _ = BitVec.ofNat 32 _
    apply BitVec.eq_of_getLsbD_eq
    intro i hi
    simp [hi]
  rw [h1]
  exact wd_nI (Nat.xor_lt_two_pow (n := 18) ha hb)
