/-! load -/
theorem wb_inj {a b : Int64} (h : a.toBitVec = b.toBitVec) : a = b := Int64.toBitVec_inj.mp h
theorem wb_tb (n : Nat) : (lN n).toBitVec = BitVec.ofNat 64 n := rfl
theorem wb_of (x : Int64) : ∃ n, n < 2 ^ 64 ∧ x = lN n := ⟨x.toBitVec.toNat, x.toBitVec.isLt, wb_inj (by rw [wb_tb]; simp)⟩
theorem lgc (x : Int64) : lg_cmp x (0 : Int64) = (0 : Int32) ↔ x = 0 := by
  unfold lg_cmp
  by_cases c : x > 0
  · rw [if_pos c]
    exact ⟨fun q => absurd q (by decide), fun q => by rw [q] at c; exact absurd c (by decide)⟩
  · rw [if_neg c]
    by_cases d : x = 0
    · rw [if_pos d]; exact ⟨fun _ => d, fun _ => rfl⟩
    · rw [if_neg d]; exact ⟨fun q => absurd q (by decide), fun q => absurd q d⟩
theorem ld_tI {n : Nat} (h : n < 2 ^ 64) : (lN n).toInt = if n < 2 ^ 63 then (n : Int) else (n : Int) - 2 ^ 64 := by
  show (BitVec.ofNat 64 n).toInt = _
  rw [BitVec.toInt_eq_toNat_cond, BitVec.toNat_ofNat, Nat.mod_eq_of_lt h]
  by_cases c : n < 2 ^ 63
  · rw [if_pos c, if_pos (by omega)]
  · rw [if_neg c, if_neg (by omega)]; rfl
theorem ld_s {n d : Nat} {D : Int64} (hD : (D.toBitVec.smod 64).toNat = d) : (lN n >>> D).toInt = (lN n).toInt / 2 ^ d := by
  have e : (lN n >>> D).toInt = (lN n).toInt >>> d := by
    rw [← hD]
    exact BitVec.toInt_sshiftRight ..
  rw [e, Int.shiftRight_eq_div_pow]
  rfl
theorem ld_u {n d : Nat} (h : n < 2 ^ 64) {s : Int32} (hD : ((Int32.toInt64 s).toUInt64 &&& Int64.toUInt64 63).toNat % 64 = d) : j_lushr (lN n) s = lN (n / 2 ^ d) := by
  unfold j_lushr
  have e : (lN n).toUInt64 >>> ((Int32.toInt64 s).toUInt64 &&& Int64.toUInt64 63) = UInt64.ofNat (n / 2 ^ d) := UInt64.toNat_inj.mp (by
    have hd : n / 2 ^ d ≤ n := Nat.div_le_self _ _
    rw [UInt64.toNat_shiftRight, hD, Nat.shiftRight_eq_div_pow, UInt64.toNat_ofNat']
    show (UInt64.ofNat n).toNat / 2 ^ d = _
    rw [UInt64.toNat_ofNat', Nat.mod_eq_of_lt (by omega), Nat.mod_eq_of_lt (by omega)])
  rw [e]
  rfl
/-- nothing above the words: the same by >> and by >>> -/
theorem ld_c (d : Nat) (hd : d ≤ 54) {s : Int32} (h1 : (((Int32.toInt64 s) &&& 63).toBitVec.smod 64).toNat = d) (h2 : ((Int32.toInt64 s).toUInt64 &&& Int64.toUInt64 63).toNat % 64 = d) (x : Int64) :
    (j_lushr x s = 0 ↔ x >>> (Int32.toInt64 s &&& 63) = 0) ∧ (j_lushr x s = 0 → ∃ n, n < 2 ^ 54 ∧ x = lN n) := by
  obtain ⟨n, hn, rfl⟩ := wb_of x
  have hp : 2 ^ d ≤ 2 ^ 54 := Nat.pow_le_pow_right (by decide) hd
  have h0 : 0 < 2 ^ d := Nat.two_pow_pos d
  have a1 : j_lushr (lN n) s = 0 ↔ n < 2 ^ d := by
    rw [ld_u hn h2]
    constructor
    · intro q
      have e := congrArg (fun z : Int64 => z.toBitVec.toNat) q
      have e : (BitVec.ofNat 64 (n / 2 ^ d)).toNat = 0 := e
      rw [BitVec.toNat_ofNat, Nat.mod_eq_of_lt (Nat.lt_of_le_of_lt (Nat.div_le_self _ _) hn)] at e
      exact (Nat.div_eq_zero_iff.mp e).resolve_left (by omega)
    · intro q
      rw [Nat.div_eq_of_lt q]; rfl
  have a2 : lN n >>> (Int32.toInt64 s &&& 63) = 0 ↔ n < 2 ^ d := by
    have b1 : lN n >>> (Int32.toInt64 s &&& 63) = 0 ↔ (lN n).toInt / 2 ^ d = 0 := by
      rw [← Int64.toInt_inj, ld_s h1]; rfl
    rw [b1, ld_tI hn]
    have hz : (0 : Int) < 2 ^ d := by exact_mod_cast h0
    have hc : ((2 ^ d : Nat) : Int) = (2 : Int) ^ d := by norm_cast
    rw [← hc]
    by_cases c : n < 2 ^ 63
    · rw [if_pos c]
      constructor
      · intro q
        have q2 : ((n / 2 ^ d : Nat) : Int) = 0 := by exact_mod_cast q
        have q3 : n / 2 ^ d = 0 := by exact_mod_cast q2
        exact (Nat.div_eq_zero_iff.mp q3).resolve_left (by omega)
      · intro q
        have q2 : n / 2 ^ d = 0 := Nat.div_eq_of_lt q
        have q3 : ((n / 2 ^ d : Nat) : Int) = 0 := by rw [q2]; rfl
        exact_mod_cast q3
    · rw [if_neg c]
      constructor
      · intro q
        have hneg : (n : Int) - 2 ^ 64 < 0 := by omega
        have : ((n : Int) - 2 ^ 64) / ((2 ^ d : Nat) : Int) < 0 := Int.ediv_neg_of_neg_of_pos hneg (by exact_mod_cast h0)
        omega
      · intro q; omega
  exact ⟨a1.trans a2.symm, fun q => ⟨n, Nat.lt_of_lt_of_le (a1.mp q) hp, rfl⟩⟩
theorem ld_v {n : Nat} (hn : n < 2 ^ 54) (s : Nat) (hs : s = 0 ∨ s = 18 ∨ s = 36) : Int64.toInt32 ((j_lushr (lN n) (nI s)) &&& (262143 : Int64)) = nI (n / 2 ^ s % 262144) ∧ ((Int64.toInt32 (lN n >>> (Int32.toInt64 (nI s) &&& 63))) &&& (262143 : Int32)) = nI (n / 2 ^ s % 262144) := by
  have e1 : j_lushr (lN n) (nI s) = lN (n / 2 ^ s) := ld_u (by omega) (by rcases hs with q | q | q <;> subst q <;> decide)
  have e2 : lN n >>> (Int32.toInt64 (nI s) &&& 63) = lN (n / 2 ^ s) := pf_shr (by rcases hs with q | q | q <;> subst q <;> decide) (by omega)
  have hd : n / 2 ^ s ≤ n := Nat.div_le_self _ _
  rw [e1, e2, m18 _ (by omega), lN_i, pk_and _ 18 (by decide)]
  refine ⟨rfl, ?_⟩
  show nI ((BitVec.ofNat 32 (n / 2 ^ s)).toNat % 2 ^ 18) = _
  rw [BitVec.toNat_ofNat]
  congr 1
  omega
theorem T_ld36 {B : Nat} (a : Int32) (x d : Nat) (hx : x < 2 ^ 54) (hd : d ≤ 3) : ∀ (n k : Nat) (σ : St), k + n = d + 1 → k ≤ d → IV B σ → m_load_38 n σ a (lN x) (nI d) (nI k) = x4_load_36 n σ a (lN x) (nI d) (nI k) ∧ IV B (x4_load_36 n σ a (lN x) (nI d) (nI k)).2 := by
  intro n
  induction n with
  | zero => intro k σ h1 h2; omega
  | succ n ih =>
    intro k σ h1 h2 h
    rw [m_load_38, x4_load_36]
    by_cases q : d ≤ k
    · rw [if_pos (nI_le q (by omega)), if_pos (nI_le q (by omega))]; exact ⟨rfl, h⟩
    · rw [if_neg (nI_ge (by omega) (by omega)), if_neg (nI_ge (by omega) (by omega))]
      have es : (18 : Int32) * ((nI d - (1 : Int32)) - nI k) = nI (18 * (d - 1 - k)) := by
        rw [show (1 : Int32) = nI 1 from rfl, show (18 : Int32) = nI 18 from rfl, pk_sub (by omega), pk_sub (by omega), pk_mul]
      have v := ld_v hx (18 * (d - 1 - k)) (by omega)
      rw [es, v.1, v.2, nI_1]
      exact ih (k + 1) _ (by omega) (by omega) ((PF.rf h).store _ (wd_nI (by omega))).1
theorem T_load {B : Nat} {σ : St} (h : IV B σ) (a : Int32) (x : Int64) (b : Int32) : m_load σ a x b = x4_load σ a x b ∧ IV B (x4_load σ a x b).2 := by
  unfold m_load x4_load
  rw [show m_in a (0 : Int32) (4095 : Int32) = x4_isAddress a from rfl]
  by_cases c1 : x4_isAddress a = (0 : Int32)
  · rw [if_pos c1, if_pos c1]; exact ⟨rfl, h⟩
  rw [if_neg c1, if_neg c1]
  unfold m_in
  by_cases c2 : b < (1 : Int32)
  · rw [if_pos c2, if_pos rfl, if_pos c2]; exact ⟨rfl, h⟩
  rw [if_neg c2, if_neg c2]
  by_cases c3 : (3 : Int32) < b
  · rw [if_pos c3, if_pos rfl, if_pos c3]; exact ⟨rfl, h⟩
  rw [if_neg c3, if_neg (show ¬ (1 : Int32) = 0 by decide), if_neg c3]
  obtain ⟨d, hd, hd1, rfl⟩ : ∃ d, d ≤ 3 ∧ 1 ≤ d ∧ b = nI d := by
    have t1 : (1 : Int32).toInt = 1 := by decide
    have t3 : (3 : Int32).toInt = 3 := by decide
    have u1 : ¬ b.toInt < (1 : Int32).toInt := fun q => c2 (Int32.lt_iff_toInt_lt.mpr q)
    have u3 : ¬ (3 : Int32).toInt < b.toInt := fun q => c3 (Int32.lt_iff_toInt_lt.mpr q)
    have q : vp_in b 4 := by rw [vp_in_iff]; omega
    obtain ⟨j, hj, e⟩ := vp_in_of q (by decide)
    refine ⟨j, by omega, ?_, e⟩
    rw [e, nI_toInt (by omega)] at u1
    omega
  have C : (j_lushr x ((18 : Int32) * nI d) = 0 ↔ x >>> (Int32.toInt64 ((18 : Int32) * nI d) &&& 63) = 0) ∧ (j_lushr x ((18 : Int32) * nI d) = 0 → ∃ n, n < 2 ^ 54 ∧ x = lN n) := by
    rcases (show d = 1 ∨ d = 2 ∨ d = 3 by omega) with q | q | q
    · subst q; exact ld_c 18 (by decide) (by decide) (by decide) x
    · subst q; exact ld_c 36 (by decide) (by decide) (by decide) x
    · subst q; exact ld_c 54 (by decide) (by decide) (by decide) x
  by_cases c4 : j_lushr x ((18 : Int32) * nI d) = 0
  · rw [if_pos ((lgc _).mpr (C.1.mp c4)), if_pos ((lgc _).mpr c4), nI_clamp (by omega)]
    obtain ⟨n, hn, rfl⟩ := C.2 c4
    exact T_ld36 a n d hn hd (d + 1) 0 σ (by omega) (by omega) h
  · rw [if_neg (fun q => c4 (C.1.mpr ((lgc _).mp q))), if_neg (fun q => c4 ((lgc _).mp q))]
    exact ⟨rfl, h⟩
