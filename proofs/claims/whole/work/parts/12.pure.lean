def j_lushr (x : Int64) (y : Int32) : Int64 := (x.toUInt64 >>> (y.toInt64.toUInt64 &&& Int64.toUInt64 63)).toInt64
def j_iushr (x y : Int32) : Int32 := (x.toUInt32 >>> (y.toUInt32 &&& Int32.toUInt32 31)).toInt32
theorem vp_l {i K : Int32} {N : Nat} (h0 : ¬ i < 0) (h1 : i < K) (hK : K.toInt = (N : Int)) : vp_in i N := by
  rw [vp_in_iff]
  have a := Int32.lt_iff_toInt_lt.mp h1
  have b : ¬ i.toInt < (0 : Int32).toInt := fun q => h0 (Int32.lt_iff_toInt_lt.mpr q)
  have c : (0 : Int32).toInt = 0 := by decide
  omega
theorem vp_g {i K : Int32} {N : Nat} (h0 : ¬ i < 0) (h1 : ¬ K ≤ i) (hK : K.toInt = (N : Int)) : vp_in i N := by
  rw [vp_in_iff]
  have a : ¬ K.toInt ≤ i.toInt := fun q => h1 (Int32.le_iff_toInt_le.mpr q)
  have b : ¬ i.toInt < (0 : Int32).toInt := fun q => h0 (Int32.lt_iff_toInt_lt.mpr q)
  have c : (0 : Int32).toInt = 0 := by decide
  omega
theorem cl_lt (b : Int32) : b.toNatClampNeg < 2 ^ 31 := by
  have h1 : b.toInt < 2 ^ 31 := Int32.toInt_lt b
  have h2 : (b.toNatClampNeg : Int) = max b.toInt 0 := by
    show ((b.toInt.toNat : Nat) : Int) = _
    omega
  omega
theorem cl_int (b : Int32) : (b.toNatClampNeg : Int) = max b.toInt 0 := by
  show ((b.toInt.toNat : Nat) : Int) = _
  omega
theorem lp_ge {a b : Int32} {k : Nat} (h : ¬ b ≤ a) (ha : a = nI k) (hk : k ≤ b.toNatClampNeg) : k + 1 ≤ b.toNatClampNeg := by
  have h1 : ¬ b.toInt ≤ a.toInt := fun q => h (Int32.le_iff_toInt_le.mpr q)
  have h2 := cl_lt b
  have h3 := cl_int b
  rw [ha, nI_toInt (by omega)] at h1
  omega
theorem lp_lt {a b : Int32} {k : Nat} (h : a < b) (ha : a = nI k) (hk : k ≤ b.toNatClampNeg) : k + 1 ≤ b.toNatClampNeg := by
  have h1 : a.toInt < b.toInt := Int32.lt_iff_toInt_lt.mp h
  have h2 := cl_lt b
  have h3 := cl_int b
  rw [ha, nI_toInt (by omega)] at h1
  omega
theorem lp_c {a K : Int32} {N k : Nat} (h : ¬ K ≤ a) (ha : a = nI k) (hk : k ≤ N) (hK : K.toInt = (N : Int)) : k + 1 ≤ N := by
  have h1 : ¬ K.toInt ≤ a.toInt := fun q => h (Int32.le_iff_toInt_le.mpr q)
  have h2 : K.toInt < 2 ^ 31 := Int32.toInt_lt K
  rw [ha, nI_toInt (by omega)] at h1
  omega
theorem lp_c2 {a K : Int32} {N k : Nat} (h : ¬ K < a) (ha : a = nI k) (hk : k ≤ N + 1) (hK : K.toInt = (N : Int)) (hN : N < 2147483646) : k + 1 ≤ N + 1 := by
  have h1 : ¬ K.toInt < a.toInt := fun q => h (Int32.lt_iff_toInt_lt.mpr q)
  rw [ha, nI_toInt (by omega)] at h1
  omega
theorem lp_ne {a K : Int32} {N k : Nat} (h : ¬ a = K) (ha : a = nI k) (hk : k ≤ N) (hK : K = nI N) : k + 1 ≤ N := by
  have h1 : k ≠ N := fun q => h (by rw [ha, hK, q])
  omega
theorem vp_ne {i K : Int32} {N : Nat} (h : vp_in i (N + 1)) (hne : ¬ i = K) (hK : K.toInt = (N : Int)) : vp_in i N := by
  rw [vp_in_iff] at h ⊢
  have h1 : i.toInt ≠ K.toInt := fun q => hne (Int32.toInt_inj.mp q)
  omega
theorem vp_rem {x : Int32} (h : vp_in x 2147483647) : vp_in (x - x / 64 * 64) 64 := by
  obtain ⟨j, hj, rfl⟩ := vp_in_of h (by decide)
  rw [show (64 : Int32) = nI 64 from rfl, pk_rem (by omega) (by decide) (by decide)]
  exact vp_in_nI (Nat.mod_lt _ (by decide)) (by decide)
theorem vp_k {k N : Nat} {i : Int32} (hi : i = nI k) (h : k + 1 ≤ N) (hN : N < 2 ^ 31) : vp_in i N := by
  rw [hi]; exact vp_in_nI (by omega) hN
theorem vp_below {i K : Int32} {N M : Nat} (h0 : vp_in i M) (hK : vp_in K (N + 1)) (h : i < K) : vp_in i N := by
  rw [vp_in_iff] at h0 hK ⊢
  have h1 : i.toInt < K.toInt := Int32.lt_iff_toInt_lt.mp h
  omega
theorem vp_below0 {i K : Int32} {N : Nat} (h0 : ¬ i < 0) (hK : vp_in K (N + 1)) (h : ¬ K ≤ i) : vp_in i N := by
  rw [vp_in_iff] at hK ⊢
  have h1 : ¬ K.toInt ≤ i.toInt := fun q => h (Int32.le_iff_toInt_le.mpr q)
  have b : ¬ i.toInt < (0 : Int32).toInt := fun q => h0 (Int32.lt_iff_toInt_lt.mpr q)
  have c : (0 : Int32).toInt = 0 := by decide
  omega
/-- what the reference's rows need of a state: its marks lie in their rows -/
def MI (σ : St) : Prop := vp_in (g_cnt σ) 101 ∧ vp_in (g_taken σ) 101 ∧ vp_in (g_outs σ) 65 ∧ vp_in (g_pts σ) 2147483647
theorem vp_belowN {i K : Int32} {N M : Nat} (h0 : vp_in i M) (hK : vp_in K (N + 1)) (h : ¬ K ≤ i) : vp_in i N := by
  rw [vp_in_iff] at h0 hK ⊢
  have h1 : ¬ K.toInt ≤ i.toInt := fun q => h (Int32.le_iff_toInt_le.mpr q)
  omega
theorem vp_below1 {i K : Int32} {N : Nat} (h0 : (0 : Int32) ≤ i) (hK : vp_in K (N + 1)) (h : ¬ K ≤ i) : vp_in i N := by
  rw [vp_in_iff] at hK ⊢
  have h1 : ¬ K.toInt ≤ i.toInt := fun q => h (Int32.le_iff_toInt_le.mpr q)
  have b := Int32.le_iff_toInt_le.mp h0
  have c : (0 : Int32).toInt = 0 := by decide
  omega
theorem lp_dn {x : Int32} {n : Nat} (h : ¬ x ≤ (0 : Int32)) (hn : x.toNatClampNeg < n + 1) : (x + (-1 : Int32)).toNatClampNeg < n := by
  have h1 : ¬ x < 0 := fun q => h (Int32.le_of_lt q)
  obtain ⟨j, hj, rfl⟩ := nI_of h1
  cases j with
  | zero => exact absurd (by decide) h
  | succ j =>
    rw [pk_m1, nI_clamp (by omega)]
    rw [nI_clamp (by omega)] at hn
    omega
