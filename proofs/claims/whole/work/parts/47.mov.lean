/-! shifts: one place of 18 or of 36 bits -/
theorem nand_top {n k : Nat} (h : n < 2 ^ (k + 1)) : n &&& 2 ^ k = n / 2 ^ k * 2 ^ k := by
  have hp : 2 ^ (k + 1) = 2 * 2 ^ k := by rw [Nat.pow_succ, Nat.mul_comm]
  have h0 : 0 < 2 ^ k := Nat.two_pow_pos k
  rcases Nat.lt_or_ge n (2 ^ k) with q | q
  · rw [Nat.div_eq_of_lt q, Nat.zero_mul]
    apply Nat.eq_of_testBit_eq
    intro i
    rw [Nat.testBit_and, Nat.testBit_two_pow, Nat.zero_testBit]
    by_cases hi : k = i
    · subst hi; rw [Nat.testBit_lt_two_pow q]; rfl
    · simp [hi]
  · have e : n / 2 ^ k = 1 := by
      rw [Nat.div_eq_iff h0]
      omega
    rw [e, Nat.one_mul]
    apply Nat.eq_of_testBit_eq
    intro i
    rw [Nat.testBit_and, Nat.testBit_two_pow]
    by_cases hi : k = i
    · subst hi; rw [Nat.testBit_eq_decide_div_mod_eq, e]; simp
    · simp [hi]
theorem nnot_top {x k : Nat} (hk : k < 64) (h : x < 2 ^ (k + 1)) : lN x &&& (lN (2 ^ k) ^^^ (-1 : Int64)) = lN (x % 2 ^ k) := by
  apply Int64.toBitVec_inj.mp
  show BitVec.ofNat 64 x &&& (BitVec.ofNat 64 (2 ^ k) ^^^ BitVec.allOnes 64) = BitVec.ofNat 64 (x % 2 ^ k)
  apply BitVec.eq_of_getLsbD_eq
  intro i hi
  simp only [BitVec.getLsbD_and, BitVec.getLsbD_xor, BitVec.getLsbD_ofNat, BitVec.getLsbD_allOnes, Nat.testBit_mod_two_pow, Nat.testBit_two_pow, hi, decide_true, Bool.true_and]
  rcases Nat.lt_trichotomy i k with q | q | q
  · have n1 : ¬ k = i := by omega
    simp [q, n1]
  · subst q; simp
  · have n1 : ¬ k = i := by omega
    have n2 : ¬ i < k := by omega
    have t : x.testBit i = false := Nat.testBit_lt_two_pow (Nat.lt_of_lt_of_le h (Nat.pow_le_pow_right (by decide) (by omega)))
    simp [n1, n2, t]

def mvn_18 (n : Nat) (c : Int32) : Nat := if c = (0 : Int32) then n % 131072 * 2 + n / 131072 else if c = (1 : Int32) then n / 131072 * 131072 + n * 2 % 131072 + n / 131072 else if c = (2 : Int32) then n / 2 + n % 2 * 131072 else n / 131072 * 131072 + n / 2
theorem mv_18 {n : Nat} (h : n < 262144) (c : Int32) : x4_movedOnce (lN n) (18 : Int32) c = lN (mvn_18 n c) ∧ m_moved (lN n) (18 : Int32) c = lN (mvn_18 n c) ∧ mvn_18 n c < 262144 := by
  have eT : (1 : Int64) <<< (Int32.toInt64 ((18 : Int32) - (1 : Int32)) &&& 63) = lN 131072 := by decide
  have eP : (1 : Int64) <<< (Int32.toInt64 (18 : Int32) &&& 63) = lN 262144 := by decide
  have eT1 : lN 131072 - (1 : Int64) = lN (131072 - 1) := by decide
  have eP1 : lN 262144 - (1 : Int64) = lN (262144 - 1) := by decide
  have sk : lN n >>> (Int32.toInt64 ((18 : Int32) - (1 : Int32)) &&& 63) = lN (n / 131072) := pf_shr (d := 17) (by decide) (by omega)
  have s1 : lN n >>> (Int32.toInt64 (1 : Int32) &&& 63) = lN (n / 2) := pf_shr (d := 1) (by decide) (by omega)
  have l1 : ∀ x : Nat, x < 262144 → lN x <<< (Int32.toInt64 (1 : Int32) &&& 63) = lN (x * 2) := fun x hx => g_shl (k := 1) (p := 2) (by decide) (by decide) (by decide) (by omega)
  have lk : lN (n % 2) <<< (Int32.toInt64 ((18 : Int32) - (1 : Int32)) &&& 63) = lN (n % 2 * 131072) := g_shl (k := 17) (p := 131072) (by decide) (by decide) (by decide) (by omega)
  have a1 : ∀ x : Nat, x < 262144 → lN x &&& (1 : Int64) = lN (x % 2) := fun x hx => g_and1 (by omega)
  have aT1 : ∀ x : Nat, x < 2 * 262144 → lN x &&& lN (131072 - 1) = lN (x % 131072) := fun x hx => g_mask (s := 17) (by decide) (by decide) (by omega)
  have aP1 : ∀ x : Nat, x < 2 * 262144 → lN x &&& lN (262144 - 1) = lN (x % 262144) := fun x hx => g_mask (s := 18) (by decide) (by decide) (by omega)
  have aT : lN n &&& lN 131072 = lN (n / 131072 * 131072) := g_and (by omega) (by decide) (nand_top (k := 17) h)
  have aN : ∀ x : Nat, x < 262144 → lN x &&& (lN 131072 ^^^ (-1 : Int64)) = lN (x % 131072) := fun x hx => nnot_top (k := 17) (by decide) hx
  have o1 : ∀ a b : Nat, a < 2 → b < 262144 → lN (b * 2) ||| lN a = lN (b * 2 + a) := fun a b ha hb => g_or (k := 1) (by decide) ha (by omega)
  have oT : ∀ a b : Nat, a < 131072 → b < 2 → lN (b * 131072) ||| lN a = lN (b * 131072 + a) := fun a b ha hb => g_or (k := 17) (by decide) ha (by omega)
  have oT' : ∀ a b : Nat, a < 131072 → b < 2 → lN a ||| lN (b * 131072) = lN (a + b * 131072) := fun a b ha hb => g_or' (k := 17) (by decide) ha (by omega)
  unfold x4_movedOnce m_moved mvn_18
  rw [eT, eP, eT1, eP1, sk, s1, l1 n h, a1 n h, lk, aT, aT1 n (by omega), aT1 (n * 2) (by omega), aP1 (n * 2) (by omega), a1 (n / 131072) (by omega), l1 (n % 131072) (by omega), aN (n * 2 % 262144) (by omega), lN_mul, lN_mul, show n * 2 % 262144 % 131072 = n * 2 % 131072 by omega, show n * 2 % 262144 = n % 131072 * 2 by omega, show n / 131072 % 2 = n / 131072 by omega]
  rw [o1 (n / 131072) (n % 131072) (by omega) (by omega), oT (n * 2 % 131072) (n / 131072) (by omega) (by omega), oT' (n / 2) (n % 2) (by omega) (by omega), oT' (n / 2) (n / 131072) (by omega) (by omega), oT (n / 2) (n / 131072) (by omega) (by omega), show n / 131072 * 131072 + n * 2 % 131072 = (n / 131072 * 65536 + n % 65536) * 2 by omega, o1 (n / 131072) (n / 131072 * 65536 + n % 65536) (by omega) (by omega), Nat.add_comm (n / 2) (n / 131072 * 131072)]
  by_cases c0 : c = (0 : Int32)
  · rw [if_pos c0, if_pos c0]; exact ⟨rfl, rfl, by omega⟩
  · rw [if_neg c0, if_neg c0]
    by_cases c1 : c = (1 : Int32)
    · rw [if_pos c1, if_pos c1]; exact ⟨rfl, rfl, by omega⟩
    · rw [if_neg c1, if_neg c1]
      by_cases c2 : c = (2 : Int32)
      · rw [if_pos c2, if_pos c2]; exact ⟨rfl, rfl, by omega⟩
      · rw [if_neg c2, if_neg c2]; exact ⟨rfl, rfl, by omega⟩

def mvn_36 (n : Nat) (c : Int32) : Nat := if c = (0 : Int32) then n % 34359738368 * 2 + n / 34359738368 else if c = (1 : Int32) then n / 34359738368 * 34359738368 + n * 2 % 34359738368 + n / 34359738368 else if c = (2 : Int32) then n / 2 + n % 2 * 34359738368 else n / 34359738368 * 34359738368 + n / 2
theorem mv_36 {n : Nat} (h : n < 68719476736) (c : Int32) : x4_movedOnce (lN n) (36 : Int32) c = lN (mvn_36 n c) ∧ m_moved (lN n) (36 : Int32) c = lN (mvn_36 n c) ∧ mvn_36 n c < 68719476736 := by
  have eT : (1 : Int64) <<< (Int32.toInt64 ((36 : Int32) - (1 : Int32)) &&& 63) = lN 34359738368 := by decide
  have eP : (1 : Int64) <<< (Int32.toInt64 (36 : Int32) &&& 63) = lN 68719476736 := by decide
  have eT1 : lN 34359738368 - (1 : Int64) = lN (34359738368 - 1) := by decide
  have eP1 : lN 68719476736 - (1 : Int64) = lN (68719476736 - 1) := by decide
  have sk : lN n >>> (Int32.toInt64 ((36 : Int32) - (1 : Int32)) &&& 63) = lN (n / 34359738368) := pf_shr (d := 35) (by decide) (by omega)
  have s1 : lN n >>> (Int32.toInt64 (1 : Int32) &&& 63) = lN (n / 2) := pf_shr (d := 1) (by decide) (by omega)
  have l1 : ∀ x : Nat, x < 68719476736 → lN x <<< (Int32.toInt64 (1 : Int32) &&& 63) = lN (x * 2) := fun x hx => g_shl (k := 1) (p := 2) (by decide) (by decide) (by decide) (by omega)
  have lk : lN (n % 2) <<< (Int32.toInt64 ((36 : Int32) - (1 : Int32)) &&& 63) = lN (n % 2 * 34359738368) := g_shl (k := 35) (p := 34359738368) (by decide) (by decide) (by decide) (by omega)
  have a1 : ∀ x : Nat, x < 68719476736 → lN x &&& (1 : Int64) = lN (x % 2) := fun x hx => g_and1 (by omega)
  have aT1 : ∀ x : Nat, x < 2 * 68719476736 → lN x &&& lN (34359738368 - 1) = lN (x % 34359738368) := fun x hx => g_mask (s := 35) (by decide) (by decide) (by omega)
  have aP1 : ∀ x : Nat, x < 2 * 68719476736 → lN x &&& lN (68719476736 - 1) = lN (x % 68719476736) := fun x hx => g_mask (s := 36) (by decide) (by decide) (by omega)
  have aT : lN n &&& lN 34359738368 = lN (n / 34359738368 * 34359738368) := g_and (by omega) (by decide) (nand_top (k := 35) h)
  have aN : ∀ x : Nat, x < 68719476736 → lN x &&& (lN 34359738368 ^^^ (-1 : Int64)) = lN (x % 34359738368) := fun x hx => nnot_top (k := 35) (by decide) hx
  have o1 : ∀ a b : Nat, a < 2 → b < 68719476736 → lN (b * 2) ||| lN a = lN (b * 2 + a) := fun a b ha hb => g_or (k := 1) (by decide) ha (by omega)
  have oT : ∀ a b : Nat, a < 34359738368 → b < 2 → lN (b * 34359738368) ||| lN a = lN (b * 34359738368 + a) := fun a b ha hb => g_or (k := 35) (by decide) ha (by omega)
  have oT' : ∀ a b : Nat, a < 34359738368 → b < 2 → lN a ||| lN (b * 34359738368) = lN (a + b * 34359738368) := fun a b ha hb => g_or' (k := 35) (by decide) ha (by omega)
  unfold x4_movedOnce m_moved mvn_36
  rw [eT, eP, eT1, eP1, sk, s1, l1 n h, a1 n h, lk, aT, aT1 n (by omega), aT1 (n * 2) (by omega), aP1 (n * 2) (by omega), a1 (n / 34359738368) (by omega), l1 (n % 34359738368) (by omega), aN (n * 2 % 68719476736) (by omega), lN_mul, lN_mul, show n * 2 % 68719476736 % 34359738368 = n * 2 % 34359738368 by omega, show n * 2 % 68719476736 = n % 34359738368 * 2 by omega, show n / 34359738368 % 2 = n / 34359738368 by omega]
  rw [o1 (n / 34359738368) (n % 34359738368) (by omega) (by omega), oT (n * 2 % 34359738368) (n / 34359738368) (by omega) (by omega), oT' (n / 2) (n % 2) (by omega) (by omega), oT' (n / 2) (n / 34359738368) (by omega) (by omega), oT (n / 2) (n / 34359738368) (by omega) (by omega), show n / 34359738368 * 34359738368 + n * 2 % 34359738368 = (n / 34359738368 * 17179869184 + n % 17179869184) * 2 by omega, o1 (n / 34359738368) (n / 34359738368 * 17179869184 + n % 17179869184) (by omega) (by omega), Nat.add_comm (n / 2) (n / 34359738368 * 34359738368)]
  by_cases c0 : c = (0 : Int32)
  · rw [if_pos c0, if_pos c0]; exact ⟨rfl, rfl, by omega⟩
  · rw [if_neg c0, if_neg c0]
    by_cases c1 : c = (1 : Int32)
    · rw [if_pos c1, if_pos c1]; exact ⟨rfl, rfl, by omega⟩
    · rw [if_neg c1, if_neg c1]
      by_cases c2 : c = (2 : Int32)
      · rw [if_pos c2, if_pos c2]; exact ⟨rfl, rfl, by omega⟩
      · rw [if_neg c2, if_neg c2]; exact ⟨rfl, rfl, by omega⟩
