/-! shifts, as often as told -/
def mvN (W c : Int32) : Nat → Int64 → Int64
  | 0, x => x
  | t + 1, x => mvN W c t (x4_movedOnce x W c)
theorem mvN_x (W c : Int32) (t : Nat) (ht : t < 2 ^ 30) : ∀ (n k : Nat) (x : Int64), k + n = t + 1 → k ≤ t → x4_moved_6 n W c (nI t) x (nI k) = mvN W c (t - k) x := by
  intro n
  induction n with
  | zero => intro k x h1 h2; omega
  | succ n ih =>
    intro k x h1 h2
    rw [x4_moved_6]
    by_cases q : t ≤ k
    · rw [if_pos (nI_le q (by omega)), show t - k = 0 by omega]; rfl
    · rw [if_neg (nI_ge (by omega) (by omega)), nI_1, ih (k + 1) _ (by omega) (by omega), show t - k = (t - (k + 1)) + 1 by omega]; rfl
theorem mv_e (W c : Int32) {t : Nat} (ht : t < 2 ^ 30) (x : Int64) : x4_moved x W c (nI t) = mvN W c t x := by
  unfold x4_moved
  rw [nI_clamp (by omega)]
  exact mvN_x W c t ht (t + 1) 0 x (by omega) (by omega)
theorem mvN_18 (c : Int32) : ∀ (t n : Nat), n < 262144 → ∃ r, r < 262144 ∧ mvN 18 c t (lN n) = lN r := by
  intro t
  induction t with
  | zero => intro n h; exact ⟨n, h, rfl⟩
  | succ t ih =>
    intro n h
    obtain ⟨h1, -, h3⟩ := mv_18 h c
    rw [mvN, h1]
    exact ih _ h3
theorem mvN_36 (c : Int32) : ∀ (t n : Nat), n < 68719476736 → ∃ r, r < 68719476736 ∧ mvN 36 c t (lN n) = lN r := by
  intro t
  induction t with
  | zero => intro n h; exact ⟨n, h, rfl⟩
  | succ t ih =>
    intro n h
    obtain ⟨h1, -, h3⟩ := mv_36 h c
    rw [mvN, h1]
    exact ih _ h3
theorem S_1 (u v e c : Int32) : ∀ (t : Nat) (σ : St) (a : Nat), t < 100 → a < 262144 → g_ac σ = nI a → m_shifts_24 (t + 1) (dec σ u v e) c 1 (nI t) = dec (s_ac σ (Int64.toInt32 (mvN 18 c t (lN a)))) u v e := by
  intro t
  induction t with
  | zero =>
    intro σ a _ ha ea
    rw [m_shifts_24, if_pos (show nI 0 ≤ (0 : Int32) by decide), mvN, lN_i, ← ea]; rfl
  | succ t ih =>
    intro σ a ht ha ea
    obtain ⟨h1, h2, h3⟩ := mv_18 ha c
    rw [m_shifts_24, if_neg (show ¬ nI (t + 1) ≤ (0 : Int32) from nI_nle (by omega) (by omega)), if_pos rfl, dg_ac, ea, nI_l (by omega), h2, lN_i, ds_ac, pk_m1, ih (s_ac σ (nI (mvn_18 a c))) (mvn_18 a c) (by omega) h3 rfl, mvN, h1]
    rfl
theorem S_2 (u v e c : Int32) : ∀ (t : Nat) (σ : St) (a : Nat), t < 100 → a < 262144 → g_io σ = nI a → m_shifts_24 (t + 1) (dec σ u v e) c 2 (nI t) = dec (s_io σ (Int64.toInt32 (mvN 18 c t (lN a)))) u v e := by
  intro t
  induction t with
  | zero =>
    intro σ a _ ha ea
    rw [m_shifts_24, if_pos (show nI 0 ≤ (0 : Int32) by decide), mvN, lN_i, ← ea]; rfl
  | succ t ih =>
    intro σ a ht ha ea
    obtain ⟨h1, h2, h3⟩ := mv_18 ha c
    rw [m_shifts_24, if_neg (show ¬ nI (t + 1) ≤ (0 : Int32) from nI_nle (by omega) (by omega)), if_neg (show ¬ (2 : Int32) = 1 by decide), if_pos rfl, dg_io, ea, nI_l (by omega), h2, lN_i, ds_io, pk_m1, ih (s_io σ (nI (mvn_18 a c))) (mvn_18 a c) (by omega) h3 rfl, mvN, h1]
    rfl
theorem S_3 (u v e c k : Int32) (k1 : ¬ k = (1 : Int32)) (k2 : ¬ k = (2 : Int32)) : ∀ (t : Nat) (σ : St) (a b : Nat), t < 100 → a < 262144 → b < 262144 → g_ac σ = nI a → g_io σ = nI b → m_shifts_24 (t + 1) (dec σ u v e) c k (nI t) = dec (x4_setBoth σ (mvN 36 c t (lN (a * 262144 + b)))) u v e := by
  intro t
  induction t with
  | zero =>
    intro σ a b _ ha hb ea eb
    rw [m_shifts_24, if_pos (show nI 0 ≤ (0 : Int32) by decide), mvN]
    unfold x4_setBoth
    rw [h18 _ (by omega), m18 _ (by omega), show (a * 262144 + b) / 262144 % 262144 = a by omega, show (a * 262144 + b) % 262144 = b by omega, ← ea, ← eb]; rfl
  | succ t ih =>
    intro σ a b ht ha hb ea eb
    obtain ⟨h1, h2, h3⟩ := mv_36 (n := a * 262144 + b) (by omega) c
    rw [m_shifts_24, if_neg (show ¬ nI (t + 1) ≤ (0 : Int32) from nI_nle (by omega) (by omega)), if_neg k1, if_neg k2, dg_ac, dg_io, ea, eb, bo ha hb, h2, m18 _ (by omega), pf_shr (d := 18) (by decide) (by omega), lN_i, ds_ac, ds_io, pk_m1]
    have q := ih (s_io (s_ac σ (nI (mvn_36 (a * 262144 + b) c / 2 ^ 18))) (nI (mvn_36 (a * 262144 + b) c % 262144))) (mvn_36 (a * 262144 + b) c / 2 ^ 18) (mvn_36 (a * 262144 + b) c % 262144) (by omega) (by omega) (by omega) rfl rfl
    rw [q, mvN, h1, show mvn_36 (a * 262144 + b) c / 2 ^ 18 * 262144 + mvn_36 (a * 262144 + b) c % 262144 = mvn_36 (a * 262144 + b) c by omega]
    rfl
theorem sk_e {w : Int32} (hw : Wd w) : (x4_shiftKindOf w) >>> ((2 : Int32) &&& 31) = (w >>> ((11 : Int32) &&& 31)) &&& (3 : Int32) ∧ (x4_shiftKindOf w) &&& (3 : Int32) = (w >>> ((9 : Int32) &&& 31)) &&& (3 : Int32) := by
  unfold x4_shiftKindOf
  refine ⟨?_, by rw [Int32.and_assoc, show (15 : Int32) &&& 3 = 3 by decide]⟩
  obtain ⟨n, hn, rfl⟩ := wd_of hw
  rw [pk_shrN (by omega) _ 9 (by decide), n_and (k := 4) (by omega) (by decide), pk_shrN (by omega) _ 2 (by decide), pk_shrN (by omega) _ 11 (by decide), n_and (k := 2) (by omega) (by decide)]
  congr 1; omega
theorem E_shift {B : Nat} {σ : St} (h : IV B σ) (u v e : Int32) {w : Int32} (hw : Wd w) : m_shifts (dec σ u v e) w = dec (x4_shift σ (x4_shiftKindOf w) (x4_onesOf w)) u v e ∧ PF B σ (x4_shift σ (x4_shiftKindOf w) (x4_onesOf w)) := by
  obtain ⟨a, ha, ea⟩ := wd_of h.i_ac
  obtain ⟨b, hb, eb⟩ := wd_of h.i_io
  obtain ⟨t, ht, et⟩ := on_n w
  unfold m_shifts x4_shift
  rw [(sk_e hw).1, (sk_e hw).2, ← on_e, et, nI_clamp (by omega)]
  generalize (w >>> ((11 : Int32) &&& 31)) &&& (3 : Int32) = c
  generalize (w >>> ((9 : Int32) &&& 31)) &&& (3 : Int32) = k
  rw [mv_e _ _ (by omega), mv_e _ _ (by omega), mv_e _ _ (by omega)]
  unfold x4_both
  rw [ea, eb, bo ha hb, nI_l (by omega), nI_l (by omega)]
  by_cases k1 : k = (1 : Int32)
  · subst k1
    rw [if_pos rfl]
    refine ⟨S_1 u v e c t σ a (by omega) ha ea, (PF.rf h).s_ac ?_⟩
    obtain ⟨r, hr, er⟩ := mvN_18 c t a ha
    rw [er, lN_i]; exact wd_nI hr
  · rw [if_neg k1]
    by_cases k2 : k = (2 : Int32)
    · subst k2
      rw [if_pos rfl]
      refine ⟨S_2 u v e c t σ b (by omega) hb eb, (PF.rf h).s_io ?_⟩
      obtain ⟨r, hr, er⟩ := mvN_18 c t b hb
      rw [er, lN_i]; exact wd_nI hr
    · rw [if_neg k2]
      refine ⟨S_3 u v e c k k1 k2 t σ a b (by omega) ha hb ea eb, ?_⟩
      obtain ⟨r, hr, er⟩ := mvN_36 c t (a * 262144 + b) (by omega)
      rw [er]
      unfold x4_setBoth
      rw [h18 _ (by omega), m18 _ (by omega)]
      exact ((PF.rf h).s_ac (wd_nI (by omega))).s_io (wd_nI (by omega))
