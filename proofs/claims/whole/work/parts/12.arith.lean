section ZPA
/-! numbers -/
theorem zn_max1 {c : Nat} (h : c < 2 ^ 31) : (if nI c - 1 < 0 then (0 : Int32) else nI c - 1) = nI (c - 1) := by
  cases c with
  | zero => decide
  | succ n => rw [nI_pred, if_neg (nI_pos (by omega)), Nat.add_sub_cancel]
theorem zn_m1 {c : Nat} (h : 0 < c) : nI c - 1 = nI (c - 1) := by
  obtain ⟨n, rfl⟩ : ∃ n, c = n + 1 := ⟨c - 1, by omega⟩
  rw [nI_pred, Nat.add_sub_cancel]
theorem zn_ne {a b : Nat} (ha : a < 2 ^ 31) (hb : b < 2 ^ 31) : (¬ nI a = nI b) ↔ a ≠ b := not_congr (nI_eq ha hb)
theorem zn_nle {a b : Nat} (ha : a < 2 ^ 31) (hb : b < 2 ^ 31) : (¬ nI a ≤ nI b) ↔ b < a := by rw [nI_leI ha hb]; omega
theorem zn_nlt {a b : Nat} (ha : a < 2 ^ 31) (hb : b < 2 ^ 31) : (¬ nI a < nI b) ↔ b ≤ a := by rw [nI_ltI ha hb]; omega
theorem zn_le0 {a : Nat} (ha : a < 2 ^ 31) : nI a ≤ 0 ↔ a = 0 := by
  rw [← nI_0, nI_leI ha (by omega)]; omega
theorem zn_lt0 {a : Nat} (ha : a < 2 ^ 31) : (0 : Int32) < nI a ↔ 0 < a := by
  rw [← nI_0, nI_ltI (by omega) ha]
theorem zn_e0 {a : Nat} (ha : a < 2 ^ 31) : nI a = 0 ↔ a = 0 := by
  rw [← nI_0, nI_eq ha (by omega)]
/-! the ratios of two rows of lengths, told by the first one or by neighbours -/
theorem zp_ratio (a b : Nat → Nat) (q : Nat) (ha : ∀ i, i < q → 0 < a i) (hb : ∀ i, i < q → 0 < b i) : (∀ i, 1 ≤ i → i < q → a i * b 0 = b i * a 0) ↔ (∀ i, i + 1 < q → b i * a (i + 1) = b (i + 1) * a i) := by
  constructor
  · intro h i hi
    have h2 : a (i + 1) * b 0 = b (i + 1) * a 0 := h (i + 1) (by omega) hi
    have h1 : a i * b 0 = b i * a 0 := by
      cases i with
      | zero => exact Nat.mul_comm _ _
      | succ i => exact h (i + 1) (by omega) (by omega)
    have h0 := hb 0 (by omega)
    refine Nat.eq_of_mul_eq_mul_right h0 ?_
    calc b i * a (i + 1) * b 0 = b i * (a (i + 1) * b 0) := Nat.mul_assoc _ _ _
      _ = b i * (b (i + 1) * a 0) := by rw [h2]
      _ = b (i + 1) * (b i * a 0) := Nat.mul_left_comm _ _ _
      _ = b (i + 1) * (a i * b 0) := by rw [h1]
      _ = b (i + 1) * a i * b 0 := (Nat.mul_assoc _ _ _).symm
  · intro h i
    induction i with
    | zero => intro h1; omega
    | succ i ih =>
      intro _ hi
      have h2 := h i hi
      have h1 : a i * b 0 = b i * a 0 := by
        cases i with
        | zero => exact Nat.mul_comm _ _
        | succ i => exact ih (by omega) (by omega)
      have h0 := hb i (by omega)
      refine Nat.eq_of_mul_eq_mul_left h0 ?_
      calc b i * (a (i + 1) * b 0) = b i * a (i + 1) * b 0 := (Nat.mul_assoc _ _ _).symm
        _ = b (i + 1) * a i * b 0 := by rw [h2]
        _ = b (i + 1) * (a i * b 0) := Nat.mul_assoc _ _ _
        _ = b (i + 1) * (b i * a 0) := by rw [h1]
        _ = b i * (b (i + 1) * a 0) := Nat.mul_left_comm _ _ _
/-! differences -/
theorem zp_tele {p q : Nat → Int32} {n : Nat} : (∀ k, k + 1 < n → p (k + 1) - p k = q (k + 1) - q k) ↔ (∀ k, k < n → q k - q 0 = p k - p 0) := by
  constructor
  · intro h k
    induction k with
    | zero => intro _; simp
    | succ k ih =>
      intro hk
      have h1 := h k hk
      have h2 := ih (by omega)
      grind
  · intro h k hk
    have h1 := h k (by omega)
    have h2 := h (k + 1) hk
    grind
/-! what two numbers share -/
theorem zp_gcd1 {a b d : Nat} (ha : 0 < a) (h1 : a % d = 0) (h2 : b % d = 0) (hm : ∀ e, d < e → ¬ (a % e = 0 ∧ b % e = 0)) : d = Nat.gcd a b := by
  have hd : d ∣ Nat.gcd a b := Nat.dvd_gcd (Nat.dvd_of_mod_eq_zero h1) (Nat.dvd_of_mod_eq_zero h2)
  have hg : 0 < Nat.gcd a b := Nat.gcd_pos_of_pos_left b ha
  have hle : d ≤ Nat.gcd a b := Nat.le_of_dvd hg hd
  rcases Nat.lt_or_eq_of_le hle with h | h
  · exact absurd ⟨Nat.mod_eq_zero_of_dvd (Nat.gcd_dvd_left a b), Nat.mod_eq_zero_of_dvd (Nat.gcd_dvd_right a b)⟩ (hm _ h)
  · exact h
/-- how many of the first n have P -/
def zp_cnt (P : Nat → Bool) : Nat → Nat
  | 0 => 0
  | n + 1 => zp_cnt P n + if P n then 1 else 0
theorem zp_cnt_le (P : Nat → Bool) (n : Nat) : zp_cnt P n ≤ n := by
  induction n with
  | zero => exact Nat.le_refl _
  | succ n ih => unfold zp_cnt; split <;> omega
theorem zp_cnt_eq {P R : Nat → Bool} {n : Nat} (h : ∀ i, i < n → P i = R i) : zp_cnt P n = zp_cnt R n := by
  induction n with
  | zero => rfl
  | succ n ih => unfold zp_cnt; rw [ih (fun i hi => h i (by omega)), h n (by omega)]
theorem zp_cnt_lt {P R : Nat → Bool} {n : Nat} (h : ∀ i, i < n → P i = true → R i = true) {k : Nat} (hk : k < n) (h1 : P k = false) (h2 : R k = true) : zp_cnt P n < zp_cnt R n := by
  have mono : ∀ m, m ≤ n → zp_cnt P m ≤ zp_cnt R m := by
    intro m
    induction m with
    | zero => intro _; exact Nat.le_refl _
    | succ m ih =>
      intro hm
      have h3 := ih (by omega)
      have h4 := h m (by omega)
      unfold zp_cnt
      cases e : P m
      · simp; omega
      · rw [h4 e]; simp; omega
  have key : ∀ m, k < m → m ≤ n → zp_cnt P m < zp_cnt R m := by
    intro m
    induction m with
    | zero => intro h5; omega
    | succ m ih =>
      intro h5 h6
      by_cases e : m = k
      · subst e
        have h7 := mono m (by omega)
        unfold zp_cnt
        rw [h1, h2]
        simp
        omega
      · have h7 := ih (by omega) (by omega)
        have h8 := h m (by omega)
        unfold zp_cnt
        cases e : P m
        · simp; omega
        · rw [h8 e]; simp; omega
  exact key n hk (Nat.le_refl _)
end ZPA
