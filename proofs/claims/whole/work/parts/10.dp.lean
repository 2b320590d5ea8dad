section ZPD
/-! the least number of changes, and among these ways the greatest number of steps that stay -/
def zp_mn (a b : Nat × Nat) : Nat × Nat := if b.1 < a.1 ∨ (b.1 = a.1 ∧ a.2 < b.2) then b else a
def zp_inc (a : Nat × Nat) : Nat × Nat := (a.1 + 1, a.2)
def zp_dg (s : Bool) (a : Nat × Nat) : Nat × Nat := if s then (a.1, a.2 + 1) else (a.1 + 1, a.2)
def zp_row (same : Nat → Bool) (prev : Nat → Nat × Nat) (i : Nat) : Nat → Nat × Nat
  | 0 => (i + 1, 0)
  | j + 1 => zp_mn (zp_mn (zp_dg (same j) (prev j)) (zp_inc (prev (j + 1)))) (zp_inc (zp_row same prev i j))
def zp_dp (same : Nat → Nat → Bool) : Nat → Nat → Nat × Nat
  | 0 => fun j => (j, 0)
  | i + 1 => zp_row (same i) (zp_dp same i) i
theorem zp_dp0 (same : Nat → Nat → Bool) (j : Nat) : zp_dp same 0 j = (j, 0) := rfl
theorem zp_dpi (same : Nat → Nat → Bool) (i : Nat) : zp_dp same i 0 = (i, 0) := by cases i <;> rfl
theorem zp_dpS (same : Nat → Nat → Bool) (i j : Nat) : zp_dp same (i + 1) (j + 1) = zp_mn (zp_mn (zp_dg (same i j) (zp_dp same i j)) (zp_inc (zp_dp same i (j + 1)))) (zp_inc (zp_dp same (i + 1) j)) := rfl
theorem zp_mn_c (a b : Nat × Nat) : zp_mn a b = a ∨ zp_mn a b = b := by unfold zp_mn; split <;> simp
theorem zp_dp_le (same : Nat → Nat → Bool) (i : Nat) : ∀ j, (zp_dp same i j).2 ≤ i := by
  induction i with
  | zero => intro j; exact Nat.le_refl _
  | succ i ih =>
    intro j
    induction j with
    | zero => rw [zp_dpi]; exact Nat.zero_le _
    | succ j jh =>
      rw [zp_dpS]
      have h1 := ih j
      have h2 := ih (j + 1)
      have h3 : (zp_dg (same i j) (zp_dp same i j)).2 ≤ i + 1 := by unfold zp_dg; split <;> simp <;> omega
      have h4 : (zp_inc (zp_dp same i (j + 1))).2 ≤ i + 1 := by simp [zp_inc]; omega
      have h5 : (zp_inc (zp_dp same (i + 1) j)).2 ≤ i + 1 := by simpa [zp_inc] using jh
      rcases zp_mn_c (zp_mn (zp_dg (same i j) (zp_dp same i j)) (zp_inc (zp_dp same i (j + 1)))) (zp_inc (zp_dp same (i + 1) j)) with e | e <;> rw [e]
      · rcases zp_mn_c (zp_dg (same i j) (zp_dp same i j)) (zp_inc (zp_dp same i (j + 1))) with e | e <;> rw [e] <;> assumption
      · exact h5
/-- a longer row needs that many changes more -/
theorem zp_dp_ge (same : Nat → Nat → Bool) (i : Nat) : ∀ j, j ≤ (zp_dp same i j).1 + i := by
  induction i with
  | zero => intro j; exact Nat.le_refl _
  | succ i ih =>
    intro j
    induction j with
    | zero => exact Nat.zero_le _
    | succ j jh =>
      rw [zp_dpS]
      have h1 := ih j
      have h2 := ih (j + 1)
      have h3 : j ≤ (zp_dg (same i j) (zp_dp same i j)).1 + i := by unfold zp_dg; split <;> simp <;> omega
      have h4 : j + 1 ≤ (zp_inc (zp_dp same i (j + 1))).1 + i := by simp [zp_inc]; omega
      have h5 : j + 1 ≤ (zp_inc (zp_dp same (i + 1) j)).1 + (i + 1) := by simp [zp_inc]; omega
      rcases zp_mn_c (zp_mn (zp_dg (same i j) (zp_dp same i j)) (zp_inc (zp_dp same i (j + 1)))) (zp_inc (zp_dp same (i + 1) j)) with e | e <;> rw [e]
      · rcases zp_mn_c (zp_dg (same i j) (zp_dp same i j)) (zp_inc (zp_dp same i (j + 1))) with e | e <;> rw [e] <;> omega
      · exact h5
/-- both numbers in one: 16 for a change, -1 for a step that stays -/
def zp_w (a : Nat × Nat) : Int := 16 * (a.1 : Int) - (a.2 : Int)
theorem zp_w_mn {a b : Nat × Nat} (ha : a.2 ≤ 15) (hb : b.2 ≤ 15) : zp_w (zp_mn a b) = if zp_w b < zp_w a then zp_w b else zp_w a := by
  unfold zp_mn
  by_cases h : b.1 < a.1 ∨ (b.1 = a.1 ∧ a.2 < b.2)
  · rw [if_pos h, if_pos]
    unfold zp_w
    omega
  · rw [if_neg h, if_neg]
    unfold zp_w
    omega
theorem zp_w_inc (a : Nat × Nat) : zp_w (zp_inc a) = zp_w a + 16 := by
  unfold zp_w zp_inc
  simp
  omega
theorem zp_w_dg (s : Bool) (a : Nat × Nat) : zp_w (zp_dg s a) = zp_w a + (if s then -1 else 16) := by
  unfold zp_w zp_dg
  cases s <;> simp <;> omega
/-- the step of the class: paired against the lesser of the two unpaired ones -/
theorem zp_wS (same : Nat → Nat → Bool) (i j : Nat) (hi : i < 14) :
    zp_w (zp_dp same (i + 1) (j + 1)) = (let pr := zp_w (zp_dp same i j) + (if same i j then -1 else 16); let un := (if zp_w (zp_dp same (i + 1) j) < zp_w (zp_dp same i (j + 1)) then zp_w (zp_dp same (i + 1) j) else zp_w (zp_dp same i (j + 1))) + 16; if un < pr then un else pr) := by
  have h1 := zp_dp_le same i j
  have h2 := zp_dp_le same i (j + 1)
  have h3 := zp_dp_le same (i + 1) j
  have h4 : (zp_dg (same i j) (zp_dp same i j)).2 ≤ 15 := by unfold zp_dg; split <;> simp <;> omega
  have h5 : (zp_inc (zp_dp same i (j + 1))).2 ≤ 15 := by simp [zp_inc]; omega
  have h6 : (zp_inc (zp_dp same (i + 1) j)).2 ≤ 15 := by simp [zp_inc]; omega
  have h7 : (zp_mn (zp_dg (same i j) (zp_dp same i j)) (zp_inc (zp_dp same i (j + 1)))).2 ≤ 15 := by
    rcases zp_mn_c (zp_dg (same i j) (zp_dp same i j)) (zp_inc (zp_dp same i (j + 1))) with e | e <;> rw [e] <;> assumption
  rw [zp_dpS, zp_w_mn h7 h6, zp_w_mn h4 h5, zp_w_dg, zp_w_inc, zp_w_inc]
  generalize zp_w (zp_dp same i j) + (if same i j then -1 else 16) = A
  generalize zp_w (zp_dp same i (j + 1)) = B
  generalize zp_w (zp_dp same (i + 1) j) = D
  dsimp only
  split <;> split <;> split <;> (try split) <;> omega
theorem zp_w_lo (same : Nat → Nat → Bool) (i j : Nat) (hi : i ≤ 7) : -7 ≤ zp_w (zp_dp same i j) := by
  have := zp_dp_le same i j
  unfold zp_w
  omega
theorem zp_dp_up (same : Nat → Nat → Bool) (i : Nat) : ∀ j, (zp_dp same i j).1 ≤ i + j := by
  induction i with
  | zero => intro j; simp [zp_dp0]
  | succ i ih =>
    intro j
    induction j with
    | zero => rw [zp_dpi]; exact Nat.le_refl _
    | succ j jh =>
      rw [zp_dpS]
      have h5 : (zp_inc (zp_dp same (i + 1) j)).1 ≤ i + 1 + (j + 1) := by simp [zp_inc]; omega
      have h4 : (zp_inc (zp_dp same i (j + 1))).1 ≤ i + 1 + (j + 1) := by have := ih (j + 1); simp [zp_inc]; omega
      have h3 : (zp_dg (same i j) (zp_dp same i j)).1 ≤ i + 1 + (j + 1) := by have := ih j; unfold zp_dg; split <;> simp <;> omega
      rcases zp_mn_c (zp_mn (zp_dg (same i j) (zp_dp same i j)) (zp_inc (zp_dp same i (j + 1)))) (zp_inc (zp_dp same (i + 1) j)) with e | e <;> rw [e]
      · rcases zp_mn_c (zp_dg (same i j) (zp_dp same i j)) (zp_inc (zp_dp same i (j + 1))) with e | e <;> rw [e] <;> assumption
      · exact h5
theorem zp_w_near (same : Nat → Nat → Bool) (i j k : Nat) (hi : i ≤ 15) : zp_w (zp_dp same i j) ≤ 16 * (k : Int) ↔ (zp_dp same i j).1 ≤ k := by
  have := zp_dp_le same i j
  unfold zp_w
  omega
theorem zp_w_stay (same : Nat → Nat → Bool) (i j : Nat) (hi : i ≤ 7) : (zp_w (zp_dp same i j) + 15) / 16 * 16 - zp_w (zp_dp same i j) = ((zp_dp same i j).2 : Int) := by
  have := zp_dp_le same i j
  unfold zp_w
  omega
end ZPD
