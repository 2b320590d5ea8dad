section ZPO
/-! outlines: the i-th note asked can be at place j -/
def zo_any (f : Nat → Bool) (j : Nat) : Nat → Bool
  | 0 => false
  | n + 1 => zo_any f j n || (decide (n + 1 ≤ j) && f (j - (n + 1)))
def zo_M (ok : Nat → Nat → Bool) (k : Nat) : Nat → Nat → Bool
  | 0 => fun j => decide (j = 0) && ok 0 j
  | i + 1 => fun j => zo_any (zo_M ok k i) j (k + 1) && ok (i + 1) j
theorem zo_any_ex {f : Nat → Bool} {j n : Nat} (h : zo_any f j n = true) : ∃ b, b < j ∧ f b = true := by
  induction n with
  | zero => cases h
  | succ n ih =>
    simp only [zo_any, Bool.or_eq_true, Bool.and_eq_true, decide_eq_true_eq] at h
    rcases h with h | ⟨h1, h2⟩
    · exact ih h
    · exact ⟨j - (n + 1), by omega, h2⟩
theorem zo_ge {ok : Nat → Nat → Bool} {k : Nat} : ∀ {i j : Nat}, zo_M ok k i j = true → i ≤ j := by
  intro i
  induction i with
  | zero => intro j _; exact Nat.zero_le _
  | succ i ih =>
    intro j h
    simp only [zo_M, Bool.and_eq_true] at h
    obtain ⟨b, hb, hf⟩ := zo_any_ex h.1
    have := ih hf
    omega
theorem zo_okS {ok : Nat → Nat → Bool} {k i j : Nat} (h : zo_M ok k i j = true) : ok i j = true := by
  cases i with
  | zero => simp only [zo_M, Bool.and_eq_true] at h; exact h.2
  | succ i => simp only [zo_M, Bool.and_eq_true] at h; exact h.2
theorem zo_any_cut {f : Nat → Bool} {j n m : Nat} (h : j ≤ n) (hm : n ≤ m) : zo_any f j m = zo_any f j n := by
  induction m with
  | zero => rw [show n = 0 by omega]
  | succ m ih =>
    by_cases e : n = m + 1
    · rw [e]
    · have h1 := ih (by omega)
      simp only [zo_any, h1]
      rw [decide_eq_false (by omega)]
      simp
theorem zo_any_eq {f f' : Nat → Bool} {j n : Nat} (h : ∀ b, b < j → f b = f' b) : zo_any f j n = zo_any f' j n := by
  induction n with
  | zero => rfl
  | succ n ih =>
    simp only [zo_any, ih]
    by_cases c : n + 1 ≤ j
    · rw [h (j - (n + 1)) (by omega)]
    · rw [decide_eq_false c]; simp
/-- the same from a place on -/
theorem zo_any_at {f F : Nat → Bool} {a e n : Nat} (h : ∀ b, b < e → F b = (decide (a ≤ b) && f (b - a))) : zo_any F e n = (decide (a ≤ e) && zo_any f (e - a) n) := by
  induction n with
  | zero => simp [zo_any]
  | succ n ih =>
    simp only [zo_any, ih]
    by_cases c : n + 1 ≤ e
    · rw [h (e - (n + 1)) (by omega)]
      by_cases c2 : a ≤ e - (n + 1)
      · rw [decide_eq_true c, decide_eq_true c2, decide_eq_true (show a ≤ e by omega), decide_eq_true (show n + 1 ≤ e - a by omega), show e - (n + 1) - a = e - a - (n + 1) by omega]
        simp
      · rw [decide_eq_true c, decide_eq_false c2, decide_eq_false (show ¬ n + 1 ≤ e - a by omega)]
        simp
    · rw [decide_eq_false c, decide_eq_false (show ¬ n + 1 ≤ e - a by omega)]
      simp
end ZPO
