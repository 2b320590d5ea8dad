section ZRK
/-! the order of what was found: by score, then by the order in which it was found -/
def zr_bf (ld : Nat → Nat → Prop) (a b : Nat) : Prop := ld a b ∨ (¬ ld b a ∧ a < b)
/-- a strict order by a score -/
def zr_so (ld : Nat → Nat → Prop) : Prop := (∀ a b, ld a b → ¬ ld b a) ∧ ∀ a b c, ld a c → ld a b ∨ ld b c
theorem zr_asym {ld : Nat → Nat → Prop} (h : zr_so ld) {a b : Nat} (h1 : zr_bf ld a b) (h2 : zr_bf ld b a) : False := by
  rcases h1 with h1 | ⟨h1, l1⟩
  · rcases h2 with h2 | ⟨h2, -⟩
    · exact h.1 a b h1 h2
    · exact h2 h1
  · rcases h2 with h2 | ⟨-, l2⟩
    · exact h1 h2
    · omega
theorem zr_trans {ld : Nat → Nat → Prop} (h : zr_so ld) {a b c : Nat} (h1 : zr_bf ld a b) (h2 : zr_bf ld b c) : zr_bf ld a c := by
  rcases h1 with h1 | ⟨h1, l1⟩
  · rcases h.2 a c b h1 with h3 | h3
    · exact Or.inl h3
    · rcases h2 with h2 | ⟨h2, -⟩
      · exact absurd h3 (h.1 b c h2)
      · exact absurd h3 h2
  · rcases h2 with h2 | ⟨h2, l2⟩
    · rcases h.2 b a c h2 with h3 | h3
      · exact absurd h3 h1
      · exact Or.inl h3
    · refine Or.inr ⟨fun h3 => ?_, by omega⟩
      rcases h.2 c b a h3 with h4 | h4
      · exact h2 h4
      · exact h1 h4
theorem zr_irr {ld : Nat → Nat → Prop} (h : zr_so ld) {a : Nat} (h1 : zr_bf ld a a) : False := zr_asym h h1 h1
theorem zr_tot {ld : Nat → Nat → Prop} (h : zr_so ld) {a b : Nat} (hn : a ≠ b) : zr_bf ld a b ∨ zr_bf ld b a := by
  by_cases h1 : ld a b
  · exact Or.inl (Or.inl h1)
  · by_cases h2 : ld b a
    · exact Or.inr (Or.inl h2)
    · rcases Nat.lt_or_gt_of_ne hn with h3 | h3
      · exact Or.inl (Or.inr ⟨h2, h3⟩)
      · exact Or.inr (Or.inr ⟨h1, h3⟩)
/-- s 0 .. s (m - 1) are the first m of 0 .. n - 1 in that order -/
def zr_ok (ld : Nat → Nat → Prop) (n m : Nat) (s : Nat → Nat) : Prop :=
  (∀ j, j < m → s j < n) ∧ (∀ i j, i < j → j < m → zr_bf ld (s i) (s j)) ∧ ∀ a, a < n → (∀ j, j < m → s j ≠ a) → ∀ j, j < m → zr_bf ld (s j) a
theorem zr_0 (ld : Nat → Nat → Prop) (n : Nat) (s : Nat → Nat) : zr_ok ld n 0 s := ⟨fun j h => by omega, fun i j _ h => by omega, fun a _ _ j h => by omega⟩
theorem zr_inj {ld : Nat → Nat → Prop} (h : zr_so ld) {n m : Nat} {s : Nat → Nat} (h1 : zr_ok ld n m s) {i j : Nat} (hi : i < m) (hj : j < m) (e : s i = s j) : i = j := by
  rcases Nat.lt_trichotomy i j with h2 | h2 | h2
  · exact absurd (e ▸ h1.2.1 i j h2 hj) (zr_irr h)
  · exact h2
  · exact absurd (e ▸ h1.2.1 j i h2 hi) (zr_irr h)
theorem zr_one {ld : Nat → Nat → Prop} (h : zr_so ld) {n m : Nat} {s t : Nat → Nat} (h1 : zr_ok ld n m s) (h2 : zr_ok ld n m t) : ∀ j, j < m → s j = t j := by
  intro j
  induction j using Nat.strongRecOn with
  | ind j ih =>
    intro hj
    by_cases e : s j = t j
    · exact e
    · have key : ∀ {s t : Nat → Nat}, zr_ok ld n m s → zr_ok ld n m t → (∀ k, k < j → s k = t k) → s j ≠ t j → zr_bf ld (t j) (s j) := by
        intro s t h1 h2 ih e
        by_cases hx : ∃ k, k < m ∧ t k = s j
        · obtain ⟨k, hk, ek⟩ := hx
          rcases Nat.lt_trichotomy k j with h3 | h3 | h3
          · have h4 := ih k h3
            have h5 := zr_inj h h1 hk hj (h4.trans ek)
            omega
          · subst h3
            exact absurd ek.symm e
          · rw [← ek]
            exact h2.2.1 j k h3 hk
        · exact h2.2.2 (s j) (h1.1 j hj) (fun k hk hq => hx ⟨k, hk, hq⟩) j hj
      exact (zr_asym h (key h1 h2 (fun k hk => ih k hk (by omega)) e) (key h2 h1 (fun k hk => (ih k hk (by omega)).symm) (Ne.symm e))).elim
/-- one more is taken: the first of those that are left -/
theorem zr_sel {ld : Nat → Nat → Prop} (h : zr_so ld) {n m : Nat} {s : Nat → Nat} {a : Nat} (h1 : zr_ok ld n m s) (ha : a < n) (hn : ∀ j, j < m → s j ≠ a) (hb : ∀ b, b < n → b ≠ a → (∀ j, j < m → s j ≠ b) → zr_bf ld a b) : zr_ok ld n (m + 1) (fun j => if j = m then a else s j) := by
  refine ⟨fun j hj => ?_, fun i j hij hj => ?_, fun b hbn hbs j hj => ?_⟩
  · by_cases e : j = m
    · simp only [if_pos e]; exact ha
    · simp only [if_neg e]; exact h1.1 j (by omega)
  · have ei : ¬ i = m := by omega
    simp only [if_neg ei]
    by_cases e : j = m
    · simp only [if_pos e]; exact h1.2.2 a ha hn i (by omega)
    · simp only [if_neg e]; exact h1.2.1 i j hij (by omega)
  · have hba : b ≠ a := fun e => hbs m (by omega) (by simp [e])
    have hbs' : ∀ j, j < m → s j ≠ b := fun k hk => by
      have h9 := hbs k (by omega)
      have e9 : ¬ k = m := by omega
      simp only [if_neg e9] at h9
      exact h9
    by_cases e : j = m
    · simp only [if_pos e]; exact hb b hbn hba hbs'
    · simp only [if_neg e]; exact h1.2.2 b hbn hbs' j (by omega)
/-- a row with one put in at place r -/
def zr_put (s : Nat → Nat) (r a : Nat) : Nat → Nat := fun j => if j < r then s j else if j = r then a else s (j - 1)
/-- all of 0 .. n - 1 are among them -/
def zr_full (n m : Nat) (s : Nat → Nat) : Prop := ∀ a, a < n → ∃ j, j < m ∧ s j = a
theorem zr_put_lo {s : Nat → Nat} {r a j : Nat} (h : j < r) : zr_put s r a j = s j := by unfold zr_put; rw [if_pos h]
theorem zr_put_at (s : Nat → Nat) (r a : Nat) : zr_put s r a r = a := by unfold zr_put; rw [if_neg (Nat.lt_irrefl r), if_pos rfl]
theorem zr_put_hi {s : Nat → Nat} {r a j : Nat} (h : r < j) : zr_put s r a j = s (j - 1) := by unfold zr_put; rw [if_neg (by omega), if_neg (by omega)]
theorem zr_put_c {s : Nat → Nat} {r a : Nat} (j : Nat) : (j < r ∧ zr_put s r a j = s j) ∨ (j = r ∧ zr_put s r a j = a) ∨ (r < j ∧ zr_put s r a j = s (j - 1)) := by
  rcases Nat.lt_trichotomy j r with h | h | h
  · exact Or.inl ⟨h, zr_put_lo h⟩
  · exact Or.inr (Or.inl ⟨h, by rw [h]; exact zr_put_at s r a⟩)
  · exact Or.inr (Or.inr ⟨h, zr_put_hi h⟩)
theorem zr_ord {ld : Nat → Nat → Prop} {n m r k : Nat} {s : Nat → Nat} (h1 : zr_ok ld n m s) (hk : k ≤ m + 1) (ha : ∀ j, j < r → ¬ ld n (s j)) (hb : ∀ j, r ≤ j → j < m → ld n (s j)) (hr : r ≤ m) : ∀ i j, i < j → j < k → zr_bf ld (zr_put s r n i) (zr_put s r n j) := by
  intro i j hij hj
  rcases zr_put_c (s := s) (r := r) (a := n) i with ⟨c1, e1⟩ | ⟨c1, e1⟩ | ⟨c1, e1⟩ <;> rcases zr_put_c (s := s) (r := r) (a := n) j with ⟨c2, e2⟩ | ⟨c2, e2⟩ | ⟨c2, e2⟩ <;> rw [e1, e2]
  · exact h1.2.1 i j hij (by omega)
  · exact Or.inr ⟨ha i c1, h1.1 i (by omega)⟩
  · exact h1.2.1 i (j - 1) (by omega) (by omega)
  · omega
  · omega
  · exact Or.inl (hb (j - 1) (by omega) (by omega))
  · omega
  · omega
  · exact h1.2.1 (i - 1) (j - 1) (by omega) (by omega)
theorem zr_dom {ld : Nat → Nat → Prop} {n m r k : Nat} {s : Nat → Nat} (h1 : zr_ok ld n m s) (hk : k ≤ m + 1) (hr : r ≤ m) : ∀ j, j < k → zr_put s r n j < n + 1 := by
  intro j hj
  rcases zr_put_c (s := s) (r := r) (a := n) j with ⟨c1, e1⟩ | ⟨c1, e1⟩ | ⟨c1, e1⟩ <;> rw [e1]
  · have := h1.1 j (by omega); omega
  · omega
  · have := h1.1 (j - 1) (by omega); omega
/-- one more is found, and there is a place left: it goes behind those that it doesn't lead -/
theorem zr_insA {ld : Nat → Nat → Prop} {n m r : Nat} {s : Nat → Nat} (h1 : zr_ok ld n m s) (hf : zr_full n m s) (hr : r ≤ m) (ha : ∀ j, j < r → ¬ ld n (s j)) (hb : ∀ j, r ≤ j → j < m → ld n (s j)) : zr_ok ld (n + 1) (m + 1) (zr_put s r n) ∧ zr_full (n + 1) (m + 1) (zr_put s r n) := by
  have hful : zr_full (n + 1) (m + 1) (zr_put s r n) := by
    intro a han
    by_cases e : a = n
    · exact ⟨r, by omega, by rw [zr_put_at, e]⟩
    · obtain ⟨j, hj, ej⟩ := hf a (by omega)
      by_cases c : j < r
      · exact ⟨j, by omega, by rw [zr_put_lo c]; exact ej⟩
      · exact ⟨j + 1, by omega, by rw [zr_put_hi (by omega), Nat.add_sub_cancel]; exact ej⟩
  refine ⟨⟨zr_dom h1 (Nat.le_refl _) hr, zr_ord h1 (Nat.le_refl _) ha hb hr, fun b hb1 hb2 => ?_⟩, hful⟩
  obtain ⟨j, hj, ej⟩ := hful b hb1
  exact absurd ej (hb2 j hj)
/-- .. no place is left: the last one falls out -/
theorem zr_insB {ld : Nat → Nat → Prop} (h : zr_so ld) {n m r : Nat} {s : Nat → Nat} (h1 : zr_ok ld n m s) (hr : r < m) (ha : ∀ j, j < r → ¬ ld n (s j)) (hb : ∀ j, r ≤ j → j < m → ld n (s j)) : zr_ok ld (n + 1) m (zr_put s r n) := by
  refine ⟨zr_dom h1 (by omega) (by omega), zr_ord h1 (by omega) ha hb (by omega), fun b hb1 hb2 j hj => ?_⟩
  have hbn : b ≠ n := fun e => hb2 r hr (by rw [zr_put_at, e])
  have hin : ∀ k, k < m - 1 → s k ≠ b := fun k hk => by
    by_cases c : k < r
    · have := hb2 k (by omega); rwa [zr_put_lo c] at this
    · have := hb2 (k + 1) (by omega); rwa [zr_put_hi (by omega), Nat.add_sub_cancel] at this
  have hs : ∀ k, k < m - 1 → zr_bf ld (s k) b := fun k hk => by
    by_cases e : s (m - 1) = b
    · rw [← e]; exact h1.2.1 k (m - 1) hk (by omega)
    · exact h1.2.2 b (by omega) (fun q hq => by
        by_cases c : q = m - 1
        · rw [c]; exact e
        · exact hin q (by omega)) k (by omega)
  have hl : zr_bf ld n b := by
    by_cases e : s (m - 1) = b
    · rw [← e]; exact Or.inl (hb (m - 1) (by omega) (by omega))
    · have h3 : zr_bf ld (s (m - 1)) b := h1.2.2 b (by omega) (fun q hq => by
        by_cases c : q = m - 1
        · rw [c]; exact e
        · exact hin q (by omega)) (m - 1) (by omega)
      exact zr_trans h (Or.inl (hb (m - 1) (by omega) (by omega))) h3
  rcases zr_put_c (s := s) (r := r) (a := n) j with ⟨c1, e1⟩ | ⟨c1, e1⟩ | ⟨c1, e1⟩ <;> rw [e1]
  · exact hs j (by omega)
  · exact hl
  · exact hs (j - 1) (by omega)
/-- .. or it is the last itself -/
theorem zr_insC {ld : Nat → Nat → Prop} {n m : Nat} {s : Nat → Nat} (h1 : zr_ok ld n m s) (ha : ∀ j, j < m → ¬ ld n (s j)) : zr_ok ld (n + 1) m s := by
  refine ⟨fun j hj => Nat.lt_succ_of_lt (h1.1 j hj), h1.2.1, fun b hb1 hb2 j hj => ?_⟩
  by_cases e : b = n
  · rw [e]; exact Or.inr ⟨ha j hj, h1.1 j hj⟩
  · exact h1.2.2 b (by omega) hb2 j hj
/-- fewer than n don't fill n places -/
theorem zr_php (n : Nat) : ∀ (m : Nat) (s : Nat → Nat), m < n → ∃ a, a < n ∧ ∀ j, j < m → s j ≠ a := by
  induction n with
  | zero => intro m s h; omega
  | succ n ih =>
    intro m s h
    cases m with
    | zero => exact ⟨0, by omega, fun j hj => by omega⟩
    | succ m =>
      by_cases hx : ∃ j, j < m + 1 ∧ s j = n
      · obtain ⟨j, hj, ej⟩ := hx
        obtain ⟨a, ha, hn⟩ := ih m (fun k => if k = j then s m else s k) (by omega)
        refine ⟨a, by omega, fun k hk => ?_⟩
        by_cases e1 : k = j
        · rw [e1, ej]; omega
        · by_cases e2 : k = m
          · have := hn j (by omega)
            rw [if_pos rfl] at this
            rw [e2]; exact this
          · have := hn k (by omega)
            rwa [if_neg e1] at this
      · exact ⟨n, by omega, fun k hk e => hx ⟨k, hk, e⟩⟩
end ZRK
