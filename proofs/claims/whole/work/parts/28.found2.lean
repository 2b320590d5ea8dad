section ZQ
/-! what a search found, as a list: tune, place, span, how much higher, the number of the score -/
abbrev zq_I : Type := Nat × Nat × Nat × Int32 × Nat
def zq_d : zq_I := (0, 0, 1, 0, 0)
def zq_it (x : zq_I) : zs_It := (nI x.1, nI x.2.1, nI x.2.2.1, x.2.2.2.1, nI x.2.2.2.2)
def zq_at (F : List zq_I) (a : Nat) : zq_I := F.getD a zq_d
/-- the score of a is greater than that of b -/
def zq_ld (F : List zq_I) (a b : Nat) : Prop := (zq_at F b).2.2.2.2 * (zq_at F b).2.2.2.2 * (zq_at F a).2.2.1 < (zq_at F a).2.2.2.2 * (zq_at F a).2.2.2.2 * (zq_at F b).2.2.1
def zq_ok (F : List zq_I) : Prop := ∀ x ∈ F, 0 < x.2.2.1 ∧ x.2.2.1 ≤ 20 ∧ 0 < x.2.2.2.2 ∧ x.2.2.2.2 ≤ 8 ∧ x.1 < 8 ∧ x.2.1 < 20
theorem zq_sp {F : List zq_I} (h : zq_ok F) (a : Nat) : 0 < (zq_at F a).2.2.1 := by
  unfold zq_at
  rcases Nat.lt_or_ge a F.length with c | c
  · rw [List.getD_eq_getElem?_getD, List.getElem?_eq_getElem c]
    exact (h _ (List.getElem_mem c)).1
  · rw [List.getD_eq_getElem?_getD, List.getElem?_eq_none c]
    decide
theorem zq_so {F : List zq_I} (h : zq_ok F) : zr_so (zq_ld F) := by
  constructor
  · intro a b h1 h2
    unfold zq_ld at h1 h2
    omega
  · intro a b c h1
    unfold zq_ld at h1 ⊢
    have sa := zq_sp h a
    have sb := zq_sp h b
    have sc := zq_sp h c
    generalize (zq_at F a).2.2.2.2 * (zq_at F a).2.2.2.2 = A at h1 ⊢
    generalize (zq_at F b).2.2.2.2 * (zq_at F b).2.2.2.2 = B at h1 ⊢
    generalize (zq_at F c).2.2.2.2 * (zq_at F c).2.2.2.2 = D at h1 ⊢
    generalize (zq_at F a).2.2.1 = x at h1 sa ⊢
    generalize (zq_at F b).2.2.1 = y at h1 sb ⊢
    generalize (zq_at F c).2.2.1 = w at h1 sc ⊢
    rcases Nat.lt_or_ge (B * x) (A * y) with k1 | k1
    · exact Or.inl k1
    · rcases Nat.lt_or_ge (D * y) (B * w) with k2 | k2
      · exact Or.inr k2
      · exfalso
        have h3 : A * y * w ≤ B * x * w := Nat.mul_le_mul_right w k1
        have h4 : B * w * x ≤ D * y * x := Nat.mul_le_mul_right x k2
        have h5 : D * x * y < A * w * y := Nat.mul_lt_mul_of_pos_right h1 sb
        have e1 : A * y * w = A * w * y := by rw [Nat.mul_assoc, Nat.mul_comm y w, ← Nat.mul_assoc]
        have e2 : B * x * w = B * w * x := by rw [Nat.mul_assoc, Nat.mul_comm x w, ← Nat.mul_assoc]
        have e3 : D * y * x = D * x * y := by rw [Nat.mul_assoc, Nat.mul_comm y x, ← Nat.mul_assoc]
        omega
theorem zq_at_lo {F : List zq_I} {x : zq_I} {a : Nat} (h : a < F.length) : zq_at (F ++ [x]) a = zq_at F a := by
  unfold zq_at
  rw [List.getD_eq_getElem?_getD, List.getD_eq_getElem?_getD, List.getElem?_append_left h]
theorem zq_at_new (F : List zq_I) (x : zq_I) : zq_at (F ++ [x]) F.length = x := by
  unfold zq_at
  rw [List.getD_eq_getElem?_getD, List.getElem?_append_right (Nat.le_refl _)]
  simp
theorem zr_ok_congr {ld ld' : Nat → Nat → Prop} {n m : Nat} {s : Nat → Nat} (h : ∀ a b, a < n → b < n → (ld a b ↔ ld' a b)) (h1 : zr_ok ld n m s) : zr_ok ld' n m s := by
  have key : ∀ a b, a < n → b < n → zr_bf ld a b → zr_bf ld' a b := by
    intro a b ha hb h2
    rcases h2 with h2 | ⟨h2, h3⟩
    · exact Or.inl ((h a b ha hb).mp h2)
    · exact Or.inr ⟨fun h4 => h2 ((h b a hb ha).mpr h4), h3⟩
  exact ⟨h1.1, fun i j hij hj => key _ _ (h1.1 i (by omega)) (h1.1 j hj) (h1.2.1 i j hij hj), fun a ha hn j hj => key _ _ (h1.1 j hj) ha (h1.2.2 a ha hn j hj)⟩
theorem zp_rk_hi {P : Nat → Bool} : ∀ {n i : Nat}, zp_rk P n ≤ i → i < n → P i = false := by
  intro n
  induction n with
  | zero => intro i _ h; omega
  | succ n ih =>
    intro i h1 h2
    cases e : P n
    · rw [zp_rk_f e] at h1
      by_cases c : i = n
      · rw [c]; exact e
      · exact ih h1 (by omega)
    · rw [zp_rk_t e] at h1; omega
theorem zp_rk_lo {P : Nat → Bool} : ∀ {n : Nat}, 0 < zp_rk P n → P (zp_rk P n - 1) = true := by
  intro n
  induction n with
  | zero => intro h; exact absurd h (by show ¬ 0 < 0; omega)
  | succ n ih =>
    intro h
    cases e : P n
    · rw [zp_rk_f e] at h ⊢; exact ih h
    · rw [zp_rk_t e, Nat.add_sub_cancel]; exact e
/-- the object of what was found holds the list F -/
def zq_F (z : zv_T) (ad : Nat → Nat) (g : Nat → va_E) (as : Nat) (F : List zq_I) : Prop := ∃ (pi : Nat → Nat) (it : Nat → zs_It) (s : Nat → Nat), zs_F z ad g as F.length (if 30 < F.length then 30 else F.length) pi it ∧ zr_ok (zq_ld F) F.length (if 30 < F.length then 30 else F.length) s ∧ (F.length ≤ 30 → zr_full F.length F.length s) ∧ ∀ j, j < (if 30 < F.length then 30 else F.length) → it (pi j) = zq_it (zq_at F (s j))
theorem zq_cmp {a b x y : Nat} (ha : a ≤ 8) (hb : b ≤ 8) (hx : x ≤ 20) (hy : y ≤ 20) : nI a * nI a * nI y ≤ nI b * nI b * nI x ↔ a * a * y ≤ b * b * x := by
  have h1 : a * a ≤ 8 * 8 := Nat.mul_le_mul ha ha
  have h2 : b * b ≤ 8 * 8 := Nat.mul_le_mul hb hb
  have h3 : a * a * y ≤ 8 * 8 * 20 := Nat.mul_le_mul h1 hy
  have h4 : b * b * x ≤ 8 * 8 * 20 := Nat.mul_le_mul h2 hx
  rw [pk_mul, pk_mul, pk_mul, pk_mul, nI_leI (by omega) (by omega)]
theorem zq_in {F : List zq_I} {a : Nat} (h : zq_ok F) (ha : a < F.length) : (zq_at F a).2.2.1 ≤ 20 ∧ (zq_at F a).2.2.2.2 ≤ 8 := by
  unfold zq_at
  rw [List.getD_eq_getElem?_getD, List.getElem?_eq_getElem ha]
  have := h _ (List.getElem_mem ha)
  exact ⟨this.2.1, this.2.2.2.1⟩
/-- one more is found -/
theorem zq_add {z : zv_T} {ad : Nat → Nat} {g1 : Nat → va_E} {as : Nat} {F : List zq_I} {x : zq_I} {pi : Nat → Nat} {it : Nat → zs_It} {s : Nat → Nat} {kp : Nat} (hkp : kp = (if 30 < F.length then 30 else F.length)) (hok : zq_ok (F ++ [x]))
    (hp2 : ∀ i j, i < 30 → j < 30 → pi i = pi j → i = j) (hr : zr_ok (zq_ld F) F.length kp s) (hf : F.length ≤ 30 → zr_full F.length F.length s) (hit : ∀ j, j < kp → it (pi j) = zq_it (zq_at F (s j)))
    (h1 : zp_rk (fun i => decide (nI x.2.2.2.2 * nI x.2.2.2.2 * (it (pi i)).2.2.1 ≤ (it (pi i)).2.2.2.2 * (it (pi i)).2.2.2.2 * nI x.2.2.1)) kp < 30 → zs_F z ad g1 as (F.length + 1) ((if 29 < kp then 29 else kp) + 1) (zp_sh pi (zp_rk (fun i => decide (nI x.2.2.2.2 * nI x.2.2.2.2 * (it (pi i)).2.2.1 ≤ (it (pi i)).2.2.2.2 * (it (pi i)).2.2.2.2 * nI x.2.2.1)) kp) (if 29 < kp then 29 else kp)) (fun m => if m = pi (if 29 < kp then 29 else kp) then zq_it x else it m))
    (h2 : 30 ≤ zp_rk (fun i => decide (nI x.2.2.2.2 * nI x.2.2.2.2 * (it (pi i)).2.2.1 ≤ (it (pi i)).2.2.2.2 * (it (pi i)).2.2.2.2 * nI x.2.2.1)) kp → zs_F z ad g1 as (F.length + 1) kp pi it) : zq_F z ad g1 as (F ++ [x]) := by
  have hokF : zq_ok F := fun y hy => hok y (List.mem_append_left _ hy)
  have hx := hok x (List.mem_append_right _ (List.mem_singleton.mpr rfl))
  have hso := zq_so hok
  have hlen : (F ++ [x]).length = F.length + 1 := by simp
  have hr' : zr_ok (zq_ld (F ++ [x])) F.length kp s := zr_ok_congr (fun a b ha hb => by unfold zq_ld; rw [zq_at_lo ha, zq_at_lo hb]) hr
  have hP : ∀ i, i < kp → (decide (nI x.2.2.2.2 * nI x.2.2.2.2 * (it (pi i)).2.2.1 ≤ (it (pi i)).2.2.2.2 * (it (pi i)).2.2.2.2 * nI x.2.2.1) = true ↔ ¬ zq_ld (F ++ [x]) F.length (s i)) := by
    intro i hi
    have hs := hr.1 i hi
    have hb := zq_in hokF hs
    rw [decide_eq_true_iff, hit i hi]
    show nI x.2.2.2.2 * nI x.2.2.2.2 * nI (zq_at F (s i)).2.2.1 ≤ nI (zq_at F (s i)).2.2.2.2 * nI (zq_at F (s i)).2.2.2.2 * nI x.2.2.1 ↔ _
    rw [zq_cmp hx.2.2.2.1 hb.2 hx.2.1 hb.1]
    unfold zq_ld
    rw [zq_at_new, zq_at_lo hs]
    omega
  generalize hPd : (fun i => decide (nI x.2.2.2.2 * nI x.2.2.2.2 * (it (pi i)).2.2.1 ≤ (it (pi i)).2.2.2.2 * (it (pi i)).2.2.2.2 * nI x.2.2.1)) = P at h1 h2
  have hP : ∀ i, i < kp → (P i = true ↔ ¬ zq_ld (F ++ [x]) F.length (s i)) := fun i hi => by rw [← hPd]; exact hP i hi
  have hrl := zp_rk_le P kp
  generalize hrk : zp_rk P kp = r at h1 h2 hrl
  have hb : ∀ j, r ≤ j → j < kp → zq_ld (F ++ [x]) F.length (s j) := fun j a1 a2 => by
    have h9 := zp_rk_hi (P := P) (n := kp) (i := j) (by omega) a2
    refine Classical.byContradiction (fun h10 => ?_)
    rw [(hP j a2).mpr h10] at h9
    cases h9
  have ha : ∀ j, j < r → ¬ zq_ld (F ++ [x]) F.length (s j) := fun j a1 => by
    have h9 : ¬ zq_ld (F ++ [x]) F.length (s (r - 1)) := (hP (r - 1) (by omega)).mp (by rw [← hrk]; exact zp_rk_lo (by omega))
    by_cases c : j = r - 1
    · rw [c]; exact h9
    · intro h10
      rcases hso.2 _ (s (r - 1)) _ h10 with h11 | h11
      · exact h9 h11
      · rcases hr'.2.1 j (r - 1) (by omega) (by omega) with h12 | ⟨h12, -⟩
        · exact hso.1 _ _ h11 h12
        · exact h12 h11
  by_cases c30 : r < 30
  · have hz := h1 c30
    by_cases ck : kp < 30
    · have hFk : F.length = kp := by rw [hkp] at ck ⊢; split at ck <;> split <;> omega
      have e1 : (if 29 < kp then 29 else kp) = kp := by split <;> omega
      have e2 : (if 30 < (F ++ [x]).length then 30 else (F ++ [x]).length) = kp + 1 := by rw [hlen, hFk]; split <;> omega
      rw [e1] at hz
      have hr9 : zr_ok (zq_ld (F ++ [x])) kp kp s := by rw [← hFk] at hr' ⊢; rw [hFk] at hr' ⊢; exact hr'
      have hins := zr_insA (r := r) (hFk ▸ hr9 : zr_ok (zq_ld (F ++ [x])) F.length kp s) (by have := hf (by omega); rw [hFk] at this ⊢; exact this) hrl (fun j hj => ha j hj) hb
      refine ⟨zp_sh pi r kp, (fun m => if m = pi kp then zq_it x else it m), zr_put s r F.length, ?_, ?_, ?_, ?_⟩
      · rw [e2, hlen]; exact hz
      · rw [e2, hlen]; exact hins.1
      · intro _; rw [hlen]; have := hins.2; rw [hFk] at this ⊢; exact this
      · intro j hj
        rw [e2] at hj
        show (if zp_sh pi r kp j = pi kp then zq_it x else it (zp_sh pi r kp j)) = _
        rcases zr_put_c (s := s) (r := r) (a := F.length) j with ⟨d1, d2⟩ | ⟨d1, d2⟩ | ⟨d1, d2⟩
        · have e3 : zp_sh pi r kp j = pi j := by unfold zp_sh; rw [if_pos d1]
          rw [d2, e3, if_neg (fun h => by have := hp2 j kp (by omega) (by omega) h; omega), hit j (by omega), zq_at_lo (hr.1 j (by omega))]
        · have e3 : zp_sh pi r kp j = pi kp := by unfold zp_sh; rw [if_neg (by omega), if_pos d1]
          rw [d2, e3, if_pos rfl, zq_at_new]
        · have e3 : zp_sh pi r kp j = pi (j - 1) := by unfold zp_sh; rw [if_neg (by omega), if_neg (by omega), if_pos (by omega)]
          rw [d2, e3, if_neg (fun h => by have := hp2 (j - 1) kp (by omega) (by omega) h; omega), hit (j - 1) (by omega), zq_at_lo (hr.1 (j - 1) (by omega))]
    · have hk30 : kp = 30 := by rw [hkp] at ck ⊢; split at ck <;> split <;> omega
      subst hk30
      have hFl : 30 ≤ F.length := by split at hkp <;> omega
      have e2 : (if 30 < (F ++ [x]).length then 30 else (F ++ [x]).length) = 30 := by rw [hlen]; split <;> omega
      rw [show (if 29 < 30 then 29 else 30) = 29 from rfl] at hz
      refine ⟨zp_sh pi r 29, (fun m => if m = pi 29 then zq_it x else it m), zr_put s r F.length, ?_, ?_, ?_, ?_⟩
      · rw [e2, hlen]; exact hz
      · rw [e2, hlen]; exact zr_insB hso hr' c30 ha hb
      · intro h9; rw [hlen] at h9; omega
      · intro j hj
        rw [e2] at hj
        show (if zp_sh pi r 29 j = pi 29 then zq_it x else it (zp_sh pi r 29 j)) = _
        rcases zr_put_c (s := s) (r := r) (a := F.length) j with ⟨d1, d2⟩ | ⟨d1, d2⟩ | ⟨d1, d2⟩
        · have e3 : zp_sh pi r 29 j = pi j := by unfold zp_sh; rw [if_pos d1]
          rw [d2, e3, if_neg (fun h => by have := hp2 j 29 (by omega) (by omega) h; omega), hit j (by omega), zq_at_lo (hr.1 j (by omega))]
        · have e3 : zp_sh pi r 29 j = pi 29 := by unfold zp_sh; rw [if_neg (by omega), if_pos d1]
          rw [d2, e3, if_pos rfl, zq_at_new]
        · have e3 : zp_sh pi r 29 j = pi (j - 1) := by unfold zp_sh; rw [if_neg (by omega), if_neg (by omega), if_pos (by omega)]
          rw [d2, e3, if_neg (fun h => by have := hp2 (j - 1) 29 (by omega) (by omega) h; omega), hit (j - 1) (by omega), zq_at_lo (hr.1 (j - 1) (by omega))]
  · have hz := h2 (by omega)
    have hk30 : kp = 30 := by split at hkp <;> omega
    subst hk30
    have hFl : 30 ≤ F.length := by split at hkp <;> omega
    have e2 : (if 30 < (F ++ [x]).length then 30 else (F ++ [x]).length) = 30 := by rw [hlen]; split <;> omega
    refine ⟨pi, it, s, ?_, ?_, ?_, ?_⟩
    · rw [e2, hlen]; exact hz
    · rw [e2, hlen]; exact zr_insC hr' (fun j hj => ha j (by omega))
    · intro h9; rw [hlen] at h9; omega
    · intro j hj
      rw [e2] at hj
      rw [hit j hj, zq_at_lo (hr.1 j hj)]
end ZQ
