section ZMV
/-- what the model finds: the spans from a place on -/
def zm_ff (kd k qc : Nat) (qp qq p q : Nat → Int32) (pl : Nat) : Nat → Bool := fun sp => decide (0 < zm_pt kd k qc qp qq p q pl sp)
def zm_mk (kd k qc t : Nat) (qp qq p q : Nat → Int32) (pl : Nat) : Nat → zq_I := fun sp => (t, pl, sp, p pl - qp 0, zm_pt kd k qc qp qq p q pl sp)
def zm_nl (kd k qc t : Nat) (qp qq p q : Nat → Int32) (C : Nat) : Nat → List zq_I := fun pl => zq_nn (zm_ff kd k qc qp qq p q pl) (zm_mk kd k qc t qp qq p q pl) 2 (C + 1 - pl - 2)
/-- .. in a tune -/
def zm_ml (a : Nat → Nat → Int32) (th sh : Nat → Bool) (Cn Rn : Nat → Nat) (kd k qc : Nat) : Nat → List zq_I := fun t => if th t && sh t then zq_cc (zm_nl kd k qc t (a 6) (a 7) (zm_f a 4 t (Rn t)) (zm_f a 5 t (Rn t)) (Cn t)) 0 (Cn t) else []
theorem zq_nx0 {F Z T : List zq_I} {fit : Nat → Bool} {mk : Nat → zq_I} {sp n m : Nat} (h : F ++ (zq_nn fit mk sp n ++ Z) = T) (hn : n = m + 1) (hf : fit sp = false) : F ++ (zq_nn fit mk (sp + 1) m ++ Z) = T := by
  rw [hn, zq_nnS, if_neg (by rw [hf]; decide)] at h
  exact h
theorem zq_nx1 {F Z T : List zq_I} {fit : Nat → Bool} {mk : Nat → zq_I} {sp n m : Nat} (h : F ++ (zq_nn fit mk sp n ++ Z) = T) (hn : n = m + 1) (hf : fit sp = true) : (F ++ [mk sp]) ++ (zq_nn fit mk (sp + 1) m ++ Z) = T := by
  rw [hn, zq_nnS, if_pos hf] at h
  rw [← h]
  simp
theorem zq_nxe {F Z T : List zq_I} {fit : Nat → Bool} {mk : Nat → zq_I} {sp n : Nat} (h : F ++ (zq_nn fit mk sp n ++ Z) = T) (hn : n = 0) : F ++ Z = T := by
  rw [hn] at h
  exact h
theorem zq_cx {F Z T : List zq_I} {f : Nat → List zq_I} {pl n m : Nat} (h : F ++ (zq_cc f pl n ++ Z) = T) (hn : n = m + 1) : F ++ (f pl ++ (zq_cc f (pl + 1) m ++ Z)) = T := by
  rw [hn, zq_ccS, List.append_assoc] at h
  exact h
theorem zq_cxe {F Z T : List zq_I} {f : Nat → List zq_I} {pl n : Nat} (h : F ++ (zq_cc f pl n ++ Z) = T) (hn : n = 0) : F ++ Z = T := by
  rw [hn] at h
  exact h
theorem zq_if0 {F A Z T : List zq_I} {b : Bool} (h : F ++ ((if b then A else []) ++ Z) = T) (hb : b = false) : F ++ Z = T := by
  rw [hb] at h
  exact h
theorem zq_if1 {F A Z T : List zq_I} {b : Bool} (h : F ++ ((if b then A else []) ++ Z) = T) (hb : b = true) : F ++ (A ++ Z) = T := by
  rw [hb] at h
  exact h
theorem zq_if2 {F A Z T : List zq_I} {b : Bool} (h : F ++ (A ++ Z) = T) (hb : b = true) : F ++ ((if b then A else []) ++ Z) = T := by
  rw [hb]
  exact h
def zm_tri : Nat → Nat
  | 0 => 0
  | n + 1 => n + zm_tri n
theorem zm_tri20 : ∀ n, n < 21 → zm_tri n ≤ 190 := by decide
theorem zq_cc_tri {f : Nat → List zq_I} {C : Nat} (h : ∀ k, (f k).length ≤ C + 1 - k - 2) : ∀ {n pl : Nat}, pl + n = C → (zq_cc f pl n).length ≤ zm_tri n := by
  intro n
  induction n with
  | zero => intro pl _; exact Nat.le_refl _
  | succ n ih =>
    intro pl hp
    rw [zq_ccS, List.length_append]
    have h1 := ih (pl := pl + 1) (by omega)
    have h2 := h pl
    show _ ≤ n + zm_tri n
    omega
theorem zq_cc_len3 {f : Nat → List zq_I} {m C : Nat} (h : ∀ k, k < C → (f k).length ≤ m) : ∀ {n pl : Nat}, pl + n ≤ C → (zq_cc f pl n).length ≤ n * m := by
  intro n
  induction n with
  | zero => intro pl _; exact Nat.zero_le _
  | succ n ih =>
    intro pl hp
    rw [zq_ccS, List.length_append, Nat.succ_mul]
    have h1 := ih (pl := pl + 1) (by omega)
    have h2 := h pl (by omega)
    omega
theorem zm_ml_len {a : Nat → Nat → Int32} {th sh : Nat → Bool} {Cn Rn : Nat → Nat} {kd k qc : Nat} (hA : zm_A a th sh Cn Rn) : (zq_cc (zm_ml a th sh Cn Rn kd k qc) 0 8).length ≤ 1520 := by
  refine Nat.le_trans (zq_cc_len3 (m := 190) (C := 8) (fun t ht => ?_) (by omega)) (by omega)
  unfold zm_ml
  split
  · refine Nat.le_trans (zq_cc_tri (C := Cn t) (fun pl => ?_) (by omega)) (zm_tri20 _ (by have := (hA t ht).2.2.2.2.1; omega))
    exact zq_nn_len
  · exact Nat.zero_le _
theorem zm_pt_le {kd k qc : Nat} {qp qq p q : Nat → Int32} {pl sp : Nat} (h1 : 1 ≤ qc) (h : qc ≤ 8) : zm_pt kd k qc qp qq p q pl sp ≤ 8 := by
  have h2 := zp_dp_le (zp_sm qp p pl) (qc - 1) (sp - 1)
  unfold zm_pt
  split
  · split <;> omega
  · split
    · split <;> omega
    · split <;> omega
theorem zm_ml_mem {a : Nat → Nat → Int32} {th sh : Nat → Bool} {Cn Rn : Nat → Nat} {kd k qc : Nat} (hA : zm_A a th sh Cn Rn) (h1 : 1 ≤ qc) (h8 : qc ≤ 8) {x : zq_I} (hx : x ∈ zq_cc (zm_ml a th sh Cn Rn kd k qc) 0 8) : (0 < x.2.2.1 ∧ x.2.2.1 ≤ 20 ∧ 0 < x.2.2.2.2 ∧ x.2.2.2.2 ≤ 8 ∧ x.1 < 8 ∧ x.2.1 < 20) ∧ th x.1 = true ∧ x.2.2.2.1 = zm_f a 4 x.1 (Rn x.1) x.2.1 - a 6 0 := by
  obtain ⟨t, ht1, ht2, h2⟩ := zq_cc_mem hx
  unfold zm_ml at h2
  split at h2
  · rename_i hb
    obtain ⟨pl, hp1, hp2, h3⟩ := zq_cc_mem h2
    obtain ⟨sp, hs1, hs2, hf, rfl⟩ := zq_nn_mem h3
    have hC := (hA t (by omega)).2.2.2.2.1
    refine ⟨⟨by show 0 < sp; omega, by show sp ≤ 20; omega, of_decide_eq_true hf, zm_pt_le h1 h8, by show t < 8; omega, by show pl < 20; omega⟩, (Bool.and_eq_true_iff.mp hb).1, rfl⟩
  · cases h2
/-- the rows of what was found -/
def zm_F (a : Nat → Nat → Int32) (F : List zq_I) : Prop := ∀ j, j < F.length → a 8 j = nI (zq_at F j).1 ∧ a 9 j = nI (zq_at F j).2.1 ∧ a 10 j = nI (zq_at F j).2.2.1 ∧ a 11 j = nI (zq_at F j).2.2.2.2
def zm_Z (a : Nat → Nat → Int32) (n : Nat) : Prop := ∀ j, j < n → a 12 j = 0
theorem zm_F_fr {a b : Nat → Nat → Int32} {F : List zq_I} (h : zm_F a F) (h8 : b 8 = a 8) (h9 : b 9 = a 9) (h10 : b 10 = a 10) (h11 : b 11 = a 11) : zm_F b F := by
  intro j hj
  rw [h8, h9, h10, h11]
  exact h j hj
theorem zm_F_add {b a : Nat → Nat → Int32} {F : List zq_I} {x : zq_I} (h : zm_F b F) (h8 : a 8 = upd (b 8) F.length (nI x.1)) (h9 : a 9 = upd (b 9) F.length (nI x.2.1)) (h10 : a 10 = upd (b 10) F.length (nI x.2.2.1)) (h11 : a 11 = upd (b 11) F.length (nI x.2.2.2.2)) : zm_F a (F ++ [x]) := by
  intro j hj
  rw [List.length_append] at hj
  have hj : j < F.length + 1 := hj
  rw [h8, h9, h10, h11]
  by_cases e : j = F.length
  · rw [e, zq_at_new, pk_us, pk_us, pk_us, pk_us]
    exact ⟨rfl, rfl, rfl, rfl⟩
  · rw [zq_at_lo (by omega), pk_un e, pk_un e, pk_un e, pk_un e]
    exact h j (by omega)
theorem zm_Z_add {b a : Nat → Nat → Int32} {n : Nat} (h : zm_Z b n) (h12 : a 12 = upd (b 12) n 0) : zm_Z a (n + 1) := by
  intro j hj
  rw [h12]
  by_cases e : j = n
  · rw [e, pk_us]
  · rw [pk_un e]
    exact h j (by omega)
/-- which of them were taken -/
def zm_K (a : Nat → Nat → Int32) (n m : Nat) (s : Nat → Nat) : Prop := ∀ j, j < n → (a 12 j = 1 ∧ ∃ i, i < m ∧ s i = j) ∨ (a 12 j = 0 ∧ ∀ i, i < m → s i ≠ j)
theorem zm_K_sel {a b : Nat → Nat → Int32} {n m k : Nat} {s : Nat → Nat} (h : zm_K a n m s) (h12 : b 12 = upd (a 12) k 1) : zm_K b n (m + 1) (fun j => if j = m then k else s j) := by
  intro j hj
  rw [h12]
  by_cases e : j = k
  · rw [e, pk_us]
    exact Or.inl ⟨rfl, m, by omega, if_pos rfl⟩
  · rw [pk_un e]
    rcases h j hj with ⟨h1, i, hi, hs⟩ | ⟨h1, h2⟩
    · exact Or.inl ⟨h1, i, by omega, (if_neg (by omega)).trans hs⟩
    · refine Or.inr ⟨h1, fun i hi => ?_⟩
      by_cases c : i = m
      · show (if i = m then k else s i) ≠ j
        rw [if_pos c]
        exact fun h => e h.symm
      · show (if i = m then k else s i) ≠ j
        rw [if_neg c]
        exact h2 i (by omega)
/-- the first so far of those that are left -/
def zm_tp (ld : Nat → Nat → Prop) (m : Nat) (s : Nat → Nat) (f : Nat) (x : Int32) : Prop := (x = -1 ∧ ∀ j, j < f → ∃ i, i < m ∧ s i = j) ∨ ∃ b, b < f ∧ x = nI b ∧ (∀ i, i < m → s i ≠ b) ∧ ∀ j, j < f → j ≠ b → (∀ i, i < m → s i ≠ j) → zr_bf ld b j
theorem zm_tp_a {ld : Nat → Nat → Prop} {m f : Nat} {s : Nat → Nat} {x : Int32} (h : zm_tp ld m s f x) (ht : ∃ i, i < m ∧ s i = f) : zm_tp ld m s (f + 1) x := by
  rcases h with ⟨h1, h2⟩ | ⟨b, hb, h1, h2, h3⟩
  · exact Or.inl ⟨h1, fun j hj => if c : j = f then c ▸ ht else h2 j (by omega)⟩
  · refine Or.inr ⟨b, by omega, h1, h2, fun j hj hn hu => ?_⟩
    by_cases c : j = f
    · obtain ⟨i, hi, hs⟩ := ht
      exact absurd (hs.trans c.symm) (hu i hi)
    · exact h3 j (by omega) hn hu
theorem zm_tp_b {ld : Nat → Nat → Prop} {m f : Nat} {s : Nat → Nat} (h : ∀ j, j < f → ∃ i, i < m ∧ s i = j) (hu : ∀ i, i < m → s i ≠ f) : zm_tp ld m s (f + 1) (nI f) := by
  refine Or.inr ⟨f, by omega, rfl, hu, fun j hj hn hj2 => ?_⟩
  obtain ⟨i, hi, hs⟩ := h j (by omega)
  exact absurd hs (hj2 i hi)
theorem zm_tp_c {ld : Nat → Nat → Prop} {m f b : Nat} {s : Nat → Nat} (hb : b < f) (h2 : ∀ i, i < m → s i ≠ b) (h3 : ∀ j, j < f → j ≠ b → (∀ i, i < m → s i ≠ j) → zr_bf ld b j) (hn : ¬ ld f b) : zm_tp ld m s (f + 1) (nI b) := by
  refine Or.inr ⟨b, by omega, rfl, h2, fun j hj hn2 hu => ?_⟩
  by_cases c : j = f
  · rw [c]
    exact Or.inr ⟨hn, hb⟩
  · exact h3 j (by omega) hn2 hu
theorem zm_tp_d {ld : Nat → Nat → Prop} (so : zr_so ld) {m f b : Nat} {s : Nat → Nat} (h3 : ∀ j, j < f → j ≠ b → (∀ i, i < m → s i ≠ j) → zr_bf ld b j) (hl : ld f b) (hu : ∀ i, i < m → s i ≠ f) : zm_tp ld m s (f + 1) (nI f) := by
  refine Or.inr ⟨f, by omega, rfl, hu, fun j hj hn2 hu2 => ?_⟩
  by_cases c : j = b
  · rw [c]
    exact Or.inl hl
  · exact zr_trans so (Or.inl hl) (h3 j (by omega) c hu2)
theorem zm_tp_e {ld : Nat → Nat → Prop} {m n : Nat} {s : Nat → Nat} {x : Int32} (h : zm_tp ld m s n x) (hm : m < n) : ∃ b, x = nI b ∧ b < n ∧ (∀ i, i < m → s i ≠ b) ∧ ∀ j, j < n → j ≠ b → (∀ i, i < m → s i ≠ j) → zr_bf ld b j := by
  rcases h with ⟨h1, h2⟩ | ⟨b, hb, h1, h2, h3⟩
  · obtain ⟨a, ha, hn⟩ := zr_php n m s hm
    obtain ⟨i, hi, hs⟩ := h2 a ha
    exact absurd hs (hn i hi)
  · exact ⟨b, h1, hb, h2, h3⟩
theorem zm_tp_n {ld : Nat → Nat → Prop} {m n : Nat} {s : Nat → Nat} {x : Int32} (h : zm_tp ld m s n x) (hn : n < 2 ^ 31) (hx : x < 0) : ∀ j, j < n → ∃ i, i < m ∧ s i = j := by
  rcases h with ⟨-, h2⟩ | ⟨b, hb, h1, -⟩
  · exact h2
  · rw [h1] at hx
    exact absurd hx (nI_pos (by omega))
theorem zm_tp_p {ld : Nat → Nat → Prop} {m n : Nat} {s : Nat → Nat} {x : Int32} (h : zm_tp ld m s n x) (hx : ¬ x < 0) : ∃ b, x = nI b ∧ b < n ∧ (∀ i, i < m → s i ≠ b) ∧ ∀ j, j < n → j ≠ b → (∀ i, i < m → s i ≠ j) → zr_bf ld b j := by
  rcases h with ⟨h1, -⟩ | ⟨b, hb, h1, h2, h3⟩
  · rw [h1] at hx
    exact absurd (by decide) hx
  · exact ⟨b, h1, hb, h2, h3⟩
/-- what is kept of one -/
def zm_b (a : Nat → Nat → Int32) (qc : Nat) (y : zq_I) (j : Nat) : Prop := a 13 (6 * j) = nI y.1 ∧ a 13 (6 * j + 1) = nI y.2.1 ∧ a 13 (6 * j + 2) = nI y.2.2.1 ∧ a 13 (6 * j + 3) = y.2.2.2.1 ∧ a 13 (6 * j + 4) = nI (zp_lt (y.2.2.2.2 * y.2.2.2.2) (qc * y.2.2.1)) ∧ a 13 (6 * j + 5) = nI (zp_lt (qc * y.2.2.1) (y.2.2.2.2 * y.2.2.2.2))
def zm_B (a : Nat → Nat → Int32) (qc : Nat) (T : List zq_I) (m : Nat) (s : Nat → Nat) : Prop := ∀ j, j < m → zm_b a qc (zq_at T (s j)) j
theorem zm_up6 {f f1 f2 f3 f4 f5 f6 : Nat → Int32} {n : Nat} {v1 v2 v3 v4 v5 v6 : Int32} (e1 : f1 = upd f (6 * n) v1) (e2 : f2 = upd f1 (6 * n + 1) v2) (e3 : f3 = upd f2 (6 * n + 2) v3) (e4 : f4 = upd f3 (6 * n + 3) v4) (e5 : f5 = upd f4 (6 * n + 4) v5) (e6 : f6 = upd f5 (6 * n + 5) v6) : (f6 (6 * n) = v1 ∧ f6 (6 * n + 1) = v2 ∧ f6 (6 * n + 2) = v3 ∧ f6 (6 * n + 3) = v4 ∧ f6 (6 * n + 4) = v5 ∧ f6 (6 * n + 5) = v6) ∧ ∀ j, j < 6 * n → f6 j = f j := by
  subst e1 e2 e3 e4 e5 e6
  refine ⟨⟨?_, ?_, ?_, ?_, ?_, ?_⟩, fun j hj => ?_⟩
  · rw [pk_un (by omega), pk_un (by omega), pk_un (by omega), pk_un (by omega), pk_un (by omega), pk_us]
  · rw [pk_un (by omega), pk_un (by omega), pk_un (by omega), pk_un (by omega), pk_us]
  · rw [pk_un (by omega), pk_un (by omega), pk_un (by omega), pk_us]
  · rw [pk_un (by omega), pk_un (by omega), pk_us]
  · rw [pk_un (by omega), pk_us]
  · rw [pk_us]
  · rw [pk_un (by omega), pk_un (by omega), pk_un (by omega), pk_un (by omega), pk_un (by omega), pk_un (by omega)]
theorem zm_B_add {a b : Nat → Nat → Int32} {qc : Nat} {T : List zq_I} {m k : Nat} {s : Nat → Nat} (h : zm_B a qc T m s) (h1 : zm_b b qc (zq_at T k) m) (h2 : ∀ j, j < 6 * m → b 13 j = a 13 j) : zm_B b qc T (m + 1) (fun j => if j = m then k else s j) := by
  intro j hj
  by_cases e : j = m
  · show zm_b b qc (zq_at T (if j = m then k else s j)) j
    rw [if_pos e, e]
    exact h1
  · show zm_b b qc (zq_at T (if j = m then k else s j)) j
    rw [if_neg e]
    have h3 := h j (by omega)
    unfold zm_b at h3 ⊢
    rw [h2 _ (by omega), h2 _ (by omega), h2 _ (by omega), h2 _ (by omega), h2 _ (by omega), h2 _ (by omega)]
    exact h3
theorem zm_lt2 {a b : Nat} : b / Nat.gcd a b = zp_lt b a := by
  unfold zp_lt
  rw [Nat.gcd_comm]
set_option maxHeartbeats 4000000 in
set_option maxRecDepth 100000 in
theorem ct_M_searchN (l : Launch) (hst : l.stackTraces = false) (z : zv_T) (ad : Nat → Nat) (N : Nat) (g : Nat → va_E) (c as fo kp : Int32) (a : Nat → Nat → Int32) (hN : 126 ≤ N) (hM0 : zs_M z ad g c as fo kp a) (th sh : Nat → Bool) (Cn Rn : Nat → Nat) (hA : zm_A a th sh Cn Rn) (qc : Nat) (has : as = nI qc) (hqc8 : qc ≤ 8) (kd kk : Nat) (hkd : kd ≤ 5) (hkk : kk ≤ 4) : zm_i l mn_M_search ws_M_search rm_M_search z ad N g [.ref (ad 108), .int (nI kd), .int (nI kk)] (fun r g1 => (∃ k1 k2 a1 s, k1 ≤ 5 ∧ k2 ≤ 4 ∧ (nI kd) = nI k1 ∧ (nI kk) = nI k2 ∧ 2 ≤ qc ∧ r = nI (zq_cc (zm_ml a th sh Cn Rn k1 k2 qc) 0 8).length ∧ zm_M z ad g g1 0 (nI qc) (nI (zq_cc (zm_ml a th sh Cn Rn k1 k2 qc) 0 8).length) (nI (zq_kp (zq_cc (zm_ml a th sh Cn Rn k1 k2 qc) 0 8))) a1 ∧ (∀ r, r < 8 → a1 r = a r) ∧ zr_ok (zq_ld (zq_cc (zm_ml a th sh Cn Rn k1 k2 qc) 0 8)) (zq_cc (zm_ml a th sh Cn Rn k1 k2 qc) 0 8).length (zq_kp (zq_cc (zm_ml a th sh Cn Rn k1 k2 qc) 0 8)) s ∧ zm_B a1 qc (zq_cc (zm_ml a th sh Cn Rn k1 k2 qc) 0 8) (zq_kp (zq_cc (zm_ml a th sh Cn Rn k1 k2 qc) 0 8)) s) ∨ (¬ zp_kk (nI kd) (nI kk) ∧ zm_M z ad g g1 1 (nI qc) fo kp a) ∨ (zp_kk (nI kd) (nI kk) ∧ qc < 2 ∧ zm_M z ad g g1 2 (nI qc) fo kp a)) := by
  have hM : zm_M z ad g g c as fo kp a := ⟨hM0, fun _ _ => rfl⟩
  subst has
  obtain ⟨T, hT⟩ : ∃ T, T = zq_cc (zm_ml a th sh Cn Rn kd kk qc) 0 8 := ⟨_, rfl⟩
  have hT1 : T.length ≤ 1520 := by rw [hT]; exact zm_ml_len hA
  have hTm0 := fun (h : 1 ≤ qc) (x : zq_I) (hx : x ∈ T) => zm_ml_mem (kd := kd) (k := kk) hA h hqc8 (by rw [← hT]; exact hx)
  refine zm_ofi hst pn_M_search rfl (Nat.le_of_ble_eq_true rfl) (fun X hX C => ?_)
  subst hX
  show zj_J X 0 0 _ ad N g 0 [(0, .ref (ad 108)), (1, .int (nI kd)), (2, .int (nI kk))] []
  have spl : ∀ (n : Nat) (sp pl t : Nat) (g2 : Nat → va_E) (a2 : Nat → Nat → Int32) (F2 : List zq_I), Cn t + 2 - sp = n → 2 ≤ sp → pl + sp ≤ Cn t + 1 → t < 8 → th t = true → sh t = true → 2 ≤ qc → zm_M z ad g g2 0 (nI qc) (nI F2.length) kp a2 → (∀ r, r < 8 → a2 r = a r) → zm_F a2 F2 → zm_Z a2 F2.length → F2 ++ (zq_nn (zm_ff kd kk qc (a 6) (a 7) (zm_f a 4 t (Rn t)) (zm_f a 5 t (Rn t)) pl) (zm_mk kd kk qc t (a 6) (a 7) (zm_f a 4 t (Rn t)) (zm_f a 5 t (Rn t)) pl) (sp) (Cn t + 1 - pl - (sp)) ++ (zq_cc (zm_nl kd kk qc t (a 6) (a 7) (zm_f a 4 t (Rn t)) (zm_f a 5 t (Rn t)) (Cn t)) (pl + 1) (Cn t - (pl + 1)) ++ (zq_cc (zm_ml a th sh Cn Rn kd kk qc) (t + 1) (8 - (t + 1)) ++ []))) = T → (∀ (x5 : Int32) (g2 : Nat → va_E) (a2 : Nat → Nat → Int32) (F2 : List zq_I), zm_M z ad g g2 0 (nI qc) (nI F2.length) kp a2 → (∀ r, r < 8 → a2 r = a r) → zm_F a2 F2 → zm_Z a2 F2.length → F2 ++ (zq_cc (zm_nl kd kk qc t (a 6) (a 7) (zm_f a 4 t (Rn t)) (zm_f a 5 t (Rn t)) (Cn t)) (pl + 1) (Cn t - (pl + 1)) ++ (zq_cc (zm_ml a th sh Cn Rn kd kk qc) (t + 1) (8 - (t + 1)) ++ [])) = T → zj_J X 0 0 (zj_Qi X 0 0 ad N (fun r g1 => (∃ k1 k2 a1 s, k1 ≤ 5 ∧ k2 ≤ 4 ∧ (nI kd) = nI k1 ∧ (nI kk) = nI k2 ∧ 2 ≤ qc ∧ r = nI (zq_cc (zm_ml a th sh Cn Rn k1 k2 qc) 0 8).length ∧ zm_M z ad g g1 0 (nI qc) (nI (zq_cc (zm_ml a th sh Cn Rn k1 k2 qc) 0 8).length) (nI (zq_kp (zq_cc (zm_ml a th sh Cn Rn k1 k2 qc) 0 8))) a1 ∧ (∀ r, r < 8 → a1 r = a r) ∧ zr_ok (zq_ld (zq_cc (zm_ml a th sh Cn Rn k1 k2 qc) 0 8)) (zq_cc (zm_ml a th sh Cn Rn k1 k2 qc) 0 8).length (zq_kp (zq_cc (zm_ml a th sh Cn Rn k1 k2 qc) 0 8)) s ∧ zm_B a1 qc (zq_cc (zm_ml a th sh Cn Rn k1 k2 qc) 0 8) (zq_kp (zq_cc (zm_ml a th sh Cn Rn k1 k2 qc) 0 8)) s) ∨ (¬ zp_kk (nI kd) (nI kk) ∧ zm_M z ad g g1 1 (nI qc) fo kp a) ∨ (zp_kk (nI kd) (nI kk) ∧ qc < 2 ∧ zm_M z ad g g1 2 (nI qc) fo kp a))) ad N g2 197 [(5, .int x5), (4, .int (nI pl)), (3, .int (nI t)), (0, .ref (ad 108)), (1, .int (nI kd)), (2, .int (nI kk))] []) → zj_J X 0 0 (zj_Qi X 0 0 ad N (fun r g1 => (∃ k1 k2 a1 s, k1 ≤ 5 ∧ k2 ≤ 4 ∧ (nI kd) = nI k1 ∧ (nI kk) = nI k2 ∧ 2 ≤ qc ∧ r = nI (zq_cc (zm_ml a th sh Cn Rn k1 k2 qc) 0 8).length ∧ zm_M z ad g g1 0 (nI qc) (nI (zq_cc (zm_ml a th sh Cn Rn k1 k2 qc) 0 8).length) (nI (zq_kp (zq_cc (zm_ml a th sh Cn Rn k1 k2 qc) 0 8))) a1 ∧ (∀ r, r < 8 → a1 r = a r) ∧ zr_ok (zq_ld (zq_cc (zm_ml a th sh Cn Rn k1 k2 qc) 0 8)) (zq_cc (zm_ml a th sh Cn Rn k1 k2 qc) 0 8).length (zq_kp (zq_cc (zm_ml a th sh Cn Rn k1 k2 qc) 0 8)) s ∧ zm_B a1 qc (zq_cc (zm_ml a th sh Cn Rn k1 k2 qc) 0 8) (zq_kp (zq_cc (zm_ml a th sh Cn Rn k1 k2 qc) 0 8)) s) ∨ (¬ zp_kk (nI kd) (nI kk) ∧ zm_M z ad g g1 1 (nI qc) fo kp a) ∨ (zp_kk (nI kd) (nI kk) ∧ qc < 2 ∧ zm_M z ad g g1 2 (nI qc) fo kp a))) ad N g2 96 [(5, .int (nI sp)), (4, .int (nI pl)), (3, .int (nI t)), (0, .ref (ad 108)), (1, .int (nI kd)), (2, .int (nI kk))] [] := by
    intro n
    induction n with
    | zero =>
      intro sp pl t g2 a2 F2 e1 e2 e3 ht hth hsh hqc hM hrw hF hZ hE K
      obtain ⟨hA0, hA1, hA2, hA3, hA4, hA5, hA6⟩ := hA t ht
      have hA6 := hA6 hth
      exact absurd e1 (by omega)
    | succ n ih =>
      intro sp pl t g2 a2 F2 e1 e2 e3 ht hth hsh hqc hM hrw hF hZ hE K
      obtain ⟨hA0, hA1, hA2, hA3, hA4, hA5, hA6⟩ := hA t ht
      have hA6 := hA6 hth
      refine zj_iload C dc_M_search_96 1 rfl ?_
      refine zj_iload C dc_M_search_98 0 rfl ?_
      refine zj_iadd C dc_M_search_100 ?_
      refine zj_topi (nI_add _ _) ?_
      refine zj_aload_n C dc_M_search_101 rfl 3 rfl ?_
      refine zj_get (k := 3) C (by omega) hM.1.1 rfl (by decide) fw_M fl_M_16 rfl rfl dc_M_search_102 ?_
      refine zj_iload_n C dc_M_search_105 rfl 2 rfl ?_
      refine zj_iald C (by omega) hM.1.2.2.2.1 rfl ht (by decide) dc_M_search_106 ?_
      refine zj_topi ((congrFun (hrw 2 (by decide)) _).trans hA2) ?_
      refine zj_icmp_gt C dc_M_search_107 rfl (fun b1 => ?_) (fun b1 => ?_)
      · have b1 := (nI_ltI (by omega) (by omega)).mp b1
        refine zj_loc [0, 1, 2, 3, 4, 5] rfl ?_
        exact K _ g2 a2 F2 hM hrw hF hZ (zq_nxe hE (by omega))
      · have b1 := (zn_nlt (by omega) (by omega)).mp b1
        refine zj_aload_n C dc_M_search_110 rfl 3 rfl ?_
        refine zj_iload_n C dc_M_search_111 rfl 4 rfl ?_
        refine zj_iload_n C dc_M_search_112 rfl 5 rfl ?_
        refine zj_iload_n C dc_M_search_113 rfl 2 rfl ?_
        refine zj_iload C dc_M_search_114 1 rfl ?_
        refine zj_iload C dc_M_search_116 0 rfl ?_
        refine zj_Vi C (ct_M_part _ hst z ad N _ _ _ _ _ _ hN hM.1 qc t (Rn t) rfl hqc hqc8 ht ((congrFun (hrw 3 (by decide)) _).trans hA3) hA6 hA5 pl sp kk (by omega) (by omega) hkk kd hkd) gv_M_115 rfl rfl rfl hd_M_part ⟨(Nat.le_of_ble_eq_true rfl), (Nat.le_of_ble_eq_true rfl)⟩ (by omega) hM.1.1 rfl rfl rfl (Nat.le_of_ble_eq_true rfl) ⟨(Nat.le_of_ble_eq_true rfl), (Nat.le_of_ble_eq_true rfl)⟩ dc_M_search_118 (fun r1 g3 h1 => ?_)
        obtain ⟨b9, hv9, hM2, hrw2⟩ := h1
        rw [hrw 6 (by decide), hrw 7 (by decide), zm_fe (hrw 4 (by decide)), zm_fe (hrw 5 (by decide))] at hv9
        have hM := zm_T hM hM2
        have hrw : ∀ r, r < 8 → b9 r = a r := fun r h => (hrw2 r (by omega) (by omega) (by omega)).trans (hrw r h)
        have hF := zm_F_fr hF (hrw2 8 (by decide) (by decide) (by decide)) (hrw2 9 (by decide) (by decide) (by decide)) (hrw2 10 (by decide) (by decide) (by decide)) (hrw2 11 (by decide) (by decide) (by decide))
        have hZ : zm_Z b9 F2.length := fun j hj => (congrFun (hrw2 12 (by decide) (by decide) (by decide)) j).trans (hZ j hj)
        have hp8 : (zm_pt kd kk qc (a 6) (a 7) (zm_f a 4 t (Rn t)) (zm_f a 5 t (Rn t)) pl sp) ≤ 8 := zm_pt_le (by omega) hqc8
        rw [hv9]
        refine zj_istore C dc_M_search_121 (by decide) rfl ?_
        refine zj_iload C dc_M_search_123 0 rfl ?_
        refine zj_if_le C dc_M_search_125 rfl (fun b2 => ?_) (fun b2 => ?_)
        · have b2 : (zm_pt kd kk qc (a 6) (a 7) (zm_f a 4 t (Rn t)) (zm_f a 5 t (Rn t)) pl sp) = 0 := (zn_le0 (by omega)).mp b2
          have hE1 := zq_nx0 (m := Cn t + 1 - pl - (sp + 1)) hE (by omega) (show (zm_ff kd kk qc (a 6) (a 7) (zm_f a 4 t (Rn t)) (zm_f a 5 t (Rn t)) pl) sp = false from decide_eq_false (by omega))
          refine zj_iinc C dc_M_search_191 1 rfl (zn_inc sp) (by decide) rfl ?_
          refine zj_goto C dc_M_search_194 rfl ?_
          refine zj_loc (L' := [(5, .int (nI (sp + 1))), (4, .int (nI pl)), (3, .int (nI t)), (0, .ref (ad 108)), (1, .int (nI kd)), (2, .int (nI kk))]) [0, 2, 3, 4, 5, 6] rfl ?_
          exact ih (sp + 1) pl t g3 b9 F2 (by omega) (by omega) (by omega) ht hth hsh hqc hM hrw hF hZ hE1 K
        · have b2 : 0 < (zm_pt kd kk qc (a 6) (a 7) (zm_f a 4 t (Rn t)) (zm_f a 5 t (Rn t)) pl sp) := Nat.pos_of_ne_zero (fun e => b2 ((zn_le0 (by omega)).mpr e))
          have hE1 := zq_nx1 (m := Cn t + 1 - pl - (sp + 1)) hE (by omega) (show (zm_ff kd kk qc (a 6) (a 7) (zm_f a 4 t (Rn t)) (zm_f a 5 t (Rn t)) pl) sp = true from decide_eq_true b2)
          have hi9 : F2.length < 1520 := by have h9 := congrArg List.length hE1; rw [List.length_append, List.length_append] at h9; simp only [List.length_cons, List.length_nil] at h9; omega
          refine zj_aload_n C dc_M_search_128 rfl 4 rfl ?_
          refine zj_get (k := 11) C (by omega) hM.1.1 rfl (by decide) fw_M fl_M_35 rfl rfl dc_M_search_129 ?_
          refine zj_aload_n C dc_M_search_132 rfl 4 rfl ?_
          refine zj_get (k := 10) C (by omega) hM.1.1 rfl (by decide) fw_M fl_M_112 rfl rfl dc_M_search_133 ?_
          refine zj_iload_n C dc_M_search_136 rfl 3 rfl ?_
          refine zj_iast C (by omega) hM.1.2.2.2.2.2.2.2.2.2.1 rfl hi9 (by decide) dc_M_search_137 ?_
          refine zM_k8 hM (fun g2 hM => ?_)
          obtain ⟨c8, hM, q8, e8⟩ : ∃ a9, zm_M z ad g g2 0 (nI qc) (nI F2.length) kp a9 ∧ (∀ r, r ≠ 8 → a9 r = b9 r) ∧ a9 8 = upd (b9 8) F2.length (nI t) := ⟨_, hM, fun r hr => va_up_ne _ _ hr, va_up_self _ _ _⟩
          refine zj_aload_n C dc_M_search_138 rfl 4 rfl ?_
          refine zj_get (k := 12) C (by omega) hM.1.1 rfl (by decide) fw_M fl_M_38 rfl rfl dc_M_search_139 ?_
          refine zj_aload_n C dc_M_search_142 rfl 4 rfl ?_
          refine zj_get (k := 10) C (by omega) hM.1.1 rfl (by decide) fw_M fl_M_112 rfl rfl dc_M_search_143 ?_
          refine zj_iload C dc_M_search_146 2 rfl ?_
          refine zj_iast C (by omega) hM.1.2.2.2.2.2.2.2.2.2.2.1 rfl hi9 (by decide) dc_M_search_148 ?_
          refine zM_k9 hM (fun g2 hM => ?_)
          obtain ⟨c9, hM, q9, e9⟩ : ∃ a9, zm_M z ad g g2 0 (nI qc) (nI F2.length) kp a9 ∧ (∀ r, r ≠ 9 → a9 r = c8 r) ∧ a9 9 = upd (c8 9) F2.length (nI pl) := ⟨_, hM, fun r hr => va_up_ne _ _ hr, va_up_self _ _ _⟩
          refine zj_aload_n C dc_M_search_149 rfl 4 rfl ?_
          refine zj_get (k := 13) C (by omega) hM.1.1 rfl (by decide) fw_M fl_M_41 rfl rfl dc_M_search_150 ?_
          refine zj_aload_n C dc_M_search_153 rfl 4 rfl ?_
          refine zj_get (k := 10) C (by omega) hM.1.1 rfl (by decide) fw_M fl_M_112 rfl rfl dc_M_search_154 ?_
          refine zj_iload C dc_M_search_157 1 rfl ?_
          refine zj_iast C (by omega) hM.1.2.2.2.2.2.2.2.2.2.2.2.1 rfl hi9 (by decide) dc_M_search_159 ?_
          refine zM_k10 hM (fun g2 hM => ?_)
          obtain ⟨c10, hM, q10, e10⟩ : ∃ a9, zm_M z ad g g2 0 (nI qc) (nI F2.length) kp a9 ∧ (∀ r, r ≠ 10 → a9 r = c9 r) ∧ a9 10 = upd (c9 10) F2.length (nI sp) := ⟨_, hM, fun r hr => va_up_ne _ _ hr, va_up_self _ _ _⟩
          refine zj_aload_n C dc_M_search_160 rfl 4 rfl ?_
          refine zj_get (k := 14) C (by omega) hM.1.1 rfl (by decide) fw_M fl_M_44 rfl rfl dc_M_search_161 ?_
          refine zj_aload_n C dc_M_search_164 rfl 4 rfl ?_
          refine zj_get (k := 10) C (by omega) hM.1.1 rfl (by decide) fw_M fl_M_112 rfl rfl dc_M_search_165 ?_
          refine zj_iload C dc_M_search_168 0 rfl ?_
          refine zj_iast C (by omega) hM.1.2.2.2.2.2.2.2.2.2.2.2.2.1 rfl hi9 (by decide) dc_M_search_170 ?_
          refine zM_k11 hM (fun g2 hM => ?_)
          obtain ⟨c11, hM, q11, e11⟩ : ∃ a9, zm_M z ad g g2 0 (nI qc) (nI F2.length) kp a9 ∧ (∀ r, r ≠ 11 → a9 r = c10 r) ∧ a9 11 = upd (c10 11) F2.length (nI (zm_pt kd kk qc (a 6) (a 7) (zm_f a 4 t (Rn t)) (zm_f a 5 t (Rn t)) pl sp)) := ⟨_, hM, fun r hr => va_up_ne _ _ hr, va_up_self _ _ _⟩
          refine zj_aload_n C dc_M_search_171 rfl 4 rfl ?_
          refine zj_get (k := 15) C (by omega) hM.1.1 rfl (by decide) fw_M fl_M_47 rfl rfl dc_M_search_172 ?_
          refine zj_aload_n C dc_M_search_175 rfl 4 rfl ?_
          refine zj_get (k := 10) C (by omega) hM.1.1 rfl (by decide) fw_M fl_M_112 rfl rfl dc_M_search_176 ?_
          refine zj_iconst (v := 0) C dc_M_search_179 (by decide) ?_
          refine zj_zast C (by omega) hM.1.2.2.2.2.2.2.2.2.2.2.2.2.2.1 rfl hi9 (by decide) dc_M_search_180 ?_
          refine zM_k12 hM (fun g2 hM => ?_)
          obtain ⟨c12, hM, q12, e12⟩ : ∃ a9, zm_M z ad g g2 0 (nI qc) (nI F2.length) kp a9 ∧ (∀ r, r ≠ 12 → a9 r = c11 r) ∧ a9 12 = upd (c11 12) F2.length (0) := ⟨_, hM, fun r hr => va_up_ne _ _ hr, va_up_self _ _ _⟩
          refine zj_aload_n C dc_M_search_181 rfl 4 rfl ?_
          refine zj_dup C dc_M_search_182 rfl ?_
          refine zj_get (k := 10) C (by omega) hM.1.1 rfl (by decide) fw_M fl_M_112 rfl rfl dc_M_search_183 ?_
          refine zj_iconst (v := 1) C dc_M_search_186 (by decide) ?_
          refine zj_iadd C dc_M_search_187 ?_
          refine zj_topi (nI_1 _) ?_
          refine zj_put (k := 10) C (by omega) hM.1.1 rfl (by decide) fw_M fl_M_112 rfl fy_M fk_M fn_M rfl rfl rfl (Nat.le_of_ble_eq_true rfl) rfl dc_M_search_188 ?_
          refine zM_kf hM (fun g2 hM => ?_)
          refine zj_iinc C dc_M_search_191 1 rfl (zn_inc sp) (by decide) rfl ?_
          refine zj_goto C dc_M_search_194 rfl ?_
          refine zj_loc (L' := [(5, .int (nI (sp + 1))), (4, .int (nI pl)), (3, .int (nI t)), (0, .ref (ad 108)), (1, .int (nI kd)), (2, .int (nI kk))]) [0, 2, 3, 4, 5, 6] rfl ?_
          exact ih (sp + 1) pl t g2 c12 (F2 ++ [(zm_mk kd kk qc t (a 6) (a 7) (zm_f a 4 t (Rn t)) (zm_f a 5 t (Rn t)) pl) sp]) (by omega) (by omega) (by omega) ht hth hsh hqc (by rw [List.length_append]; exact hM) (fun r h => by rw [q12 r (by omega), q11 r (by omega), q10 r (by omega), q9 r (by omega), q8 r (by omega)]; exact hrw r h) (zm_F_add hF (by rw [q12 8 (by decide), q11 8 (by decide), q10 8 (by decide), q9 8 (by decide), e8]; rfl) (by rw [q12 9 (by decide), q11 9 (by decide), q10 9 (by decide), e9, q8 9 (by decide)]; rfl) (by rw [q12 10 (by decide), q11 10 (by decide), e10, q9 10 (by decide), q8 10 (by decide)]; rfl) (by rw [q12 11 (by decide), e11, q10 11 (by decide), q9 11 (by decide), q8 11 (by decide)]; rfl)) (by rw [List.length_append]; exact zm_Z_add hZ (by rw [e12, q11 12 (by decide), q10 12 (by decide), q9 12 (by decide), q8 12 (by decide)])) hE1 K
  have plc : ∀ (n : Nat) (pl t : Nat) (g2 : Nat → va_E) (a2 : Nat → Nat → Int32) (F2 : List zq_I), Cn t + 1 - pl = n → pl ≤ Cn t → t < 8 → 2 ≤ qc → zm_M z ad g g2 0 (nI qc) (nI F2.length) kp a2 → (∀ r, r < 8 → a2 r = a r) → zm_F a2 F2 → zm_Z a2 F2.length → F2 ++ ((if th t && sh t then zq_cc (zm_nl kd kk qc t (a 6) (a 7) (zm_f a 4 t (Rn t)) (zm_f a 5 t (Rn t)) (Cn t)) (pl) (Cn t - (pl)) else []) ++ (zq_cc (zm_ml a th sh Cn Rn kd kk qc) (t + 1) (8 - (t + 1)) ++ [])) = T → (∀ (x4 : Int32) (g2 : Nat → va_E) (a2 : Nat → Nat → Int32) (F2 : List zq_I), zm_M z ad g g2 0 (nI qc) (nI F2.length) kp a2 → (∀ r, r < 8 → a2 r = a r) → zm_F a2 F2 → zm_Z a2 F2.length → F2 ++ (zq_cc (zm_ml a th sh Cn Rn kd kk qc) (t + 1) (8 - (t + 1)) ++ []) = T → zj_J X 0 0 (zj_Qi X 0 0 ad N (fun r g1 => (∃ k1 k2 a1 s, k1 ≤ 5 ∧ k2 ≤ 4 ∧ (nI kd) = nI k1 ∧ (nI kk) = nI k2 ∧ 2 ≤ qc ∧ r = nI (zq_cc (zm_ml a th sh Cn Rn k1 k2 qc) 0 8).length ∧ zm_M z ad g g1 0 (nI qc) (nI (zq_cc (zm_ml a th sh Cn Rn k1 k2 qc) 0 8).length) (nI (zq_kp (zq_cc (zm_ml a th sh Cn Rn k1 k2 qc) 0 8))) a1 ∧ (∀ r, r < 8 → a1 r = a r) ∧ zr_ok (zq_ld (zq_cc (zm_ml a th sh Cn Rn k1 k2 qc) 0 8)) (zq_cc (zm_ml a th sh Cn Rn k1 k2 qc) 0 8).length (zq_kp (zq_cc (zm_ml a th sh Cn Rn k1 k2 qc) 0 8)) s ∧ zm_B a1 qc (zq_cc (zm_ml a th sh Cn Rn k1 k2 qc) 0 8) (zq_kp (zq_cc (zm_ml a th sh Cn Rn k1 k2 qc) 0 8)) s) ∨ (¬ zp_kk (nI kd) (nI kk) ∧ zm_M z ad g g1 1 (nI qc) fo kp a) ∨ (zp_kk (nI kd) (nI kk) ∧ qc < 2 ∧ zm_M z ad g g1 2 (nI qc) fo kp a))) ad N g2 203 [(4, .int x4), (3, .int (nI t)), (0, .ref (ad 108)), (1, .int (nI kd)), (2, .int (nI kk))] []) → zj_J X 0 0 (zj_Qi X 0 0 ad N (fun r g1 => (∃ k1 k2 a1 s, k1 ≤ 5 ∧ k2 ≤ 4 ∧ (nI kd) = nI k1 ∧ (nI kk) = nI k2 ∧ 2 ≤ qc ∧ r = nI (zq_cc (zm_ml a th sh Cn Rn k1 k2 qc) 0 8).length ∧ zm_M z ad g g1 0 (nI qc) (nI (zq_cc (zm_ml a th sh Cn Rn k1 k2 qc) 0 8).length) (nI (zq_kp (zq_cc (zm_ml a th sh Cn Rn k1 k2 qc) 0 8))) a1 ∧ (∀ r, r < 8 → a1 r = a r) ∧ zr_ok (zq_ld (zq_cc (zm_ml a th sh Cn Rn k1 k2 qc) 0 8)) (zq_cc (zm_ml a th sh Cn Rn k1 k2 qc) 0 8).length (zq_kp (zq_cc (zm_ml a th sh Cn Rn k1 k2 qc) 0 8)) s ∧ zm_B a1 qc (zq_cc (zm_ml a th sh Cn Rn k1 k2 qc) 0 8) (zq_kp (zq_cc (zm_ml a th sh Cn Rn k1 k2 qc) 0 8)) s) ∨ (¬ zp_kk (nI kd) (nI kk) ∧ zm_M z ad g g1 1 (nI qc) fo kp a) ∨ (zp_kk (nI kd) (nI kk) ∧ qc < 2 ∧ zm_M z ad g g1 2 (nI qc) fo kp a))) ad N g2 64 [(4, .int (nI pl)), (3, .int (nI t)), (0, .ref (ad 108)), (1, .int (nI kd)), (2, .int (nI kk))] [] := by
    intro n
    induction n with
    | zero =>
      intro pl t g2 a2 F2 e1 e2 ht hqc hM hrw hF hZ hE K
      obtain ⟨hA0, hA1, hA2, hA3, hA4, hA5, hA6⟩ := hA t ht
      exact absurd e1 (by omega)
    | succ n ih =>
      intro pl t g2 a2 F2 e1 e2 ht hqc hM hrw hF hZ hE K
      obtain ⟨hA0, hA1, hA2, hA3, hA4, hA5, hA6⟩ := hA t ht
      refine zj_aload_n C dc_M_search_64 rfl 2 rfl ?_
      refine zj_get (k := 1) C (by omega) hM.1.1 rfl (by decide) fw_M fl_M_7 rfl rfl dc_M_search_65 ?_
      refine zj_iload_n C dc_M_search_68 rfl 1 rfl ?_
      refine zj_zald C (by omega) hM.1.2.1 rfl ht (by decide) dc_M_search_69 ?_
      refine zj_topi ((congrFun (hrw 0 (by decide)) _).trans hA0) ?_
      refine zj_if_eq C dc_M_search_70 rfl (fun c1 => ?_) (fun c1 => ?_)
      · have c1 := zb_i0 c1
        have hE1 := zq_if0 hE (by rw [c1]; rfl)
        refine zj_loc [0, 1, 2, 3, 4] rfl ?_
        exact K _ g2 a2 F2 hM hrw hF hZ hE1
      · have c1 := zb_i1 c1
        refine zj_aload_n C dc_M_search_73 rfl 2 rfl ?_
        refine zj_get (k := 2) C (by omega) hM.1.1 rfl (by decide) fw_M fl_M_13 rfl rfl dc_M_search_74 ?_
        refine zj_iload_n C dc_M_search_77 rfl 1 rfl ?_
        refine zj_zald C (by omega) hM.1.2.2.1 rfl ht (by decide) dc_M_search_78 ?_
        refine zj_topi ((congrFun (hrw 1 (by decide)) _).trans hA1) ?_
        refine zj_if_eq C dc_M_search_79 rfl (fun c2 => ?_) (fun c2 => ?_)
        · have c2 := zb_i0 c2
          have hE1 := zq_if0 hE (by rw [c1, c2]; rfl)
          refine zj_loc [0, 1, 2, 3, 4] rfl ?_
          exact K _ g2 a2 F2 hM hrw hF hZ hE1
        · have c2 := zb_i1 c2
          refine zj_iload C dc_M_search_82 0 rfl ?_
          refine zj_aload_n C dc_M_search_84 rfl 2 rfl ?_
          refine zj_get (k := 3) C (by omega) hM.1.1 rfl (by decide) fw_M fl_M_16 rfl rfl dc_M_search_85 ?_
          refine zj_iload_n C dc_M_search_88 rfl 1 rfl ?_
          refine zj_iald C (by omega) hM.1.2.2.2.1 rfl ht (by decide) dc_M_search_89 ?_
          refine zj_topi ((congrFun (hrw 2 (by decide)) _).trans hA2) ?_
          refine zj_icmp_ge C dc_M_search_90 rfl (fun c3 => ?_) (fun c3 => ?_)
          · have c3 := (nI_leI (by omega) (by omega)).mp c3
            have hE1 := zq_cxe (zq_if1 hE (by rw [c1, c2]; rfl)) (by omega)
            refine zj_loc [0, 1, 2, 3, 4] rfl ?_
            exact K _ g2 a2 F2 hM hrw hF hZ hE1
          · have c3 := (zn_nle (by omega) (by omega)).mp c3
            refine zj_iconst (v := 2) C dc_M_search_93 (by decide) ?_
            refine zj_istore C dc_M_search_94 (by decide) rfl ?_
            refine zj_loc (L' := [(5, .int (nI 2)), (4, .int (nI pl)), (3, .int (nI t)), (0, .ref (ad 108)), (1, .int (nI kd)), (2, .int (nI kk))]) [0, 1, 2, 3, 4, 5] rfl ?_
            refine spl (Cn t) 2 pl t g2 a2 F2 rfl (by omega) (by omega) ht c1 c2 hqc hM hrw hF hZ (zq_cx (zq_if1 hE (by rw [c1, c2]; rfl)) (by omega)) (fun x5 g2 a2 F2 hM hrw hF hZ hE => ?_)
            refine zj_iinc C dc_M_search_197 1 rfl (zn_inc pl) (by decide) rfl ?_
            refine zj_goto C dc_M_search_200 rfl ?_
            refine zj_loc (L' := [(4, .int (nI (pl + 1))), (3, .int (nI t)), (0, .ref (ad 108)), (1, .int (nI kd)), (2, .int (nI kk))]) [0, 2, 3, 4, 5] rfl ?_
            exact ih (pl + 1) t g2 a2 F2 (by omega) (by omega) ht hqc hM hrw hF hZ (zq_if2 hE (by rw [c1, c2]; rfl)) K
  have tl : ∀ (n : Nat) (t : Nat) (g2 : Nat → va_E) (a2 : Nat → Nat → Int32) (F2 : List zq_I), 9 - t = n → t ≤ 8 → 2 ≤ qc → zm_M z ad g g2 0 (nI qc) (nI F2.length) kp a2 → (∀ r, r < 8 → a2 r = a r) → zm_F a2 F2 → zm_Z a2 F2.length → F2 ++ (zq_cc (zm_ml a th sh Cn Rn kd kk qc) t (8 - t) ++ []) = T → (∀ (x3 : Int32) (g2 : Nat → va_E) (a2 : Nat → Nat → Int32), zm_M z ad g g2 0 (nI qc) (nI T.length) kp a2 → (∀ r, r < 8 → a2 r = a r) → zm_F a2 T → zm_Z a2 T.length → zj_J X 0 0 (zj_Qi X 0 0 ad N (fun r g1 => (∃ k1 k2 a1 s, k1 ≤ 5 ∧ k2 ≤ 4 ∧ (nI kd) = nI k1 ∧ (nI kk) = nI k2 ∧ 2 ≤ qc ∧ r = nI (zq_cc (zm_ml a th sh Cn Rn k1 k2 qc) 0 8).length ∧ zm_M z ad g g1 0 (nI qc) (nI (zq_cc (zm_ml a th sh Cn Rn k1 k2 qc) 0 8).length) (nI (zq_kp (zq_cc (zm_ml a th sh Cn Rn k1 k2 qc) 0 8))) a1 ∧ (∀ r, r < 8 → a1 r = a r) ∧ zr_ok (zq_ld (zq_cc (zm_ml a th sh Cn Rn k1 k2 qc) 0 8)) (zq_cc (zm_ml a th sh Cn Rn k1 k2 qc) 0 8).length (zq_kp (zq_cc (zm_ml a th sh Cn Rn k1 k2 qc) 0 8)) s ∧ zm_B a1 qc (zq_cc (zm_ml a th sh Cn Rn k1 k2 qc) 0 8) (zq_kp (zq_cc (zm_ml a th sh Cn Rn k1 k2 qc) 0 8)) s) ∨ (¬ zp_kk (nI kd) (nI kk) ∧ zm_M z ad g g1 1 (nI qc) fo kp a) ∨ (zp_kk (nI kd) (nI kk) ∧ qc < 2 ∧ zm_M z ad g g1 2 (nI qc) fo kp a))) ad N g2 209 [(3, .int x3), (0, .ref (ad 108)), (1, .int (nI kd)), (2, .int (nI kk))] []) → zj_J X 0 0 (zj_Qi X 0 0 ad N (fun r g1 => (∃ k1 k2 a1 s, k1 ≤ 5 ∧ k2 ≤ 4 ∧ (nI kd) = nI k1 ∧ (nI kk) = nI k2 ∧ 2 ≤ qc ∧ r = nI (zq_cc (zm_ml a th sh Cn Rn k1 k2 qc) 0 8).length ∧ zm_M z ad g g1 0 (nI qc) (nI (zq_cc (zm_ml a th sh Cn Rn k1 k2 qc) 0 8).length) (nI (zq_kp (zq_cc (zm_ml a th sh Cn Rn k1 k2 qc) 0 8))) a1 ∧ (∀ r, r < 8 → a1 r = a r) ∧ zr_ok (zq_ld (zq_cc (zm_ml a th sh Cn Rn k1 k2 qc) 0 8)) (zq_cc (zm_ml a th sh Cn Rn k1 k2 qc) 0 8).length (zq_kp (zq_cc (zm_ml a th sh Cn Rn k1 k2 qc) 0 8)) s ∧ zm_B a1 qc (zq_cc (zm_ml a th sh Cn Rn k1 k2 qc) 0 8) (zq_kp (zq_cc (zm_ml a th sh Cn Rn k1 k2 qc) 0 8)) s) ∨ (¬ zp_kk (nI kd) (nI kk) ∧ zm_M z ad g g1 1 (nI qc) fo kp a) ∨ (zp_kk (nI kd) (nI kk) ∧ qc < 2 ∧ zm_M z ad g g1 2 (nI qc) fo kp a))) ad N g2 55 [(3, .int (nI t)), (0, .ref (ad 108)), (1, .int (nI kd)), (2, .int (nI kk))] [] := by
    intro n
    induction n with
    | zero =>
      intro t g2 a2 F2 e1 e2 hqc hM hrw hF hZ hE K
      exact absurd e1 (by omega)
    | succ n ih =>
      intro t g2 a2 F2 e1 e2 hqc hM hrw hF hZ hE K
      refine zj_iload_n C dc_M_search_55 rfl 0 rfl ?_
      refine zj_bipush (v := 8) C dc_M_search_56 (by decide) ?_
      refine zj_icmp_ge C dc_M_search_58 rfl (fun b1 => ?_) (fun b1 => ?_)
      · have b1 := (nI_leI (a := 8) (by omega) (by omega)).mp b1
        have hFT : F2 = T := (List.append_nil F2).symm.trans (zq_cxe hE (by omega))
        rw [hFT] at hM hF hZ
        refine zj_loc [0, 1, 2, 3] rfl ?_
        exact K _ g2 a2 hM hrw hF hZ
      · have ht := (zn_nle (a := 8) (by omega) (by omega)).mp b1
        refine zj_iconst (v := 0) C dc_M_search_61 (by decide) ?_
        refine zj_istore C dc_M_search_62 (by decide) rfl ?_
        refine zj_loc (L' := [(4, .int (nI 0)), (3, .int (nI t)), (0, .ref (ad 108)), (1, .int (nI kd)), (2, .int (nI kk))]) [0, 1, 2, 3, 4] rfl ?_
        refine plc (Cn t + 1) 0 t g2 a2 F2 rfl (by omega) ht hqc hM hrw hF hZ (zq_cx (m := 8 - (t + 1)) hE (by omega)) (fun x4 g2 a2 F2 hM hrw hF hZ hE => ?_)
        refine zj_iinc C dc_M_search_203 1 rfl (zn_inc t) (by decide) rfl ?_
        refine zj_goto C dc_M_search_206 rfl ?_
        refine zj_loc (L' := [(3, .int (nI (t + 1))), (0, .ref (ad 108)), (1, .int (nI kd)), (2, .int (nI kk))]) [0, 2, 3, 4] rfl ?_
        exact ih (t + 1) g2 a2 F2 (by omega) (by omega) hqc hM hrw hF hZ hE K
  have inn : ∀ (n : Nat) (f m : Nat) (x9 : Int32) (s : Nat → Nat) (g2 : Nat → va_E) (a2 : Nat → Nat → Int32), T.length + 1 - f = n → f ≤ T.length → m < T.length → 2 ≤ qc → zm_M z ad g g2 0 (nI qc) (nI T.length) (nI m) a2 → zm_F a2 T → zm_K a2 T.length m s → zm_tp (zq_ld T) m s f x9 → (∀ (x4 : Int32) (b : Nat), b < T.length → (∀ i, i < m → s i ≠ b) → (∀ j, j < T.length → j ≠ b → (∀ i, i < m → s i ≠ j) → zr_bf (zq_ld T) b j) → zj_J X 0 0 (zj_Qi X 0 0 ad N (fun r g1 => (∃ k1 k2 a1 s, k1 ≤ 5 ∧ k2 ≤ 4 ∧ (nI kd) = nI k1 ∧ (nI kk) = nI k2 ∧ 2 ≤ qc ∧ r = nI (zq_cc (zm_ml a th sh Cn Rn k1 k2 qc) 0 8).length ∧ zm_M z ad g g1 0 (nI qc) (nI (zq_cc (zm_ml a th sh Cn Rn k1 k2 qc) 0 8).length) (nI (zq_kp (zq_cc (zm_ml a th sh Cn Rn k1 k2 qc) 0 8))) a1 ∧ (∀ r, r < 8 → a1 r = a r) ∧ zr_ok (zq_ld (zq_cc (zm_ml a th sh Cn Rn k1 k2 qc) 0 8)) (zq_cc (zm_ml a th sh Cn Rn k1 k2 qc) 0 8).length (zq_kp (zq_cc (zm_ml a th sh Cn Rn k1 k2 qc) 0 8)) s ∧ zm_B a1 qc (zq_cc (zm_ml a th sh Cn Rn k1 k2 qc) 0 8) (zq_kp (zq_cc (zm_ml a th sh Cn Rn k1 k2 qc) 0 8)) s) ∨ (¬ zp_kk (nI kd) (nI kk) ∧ zm_M z ad g g1 1 (nI qc) fo kp a) ∨ (zp_kk (nI kd) (nI kk) ∧ qc < 2 ∧ zm_M z ad g g1 2 (nI qc) fo kp a))) ad N g2 281 [(4, .int x4), (3, .int (nI b)), (0, .ref (ad 108)), (1, .int (nI kd)), (2, .int (nI kk))] []) → zj_J X 0 0 (zj_Qi X 0 0 ad N (fun r g1 => (∃ k1 k2 a1 s, k1 ≤ 5 ∧ k2 ≤ 4 ∧ (nI kd) = nI k1 ∧ (nI kk) = nI k2 ∧ 2 ≤ qc ∧ r = nI (zq_cc (zm_ml a th sh Cn Rn k1 k2 qc) 0 8).length ∧ zm_M z ad g g1 0 (nI qc) (nI (zq_cc (zm_ml a th sh Cn Rn k1 k2 qc) 0 8).length) (nI (zq_kp (zq_cc (zm_ml a th sh Cn Rn k1 k2 qc) 0 8))) a1 ∧ (∀ r, r < 8 → a1 r = a r) ∧ zr_ok (zq_ld (zq_cc (zm_ml a th sh Cn Rn k1 k2 qc) 0 8)) (zq_cc (zm_ml a th sh Cn Rn k1 k2 qc) 0 8).length (zq_kp (zq_cc (zm_ml a th sh Cn Rn k1 k2 qc) 0 8)) s ∧ zm_B a1 qc (zq_cc (zm_ml a th sh Cn Rn k1 k2 qc) 0 8) (zq_kp (zq_cc (zm_ml a th sh Cn Rn k1 k2 qc) 0 8)) s) ∨ (¬ zp_kk (nI kd) (nI kk) ∧ zm_M z ad g g1 1 (nI qc) fo kp a) ∨ (zp_kk (nI kd) (nI kk) ∧ qc < 2 ∧ zm_M z ad g g1 2 (nI qc) fo kp a))) ad N g2 239 [(4, .int (nI f)), (3, .int x9), (0, .ref (ad 108)), (1, .int (nI kd)), (2, .int (nI kk))] [] := by
    intro n
    induction n with
    | zero =>
      intro f m x9 s g2 a2 e1 e2 hm hqc hM hF hK htp K
      have hTok : zq_ok T := fun x hx => (hTm0 (by omega) x hx).1
      exact absurd e1 (by omega)
    | succ n ih =>
      intro f m x9 s g2 a2 e1 e2 hm hqc hM hF hK htp K
      have hTok : zq_ok T := fun x hx => (hTm0 (by omega) x hx).1
      refine zj_iload C dc_M_search_239 0 rfl ?_
      refine zj_aload_n C dc_M_search_241 rfl 2 rfl ?_
      refine zj_get (k := 10) C (by omega) hM.1.1 rfl (by decide) fw_M fl_M_112 rfl rfl dc_M_search_242 ?_
      refine zj_icmp_ge C dc_M_search_245 rfl (fun b1 => ?_) (fun b1 => ?_)
      · have b1 := (nI_leI (by omega) (by omega)).mp b1
        obtain rfl : f = T.length := by omega
        obtain ⟨b, rfl, hb1, hb2, hb3⟩ := zm_tp_e htp hm
        refine zj_loc [0, 1, 2, 3, 4] rfl ?_
        exact K _ b hb1 hb2 hb3
      · have b1 := (zn_nle (by omega) (by omega)).mp b1
        refine zj_aload_n C dc_M_search_248 rfl 2 rfl ?_
        refine zj_get (k := 15) C (by omega) hM.1.1 rfl (by decide) fw_M fl_M_47 rfl rfl dc_M_search_249 ?_
        refine zj_iload C dc_M_search_252 0 rfl ?_
        refine zj_zald C (by omega) hM.1.2.2.2.2.2.2.2.2.2.2.2.2.2.1 rfl (by omega) (by decide) dc_M_search_254 ?_
        refine zj_if_ne C dc_M_search_255 rfl (fun c1 => ?_) (fun c1 => ?_)
        · have c1 : ∃ i, i < m ∧ s i = f := by rcases hK f b1 with ⟨-, h⟩ | ⟨h, -⟩; exact h; exact absurd h c1
          refine zj_iinc C dc_M_search_275 0 rfl (zn_inc f) (by decide) rfl ?_
          refine zj_goto C dc_M_search_278 rfl ?_
          refine zj_loc (L' := [(4, .int (nI (f + 1))), (3, .int x9), (0, .ref (ad 108)), (1, .int (nI kd)), (2, .int (nI kk))]) [0, 1, 2, 3, 4] rfl ?_
          exact ih (f + 1) m _ s g2 a2 (by omega) (by omega) hm hqc hM hF hK (zm_tp_a htp c1) K
        · have c1 : ∀ i, i < m → s i ≠ f := by rcases hK f b1 with ⟨h, -⟩ | ⟨-, h⟩; exact absurd (h.symm.trans c1) (by decide); exact h
          refine zj_iload_n C dc_M_search_258 rfl 1 rfl ?_
          refine zj_if_lt C dc_M_search_259 rfl (fun c2 => ?_) (fun c2 => ?_)
          · have c2 := zm_tp_n htp (by omega) c2
            refine zj_iload C dc_M_search_272 0 rfl ?_
            refine zj_istore_n C dc_M_search_274 rfl (by decide) rfl ?_
            refine zj_iinc C dc_M_search_275 1 rfl (zn_inc f) (by decide) rfl ?_
            refine zj_goto C dc_M_search_278 rfl ?_
            refine zj_loc (L' := [(4, .int (nI (f + 1))), (3, .int (nI f)), (0, .ref (ad 108)), (1, .int (nI kd)), (2, .int (nI kk))]) [0, 1, 2, 3, 4] rfl ?_
            exact ih (f + 1) m _ s g2 a2 (by omega) (by omega) hm hqc hM hF hK (zm_tp_b c2 c1) K
          · obtain ⟨b, rfl, hb1, hb2, hb3⟩ := zm_tp_p htp c2
            have hbT : b < T.length := by omega
            have hyf := zq_in hTok b1
            have hyb := zq_in hTok hbT
            refine zj_aload_n C dc_M_search_262 rfl 2 rfl ?_
            refine zj_iload C dc_M_search_263 0 rfl ?_
            refine zj_iload_n C dc_M_search_265 rfl 1 rfl ?_
            refine zj_Vi C (ct_M_leads _ hst z ad N _ _ _ _ _ _ hN hM.1 f b _ _ _ _ (by omega) (by omega) (hF f b1).2.2.1 (hF b hbT).2.2.1 (hF f b1).2.2.2 (hF b hbT).2.2.2 hyf.1 hyb.1 hyf.2 hyb.2) gv_M_122 rfl rfl rfl hd_M_leads ⟨(Nat.le_of_ble_eq_true rfl), (Nat.le_of_ble_eq_true rfl)⟩ (by omega) hM.1.1 rfl rfl rfl (Nat.le_of_ble_eq_true rfl) ⟨(Nat.le_of_ble_eq_true rfl), (Nat.le_of_ble_eq_true rfl)⟩ dc_M_search_266 (fun r1 g9 h1 => ?_)
            obtain ⟨hv9, hg9⟩ := h1
            rw [hg9, hv9]
            refine zj_if_eq C dc_M_search_269 rfl (fun c3 => ?_) (fun c3 => ?_)
            · have c3 : ¬ ((zq_at T b).2.2.2.2 * (zq_at T b).2.2.2.2 * (zq_at T f).2.2.1 < (zq_at T f).2.2.2.2 * (zq_at T f).2.2.2.2 * (zq_at T b).2.2.1) := of_decide_eq_false (zb_i0 c3)
              have c3 : ¬ zq_ld T f b := c3
              refine zj_iinc C dc_M_search_275 0 rfl (zn_inc f) (by decide) rfl ?_
              refine zj_goto C dc_M_search_278 rfl ?_
              refine zj_loc (L' := [(4, .int (nI (f + 1))), (3, .int (nI b)), (0, .ref (ad 108)), (1, .int (nI kd)), (2, .int (nI kk))]) [0, 1, 2, 3, 4] rfl ?_
              exact ih (f + 1) m _ s g2 a2 (by omega) (by omega) hm hqc hM hF hK (zm_tp_c hb1 hb2 hb3 c3) K
            · have c3 : (zq_at T b).2.2.2.2 * (zq_at T b).2.2.2.2 * (zq_at T f).2.2.1 < (zq_at T f).2.2.2.2 * (zq_at T f).2.2.2.2 * (zq_at T b).2.2.1 := of_decide_eq_true (zb_i1 c3)
              have c3 : zq_ld T f b := c3
              refine zj_iload C dc_M_search_272 0 rfl ?_
              refine zj_istore_n C dc_M_search_274 rfl (by decide) rfl ?_
              refine zj_iinc C dc_M_search_275 1 rfl (zn_inc f) (by decide) rfl ?_
              refine zj_goto C dc_M_search_278 rfl ?_
              refine zj_loc (L' := [(4, .int (nI (f + 1))), (3, .int (nI f)), (0, .ref (ad 108)), (1, .int (nI kd)), (2, .int (nI kk))]) [0, 1, 2, 3, 4] rfl ?_
              exact ih (f + 1) m _ s g2 a2 (by omega) (by omega) hm hqc hM hF hK (zm_tp_d (zq_so hTok) hb3 c3 c1) K
  have sel : ∀ (n : Nat) (m : Nat) (s : Nat → Nat) (g2 : Nat → va_E) (a2 : Nat → Nat → Int32), 31 - m = n → m ≤ 30 → m ≤ T.length → 2 ≤ qc → zm_M z ad g g2 0 (nI qc) (nI T.length) (nI m) a2 → (∀ r, r < 8 → a2 r = a r) → zm_F a2 T → zm_K a2 T.length m s → zr_ok (zq_ld T) T.length m s → zm_B a2 qc T m s → zj_J X 0 0 (zj_Qi X 0 0 ad N (fun r g1 => (∃ k1 k2 a1 s, k1 ≤ 5 ∧ k2 ≤ 4 ∧ (nI kd) = nI k1 ∧ (nI kk) = nI k2 ∧ 2 ≤ qc ∧ r = nI (zq_cc (zm_ml a th sh Cn Rn k1 k2 qc) 0 8).length ∧ zm_M z ad g g1 0 (nI qc) (nI (zq_cc (zm_ml a th sh Cn Rn k1 k2 qc) 0 8).length) (nI (zq_kp (zq_cc (zm_ml a th sh Cn Rn k1 k2 qc) 0 8))) a1 ∧ (∀ r, r < 8 → a1 r = a r) ∧ zr_ok (zq_ld (zq_cc (zm_ml a th sh Cn Rn k1 k2 qc) 0 8)) (zq_cc (zm_ml a th sh Cn Rn k1 k2 qc) 0 8).length (zq_kp (zq_cc (zm_ml a th sh Cn Rn k1 k2 qc) 0 8)) s ∧ zm_B a1 qc (zq_cc (zm_ml a th sh Cn Rn k1 k2 qc) 0 8) (zq_kp (zq_cc (zm_ml a th sh Cn Rn k1 k2 qc) 0 8)) s) ∨ (¬ zp_kk (nI kd) (nI kk) ∧ zm_M z ad g g1 1 (nI qc) fo kp a) ∨ (zp_kk (nI kd) (nI kk) ∧ qc < 2 ∧ zm_M z ad g g1 2 (nI qc) fo kp a))) ad N g2 214 [(0, .ref (ad 108)), (1, .int (nI kd)), (2, .int (nI kk))] [] := by
    intro n
    induction n with
    | zero =>
      intro m s g2 a2 e1 em eT hqc hM hrw hF hK hok hB
      have hTm := hTm0 (by omega)
      have hTok : zq_ok T := fun x hx => (hTm x hx).1
      exact absurd e1 (by omega)
    | succ n ih =>
      intro m s g2 a2 e1 em eT hqc hM hrw hF hK hok hB
      have hTm := hTm0 (by omega)
      have hTok : zq_ok T := fun x hx => (hTm x hx).1
      refine zj_aload_n C dc_M_search_214 rfl 0 rfl ?_
      refine zj_get (k := 16) C (by omega) hM.1.1 rfl (by decide) fw_M fl_M_119 rfl rfl dc_M_search_215 ?_
      refine zj_bipush (v := 30) C dc_M_search_218 (by decide) ?_
      refine zj_icmp_ge C dc_M_search_220 rfl (fun c4 => ?_) (fun c4 => ?_)
      · have c4 := (nI_leI (a := 30) (by omega) (by omega)).mp c4
        have hkp : m = zq_kp T := by show m = if 30 < T.length then 30 else T.length; split <;> omega
        refine zj_aload_n C dc_M_search_471 rfl 0 rfl ?_
        refine zj_get (k := 10) C (by omega) hM.1.1 rfl (by decide) fw_M fl_M_112 rfl rfl dc_M_search_472 ?_
        exact zj_iret C dc_M_search_475 (Or.inl ⟨kd, kk, a2, s, hkd, hkk, rfl, rfl, hqc, by rw [← hT], by rw [← hT, ← hkp]; exact hM, hrw, by rw [← hT, ← hkp]; exact hok, by rw [← hT, ← hkp]; exact hB⟩)
      · have c4 := (zn_nle (a := 30) (by omega) (by omega)).mp c4
        refine zj_aload_n C dc_M_search_223 rfl 0 rfl ?_
        refine zj_get (k := 16) C (by omega) hM.1.1 rfl (by decide) fw_M fl_M_119 rfl rfl dc_M_search_224 ?_
        refine zj_aload_n C dc_M_search_227 rfl 0 rfl ?_
        refine zj_get (k := 10) C (by omega) hM.1.1 rfl (by decide) fw_M fl_M_112 rfl rfl dc_M_search_228 ?_
        refine zj_icmp_ge C dc_M_search_231 rfl (fun c5 => ?_) (fun c5 => ?_)
        · have c5 := (nI_leI (by omega) (by omega)).mp c5
          have hkp : m = zq_kp T := by show m = if 30 < T.length then 30 else T.length; split <;> omega
          refine zj_aload_n C dc_M_search_471 rfl 0 rfl ?_
          refine zj_get (k := 10) C (by omega) hM.1.1 rfl (by decide) fw_M fl_M_112 rfl rfl dc_M_search_472 ?_
          exact zj_iret C dc_M_search_475 (Or.inl ⟨kd, kk, a2, s, hkd, hkk, rfl, rfl, hqc, by rw [← hT], by rw [← hT, ← hkp]; exact hM, hrw, by rw [← hT, ← hkp]; exact hok, by rw [← hT, ← hkp]; exact hB⟩)
        · have c5 := (zn_nle (by omega) (by omega)).mp c5
          refine zj_iconst (v := -1) C dc_M_search_234 (by decide) ?_
          refine zj_istore_n C dc_M_search_235 rfl (by decide) rfl ?_
          refine zj_iconst (v := 0) C dc_M_search_236 (by decide) ?_
          refine zj_istore C dc_M_search_237 (by decide) rfl ?_
          refine zj_loc (L' := [(4, .int (nI 0)), (3, .int (-1)), (0, .ref (ad 108)), (1, .int (nI kd)), (2, .int (nI kk))]) [0, 1, 2, 3, 4] rfl ?_
          refine inn (T.length + 1) 0 m (-1) s g2 a2 rfl (by omega) c5 hqc hM hF hK (Or.inl ⟨rfl, fun j hj => absurd hj (Nat.not_lt_zero j)⟩) (fun x4 b hb1 hb2 hb3 => ?_)
          obtain ⟨y9, hy9⟩ : ∃ y9, y9 = zq_at T b := ⟨_, rfl⟩
          obtain ⟨⟨k1, k2, k3, k4, k5, k6⟩, k7, k8⟩ := hTm (zq_at T b) (zq_at_mem hb1)
          have hFb := hF b hb1
          rw [← hy9] at k1 k2 k3 k4 k5 k6 k7 k8 hFb
          have hq1 : y9.2.2.2.2 * y9.2.2.2.2 ≤ 8 * 8 := Nat.mul_le_mul k4 k4
          have hq2 : qc * y9.2.2.1 ≤ 8 * 20 := Nat.mul_le_mul hqc8 k2
          have hq3 : 0 < y9.2.2.2.2 * y9.2.2.2.2 := Nat.mul_pos k3 k3
          have hq4 : 0 < qc * y9.2.2.1 := Nat.mul_pos (by omega) k1
          obtain ⟨hA0, hA1, hA2, hA3, hA4, hA5, hA6⟩ := hA y9.1 k5
          have hA6 := hA6 k7
          refine zj_aload_n C dc_M_search_281 rfl 2 rfl ?_
          refine zj_get (k := 15) C (by omega) hM.1.1 rfl (by decide) fw_M fl_M_47 rfl rfl dc_M_search_282 ?_
          refine zj_iload_n C dc_M_search_285 rfl 1 rfl ?_
          refine zj_iconst (v := 1) C dc_M_search_286 (by decide) ?_
          refine zj_zast C (by omega) hM.1.2.2.2.2.2.2.2.2.2.2.2.2.2.1 rfl (by omega) (by decide) dc_M_search_287 ?_
          refine zM_k12 hM (fun g2 hM => ?_)
          obtain ⟨a3, hM, f12, e12⟩ : ∃ a9, zm_M z ad g g2 0 (nI qc) (nI T.length) (nI m) a9 ∧ (∀ r, r ≠ 12 → a9 r = a2 r) ∧ a9 12 = upd (a2 12) b 1 := ⟨_, hM, fun r hr => va_up_ne _ _ hr, va_up_self _ _ _⟩
          have fr : ∀ r, r ≠ 13 → a3 r = a3 r := fun _ _ => rfl
          refine zj_aload_n C dc_M_search_288 rfl 2 rfl ?_
          refine zj_get (k := 14) C (by omega) hM.1.1 rfl (by decide) fw_M fl_M_44 rfl rfl dc_M_search_289 ?_
          refine zj_iload_n C dc_M_search_292 rfl 1 rfl ?_
          refine zj_iald C (by omega) hM.1.2.2.2.2.2.2.2.2.2.2.2.2.1 rfl (by omega) (by decide) dc_M_search_293 ?_
          refine zj_topi ((congrFun (f12 11 (by decide)) b).trans hFb.2.2.2) ?_
          refine zj_aload_n C dc_M_search_294 rfl 2 rfl ?_
          refine zj_get (k := 14) C (by omega) hM.1.1 rfl (by decide) fw_M fl_M_44 rfl rfl dc_M_search_295 ?_
          refine zj_iload_n C dc_M_search_298 rfl 1 rfl ?_
          refine zj_iald C (by omega) hM.1.2.2.2.2.2.2.2.2.2.2.2.2.1 rfl (by omega) (by decide) dc_M_search_299 ?_
          refine zj_topi ((congrFun (f12 11 (by decide)) b).trans hFb.2.2.2) ?_
          refine zj_imul C dc_M_search_300 ?_
          refine zj_topi (pk_mul _ _) ?_
          refine zj_istore C dc_M_search_301 (by decide) rfl ?_
          refine zj_aload_n C dc_M_search_303 rfl 2 rfl ?_
          refine zj_get (k := 7) C (by omega) hM.1.1 rfl (by decide) fw_M fl_M_89 rfl rfl dc_M_search_304 ?_
          refine zj_aload_n C dc_M_search_307 rfl 2 rfl ?_
          refine zj_get (k := 13) C (by omega) hM.1.1 rfl (by decide) fw_M fl_M_41 rfl rfl dc_M_search_308 ?_
          refine zj_iload_n C dc_M_search_311 rfl 1 rfl ?_
          refine zj_iald C (by omega) hM.1.2.2.2.2.2.2.2.2.2.2.2.1 rfl (by omega) (by decide) dc_M_search_312 ?_
          refine zj_topi ((congrFun (f12 10 (by decide)) b).trans hFb.2.2.1) ?_
          refine zj_imul C dc_M_search_313 ?_
          refine zj_topi (pk_mul _ _) ?_
          refine zj_istore C dc_M_search_314 (by decide) rfl ?_
          refine zj_iload C dc_M_search_316 1 rfl ?_
          refine zj_iload C dc_M_search_318 0 rfl ?_
          refine zj_Si C (ct_M_divisor _ hst z ad N _ (y9.2.2.2.2 * y9.2.2.2.2) (qc * y9.2.2.1) (by omega) (by omega) (by omega) (by omega)) gv_M_125 rfl rfl rfl hd_M_divisor ⟨(Nat.le_of_ble_eq_true rfl), (Nat.le_of_ble_eq_true rfl)⟩ rfl rfl (Nat.le_of_ble_eq_true rfl) ⟨(Nat.le_of_ble_eq_true rfl), (Nat.le_of_ble_eq_true rfl)⟩ dc_M_search_320 (fun r1 g9 h1 => ?_)
          obtain ⟨hv9, hg9⟩ := h1
          rw [hg9, hv9]
          have hgp : 0 < Nat.gcd (y9.2.2.2.2 * y9.2.2.2.2) (qc * y9.2.2.1) := Nat.gcd_pos_of_pos_left _ (by omega)
          have hgl : Nat.gcd (y9.2.2.2.2 * y9.2.2.2.2) (qc * y9.2.2.1) ≤ (y9.2.2.2.2 * y9.2.2.2.2) := Nat.le_of_dvd (by omega) (Nat.gcd_dvd_left _ _)
          refine zj_istore C dc_M_search_323 (by decide) rfl ?_
          refine zj_aload_n C dc_M_search_325 rfl 4 rfl ?_
          refine zj_get (k := 17) C (by omega) hM.1.1 rfl (by decide) fw_M fl_M_50 rfl rfl dc_M_search_326 ?_
          refine zj_bipush (v := 6) C dc_M_search_329 (by decide) ?_
          refine zj_aload_n C dc_M_search_331 rfl 4 rfl ?_
          refine zj_get (k := 16) C (by omega) hM.1.1 rfl (by decide) fw_M fl_M_119 rfl rfl dc_M_search_332 ?_
          refine zj_imul C dc_M_search_335 ?_
          refine zj_topi (show (6 : Int32) * nI m = nI (6 * m) from pk_mul 6 m) ?_
          refine zj_aload_n C dc_M_search_336 rfl 4 rfl ?_
          refine zj_get (k := 11) C (by omega) hM.1.1 rfl (by decide) fw_M fl_M_35 rfl rfl dc_M_search_337 ?_
          refine zj_iload_n C dc_M_search_340 rfl 3 rfl ?_
          refine zj_iald C (by omega) hM.1.2.2.2.2.2.2.2.2.2.1 rfl (by omega) (by decide) dc_M_search_341 ?_
          refine zj_topi ((congrFun ((fr 8 (by decide)).trans (f12 8 (by decide))) b).trans hFb.1) ?_
          refine zj_iast C (by omega) hM.1.2.2.2.2.2.2.2.2.2.2.2.2.2.2.1 rfl (by omega) (by decide) dc_M_search_342 ?_
          refine zM_k13 hM (fun g2 hM => ?_)
          obtain ⟨a4, hM, q1, e1⟩ : ∃ a9, zm_M z ad g g2 0 (nI qc) (nI T.length) (nI m) a9 ∧ (∀ r, r ≠ 13 → a9 r = a3 r) ∧ a9 13 = upd (a3 13) (6 * m) (nI y9.1) := ⟨_, hM, fun r hr => va_up_ne _ _ hr, va_up_self _ _ _⟩
          have fr : ∀ r, r ≠ 13 → a4 r = a3 r := fun r h => (q1 r h).trans (fr r h)
          refine zj_aload_n C dc_M_search_343 rfl 4 rfl ?_
          refine zj_get (k := 17) C (by omega) hM.1.1 rfl (by decide) fw_M fl_M_50 rfl rfl dc_M_search_344 ?_
          refine zj_bipush (v := 6) C dc_M_search_347 (by decide) ?_
          refine zj_aload_n C dc_M_search_349 rfl 4 rfl ?_
          refine zj_get (k := 16) C (by omega) hM.1.1 rfl (by decide) fw_M fl_M_119 rfl rfl dc_M_search_350 ?_
          refine zj_imul C dc_M_search_353 ?_
          refine zj_topi (show (6 : Int32) * nI m = nI (6 * m) from pk_mul 6 m) ?_
          refine zj_iconst (v := 1) C dc_M_search_354 (by decide) ?_
          refine zj_iadd C dc_M_search_355 ?_
          refine zj_topi (nI_1 _) ?_
          refine zj_aload_n C dc_M_search_356 rfl 4 rfl ?_
          refine zj_get (k := 12) C (by omega) hM.1.1 rfl (by decide) fw_M fl_M_38 rfl rfl dc_M_search_357 ?_
          refine zj_iload_n C dc_M_search_360 rfl 3 rfl ?_
          refine zj_iald C (by omega) hM.1.2.2.2.2.2.2.2.2.2.2.1 rfl (by omega) (by decide) dc_M_search_361 ?_
          refine zj_topi ((congrFun ((fr 9 (by decide)).trans (f12 9 (by decide))) b).trans hFb.2.1) ?_
          refine zj_iast C (by omega) hM.1.2.2.2.2.2.2.2.2.2.2.2.2.2.2.1 rfl (by omega) (by decide) dc_M_search_362 ?_
          refine zM_k13 hM (fun g2 hM => ?_)
          obtain ⟨a5, hM, q1, e2⟩ : ∃ a9, zm_M z ad g g2 0 (nI qc) (nI T.length) (nI m) a9 ∧ (∀ r, r ≠ 13 → a9 r = a4 r) ∧ a9 13 = upd (a4 13) (6 * m + 1) (nI y9.2.1) := ⟨_, hM, fun r hr => va_up_ne _ _ hr, va_up_self _ _ _⟩
          have fr : ∀ r, r ≠ 13 → a5 r = a3 r := fun r h => (q1 r h).trans (fr r h)
          refine zj_aload_n C dc_M_search_363 rfl 4 rfl ?_
          refine zj_get (k := 17) C (by omega) hM.1.1 rfl (by decide) fw_M fl_M_50 rfl rfl dc_M_search_364 ?_
          refine zj_bipush (v := 6) C dc_M_search_367 (by decide) ?_
          refine zj_aload_n C dc_M_search_369 rfl 4 rfl ?_
          refine zj_get (k := 16) C (by omega) hM.1.1 rfl (by decide) fw_M fl_M_119 rfl rfl dc_M_search_370 ?_
          refine zj_imul C dc_M_search_373 ?_
          refine zj_topi (show (6 : Int32) * nI m = nI (6 * m) from pk_mul 6 m) ?_
          refine zj_iconst (v := 2) C dc_M_search_374 (by decide) ?_
          refine zj_iadd C dc_M_search_375 ?_
          refine zj_topi (show nI (6 * m) + (2 : Int32) = nI (6 * m + 2) from nI_add _ 2) ?_
          refine zj_aload_n C dc_M_search_376 rfl 4 rfl ?_
          refine zj_get (k := 13) C (by omega) hM.1.1 rfl (by decide) fw_M fl_M_41 rfl rfl dc_M_search_377 ?_
          refine zj_iload_n C dc_M_search_380 rfl 3 rfl ?_
          refine zj_iald C (by omega) hM.1.2.2.2.2.2.2.2.2.2.2.2.1 rfl (by omega) (by decide) dc_M_search_381 ?_
          refine zj_topi ((congrFun ((fr 10 (by decide)).trans (f12 10 (by decide))) b).trans hFb.2.2.1) ?_
          refine zj_iast C (by omega) hM.1.2.2.2.2.2.2.2.2.2.2.2.2.2.2.1 rfl (by omega) (by decide) dc_M_search_382 ?_
          refine zM_k13 hM (fun g2 hM => ?_)
          obtain ⟨a6, hM, q1, e3⟩ : ∃ a9, zm_M z ad g g2 0 (nI qc) (nI T.length) (nI m) a9 ∧ (∀ r, r ≠ 13 → a9 r = a5 r) ∧ a9 13 = upd (a5 13) (6 * m + 2) (nI y9.2.2.1) := ⟨_, hM, fun r hr => va_up_ne _ _ hr, va_up_self _ _ _⟩
          have fr : ∀ r, r ≠ 13 → a6 r = a3 r := fun r h => (q1 r h).trans (fr r h)
          refine zj_aload_n C dc_M_search_383 rfl 4 rfl ?_
          refine zj_get (k := 17) C (by omega) hM.1.1 rfl (by decide) fw_M fl_M_50 rfl rfl dc_M_search_384 ?_
          refine zj_bipush (v := 6) C dc_M_search_387 (by decide) ?_
          refine zj_aload_n C dc_M_search_389 rfl 4 rfl ?_
          refine zj_get (k := 16) C (by omega) hM.1.1 rfl (by decide) fw_M fl_M_119 rfl rfl dc_M_search_390 ?_
          refine zj_imul C dc_M_search_393 ?_
          refine zj_topi (show (6 : Int32) * nI m = nI (6 * m) from pk_mul 6 m) ?_
          refine zj_iconst (v := 3) C dc_M_search_394 (by decide) ?_
          refine zj_iadd C dc_M_search_395 ?_
          refine zj_topi (show nI (6 * m) + (3 : Int32) = nI (6 * m + 3) from nI_add _ 3) ?_
          refine zj_aload_n C dc_M_search_396 rfl 4 rfl ?_
          refine zj_aload_n C dc_M_search_397 rfl 4 rfl ?_
          refine zj_get (k := 11) C (by omega) hM.1.1 rfl (by decide) fw_M fl_M_35 rfl rfl dc_M_search_398 ?_
          refine zj_iload_n C dc_M_search_401 rfl 3 rfl ?_
          refine zj_iald C (by omega) hM.1.2.2.2.2.2.2.2.2.2.1 rfl (by omega) (by decide) dc_M_search_402 ?_
          refine zj_topi ((congrFun ((fr 8 (by decide)).trans (f12 8 (by decide))) b).trans hFb.1) ?_
          refine zj_aload_n C dc_M_search_403 rfl 4 rfl ?_
          refine zj_get (k := 12) C (by omega) hM.1.1 rfl (by decide) fw_M fl_M_38 rfl rfl dc_M_search_404 ?_
          refine zj_iload_n C dc_M_search_407 rfl 3 rfl ?_
          refine zj_iald C (by omega) hM.1.2.2.2.2.2.2.2.2.2.2.1 rfl (by omega) (by decide) dc_M_search_408 ?_
          refine zj_topi ((congrFun ((fr 9 (by decide)).trans (f12 9 (by decide))) b).trans hFb.2.1) ?_
          refine zj_Vi C (ct_M_pitch _ hst z ad N _ _ _ _ _ _ hN hM.1 y9.1 y9.2.1 (Rn y9.1) k5 k6 ((congrFun (((fr 3 (by decide)).trans (f12 3 (by decide))).trans (hrw 3 (by decide))) _).trans hA3) hA6 hA5) gv_M_70 rfl rfl rfl hd_M_pitch ⟨(Nat.le_of_ble_eq_true rfl), (Nat.le_of_ble_eq_true rfl)⟩ (by omega) hM.1.1 rfl rfl rfl (Nat.le_of_ble_eq_true rfl) ⟨(Nat.le_of_ble_eq_true rfl), (Nat.le_of_ble_eq_true rfl)⟩ dc_M_search_409 (fun r1 g9 h1 => ?_)
          obtain ⟨hv9, hg9⟩ := h1
          rw [hg9, hv9]
          refine zj_aload_n C dc_M_search_412 rfl 4 rfl ?_
          refine zj_get (k := 8) C (by omega) hM.1.1 rfl (by decide) fw_M fl_M_29 rfl rfl dc_M_search_413 ?_
          refine zj_iconst (v := 0) C dc_M_search_416 (by decide) ?_
          refine zj_topi (nI_0.symm) ?_
          refine zj_iald C (by omega) hM.1.2.2.2.2.2.2.2.1 rfl (by omega) (by decide) dc_M_search_417 ?_
          refine zj_isub C dc_M_search_418 ?_
          refine zj_topi (show _ - _ = y9.2.2.2.1 by rw [(((fr 4 (by decide)).trans (f12 4 (by decide))).trans (hrw 4 (by decide))), (((fr 6 (by decide)).trans (f12 6 (by decide))).trans (hrw 6 (by decide)))]; exact k8.symm) ?_
          refine zj_iast C (by omega) hM.1.2.2.2.2.2.2.2.2.2.2.2.2.2.2.1 rfl (by omega) (by decide) dc_M_search_419 ?_
          refine zM_k13 hM (fun g2 hM => ?_)
          obtain ⟨a7, hM, q1, e4⟩ : ∃ a9, zm_M z ad g g2 0 (nI qc) (nI T.length) (nI m) a9 ∧ (∀ r, r ≠ 13 → a9 r = a6 r) ∧ a9 13 = upd (a6 13) (6 * m + 3) (y9.2.2.2.1) := ⟨_, hM, fun r hr => va_up_ne _ _ hr, va_up_self _ _ _⟩
          have fr : ∀ r, r ≠ 13 → a7 r = a3 r := fun r h => (q1 r h).trans (fr r h)
          refine zj_aload_n C dc_M_search_420 rfl 4 rfl ?_
          refine zj_get (k := 17) C (by omega) hM.1.1 rfl (by decide) fw_M fl_M_50 rfl rfl dc_M_search_421 ?_
          refine zj_bipush (v := 6) C dc_M_search_424 (by decide) ?_
          refine zj_aload_n C dc_M_search_426 rfl 4 rfl ?_
          refine zj_get (k := 16) C (by omega) hM.1.1 rfl (by decide) fw_M fl_M_119 rfl rfl dc_M_search_427 ?_
          refine zj_imul C dc_M_search_430 ?_
          refine zj_topi (show (6 : Int32) * nI m = nI (6 * m) from pk_mul 6 m) ?_
          refine zj_iconst (v := 4) C dc_M_search_431 (by decide) ?_
          refine zj_iadd C dc_M_search_432 ?_
          refine zj_topi (show nI (6 * m) + (4 : Int32) = nI (6 * m + 4) from nI_add _ 4) ?_
          refine zj_iload C dc_M_search_433 2 rfl ?_
          refine zj_iload C dc_M_search_435 0 rfl ?_
          refine zj_idiv C dc_M_search_437 (nI_ne0 hgp (by omega)) ?_
          refine zj_topi (pk_div (by omega) hgp (by omega)) ?_
          refine zj_iast C (by omega) hM.1.2.2.2.2.2.2.2.2.2.2.2.2.2.2.1 rfl (by omega) (by decide) dc_M_search_438 ?_
          refine zM_k13 hM (fun g2 hM => ?_)
          obtain ⟨a8, hM, q1, e5⟩ : ∃ a9, zm_M z ad g g2 0 (nI qc) (nI T.length) (nI m) a9 ∧ (∀ r, r ≠ 13 → a9 r = a7 r) ∧ a9 13 = upd (a7 13) (6 * m + 4) (nI (zp_lt (y9.2.2.2.2 * y9.2.2.2.2) (qc * y9.2.2.1))) := ⟨_, hM, fun r hr => va_up_ne _ _ hr, va_up_self _ _ _⟩
          have fr : ∀ r, r ≠ 13 → a8 r = a3 r := fun r h => (q1 r h).trans (fr r h)
          refine zj_aload_n C dc_M_search_439 rfl 4 rfl ?_
          refine zj_get (k := 17) C (by omega) hM.1.1 rfl (by decide) fw_M fl_M_50 rfl rfl dc_M_search_440 ?_
          refine zj_bipush (v := 6) C dc_M_search_443 (by decide) ?_
          refine zj_aload_n C dc_M_search_445 rfl 4 rfl ?_
          refine zj_get (k := 16) C (by omega) hM.1.1 rfl (by decide) fw_M fl_M_119 rfl rfl dc_M_search_446 ?_
          refine zj_imul C dc_M_search_449 ?_
          refine zj_topi (show (6 : Int32) * nI m = nI (6 * m) from pk_mul 6 m) ?_
          refine zj_iconst (v := 5) C dc_M_search_450 (by decide) ?_
          refine zj_iadd C dc_M_search_451 ?_
          refine zj_topi (show nI (6 * m) + (5 : Int32) = nI (6 * m + 5) from nI_add _ 5) ?_
          refine zj_iload C dc_M_search_452 1 rfl ?_
          refine zj_iload C dc_M_search_454 0 rfl ?_
          refine zj_idiv C dc_M_search_456 (nI_ne0 hgp (by omega)) ?_
          refine zj_topi ((pk_div (by omega) hgp (by omega)).trans (congrArg nI zm_lt2)) ?_
          refine zj_iast C (by omega) hM.1.2.2.2.2.2.2.2.2.2.2.2.2.2.2.1 rfl (by omega) (by decide) dc_M_search_457 ?_
          refine zM_k13 hM (fun g2 hM => ?_)
          obtain ⟨a9, hM, q1, e6⟩ : ∃ a9, zm_M z ad g g2 0 (nI qc) (nI T.length) (nI m) a9 ∧ (∀ r, r ≠ 13 → a9 r = a8 r) ∧ a9 13 = upd (a8 13) (6 * m + 5) (nI (zp_lt (qc * y9.2.2.1) (y9.2.2.2.2 * y9.2.2.2.2))) := ⟨_, hM, fun r hr => va_up_ne _ _ hr, va_up_self _ _ _⟩
          have fr : ∀ r, r ≠ 13 → a9 r = a3 r := fun r h => (q1 r h).trans (fr r h)
          obtain ⟨u1, u2⟩ := zm_up6 e1 e2 e3 e4 e5 e6
          refine zj_aload_n C dc_M_search_458 rfl 4 rfl ?_
          refine zj_dup C dc_M_search_459 rfl ?_
          refine zj_get (k := 16) C (by omega) hM.1.1 rfl (by decide) fw_M fl_M_119 rfl rfl dc_M_search_460 ?_
          refine zj_iconst (v := 1) C dc_M_search_463 (by decide) ?_
          refine zj_iadd C dc_M_search_464 ?_
          refine zj_topi (nI_1 _) ?_
          refine zj_put (k := 16) C (by omega) hM.1.1 rfl (by decide) fw_M fl_M_119 rfl fy_M fk_M fn_M rfl rfl rfl (Nat.le_of_ble_eq_true rfl) rfl dc_M_search_465 ?_
          refine zM_kk hM (fun g2 hM => ?_)
          refine zj_goto C dc_M_search_468 rfl ?_
          refine zj_loc (L' := [(0, .ref (ad 108)), (1, .int (nI kd)), (2, .int (nI kk))]) [4, 5, 6] rfl ?_
          exact ih (m + 1) (fun j => if j = m then b else s j) g2 a9 (by omega) (by omega) (by omega) hqc hM (fun r h => ((fr r (by omega)).trans (f12 r (by omega))).trans (hrw r h)) (zm_F_fr hF ((fr 8 (by decide)).trans (f12 8 (by decide))) ((fr 9 (by decide)).trans (f12 9 (by decide))) ((fr 10 (by decide)).trans (f12 10 (by decide))) ((fr 11 (by decide)).trans (f12 11 (by decide)))) (zm_K_sel hK ((fr 12 (by decide)).trans e12)) (zr_sel (zq_so hTok) hok hb1 hb2 hb3) (zm_B_add hB (by rw [← hy9]; exact u1) (fun j hj => (u2 j hj).trans (congrFun (f12 13 (by decide)) j)))
  refine zj_aload_n C dc_M_search_0 rfl 0 rfl ?_
  refine zj_iload_n C dc_M_search_1 rfl 1 rfl ?_
  refine zj_if_lt C dc_M_search_2 rfl (fun h => absurd h (nI_pos (by omega))) (fun _ => ?_)
  refine zj_iload_n C dc_M_search_5 rfl 1 rfl ?_
  refine zj_iconst (v := 5) C dc_M_search_6 (by decide) ?_
  refine zj_icmp_gt C dc_M_search_7 rfl (fun h => absurd h ((zn_nlt (a := 5) (by omega) (by omega)).mpr (by omega))) (fun _ => ?_)
  refine zj_iload_n C dc_M_search_10 rfl 2 rfl ?_
  refine zj_if_lt C dc_M_search_11 rfl (fun h => absurd h (nI_pos (by omega))) (fun _ => ?_)
  refine zj_iload_n C dc_M_search_14 rfl 2 rfl ?_
  refine zj_iconst (v := 4) C dc_M_search_15 (by decide) ?_
  refine zj_icmp_le C dc_M_search_16 rfl (fun _ => ?_) (fun h => absurd h (not_not_intro ((nI_leI (b := 4) (by omega) (by omega)).mpr hkk)))
  refine zj_aload_n C dc_M_search_23 rfl 0 rfl ?_
  refine zj_get (k := 7) C (by omega) hM.1.1 rfl (by decide) fw_M fl_M_89 rfl rfl dc_M_search_24 ?_
  refine zj_iconst (v := 2) C dc_M_search_27 (by decide) ?_
  refine zj_icmp_ge C dc_M_search_28 rfl (fun c0 => ?_) (fun c0 => ?_)
  · have hqc : 2 ≤ qc := (nI_leI (a := 2) (by omega) (by omega)).mp c0
    refine zj_iconst (v := 0) C dc_M_search_35 (by decide) ?_
    refine zj_put (k := 0) C (by omega) hM.1.1 rfl (by decide) fw_M fl_M_62 rfl fy_M fk_M fn_M rfl rfl rfl (Nat.le_of_ble_eq_true rfl) rfl dc_M_search_36 ?_
    refine zM_kc hM (fun g2 hM => ?_)
    refine zj_aload_n C dc_M_search_39 rfl 0 rfl ?_
    refine zj_get (k := 0) C (by omega) hM.1.1 rfl (by decide) fw_M fl_M_62 rfl rfl dc_M_search_40 ?_
    refine zj_if_le C dc_M_search_43 rfl (fun _ => ?_) (fun h => absurd h (by decide))
    refine zj_aload_n C dc_M_search_48 rfl 0 rfl ?_
    refine zj_iconst (v := 0) C dc_M_search_49 (by decide) ?_
    refine zj_topi (nI_0.symm) ?_
    refine zj_put (k := 10) C (by omega) hM.1.1 rfl (by decide) fw_M fl_M_112 rfl fy_M fk_M fn_M rfl rfl rfl (Nat.le_of_ble_eq_true rfl) rfl dc_M_search_50 ?_
    refine zM_kf hM (fun g2 hM => ?_)
    refine zj_iconst (v := 0) C dc_M_search_53 (by decide) ?_
    refine zj_istore_n C dc_M_search_54 rfl (by decide) rfl ?_
    refine zj_loc (L' := [(3, .int (nI 0)), (0, .ref (ad 108)), (1, .int (nI kd)), (2, .int (nI kk))]) [0, 1, 2, 3] rfl ?_
    refine tl 9 0 _ a [] rfl (by omega) hqc hM (fun _ _ => rfl) (fun j hj => absurd hj (Nat.not_lt_zero j)) (fun j hj => absurd hj (Nat.not_lt_zero j)) (by rw [List.nil_append, List.append_nil]; exact hT.symm) (fun x3 g2 a2 hM hrw hF hZ => ?_)
    refine zj_aload_n C dc_M_search_209 rfl 1 rfl ?_
    refine zj_iconst (v := 0) C dc_M_search_210 (by decide) ?_
    refine zj_topi (nI_0.symm) ?_
    refine zj_put (k := 16) C (by omega) hM.1.1 rfl (by decide) fw_M fl_M_119 rfl fy_M fk_M fn_M rfl rfl rfl (Nat.le_of_ble_eq_true rfl) rfl dc_M_search_211 ?_
    refine zM_kk hM (fun g2 hM => ?_)
    refine zj_loc (L' := [(0, .ref (ad 108)), (1, .int (nI kd)), (2, .int (nI kk))]) [1, 2, 3] rfl ?_
    exact sel 31 0 (fun j => j) _ a2 rfl (by omega) (by omega) hqc hM hrw hF (fun j hj => Or.inr ⟨hZ j hj, fun i hi => absurd hi (Nat.not_lt_zero i)⟩) (zr_0 _ _ _) (fun j hj => absurd hj (Nat.not_lt_zero j))
  · have c0 := (zn_nle (a := 2) (by omega) (by omega)).mp c0
    refine zj_iconst (v := 2) C dc_M_search_31 (by decide) ?_
    refine zj_goto C dc_M_search_32 rfl ?_
    refine zj_put (k := 0) C (by omega) hM.1.1 rfl (by decide) fw_M fl_M_62 rfl fy_M fk_M fn_M rfl rfl rfl (Nat.le_of_ble_eq_true rfl) rfl dc_M_search_36 ?_
    refine zM_kc hM (fun g2 hM => ?_)
    refine zj_aload_n C dc_M_search_39 rfl 0 rfl ?_
    refine zj_get (k := 0) C (by omega) hM.1.1 rfl (by decide) fw_M fl_M_62 rfl rfl dc_M_search_40 ?_
    refine zj_if_le C dc_M_search_43 rfl (fun h => absurd h (by decide)) (fun _ => ?_)
    refine zj_iconst (v := 0) C dc_M_search_46 (by decide) ?_
    exact zj_iret C dc_M_search_47 (Or.inr (Or.inr ⟨⟨kd, kk, hkd, hkk, rfl, rfl⟩, c0, hM⟩))
theorem zm_kk {x y : Int32} (a1 : ¬ x < 0) (a2 : ¬ (5 : Int32) < x) (a3 : ¬ y < 0) (a4 : y ≤ 4) : zp_kk x y := by
  obtain ⟨i, hi, rfl⟩ := nI_of a1
  obtain ⟨j, hj, rfl⟩ := nI_of a3
  exact ⟨i, j, (zn_nlt (a := 5) (by omega) hi).mp a2, (nI_leI (b := 4) hj (by omega)).mp a4, rfl, rfl⟩
set_option maxHeartbeats 4000000 in
set_option maxRecDepth 100000 in
theorem ct_M_searchX (l : Launch) (hst : l.stackTraces = false) (z : zv_T) (ad : Nat → Nat) (N : Nat) (g : Nat → va_E) (c as fo kp : Int32) (a : Nat → Nat → Int32) (hN : 126 ≤ N) (hM0 : zs_M z ad g c as fo kp a) (th sh : Nat → Bool) (Cn Rn : Nat → Nat) (hA : zm_A a th sh Cn Rn) (qc : Nat) (has : as = nI qc) (hqc8 : qc ≤ 8) (x y : Int32) (hkk : ¬ zp_kk x y) : zm_i l mn_M_search ws_M_search rm_M_search z ad N g [.ref (ad 108), .int x, .int y] (fun r g1 => (∃ k1 k2 a1 s, k1 ≤ 5 ∧ k2 ≤ 4 ∧ x = nI k1 ∧ y = nI k2 ∧ 2 ≤ qc ∧ r = nI (zq_cc (zm_ml a th sh Cn Rn k1 k2 qc) 0 8).length ∧ zm_M z ad g g1 0 (nI qc) (nI (zq_cc (zm_ml a th sh Cn Rn k1 k2 qc) 0 8).length) (nI (zq_kp (zq_cc (zm_ml a th sh Cn Rn k1 k2 qc) 0 8))) a1 ∧ (∀ r, r < 8 → a1 r = a r) ∧ zr_ok (zq_ld (zq_cc (zm_ml a th sh Cn Rn k1 k2 qc) 0 8)) (zq_cc (zm_ml a th sh Cn Rn k1 k2 qc) 0 8).length (zq_kp (zq_cc (zm_ml a th sh Cn Rn k1 k2 qc) 0 8)) s ∧ zm_B a1 qc (zq_cc (zm_ml a th sh Cn Rn k1 k2 qc) 0 8) (zq_kp (zq_cc (zm_ml a th sh Cn Rn k1 k2 qc) 0 8)) s) ∨ (¬ zp_kk x y ∧ zm_M z ad g g1 1 (nI qc) fo kp a) ∨ (zp_kk x y ∧ qc < 2 ∧ zm_M z ad g g1 2 (nI qc) fo kp a)) := by
  have hM : zm_M z ad g g c as fo kp a := ⟨hM0, fun _ _ => rfl⟩
  subst has
  refine zm_ofi hst pn_M_search rfl (Nat.le_of_ble_eq_true rfl) (fun X hX C => ?_)
  subst hX
  show zj_J X 0 0 _ ad N g 0 [(0, .ref (ad 108)), (1, .int x), (2, .int y)] []
  refine zj_aload_n C dc_M_search_0 rfl 0 rfl ?_
  refine zj_iload_n C dc_M_search_1 rfl 1 rfl ?_
  refine zj_if_lt C dc_M_search_2 rfl (fun a1 => ?_) (fun a1 => ?_)
  · skip
    refine zj_iconst (v := 1) C dc_M_search_19 (by decide) ?_
    refine zj_goto C dc_M_search_20 rfl ?_
    refine zj_put (k := 0) C (by omega) hM.1.1 rfl (by decide) fw_M fl_M_62 rfl fy_M fk_M fn_M rfl rfl rfl (Nat.le_of_ble_eq_true rfl) rfl dc_M_search_36 ?_
    refine zM_kc hM (fun g2 hM => ?_)
    refine zj_aload_n C dc_M_search_39 rfl 0 rfl ?_
    refine zj_get (k := 0) C (by omega) hM.1.1 rfl (by decide) fw_M fl_M_62 rfl rfl dc_M_search_40 ?_
    refine zj_if_le C dc_M_search_43 rfl (fun h => absurd h (by decide)) (fun _ => ?_)
    refine zj_iconst (v := 0) C dc_M_search_46 (by decide) ?_
    exact zj_iret C dc_M_search_47 (Or.inr (Or.inl ⟨hkk, hM⟩))
  · skip
    refine zj_iload_n C dc_M_search_5 rfl 1 rfl ?_
    refine zj_iconst (v := 5) C dc_M_search_6 (by decide) ?_
    refine zj_icmp_gt C dc_M_search_7 rfl (fun a2 => ?_) (fun a2 => ?_)
    · skip
      refine zj_iconst (v := 1) C dc_M_search_19 (by decide) ?_
      refine zj_goto C dc_M_search_20 rfl ?_
      refine zj_put (k := 0) C (by omega) hM.1.1 rfl (by decide) fw_M fl_M_62 rfl fy_M fk_M fn_M rfl rfl rfl (Nat.le_of_ble_eq_true rfl) rfl dc_M_search_36 ?_
      refine zM_kc hM (fun g2 hM => ?_)
      refine zj_aload_n C dc_M_search_39 rfl 0 rfl ?_
      refine zj_get (k := 0) C (by omega) hM.1.1 rfl (by decide) fw_M fl_M_62 rfl rfl dc_M_search_40 ?_
      refine zj_if_le C dc_M_search_43 rfl (fun h => absurd h (by decide)) (fun _ => ?_)
      refine zj_iconst (v := 0) C dc_M_search_46 (by decide) ?_
      exact zj_iret C dc_M_search_47 (Or.inr (Or.inl ⟨hkk, hM⟩))
    · skip
      refine zj_iload_n C dc_M_search_10 rfl 2 rfl ?_
      refine zj_if_lt C dc_M_search_11 rfl (fun a3 => ?_) (fun a3 => ?_)
      · skip
        refine zj_iconst (v := 1) C dc_M_search_19 (by decide) ?_
        refine zj_goto C dc_M_search_20 rfl ?_
        refine zj_put (k := 0) C (by omega) hM.1.1 rfl (by decide) fw_M fl_M_62 rfl fy_M fk_M fn_M rfl rfl rfl (Nat.le_of_ble_eq_true rfl) rfl dc_M_search_36 ?_
        refine zM_kc hM (fun g2 hM => ?_)
        refine zj_aload_n C dc_M_search_39 rfl 0 rfl ?_
        refine zj_get (k := 0) C (by omega) hM.1.1 rfl (by decide) fw_M fl_M_62 rfl rfl dc_M_search_40 ?_
        refine zj_if_le C dc_M_search_43 rfl (fun h => absurd h (by decide)) (fun _ => ?_)
        refine zj_iconst (v := 0) C dc_M_search_46 (by decide) ?_
        exact zj_iret C dc_M_search_47 (Or.inr (Or.inl ⟨hkk, hM⟩))
      · skip
        refine zj_iload_n C dc_M_search_14 rfl 2 rfl ?_
        refine zj_iconst (v := 4) C dc_M_search_15 (by decide) ?_
        refine zj_icmp_le C dc_M_search_16 rfl (fun a4 => ?_) (fun a4 => ?_)
        · exact absurd (zm_kk a1 a2 a3 a4) hkk
        · skip
          refine zj_iconst (v := 1) C dc_M_search_19 (by decide) ?_
          refine zj_goto C dc_M_search_20 rfl ?_
          refine zj_put (k := 0) C (by omega) hM.1.1 rfl (by decide) fw_M fl_M_62 rfl fy_M fk_M fn_M rfl rfl rfl (Nat.le_of_ble_eq_true rfl) rfl dc_M_search_36 ?_
          refine zM_kc hM (fun g2 hM => ?_)
          refine zj_aload_n C dc_M_search_39 rfl 0 rfl ?_
          refine zj_get (k := 0) C (by omega) hM.1.1 rfl (by decide) fw_M fl_M_62 rfl rfl dc_M_search_40 ?_
          refine zj_if_le C dc_M_search_43 rfl (fun h => absurd h (by decide)) (fun _ => ?_)
          refine zj_iconst (v := 0) C dc_M_search_46 (by decide) ?_
          exact zj_iret C dc_M_search_47 (Or.inr (Or.inl ⟨hkk, hM⟩))
theorem ct_M_search (l : Launch) (hst : l.stackTraces = false) (z : zv_T) (ad : Nat → Nat) (N : Nat) (g : Nat → va_E) (c as fo kp : Int32) (a : Nat → Nat → Int32) (hN : 126 ≤ N) (hM0 : zs_M z ad g c as fo kp a) (th sh : Nat → Bool) (Cn Rn : Nat → Nat) (hA : zm_A a th sh Cn Rn) (qc : Nat) (has : as = nI qc) (hqc8 : qc ≤ 8) (x y : Int32) : zm_i l mn_M_search ws_M_search rm_M_search z ad N g [.ref (ad 108), .int x, .int y] (fun r g1 => (∃ k1 k2 a1 s, k1 ≤ 5 ∧ k2 ≤ 4 ∧ x = nI k1 ∧ y = nI k2 ∧ 2 ≤ qc ∧ r = nI (zq_cc (zm_ml a th sh Cn Rn k1 k2 qc) 0 8).length ∧ zm_M z ad g g1 0 (nI qc) (nI (zq_cc (zm_ml a th sh Cn Rn k1 k2 qc) 0 8).length) (nI (zq_kp (zq_cc (zm_ml a th sh Cn Rn k1 k2 qc) 0 8))) a1 ∧ (∀ r, r < 8 → a1 r = a r) ∧ zr_ok (zq_ld (zq_cc (zm_ml a th sh Cn Rn k1 k2 qc) 0 8)) (zq_cc (zm_ml a th sh Cn Rn k1 k2 qc) 0 8).length (zq_kp (zq_cc (zm_ml a th sh Cn Rn k1 k2 qc) 0 8)) s ∧ zm_B a1 qc (zq_cc (zm_ml a th sh Cn Rn k1 k2 qc) 0 8) (zq_kp (zq_cc (zm_ml a th sh Cn Rn k1 k2 qc) 0 8)) s) ∨ (¬ zp_kk x y ∧ zm_M z ad g g1 1 (nI qc) fo kp a) ∨ (zp_kk x y ∧ qc < 2 ∧ zm_M z ad g g1 2 (nI qc) fo kp a)) := by
  by_cases h : zp_kk x y
  · obtain ⟨kd, kk, h1, h2, rfl, rfl⟩ := h
    exact ct_M_searchN l hst z ad N g c as fo kp a hN hM0 th sh Cn Rn hA qc has hqc8 kd kk h1 h2
  · exact ct_M_searchX l hst z ad N g c as fo kp a hN hM0 th sh Cn Rn hA qc has hqc8 x y h
set_option maxHeartbeats 4000000 in
set_option maxRecDepth 100000 in
theorem ct_M_match (l : Launch) (hst : l.stackTraces = false) (z : zv_T) (ad : Nat → Nat) (N : Nat) (g : Nat → va_E) (c as fo kp : Int32) (a : Nat → Nat → Int32) (hN : 126 ≤ N) (hM0 : zs_M z ad g c as fo kp a) (K : Nat) (hkp : kp = nI K) (hK : K ≤ 30) (i w : Int32) : zm_i l mn_M_match ws_M_match rm_M_match z ad N g [.ref (ad 108), .int i, .int w] (fun r g1 => (∃ j w9, j < K ∧ i = nI j ∧ w9 < 6 ∧ w = nI w9 ∧ r = a 13 (6 * j + w9) ∧ zm_M z ad g g1 0 as fo kp a) ∨ ((∀ j, j < K → ¬ i = nI j) ∧ zm_M z ad g g1 1 as fo kp a) ∨ ((∃ j, j < K ∧ i = nI j) ∧ (∀ k, k < 6 → ¬ w = nI k) ∧ zm_M z ad g g1 2 as fo kp a)) := by
  have hM : zm_M z ad g g c as fo kp a := ⟨hM0, fun _ _ => rfl⟩
  subst hkp
  refine zm_ofi hst pn_M_match rfl (Nat.le_of_ble_eq_true rfl) (fun X hX C => ?_)
  subst hX
  show zj_J X 0 0 _ ad N g 0 [(0, .ref (ad 108)), (1, .int i), (2, .int w)] []
  refine zj_aload_n C dc_M_match_0 rfl 0 rfl ?_
  refine zj_iload_n C dc_M_match_1 rfl 1 rfl ?_
  refine zj_if_lt C dc_M_match_2 rfl (fun a1 => ?_) (fun a1 => ?_)
  · skip
    refine zj_iconst (v := 1) C dc_M_match_13 (by decide) ?_
    refine zj_goto C dc_M_match_14 rfl ?_
    refine zj_put (k := 0) C (by omega) hM.1.1 rfl (by decide) fw_M fl_M_62 rfl fy_M fk_M fn_M rfl rfl rfl (Nat.le_of_ble_eq_true rfl) rfl dc_M_match_31 ?_
    refine zM_kc hM (fun g2 hM => ?_)
    refine zj_aload_n C dc_M_match_34 rfl 0 rfl ?_
    refine zj_get (k := 0) C (by omega) hM.1.1 rfl (by decide) fw_M fl_M_62 rfl rfl dc_M_match_35 ?_
    refine zj_if_le C dc_M_match_38 rfl (fun h => absurd h (by decide)) (fun _ => ?_)
    refine zj_iconst (v := 0) C dc_M_match_41 (by decide) ?_
    refine zj_goto C dc_M_match_42 rfl ?_
    exact zj_iret C dc_M_match_56 (Or.inr (Or.inl ⟨fun j hj e => by subst e; exact nI_pos (by omega) a1, hM⟩))
  · obtain ⟨j, hj9, rfl⟩ := nI_of a1
    refine zj_iload_n C dc_M_match_5 rfl 1 rfl ?_
    refine zj_aload_n C dc_M_match_6 rfl 0 rfl ?_
    refine zj_get (k := 16) C (by omega) hM.1.1 rfl (by decide) fw_M fl_M_119 rfl rfl dc_M_match_7 ?_
    refine zj_icmp_lt C dc_M_match_10 rfl (fun a2 => ?_) (fun a2 => ?_)
    · have a2 := (nI_ltI hj9 (by omega)).mp a2
      refine zj_iload_n C dc_M_match_17 rfl 2 rfl ?_
      refine zj_if_lt C dc_M_match_18 rfl (fun a3 => ?_) (fun a3 => ?_)
      · skip
        refine zj_iconst (v := 2) C dc_M_match_26 (by decide) ?_
        refine zj_goto C dc_M_match_27 rfl ?_
        refine zj_put (k := 0) C (by omega) hM.1.1 rfl (by decide) fw_M fl_M_62 rfl fy_M fk_M fn_M rfl rfl rfl (Nat.le_of_ble_eq_true rfl) rfl dc_M_match_31 ?_
        refine zM_kc hM (fun g2 hM => ?_)
        refine zj_aload_n C dc_M_match_34 rfl 0 rfl ?_
        refine zj_get (k := 0) C (by omega) hM.1.1 rfl (by decide) fw_M fl_M_62 rfl rfl dc_M_match_35 ?_
        refine zj_if_le C dc_M_match_38 rfl (fun h => absurd h (by decide)) (fun _ => ?_)
        refine zj_iconst (v := 0) C dc_M_match_41 (by decide) ?_
        refine zj_goto C dc_M_match_42 rfl ?_
        exact zj_iret C dc_M_match_56 (Or.inr (Or.inr ⟨⟨j, a2, rfl⟩, fun k hk e => by subst e; exact nI_pos (by omega) a3, hM⟩))
      · obtain ⟨w9, hw9, rfl⟩ := nI_of a3
        refine zj_iload_n C dc_M_match_21 rfl 2 rfl ?_
        refine zj_iconst (v := 5) C dc_M_match_22 (by decide) ?_
        refine zj_icmp_le C dc_M_match_23 rfl (fun a4 => ?_) (fun a4 => ?_)
        · have a4 := (nI_leI (b := 5) hw9 (by omega)).mp a4
          refine zj_iconst (v := 0) C dc_M_match_30 (by decide) ?_
          refine zj_put (k := 0) C (by omega) hM.1.1 rfl (by decide) fw_M fl_M_62 rfl fy_M fk_M fn_M rfl rfl rfl (Nat.le_of_ble_eq_true rfl) rfl dc_M_match_31 ?_
          refine zM_kc hM (fun g2 hM => ?_)
          refine zj_aload_n C dc_M_match_34 rfl 0 rfl ?_
          refine zj_get (k := 0) C (by omega) hM.1.1 rfl (by decide) fw_M fl_M_62 rfl rfl dc_M_match_35 ?_
          refine zj_if_le C dc_M_match_38 rfl (fun _ => ?_) (fun h => absurd h (by decide))
          refine zj_aload_n C dc_M_match_45 rfl 0 rfl ?_
          refine zj_get (k := 17) C (by omega) hM.1.1 rfl (by decide) fw_M fl_M_50 rfl rfl dc_M_match_46 ?_
          refine zj_bipush (v := 6) C dc_M_match_49 (by decide) ?_
          refine zj_iload_n C dc_M_match_51 rfl 1 rfl ?_
          refine zj_imul C dc_M_match_52 ?_
          refine zj_topi (show (6 : Int32) * nI j = nI (6 * j) from pk_mul 6 j) ?_
          refine zj_iload_n C dc_M_match_53 rfl 2 rfl ?_
          refine zj_iadd C dc_M_match_54 ?_
          refine zj_topi (nI_add _ _) ?_
          refine zj_iald C (by omega) hM.1.2.2.2.2.2.2.2.2.2.2.2.2.2.2.1 rfl (by omega) (by decide) dc_M_match_55 ?_
          exact zj_iret C dc_M_match_56 (Or.inl ⟨j, w9, a2, rfl, by omega, rfl, rfl, hM⟩)
        · have a4 := (zn_nle (b := 5) hw9 (by omega)).mp a4
          refine zj_iconst (v := 2) C dc_M_match_26 (by decide) ?_
          refine zj_goto C dc_M_match_27 rfl ?_
          refine zj_put (k := 0) C (by omega) hM.1.1 rfl (by decide) fw_M fl_M_62 rfl fy_M fk_M fn_M rfl rfl rfl (Nat.le_of_ble_eq_true rfl) rfl dc_M_match_31 ?_
          refine zM_kc hM (fun g2 hM => ?_)
          refine zj_aload_n C dc_M_match_34 rfl 0 rfl ?_
          refine zj_get (k := 0) C (by omega) hM.1.1 rfl (by decide) fw_M fl_M_62 rfl rfl dc_M_match_35 ?_
          refine zj_if_le C dc_M_match_38 rfl (fun h => absurd h (by decide)) (fun _ => ?_)
          refine zj_iconst (v := 0) C dc_M_match_41 (by decide) ?_
          refine zj_goto C dc_M_match_42 rfl ?_
          exact zj_iret C dc_M_match_56 (Or.inr (Or.inr ⟨⟨j, a2, rfl⟩, fun k hk e => by have := (nI_eq hw9 (by omega)).mp e; omega, hM⟩))
    · have a2 := (zn_nlt hj9 (by omega)).mp a2
      refine zj_iconst (v := 1) C dc_M_match_13 (by decide) ?_
      refine zj_goto C dc_M_match_14 rfl ?_
      refine zj_put (k := 0) C (by omega) hM.1.1 rfl (by decide) fw_M fl_M_62 rfl fy_M fk_M fn_M rfl rfl rfl (Nat.le_of_ble_eq_true rfl) rfl dc_M_match_31 ?_
      refine zM_kc hM (fun g2 hM => ?_)
      refine zj_aload_n C dc_M_match_34 rfl 0 rfl ?_
      refine zj_get (k := 0) C (by omega) hM.1.1 rfl (by decide) fw_M fl_M_62 rfl rfl dc_M_match_35 ?_
      refine zj_if_le C dc_M_match_38 rfl (fun h => absurd h (by decide)) (fun _ => ?_)
      refine zj_iconst (v := 0) C dc_M_match_41 (by decide) ?_
      refine zj_goto C dc_M_match_42 rfl ?_
      exact zj_iret C dc_M_match_56 (Or.inr (Or.inl ⟨fun k hk e => by have := (nI_eq hj9 (by omega)).mp e; omega, hM⟩))
end ZMV
