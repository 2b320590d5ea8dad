section ZEQ
/-! what the class finds is what the model finds -/
theorem zq_nn_cg {f f' : Nat → Bool} {mk mk' : Nat → zq_I} : ∀ {n a b : Nat}, (∀ i, i < n → f (a + i) = f' (b + i) ∧ (f (a + i) = true → mk (a + i) = mk' (b + i))) → zq_nn f mk a n = zq_nn f' mk' b n := by
  intro n
  induction n with
  | zero => intro a b _; rfl
  | succ n ih =>
    intro a b h
    rw [zq_nnS, zq_nnS]
    have h0 := h 0 (by omega)
    rw [Nat.add_zero, Nat.add_zero] at h0
    rw [ih (a := a + 1) (b := b + 1) (fun i hi => by
      have h1 := h (i + 1) (by omega)
      rw [show a + (i + 1) = a + 1 + i by omega, show b + (i + 1) = b + 1 + i by omega] at h1
      exact h1), ← h0.1]
    by_cases c : f a = true
    · rw [if_pos c, if_pos c, h0.2 c]
    · rw [if_neg c, if_neg c]
theorem zq_nn_nil {f : Nat → Bool} {mk : Nat → zq_I} : ∀ {n a : Nat}, (∀ i, i < n → f (a + i) = false) → zq_nn f mk a n = [] := by
  intro n
  induction n with
  | zero => intro a _; rfl
  | succ n ih =>
    intro a h
    have h0 := h 0 (by omega)
    rw [Nat.add_zero] at h0
    rw [zq_nnS, ih (a := a + 1) (fun i hi => by
      have h1 := h (i + 1) (by omega)
      rw [show a + (i + 1) = a + 1 + i by omega] at h1
      exact h1), if_neg (by rw [h0]; decide)]
    rfl
theorem zq_nn_add {f : Nat → Bool} {mk : Nat → zq_I} : ∀ {n a m : Nat}, zq_nn f mk a (n + m) = zq_nn f mk a n ++ zq_nn f mk (a + n) m := by
  intro n
  induction n with
  | zero => intro a m; rw [Nat.zero_add]; rfl
  | succ n ih =>
    intro a m
    rw [show n + 1 + m = (n + m) + 1 by omega, zq_nnS, zq_nnS, ih, List.append_assoc, show a + 1 + n = a + (n + 1) by omega]
theorem zq_nn_cut {f : Nat → Bool} {mk : Nat → zq_I} {n a m : Nat} (hm : m ≤ n) (h : ∀ i, m ≤ i → i < n → f (a + i) = false) : zq_nn f mk a n = zq_nn f mk a m := by
  obtain ⟨d, rfl⟩ : ∃ d, n = m + d := ⟨n - m, by omega⟩
  rw [zq_nn_add, zq_nn_nil (a := a + m) (fun i hi => by
    have h1 := h (m + i) (by omega) (by omega)
    rw [show a + (m + i) = a + m + i by omega] at h1
    exact h1), List.append_nil]
theorem zq_nn_one {f : Nat → Bool} {mk : Nat → zq_I} {n a q : Nat} {b : Bool} (h : ∀ i, i < n → f (a + i) = (decide (a + i = q) && b)) (hq : a ≤ q) : zq_nn f mk a n = if q < a + n ∧ b = true then [mk q] else [] := by
  by_cases c : q < a + n
  · have e : zq_nn f mk a n = zq_nn f mk a (q - a + (1 + (n - (q - a) - 1))) := congrArg _ (by omega)
    rw [e, zq_nn_add, zq_nn_nil (fun i hi => by rw [h i (by omega), decide_eq_false (by omega)]; rfl), zq_nn_add, zq_nn_nil (a := a + (q - a) + 1) (fun i hi => by
      have h1 := h (q - a + 1 + i) (by omega)
      rw [show a + (q - a + 1 + i) = a + (q - a) + 1 + i by omega] at h1
      rw [h1, decide_eq_false (by omega)]; rfl)]
    show [] ++ ((if f (a + (q - a)) then [mk (a + (q - a))] else []) ++ [] ++ []) = _
    have h2 := h (q - a) (by omega)
    rw [show a + (q - a) = q by omega] at h2 ⊢
    rw [h2, decide_eq_true rfl, Bool.true_and]
    cases b
    · rw [if_neg (by decide), if_neg (fun q => by cases q.2)]; rfl
    · rw [if_pos rfl, if_pos ⟨c, rfl⟩]; rfl
  · rw [if_neg (fun q => c q.1)]
    exact zq_nn_nil (fun i hi => by rw [h i hi, decide_eq_false (by omega)]; rfl)
theorem zq_cc_cg {f f' : Nat → List zq_I} : ∀ {n a : Nat}, (∀ i, a ≤ i → i < a + n → f i = f' i) → zq_cc f a n = zq_cc f' a n := by
  intro n
  induction n with
  | zero => intro a _; rfl
  | succ n ih =>
    intro a h
    rw [zq_ccS, zq_ccS, h a (by omega) (by omega), ih (fun i h1 h2 => h i (by omega) (by omega))]
theorem zq_cc_nil {f : Nat → List zq_I} : ∀ {n a : Nat}, (∀ i, a ≤ i → i < a + n → f i = []) → zq_cc f a n = [] := by
  intro n
  induction n with
  | zero => intro a _; rfl
  | succ n ih =>
    intro a h
    rw [zq_ccS, h a (by omega) (by omega), ih (fun i h1 h2 => h i (by omega) (by omega))]
    rfl
theorem zq_cc_add {f : Nat → List zq_I} : ∀ {n a m : Nat}, zq_cc f a (n + m) = zq_cc f a n ++ zq_cc f (a + n) m := by
  intro n
  induction n with
  | zero => intro a m; rw [Nat.zero_add]; rfl
  | succ n ih =>
    intro a m
    rw [show n + 1 + m = (n + m) + 1 by omega, zq_ccS, zq_ccS, ih, List.append_assoc, show a + 1 + n = a + (n + 1) by omega]
theorem zq_cc_cut {f : Nat → List zq_I} {n a m : Nat} (hm : m ≤ n) (h : ∀ i, a + m ≤ i → i < a + n → f i = []) : zq_cc f a n = zq_cc f a m := by
  obtain ⟨d, rfl⟩ : ∃ d, n = m + d := ⟨n - m, by omega⟩
  rw [zq_cc_add, zq_cc_nil (a := a + m) (fun i h1 h2 => h i (by omega) (by omega)), List.append_nil]
theorem zq_cc_nn {f : Nat → List zq_I} {fit : Nat → Bool} {mk : Nat → zq_I} : ∀ {n a : Nat}, (∀ i, a ≤ i → i < a + n → f i = if fit i then [mk i] else []) → zq_cc f a n = zq_nn fit mk a n := by
  intro n
  induction n with
  | zero => intro a _; rfl
  | succ n ih =>
    intro a h
    rw [zq_ccS, zq_nnS, h a (by omega) (by omega), ih (fun i h1 h2 => h i (by omega) (by omega))]
theorem zp_all_cg {e e' : Nat → Bool} {n : Nat} (h : ∀ i, i < n → e i = e' i) : zp_all e n = zp_all e' n := by
  induction n with
  | zero => rfl
  | succ n ih => rw [zp_allS, zp_allS, ih (fun i hi => h i (by omega)), h n (by omega)]
theorem zp_all_and {e e' : Nat → Bool} {n : Nat} : zp_all (fun i => e i && e' i) n = (zp_all e n && zp_all e' n) := by
  induction n with
  | zero => rfl
  | succ n ih =>
    rw [zp_allS, zp_allS, zp_allS, ih]
    cases zp_all e n <;> cases zp_all e' n <;> cases e n <;> cases e' n <;> rfl
theorem zb_eq {a b : Bool} (h : a = true ↔ b = true) : a = b := by cases a <;> cases b <;> simp_all
/-! signs -/
theorem zp_sg_n : ∀ n, n < 128 → zp_sg (nI n) = zm_sg (nI n) ∧ zp_sg (-nI n) = zm_sg (-nI n) := by decide +kernel
theorem zp_sg_d {a b : Nat} (ha : a ≤ 127) (hb : b ≤ 127) : zp_sg (nI a - nI b) = zm_sg (nI a - nI b) := by
  rcases Nat.le_total b a with h | h
  · rw [pk_sub h]
    exact (zp_sg_n _ (by omega)).1
  · rw [show nI a - nI b = -(nI b - nI a) by grind, pk_sub h]
    exact (zp_sg_n _ (by omega)).2
/-! the kinds of plain finding -/
theorem zp_mul_eq {a b c d : Nat} (ha : a ≤ 64) (hb : b ≤ 64) (hc : c ≤ 64) (hd : d ≤ 64) : nI a * nI b = nI c * nI d ↔ a * b = c * d := by
  have h1 : a * b ≤ 64 * 64 := Nat.mul_le_mul ha hb
  have h2 : c * d ≤ 64 * 64 := Nat.mul_le_mul hc hd
  rw [pk_mul, pk_mul, nI_eq (by omega) (by omega)]
theorem zp_len {x y : Int32} (h : zp_no x y) : ∃ b : Nat, 1 ≤ b ∧ b ≤ 64 ∧ y = nI b := by
  obtain ⟨a, b, h1, h2, h3, h4, h5⟩ := h
  exact ⟨b, h2, h3, h5⟩
theorem zp_pit {x y : Int32} (h : zp_no x y) : ∃ a : Nat, a ≤ 127 ∧ x = nI a := by
  obtain ⟨a, b, h1, h2, h3, h4, h5⟩ := h
  exact ⟨a, h1, h4⟩
theorem zp_rat {qp qq p q : Nat → Int32} {qc pl : Nat} (h1 : ∀ i, i < qc → zp_no (qp i) (qq i)) (h2 : ∀ i, i < qc → zp_no (p (pl + i)) (q (pl + i))) (hqc : 2 ≤ qc) : zp_all (zp_e3 qq q pl) (qc - 1) = zp_all (fun i => decide (q (pl + i) * qq (i + 1) = q (pl + i + 1) * qq i)) (qc - 1) := by
  have hA : ∃ A : Nat → Nat, ∀ i, i < qc → 1 ≤ A i ∧ A i ≤ 64 ∧ qq i = nI (A i) :=
    ⟨fun i => if h : i < qc then (zp_len (h1 i h)).choose else 0, fun i hi => by simp only [dif_pos hi]; exact (zp_len (h1 i hi)).choose_spec⟩
  have hB : ∃ B : Nat → Nat, ∀ i, i < qc → 1 ≤ B i ∧ B i ≤ 64 ∧ q (pl + i) = nI (B i) :=
    ⟨fun i => if h : i < qc then (zp_len (h2 i h)).choose else 0, fun i hi => by simp only [dif_pos hi]; exact (zp_len (h2 i hi)).choose_spec⟩
  obtain ⟨A, hA⟩ := hA
  obtain ⟨B, hB⟩ := hB
  have key := zp_ratio A B qc (fun i hi => (hA i hi).1) (fun i hi => (hB i hi).1)
  apply zb_eq
  rw [zp_all_iff, zp_all_iff]
  constructor
  · intro h i hi
    have k := key.mp (fun j hj1 hj2 => by
      have h3 := of_decide_eq_true (h (j - 1) (by omega))
      rw [show j - 1 + 1 = j by omega, (hA j hj2).2.2, (hB j hj2).2.2, (hA 0 (by omega)).2.2] at h3
      have h4 := (hB 0 (by omega)).2.2
      rw [Nat.add_zero] at h4
      rw [h4] at h3
      exact (zp_mul_eq (hA j hj2).2.1 (hB 0 (by omega)).2.1 (hB j hj2).2.1 (hA 0 (by omega)).2.1).mp h3) i (by omega)
    refine decide_eq_true ?_
    rw [Nat.add_assoc, (hA i (by omega)).2.2, (hA (i + 1) (by omega)).2.2, (hB i (by omega)).2.2, (hB (i + 1) (by omega)).2.2]
    exact (zp_mul_eq (hB i (by omega)).2.1 (hA (i + 1) (by omega)).2.1 (hB (i + 1) (by omega)).2.1 (hA i (by omega)).2.1).mpr k
  · intro h i hi
    have k := key.mpr (fun j hj => by
      have h3 := of_decide_eq_true (h j (by omega))
      rw [Nat.add_assoc, (hA j (by omega)).2.2, (hA (j + 1) hj).2.2, (hB j (by omega)).2.2, (hB (j + 1) hj).2.2] at h3
      exact (zp_mul_eq (hB j (by omega)).2.1 (hA (j + 1) hj).2.1 (hB (j + 1) hj).2.1 (hA j (by omega)).2.1).mp h3) (i + 1) (by omega) (by omega)
    refine decide_eq_true ?_
    have h4 := (hB 0 (by omega)).2.2
    rw [Nat.add_zero] at h4
    rw [h4, (hA (i + 1) (by omega)).2.2, (hB (i + 1) (by omega)).2.2, (hA 0 (by omega)).2.2]
    exact (zp_mul_eq (hA (i + 1) (by omega)).2.1 (hB 0 (by omega)).2.1 (hB (i + 1) (by omega)).2.1 (hA 0 (by omega)).2.1).mpr k
theorem zp_fit_e {kd qc pl : Nat} {qp qq p q : Nat → Int32} (hkd : kd ≤ 3) (h1 : ∀ i, i < qc → zp_no (qp i) (qq i)) (h2 : ∀ i, i < qc → zp_no (p (pl + i)) (q (pl + i))) (hqc : 2 ≤ qc) : zp_fit kd qc qp qq p q pl = zp_all (zm_e kd qp qq p q pl) (qc - 1) := by
  have e1 : zp_all (zp_e1 qp p pl) (qc - 1) = zp_all (fun i => decide (p (pl + i + 1) - p (pl + i) = qp (i + 1) - qp i)) (qc - 1) :=
    zp_all_cg (fun i hi => decide_eq_decide.mpr ⟨fun h => h.symm, fun h => h.symm⟩)
  have hk : kd = 0 ∨ kd = 1 ∨ kd = 2 ∨ kd = 3 := by omega
  rcases hk with rfl | rfl | rfl | rfl
  · show (zp_all (zp_e1 qp p pl) (qc - 1) && zp_all (zp_e3 qq q pl) (qc - 1)) = zp_all (fun i => decide (p (pl + i + 1) - p (pl + i) = qp (i + 1) - qp i) && decide (q (pl + i) * qq (i + 1) = q (pl + i + 1) * qq i)) (qc - 1)
    rw [zp_all_and, e1, zp_rat h1 h2 hqc]
  · exact e1
  · refine zp_all_cg (fun i hi => ?_)
    obtain ⟨a, ha, ea⟩ := zp_pit (h1 i (by omega))
    obtain ⟨b, hb, eb⟩ := zp_pit (h1 (i + 1) (by omega))
    obtain ⟨c, hc, ec⟩ := zp_pit (h2 i (by omega))
    obtain ⟨d, hd, ed⟩ := zp_pit (h2 (i + 1) (by omega))
    show decide (zp_sg (qp (i + 1) - qp i) = zp_sg (p (pl + i + 1) - p (pl + i))) = decide (zm_sg (p (pl + i + 1) - p (pl + i)) = zm_sg (qp (i + 1) - qp i))
    rw [Nat.add_assoc, ea, eb, ec, ed, zp_sg_d hb ha, zp_sg_d hd hc]
    exact decide_eq_decide.mpr ⟨fun h => h.symm, fun h => h.symm⟩
  · refine zp_all_cg (fun i hi => ?_)
    show decide (qq (i + 1) * q pl = q (pl + (i + 1)) * qq 0) = decide (q (pl + 0) * qq (i + 1) = q (pl + i + 1) * qq 0)
    rw [Int32.mul_comm (qq (i + 1)), Nat.add_assoc]
    rfl
/-! plain finding -/
theorem zm_nl_p {kd k qc t C : Nat} {qp qq p q : Nat → Int32} (hkd : kd ≤ 3) (h1 : ∀ i, i < qc → zp_no (qp i) (qq i)) (h2 : ∀ i, i < C → zp_no (p i) (q i)) (hqc : 2 ≤ qc) : zq_nn (zp_fit kd qc qp qq p q) (fun pl => (t, pl, qc, p pl - qp 0, qc)) 0 (C + 1 - qc) = zq_cc (zm_nl kd k qc t qp qq p q C) 0 C := by
  have hf : ∀ pl sp, zm_ff kd k qc qp qq p q pl sp = (decide (sp = qc) && zp_all (zm_e kd qp qq p q pl) (qc - 1)) := by
    intro pl sp
    unfold zm_ff zm_pt
    rw [if_pos (by omega)]
    by_cases c : sp = qc ∧ zp_all (zm_e kd qp qq p q pl) (qc - 1) = true
    · rw [if_pos c, c.2, decide_eq_true (show 0 < qc by omega), decide_eq_true c.1]; rfl
    · rw [if_neg c]
      by_cases d : sp = qc
      · rw [decide_eq_true d]
        have : zp_all (zm_e kd qp qq p q pl) (qc - 1) = false := by
          cases e : zp_all (zm_e kd qp qq p q pl) (qc - 1)
          · rfl
          · exact absurd ⟨d, e⟩ c
        rw [this]; rfl
      · rw [decide_eq_false d]; rfl
  have hl : ∀ pl, pl < C → zm_nl kd k qc t qp qq p q C pl = if qc < 2 + (C + 1 - pl - 2) ∧ zp_all (zm_e kd qp qq p q pl) (qc - 1) = true then [zm_mk kd k qc t qp qq p q pl qc] else [] :=
    fun pl hp => zq_nn_one (fun i _ => hf pl (2 + i)) hqc
  rw [zq_cc_cut (m := C + 1 - qc) (by omega) (fun i h3 h4 => by rw [hl i (by omega), if_neg (fun q => by have := q.1; omega)])]
  symm
  refine zq_cc_nn (fun i h3 h4 => ?_)
  rw [hl i (by omega), zp_fit_e hkd h1 (fun j hj => h2 _ (by omega)) hqc]
  by_cases c : zp_all (zm_e kd qp qq p q i) (qc - 1) = true
  · rw [if_pos ⟨by omega, c⟩, if_pos c]
    unfold zm_mk zm_pt
    rw [if_pos (show kd < 4 by omega), if_pos ⟨rfl, c⟩]
  · rw [if_neg (fun q => c q.2), if_neg c]
/-! outlines -/
theorem zo_b1 (n : Nat) (hn : n < 32) {e : Nat} (he : e < 32) : bt ((1 : Int32) <<< (nI n &&& 31)) e = decide (e = n) := by
  rw [b_shl n hn 1 he]
  have h1 : ∀ j, bt 1 j = decide (j = 0) := by
    intro j
    rcases Nat.lt_or_ge j 32 with h | h
    · exact (by decide +kernel : ∀ i, i < 32 → bt 1 i = decide (i = 0)) j h
    · rw [b_big h, decide_eq_false (by omega)]
  rw [h1]
  by_cases c : e = n
  · rw [decide_eq_true (show n ≤ e by omega), decide_eq_true (show e - n = 0 by omega), decide_eq_true c]; rfl
  · rw [decide_eq_false c]
    by_cases d : n ≤ e
    · rw [decide_eq_false (show ¬ e - n = 0 by omega), Bool.and_false]
    · rw [decide_eq_false d]; rfl
theorem zo_bits {p : Nat → Int32} {x : Int32} {e : Nat} (he : e < 32) : ∀ {C : Nat}, C ≤ 32 → bt (zp_bits p x C) e = (decide (e < C) && decide (p e = x)) := by
  intro C
  induction C with
  | zero => intro _; show bt 0 e = _; rw [b_0, decide_eq_false (Nat.not_lt_zero e)]; rfl
  | succ C ih =>
    intro hC
    have h1 := ih (by omega)
    show bt (if p C = x then zp_bits p x C ||| ((1 : Int32) <<< (nI C &&& 31)) else zp_bits p x C) e = _
    by_cases c : p C = x
    · rw [if_pos c, b_or, h1, zo_b1 C (by omega) he]
      by_cases d : e = C
      · rw [d, decide_eq_false (Nat.lt_irrefl C), decide_eq_true rfl, decide_eq_true (show C < C + 1 by omega), decide_eq_true c]; rfl
      · rw [decide_eq_false d, Bool.or_false]
        congr 1
        exact decide_eq_decide.mpr (by omega)
    · rw [if_neg c, h1]
      by_cases d : e = C
      · rw [d, decide_eq_false (Nat.lt_irrefl C), decide_eq_false c, Bool.and_false, Bool.and_false]
      · congr 1
        exact decide_eq_decide.mpr (by omega)
theorem zo_reb {E : Int32} {e : Nat} (he : e < 32) : ∀ {n : Nat}, n < 32 → bt (zo_re E n) e = zo_any (bt E) e n := by
  intro n
  induction n with
  | zero => intro _; exact b_0 e
  | succ n ih =>
    intro hn
    show bt (zo_re E n ||| (E <<< (nI (n + 1) &&& 31))) e = (zo_any (bt E) e n || (decide (n + 1 ≤ e) && bt E (e - (n + 1))))
    rw [b_or, ih (by omega), b_shl (n + 1) hn E he]
theorem zo_enb {C pl kk : Nat} {p qp : Nat → Int32} (hC : C ≤ 20) (hpl : pl < C) (hkk : kk ≤ 4) : ∀ (i e : Nat), e < C → bt (zo_en C p qp pl kk i) e = (decide (pl ≤ e) && zo_M (fun i j => decide (p (pl + j) - qp i = p pl - qp 0)) kk i (e - pl)) := by
  intro i
  induction i with
  | zero =>
    intro e he
    show bt ((1 : Int32) <<< (nI pl &&& 31)) e = (decide (pl ≤ e) && (decide (e - pl = 0) && decide _))
    rw [zo_b1 pl (by omega) (by omega)]
    by_cases c : e = pl
    · subst c
      rw [decide_eq_true rfl, decide_eq_true (Nat.le_refl e), Nat.sub_self, decide_eq_true (show p (e + 0) - qp 0 = p e - qp 0 from rfl)]
      rfl
    · rw [decide_eq_false c]
      by_cases d : pl ≤ e
      · rw [decide_eq_false (show ¬ e - pl = 0 by omega)]; simp
      · rw [decide_eq_false d]; rfl
  | succ i ih =>
    intro e he
    show bt (zo_re (zo_en C p qp pl kk i) (kk + 1) &&& zp_bits p (qp (i + 1) + (p pl - qp 0)) C) e = (decide (pl ≤ e) && (zo_any (zo_M _ kk i) (e - pl) (kk + 1) && decide (p (pl + (e - pl)) - qp (i + 1) = p pl - qp 0)))
    rw [b_and, zo_reb (by omega) (by omega), zo_bits (by omega) (by omega), zo_any_at (a := pl) (fun b hb => ih b (by omega)), decide_eq_true he, Bool.true_and]
    by_cases d : pl ≤ e
    · rw [decide_eq_true d, show pl + (e - pl) = e by omega, Bool.true_and, Bool.true_and]
      congr 1
      exact decide_eq_decide.mpr ⟨fun h => by rw [h]; grind, fun h => by grind⟩
    · rw [decide_eq_false d]; rfl
theorem zo_tb {x : Int32} {e : Nat} (he : e < 31) : (decide ((x >>> (nI e &&& 31)) &&& 1 = 1)) = bt x e := by
  have h1 : ∀ j, j < 32 → bt 1 j = decide (j = 0) := by decide +kernel
  by_cases c : bt x e = true
  · rw [c]
    refine decide_eq_true (b_ext (fun i hi => ?_))
    rw [b_and, b_sshr e (by omega) x hi, h1 i hi]
    by_cases d : i = 0
    · rw [d, if_pos (by omega), Nat.add_zero, c]; rfl
    · rw [decide_eq_false d, Bool.and_false]
  · have c2 : bt x e = false := by simpa using c
    rw [c2]
    refine decide_eq_false (fun h => ?_)
    have h2 := congrArg (fun y => bt y 0) h
    simp only [b_and] at h2
    rw [b_sshr e (by omega) x (by omega), h1 0 (by omega), if_pos (by omega), Nat.add_zero, c2] at h2
    exact absurd h2 (by decide)
theorem zm_nl_o {k qc t C : Nat} {qp qq p q : Nat → Int32} (hC : C ≤ 20) (hk : k ≤ 4) (hqc : 2 ≤ qc) : zq_cc (zq_ol C qc k t p qp) 0 (C + 1 - qc) = zq_cc (zm_nl 4 k qc t qp qq p q C) 0 C := by
  have hf : ∀ pl sp, zm_ff 4 k qc qp qq p q pl sp = zo_M (fun i j => decide (p (pl + j) - qp i = p pl - qp 0)) k (qc - 1) (sp - 1) := by
    intro pl sp
    unfold zm_ff zm_pt
    rw [if_neg (by omega), if_pos rfl]
    by_cases c : zo_M (fun i j => decide (p (pl + j) - qp i = p pl - qp 0)) k (qc - 1) (sp - 1) = true
    · rw [if_pos c, c]; exact decide_eq_true (by omega)
    · rw [if_neg c]
      have c2 : zo_M (fun i j => decide (p (pl + j) - qp i = p pl - qp 0)) k (qc - 1) (sp - 1) = false := by simpa using c
      rw [c2]; rfl
  symm
  rw [zq_cc_cut (f := zm_nl 4 k qc t qp qq p q C) (m := C + 1 - qc) (by omega) (fun i h3 h4 => zq_nn_nil (fun j hj => by
    rw [hf]
    cases e : zo_M (fun i_1 j => decide (p (i + j) - qp i_1 = p i - qp 0)) k (qc - 1) (2 + j - 1)
    · rfl
    · have := zo_ge e
      omega))]
  refine zq_cc_cg (fun pl h3 h4 => ?_)
  unfold zm_nl zq_ol
  rw [show C + 1 - pl - 2 = C - (pl + 1) by omega]
  refine zq_nn_cg (fun i hi => ⟨?_, fun h => ?_⟩)
  · rw [hf, zo_tb (by omega), zo_enb hC (by omega) hk (qc - 1) (pl + 1 + i) (by omega), decide_eq_true (by omega), show 2 + i - 1 = pl + 1 + i - pl by omega]
    rfl
  · rw [hf] at h
    unfold zm_mk zm_pt
    rw [if_neg (by omega), if_pos rfl, if_pos h, show pl + 1 + i - pl + 1 = 2 + i by omega]
/-! near finding -/
theorem zm_nl_n {k qc t C : Nat} {qp qq p q : Nat → Int32} (hk : k ≤ 4) (hqc : 2 ≤ qc) : zq_cc (zq_nl C qc k t p qp) 0 (C - 1) = zq_cc (zm_nl 5 k qc t qp qq p q C) 0 C := by
  have hp : ∀ pl sp, zm_pt 5 k qc qp qq p q pl sp = if zm_nr qc k qp p pl sp = true ∧ zm_nr qc k qp p (pl + 1) (sp - 1) = false ∧ zm_nr qc k qp p pl (sp - 1) = false then (zp_dp (zp_sm qp p pl) (qc - 1) (sp - 1)).2 + 1 else 0 := by
    intro pl sp
    unfold zm_pt
    rw [if_neg (by omega), if_neg (by omega)]
  have hf : ∀ pl sp, 2 ≤ sp → zm_ff 5 k qc qp qq p q pl sp = zq_nr qc k qp p pl sp := by
    intro pl sp hs
    unfold zm_ff
    rw [hp]
    unfold zq_nr zm_nr
    apply zb_eq
    rw [decide_eq_true (show 1 < sp by omega), Bool.true_and]
    by_cases c2 : sp = 2
    · subst c2
      simp
      by_cases c : (zp_dp (zp_sm qp p pl) (qc - 1) 1).1 ≤ k
      · simp [c]
      · simp [c]
    · rw [decide_eq_true (show 1 < sp - 1 by omega), Bool.true_and, Bool.true_and]
      by_cases a1 : (zp_dp (zp_sm qp p pl) (qc - 1) (sp - 1)).1 ≤ k <;> by_cases a2 : (zp_dp (zp_sm qp p pl) (qc - 1) (sp - 1 - 1)).1 ≤ k <;> by_cases a3 : (zp_dp (zp_sm qp p (pl + 1)) (qc - 1) (sp - 1 - 1)).1 ≤ k <;> simp [a1, a2, a3, c2]
  symm
  rw [zq_cc_cut (f := zm_nl 5 k qc t qp qq p q C) (m := C - 1) (by omega) (fun i h3 h4 => zq_nn_nil (fun j hj => by omega))]
  refine zq_cc_cg (fun pl h3 h4 => ?_)
  unfold zm_nl zq_nl
  rw [zq_nn_cut (m := (if qc + k < C - pl then qc + k else C - pl) + 1 - 2) (by split <;> omega) (fun i h5 h6 => by
    rw [hf _ _ (by omega)]
    refine decide_eq_false (fun h => ?_)
    have h7 := zp_dp_ge (zp_sm qp p pl) (qc - 1) (2 + i - 1)
    have h8 := h.1
    split at h5 <;> omega)]
  refine zq_nn_cg (fun i hi => ⟨hf _ _ (by omega), fun h => ?_⟩)
  have h9 := of_decide_eq_true h
  rw [hp] at h9
  unfold zm_mk
  rw [hp]
  by_cases c : zm_nr qc k qp p pl (2 + i) = true ∧ zm_nr qc k qp p (pl + 1) (2 + i - 1) = false ∧ zm_nr qc k qp p pl (2 + i - 1) = false
  · rw [if_pos c]
  · rw [if_neg c] at h9
    omega
end ZEQ
