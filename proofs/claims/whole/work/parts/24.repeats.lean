section ZW
/-- m leading places have e, of lim at most -/
def zp_ld (e : Nat → Bool) (lim m : Nat) : Prop := m ≤ lim ∧ (∀ t, t < m → e t = true) ∧ (m < lim → e m = false)
theorem zp_ld_ge {e : Nat → Bool} {lim m n : Nat} (h : zp_ld e lim m) : n ≤ m ↔ n ≤ lim ∧ ∀ t, t < n → e t = true := by
  constructor
  · intro hn
    exact ⟨Nat.le_trans hn h.1, fun t ht => h.2.1 t (by omega)⟩
  · intro ⟨h1, h2⟩
    rcases Nat.lt_or_ge m n with c | c
    · have h3 := h.2.2 (by omega)
      rw [h2 m c] at h3
      cases h3
    · exact c
/-- the search for repeats, at the cells 105, 106 -/
def zs_W (z : zv_T) (ad : Nat → Nat) (g : Nat → va_E) (a1 a2 a3 : Int32) (cm : Nat → Int32) : Prop := g 105 = ze_o 4 [.ref (ad 106), .int a1, .int a2, .int a3] ∧ g 106 = ze_i z 19 cm
/-- the steps from a place on are those from another one on -/
def zp_es (p : Nat → Int32) (a b : Nat) : Nat → Bool := fun t => decide (p (a + t + 1) - p (a + t) = p (b + t + 1) - p (b + t))
theorem zn_max {a b : Nat} (ha : a < 2 ^ 31) (hb : b < 2 ^ 31) : (if nI a < nI b then nI b else nI a) = nI (if a < b then b else a) := by
  by_cases c : a < b
  · rw [if_pos c, if_pos ((nI_ltI ha hb).mpr c)]
  · rw [if_neg c, if_neg (fun h => c ((nI_ltI ha hb).mp h))]
set_option maxHeartbeats 4000000 in
set_option maxRecDepth 100000 in
theorem ct_W_compare (l : Launch) (hst : l.stackTraces = false) (z : zv_T) (ad : Nat → Nat) (N : Nat) (g : Nat → va_E) (ni c : Nat) (p q : Nat → Int32) (hn : zs_N z ad g ni 20 c p q) (hni : ni + 2 < 66) (hc : c ≤ 20) (hN : 107 ≤ N) (a1 a2 a3 : Int32) (cm : Nat → Int32) (hs : zs_W z ad g a1 a2 a3 cm) (fr : Nat) (hfr0 : fr < c - 1) : zm_v l mn_W_compare ws_W_compare rm_W_compare z ad N g [.ref (ad 105), .ref (ad ni), .int (nI fr)] (fun g1 => ∃ m2, g1 106 = ze_i z 19 m2 ∧ (∀ k, k < c - 1 → ∃ m, m2 k = nI m ∧ zp_ld (zp_es p fr k) (c - 1 - (if fr < k then k else fr)) m) ∧ ∀ j, j ≠ 106 → g1 j = g j) := by
  obtain ⟨hW, hm0⟩ := hs
  obtain ⟨hn0, hn1, hn2⟩ := hn
  refine zm_ofv hst pn_W_compare rfl (Nat.le_of_ble_eq_true rfl) (fun X hX C => ?_)
  subst hX
  show zj_J X 0 0 _ ad N g 0 [(0, .ref (ad 105)), (1, .ref (ad ni)), (2, .int (nI fr))] []
  have inner : ∀ (n : Nat) (t k : Nat) (g2 : Nat → va_E), (c - 1 - (if fr < k then k else fr)) - t = n → k < c - 1 → t ≤ (c - 1 - (if fr < k then k else fr)) → (∀ j, j ≠ 106 → g2 j = g j) → (∀ u, u < t → zp_es p fr k u = true) → (∀ m, zp_ld (zp_es p fr k) (c - 1 - (if fr < k then k else fr)) m → zj_J X 0 0 (zj_Qv X 0 0 ad N (fun g1 => ∃ m2, g1 106 = ze_i z 19 m2 ∧ (∀ k, k < c - 1 → ∃ m, m2 k = nI m ∧ zp_ld (zp_es p fr k) (c - 1 - (if fr < k then k else fr)) m) ∧ ∀ j, j ≠ 106 → g1 j = g j)) ad N g2 57 [(5, .int (nI m)), (4, .int (nI (c - 1 - (if fr < k then k else fr)))), (3, .int (nI k)), (0, .ref (ad 105)), (1, .ref (ad ni)), (2, .int (nI fr))] []) → zj_J X 0 0 (zj_Qv X 0 0 ad N (fun g1 => ∃ m2, g1 106 = ze_i z 19 m2 ∧ (∀ k, k < c - 1 → ∃ m, m2 k = nI m ∧ zp_ld (zp_es p fr k) (c - 1 - (if fr < k then k else fr)) m) ∧ ∀ j, j ≠ 106 → g1 j = g j)) ad N g2 25 [(5, .int (nI t)), (4, .int (nI (c - 1 - (if fr < k then k else fr)))), (3, .int (nI k)), (0, .ref (ad 105)), (1, .ref (ad ni)), (2, .int (nI fr))] [] := by
    intro n
    induction n with
    | zero =>
      intro t k g2 e1 e2 e3 hfr e4 K
      have hx1 : fr ≤ (if fr < k then k else fr) := by split <;> omega
      have hx2 : k ≤ (if fr < k then k else fr) := by split <;> omega
      have hx3 : (if fr < k then k else fr) < c - 1 := by split <;> omega
      refine zj_iload C dc_W_compare_25 0 rfl ?_
      refine zj_iload C dc_W_compare_27 1 rfl ?_
      refine zj_icmp_ge C dc_W_compare_29 rfl (fun _ => ?_) (fun h => absurd h (not_not_intro ((nI_leI (by omega) (by omega)).mpr (by omega))))
      refine zj_loc [0, 1, 2, 3, 4, 5] rfl ?_
      exact K t ⟨by omega, e4, fun h => by first | omega | exact decide_eq_false h48⟩
    | succ n ih =>
      intro t k g2 e1 e2 e3 hfr e4 K
      have hx1 : fr ≤ (if fr < k then k else fr) := by split <;> omega
      have hx2 : k ≤ (if fr < k then k else fr) := by split <;> omega
      have hx3 : (if fr < k then k else fr) < c - 1 := by split <;> omega
      refine zj_iload C dc_W_compare_25 0 rfl ?_
      refine zj_iload C dc_W_compare_27 1 rfl ?_
      refine zj_icmp_ge C dc_W_compare_29 rfl (fun h => absurd h (((zn_nle (by omega) (by omega)).mpr (by omega)))) (fun _ => ?_)
      refine zj_aload_n C dc_W_compare_32 rfl 4 rfl ?_
      refine zj_iload_n C dc_W_compare_33 rfl 5 rfl ?_
      refine zj_iload C dc_W_compare_34 0 rfl ?_
      refine zj_iadd C dc_W_compare_36 ?_
      refine zj_topi (nI_add _ _) ?_
      refine zj_Vi C (ct_N_stepBehind _ hst z ad N g2 ni 20 c p q (by omega) ⟨((hfr ni (by omega)).trans hn0), ((hfr (ni + 1) (by omega)).trans hn1), ((hfr (ni + 2) (by omega)).trans hn2)⟩ (by decide) (fr + t) (by omega)) gv_W_45 rfl rfl rfl hd_N_stepBehind ⟨(Nat.le_of_ble_eq_true rfl), (Nat.le_of_ble_eq_true rfl)⟩ (by omega) ((hfr ni (by omega)).trans hn0) rfl rfl rfl (Nat.le_of_ble_eq_true rfl) ⟨(Nat.le_of_ble_eq_true rfl), (Nat.le_of_ble_eq_true rfl)⟩ dc_W_compare_37 (fun r1 g9 h1 => ?_)
      obtain ⟨rfl, hg9⟩ := h1
      rw [hg9]
      refine zj_aload_n C dc_W_compare_40 rfl 4 rfl ?_
      refine zj_iload_n C dc_W_compare_41 rfl 2 rfl ?_
      refine zj_iload C dc_W_compare_42 0 rfl ?_
      refine zj_iadd C dc_W_compare_44 ?_
      refine zj_topi (nI_add _ _) ?_
      refine zj_Vi C (ct_N_stepBehind _ hst z ad N g2 ni 20 c p q (by omega) ⟨((hfr ni (by omega)).trans hn0), ((hfr (ni + 1) (by omega)).trans hn1), ((hfr (ni + 2) (by omega)).trans hn2)⟩ (by decide) (k + t) (by omega)) gv_W_45 rfl rfl rfl hd_N_stepBehind ⟨(Nat.le_of_ble_eq_true rfl), (Nat.le_of_ble_eq_true rfl)⟩ (by omega) ((hfr ni (by omega)).trans hn0) rfl rfl rfl (Nat.le_of_ble_eq_true rfl) ⟨(Nat.le_of_ble_eq_true rfl), (Nat.le_of_ble_eq_true rfl)⟩ dc_W_compare_45 (fun r2 g9 h1 => ?_)
      obtain ⟨rfl, hg9⟩ := h1
      rw [hg9]
      refine zj_icmp_ne C dc_W_compare_48 rfl (fun h48 => ?_) (fun h48 => ?_)
      · skip
        refine zj_loc [0, 1, 2, 3, 4, 5] rfl ?_
        exact K t ⟨by omega, e4, fun h => by first | omega | exact decide_eq_false h48⟩
      · skip
        refine zj_iinc C dc_W_compare_51 0 rfl (zn_inc t) (by decide) rfl ?_
        refine zj_goto C dc_W_compare_54 rfl ?_
        refine zj_loc (L' := [(5, .int (nI (t + 1))), (4, .int (nI (c - 1 - (if fr < k then k else fr)))), (3, .int (nI k)), (0, .ref (ad 105)), (1, .ref (ad ni)), (2, .int (nI fr))]) [0, 1, 2, 3, 4, 5] rfl ?_
        exact ih (t + 1) k g2 (by omega) e2 (by omega) hfr (fun u hu => if c9 : u = t then (by rw [c9]; exact decide_eq_true h48) else e4 u (by omega)) K
  have outer : ∀ (n : Nat) (k : Nat) (g2 : Nat → va_E) (m2 : Nat → Int32), c - 1 - k = n → k ≤ c - 1 → g2 106 = ze_i z 19 m2 → (∀ j, j ≠ 106 → g2 j = g j) → (∀ i, i < k → ∃ m, m2 i = nI m ∧ zp_ld (zp_es p fr i) (c - 1 - (if fr < i then i else fr)) m) → zj_J X 0 0 (zj_Qv X 0 0 ad N (fun g1 => ∃ m2, g1 106 = ze_i z 19 m2 ∧ (∀ k, k < c - 1 → ∃ m, m2 k = nI m ∧ zp_ld (zp_es p fr k) (c - 1 - (if fr < k then k else fr)) m) ∧ ∀ j, j ≠ 106 → g1 j = g j)) ad N g2 2 [(3, .int (nI k)), (0, .ref (ad 105)), (1, .ref (ad ni)), (2, .int (nI fr))] [] := by
    intro n
    induction n with
    | zero =>
      intro k g2 m2 e1 e2 hm2 hfr e3
      refine zj_iload_n C dc_W_compare_2 rfl 0 rfl ?_
      refine zj_aload_n C dc_W_compare_3 rfl 2 rfl ?_
      refine zj_Vi C (ct_N_steps _ hst z ad N g2 ni 20 c p q (by omega) ⟨((hfr ni (by omega)).trans hn0), ((hfr (ni + 1) (by omega)).trans hn1), ((hfr (ni + 2) (by omega)).trans hn2)⟩ (by decide) (by omega)) gv_W_15 rfl rfl rfl hd_N_steps ⟨(Nat.le_of_ble_eq_true rfl), (Nat.le_of_ble_eq_true rfl)⟩ (by omega) ((hfr ni (by omega)).trans hn0) rfl rfl rfl (Nat.le_of_ble_eq_true rfl) ⟨(Nat.le_of_ble_eq_true rfl), (Nat.le_of_ble_eq_true rfl)⟩ dc_W_compare_4 (fun r1 g9 h1 => ?_)
      obtain ⟨rfl, hg9⟩ := h1
      rw [hg9]
      refine zj_icmp_ge C dc_W_compare_7 rfl (fun _ => ?_) (fun h => absurd h (not_not_intro ((nI_leI (by omega) (by omega)).mpr (by omega))))
      exact zj_vret C dc_W_compare_71 ⟨m2, hm2, fun i hi => e3 i (by omega), hfr⟩
    | succ n ih =>
      intro k g2 m2 e1 e2 hm2 hfr e3
      refine zj_iload_n C dc_W_compare_2 rfl 0 rfl ?_
      refine zj_aload_n C dc_W_compare_3 rfl 2 rfl ?_
      refine zj_Vi C (ct_N_steps _ hst z ad N g2 ni 20 c p q (by omega) ⟨((hfr ni (by omega)).trans hn0), ((hfr (ni + 1) (by omega)).trans hn1), ((hfr (ni + 2) (by omega)).trans hn2)⟩ (by decide) (by omega)) gv_W_15 rfl rfl rfl hd_N_steps ⟨(Nat.le_of_ble_eq_true rfl), (Nat.le_of_ble_eq_true rfl)⟩ (by omega) ((hfr ni (by omega)).trans hn0) rfl rfl rfl (Nat.le_of_ble_eq_true rfl) ⟨(Nat.le_of_ble_eq_true rfl), (Nat.le_of_ble_eq_true rfl)⟩ dc_W_compare_4 (fun r1 g9 h1 => ?_)
      obtain ⟨rfl, hg9⟩ := h1
      rw [hg9]
      refine zj_icmp_ge C dc_W_compare_7 rfl (fun h => absurd h (((zn_nle (by omega) (by omega)).mpr (by omega)))) (fun _ => ?_)
      refine zj_aload_n C dc_W_compare_10 rfl 2 rfl ?_
      refine zj_Vi C (ct_N_steps _ hst z ad N g2 ni 20 c p q (by omega) ⟨((hfr ni (by omega)).trans hn0), ((hfr (ni + 1) (by omega)).trans hn1), ((hfr (ni + 2) (by omega)).trans hn2)⟩ (by decide) (by omega)) gv_W_15 rfl rfl rfl hd_N_steps ⟨(Nat.le_of_ble_eq_true rfl), (Nat.le_of_ble_eq_true rfl)⟩ (by omega) ((hfr ni (by omega)).trans hn0) rfl rfl rfl (Nat.le_of_ble_eq_true rfl) ⟨(Nat.le_of_ble_eq_true rfl), (Nat.le_of_ble_eq_true rfl)⟩ dc_W_compare_11 (fun r2 g9 h1 => ?_)
      obtain ⟨rfl, hg9⟩ := h1
      rw [hg9]
      refine zj_iload_n C dc_W_compare_14 rfl 3 rfl ?_
      refine zj_iload_n C dc_W_compare_15 rfl 0 rfl ?_
      refine zj_mmax C ml_W_39 sm_Math_max ini_Math wk_Math_max ⟨(Nat.le_of_ble_eq_true rfl), (Nat.le_of_ble_eq_true rfl)⟩ ⟨(Nat.le_of_ble_eq_true rfl), (Nat.le_of_ble_eq_true rfl)⟩ dc_W_compare_16 ?_
      refine zj_topi (zn_max (by omega) (by omega)) ?_
      refine zj_isub C dc_W_compare_19 ?_
      refine zj_topi (pk_sub (by split <;> omega)) ?_
      refine zj_istore C dc_W_compare_20 (by decide) rfl ?_
      refine zj_iconst (v := 0) C dc_W_compare_22 (by decide) ?_
      refine zj_istore C dc_W_compare_23 (by decide) rfl ?_
      refine zj_loc (L' := [(5, .int (nI 0)), (4, .int (nI (c - 1 - (if fr < k then k else fr)))), (3, .int (nI k)), (0, .ref (ad 105)), (1, .ref (ad ni)), (2, .int (nI fr))]) [0, 1, 2, 3, 4, 5] rfl ?_
      refine inner (c - 1 - (if fr < k then k else fr)) 0 k g2 rfl (by omega) (by omega) hfr (fun u hu => by omega) (fun m hm => ?_)
      refine zj_aload_n C dc_W_compare_57 rfl 3 rfl ?_
      refine zj_get (k := 0) C (by omega) ((hfr 105 (by omega)).trans hW) rfl (by decide) fw_W fl_W_9 rfl rfl dc_W_compare_58 ?_
      refine zj_iload_n C dc_W_compare_61 rfl 2 rfl ?_
      refine zj_iload C dc_W_compare_62 0 rfl ?_
      refine zj_iast C (by omega) hm2 rfl (by omega) (by decide) dc_W_compare_64 ?_
      refine zj_iinc C dc_W_compare_65 2 rfl (zn_inc k) (by decide) rfl ?_
      refine zj_goto C dc_W_compare_68 rfl ?_
      refine zj_loc (L' := [(3, .int (nI (k + 1))), (0, .ref (ad 105)), (1, .ref (ad ni)), (2, .int (nI fr))]) [0, 3, 4, 5] rfl ?_
      exact ih (k + 1) _ _ (by omega) (by omega) (va_up_self _ _ _) (fun j hj => by rw [va_up_ne _ _ hj]; exact hfr j hj) (fun i hi => if c9 : i = k then ⟨m, by simp only [upd, if_pos c9], by rw [c9]; exact hm⟩ else (by simp only [upd, if_neg c9]; exact e3 i (by omega)))
  refine zj_iconst (v := 0) C dc_W_compare_0 (by decide) ?_
  refine zj_istore_n C dc_W_compare_1 rfl (by decide) rfl ?_
  refine zj_loc [0, 1, 2, 3] rfl ?_
  exact outer (c - 1) 0 g cm rfl (by omega) hm0 (fun j hj => rfl) (fun i hi => by omega)
/-- a boolean as an int -/
def zb_i (b : Bool) : Int32 := if b then 1 else 0
theorem zb_i0 {b : Bool} (h : zb_i b = 0) : b = false := by
  cases b
  · rfl
  · exact absurd h (by decide)
theorem zb_i1 {b : Bool} (h : ¬ zb_i b = 0) : b = true := by
  cases b
  · exact absurd rfl h
  · rfl
/-- the places of a repeat, taken one after another: how many, whether all have the same before, whether all have the same behind; none: there is one ahead of the first -/
def zp_fold (occ bf bh : Nat → Bool) (fr : Nat) (b0 : Bool) : Nat → Option (Nat × Bool × Bool)
  | 0 => some (0, b0, true)
  | k + 1 => match zp_fold occ bf bh fr b0 k with
    | none => none
    | some (n, a, b) => if occ k then (if k < fr then none else some (n + 1, a && bf k, b && bh k)) else some (n, a, b)
def zp_pres : Option (Nat × Bool × Bool) → Nat
  | none => 0
  | some (n, a, b) => if n < 2 ∨ a = true ∨ b = true then 0 else n
theorem zp_foldS {occ bf bh : Nat → Bool} {fr k n : Nat} {b0 a b : Bool} (h : zp_fold occ bf bh fr b0 k = some (n, a, b)) : zp_fold occ bf bh fr b0 (k + 1) = if occ k then (if k < fr then none else some (n + 1, a && bf k, b && bh k)) else some (n, a, b) := by
  show (match zp_fold occ bf bh fr b0 k with | none => none | some (n, a, b) => _) = _
  rw [h]
theorem zp_fold_none {occ bf bh : Nat → Bool} {fr k : Nat} {b0 : Bool} (h : zp_fold occ bf bh fr b0 k = none) : ∀ d, zp_fold occ bf bh fr b0 (k + d) = none := by
  intro d
  induction d with
  | zero => exact h
  | succ d ih =>
    show (match zp_fold occ bf bh fr b0 (k + d) with | none => none | some (n, a, b) => _) = _
    rw [ih]
set_option maxHeartbeats 4000000 in
set_option maxRecDepth 100000 in
theorem ct_W_placesOfRepeat (l : Launch) (hst : l.stackTraces = false) (z : zv_T) (ad : Nat → Nat) (N : Nat) (g : Nat → va_E) (ni c : Nat) (p q : Nat → Int32) (hn : zs_N z ad g ni 20 c p q) (hni : ni + 2 < 66) (hc : c ≤ 20) (hN : 107 ≤ N) (a1 a2 a3 : Int32) (cm : Nat → Int32) (hs : zs_W z ad g a1 a2 a3 cm) (fr st : Nat) (mm : Nat → Nat) (hm : ∀ k, k < c - 1 → cm k = nI (mm k) ∧ mm k ≤ 19) (hfr : fr < c - 1) (hst2 : st ≤ 19) : zm_i l mn_W_placesOfRepeat ws_W_placesOfRepeat rm_W_placesOfRepeat z ad N g [.ref (ad 105), .ref (ad ni), .int (nI fr), .int (nI st)] (fun r g1 => r = nI (zp_pres (zp_fold (fun k => decide (st ≤ mm k)) (fun k => decide (p (k - 1 + 1) - p (k - 1) = p (fr - 1 + 1) - p (fr - 1))) (fun k => decide (st < mm k)) fr (decide (0 < fr)) (c - 1))) ∧ g1 = g) := by
  obtain ⟨hW, hm0⟩ := hs
  obtain ⟨hn0, hn1, hn2⟩ := hn
  refine zm_ofi hst pn_W_placesOfRepeat rfl (Nat.le_of_ble_eq_true rfl) (fun X hX C => ?_)
  subst hX
  show zj_J X 0 0 _ ad N g 0 [(0, .ref (ad 105)), (1, .ref (ad ni)), (2, .int (nI fr)), (3, .int (nI st))] []
  have loop : ∀ (n : Nat) (k n9 : Nat) (a b : Bool), c - 1 - k = n → k ≤ c - 1 → zp_fold (fun k => decide (st ≤ mm k)) (fun k => decide (p (k - 1 + 1) - p (k - 1) = p (fr - 1 + 1) - p (fr - 1))) (fun k => decide (st < mm k)) fr (decide (0 < fr)) k = some (n9, a, b) → (a = true → 0 < fr) → n9 ≤ k → zj_J X 0 0 (zj_Qi X 0 0 ad N (fun r g1 => r = nI (zp_pres (zp_fold (fun k => decide (st ≤ mm k)) (fun k => decide (p (k - 1 + 1) - p (k - 1) = p (fr - 1 + 1) - p (fr - 1))) (fun k => decide (st < mm k)) fr (decide (0 < fr)) (c - 1))) ∧ g1 = g)) ad N g 20 [(7, .int (nI k)), (6, .int (zb_i b)), (5, .int (zb_i a)), (4, .int (nI n9)), (0, .ref (ad 105)), (1, .ref (ad ni)), (2, .int (nI fr)), (3, .int (nI st))] [] := by
    intro n
    induction n with
    | zero =>
      intro k n9 a b e1 e2 e3 e4 e5
      refine zj_iload C dc_W_placesOfRepeat_20 0 rfl ?_
      refine zj_aload_n C dc_W_placesOfRepeat_22 rfl 5 rfl ?_
      refine zj_Vi C (ct_N_steps _ hst z ad N g ni 20 c p q (by omega) ⟨hn0, hn1, hn2⟩ (by decide) (by omega)) gv_W_15 rfl rfl rfl hd_N_steps ⟨(Nat.le_of_ble_eq_true rfl), (Nat.le_of_ble_eq_true rfl)⟩ (by omega) hn0 rfl rfl rfl (Nat.le_of_ble_eq_true rfl) ⟨(Nat.le_of_ble_eq_true rfl), (Nat.le_of_ble_eq_true rfl)⟩ dc_W_placesOfRepeat_23 (fun r1 g9 h1 => ?_)
      obtain ⟨rfl, hg9⟩ := h1
      rw [hg9]
      refine zj_icmp_ge C dc_W_placesOfRepeat_26 rfl (fun _ => ?_) (fun h => absurd h (not_not_intro ((nI_leI (by omega) (by omega)).mpr (by omega))))
      refine zj_iload C dc_W_placesOfRepeat_110 3 rfl ?_
      refine zj_iconst (v := 2) C dc_W_placesOfRepeat_112 (by decide) ?_
      refine zj_icmp_lt C dc_W_placesOfRepeat_113 rfl (fun h113 => ?_) (fun h113 => ?_)
      · have h113 := (nI_ltI (b := 2) (by omega) (by omega)).mp h113
        refine zj_iconst (v := 0) C dc_W_placesOfRepeat_131 (by decide) ?_
        exact zj_iret C dc_W_placesOfRepeat_132 ⟨by rw [show c - 1 = k by omega, e3]; show _ = nI (if _ then _ else _); rw [if_pos (Or.inl h113)]; rfl, rfl⟩
      · have h113 := (zn_nlt (b := 2) (by omega) (by omega)).mp h113
        refine zj_iload C dc_W_placesOfRepeat_116 2 rfl ?_
        refine zj_if_ne C dc_W_placesOfRepeat_118 rfl (fun h118 => ?_) (fun h118 => ?_)
        · obtain rfl : a = true := zb_i1 h118
          refine zj_iconst (v := 0) C dc_W_placesOfRepeat_131 (by decide) ?_
          exact zj_iret C dc_W_placesOfRepeat_132 ⟨by rw [show c - 1 = k by omega, e3]; show _ = nI (if _ then _ else _); rw [if_pos (Or.inr (Or.inl rfl))]; rfl, rfl⟩
        · obtain rfl : a = false := zb_i0 h118
          refine zj_iload C dc_W_placesOfRepeat_121 1 rfl ?_
          refine zj_if_ne C dc_W_placesOfRepeat_123 rfl (fun h123 => ?_) (fun h123 => ?_)
          · obtain rfl : b = true := zb_i1 h123
            refine zj_iconst (v := 0) C dc_W_placesOfRepeat_131 (by decide) ?_
            exact zj_iret C dc_W_placesOfRepeat_132 ⟨by rw [show c - 1 = k by omega, e3]; show _ = nI (if _ then _ else _); rw [if_pos (Or.inr (Or.inr rfl))]; rfl, rfl⟩
          · obtain rfl : b = false := zb_i0 h123
            refine zj_iload C dc_W_placesOfRepeat_126 3 rfl ?_
            refine zj_goto C dc_W_placesOfRepeat_128 rfl ?_
            exact zj_iret C dc_W_placesOfRepeat_132 ⟨by rw [show c - 1 = k by omega, e3]; show _ = nI (if _ then _ else _); rw [if_neg (by simp; omega)], rfl⟩
    | succ n ih =>
      intro k n9 a b e1 e2 e3 e4 e5
      refine zj_iload C dc_W_placesOfRepeat_20 0 rfl ?_
      refine zj_aload_n C dc_W_placesOfRepeat_22 rfl 5 rfl ?_
      refine zj_Vi C (ct_N_steps _ hst z ad N g ni 20 c p q (by omega) ⟨hn0, hn1, hn2⟩ (by decide) (by omega)) gv_W_15 rfl rfl rfl hd_N_steps ⟨(Nat.le_of_ble_eq_true rfl), (Nat.le_of_ble_eq_true rfl)⟩ (by omega) hn0 rfl rfl rfl (Nat.le_of_ble_eq_true rfl) ⟨(Nat.le_of_ble_eq_true rfl), (Nat.le_of_ble_eq_true rfl)⟩ dc_W_placesOfRepeat_23 (fun r1 g9 h1 => ?_)
      obtain ⟨rfl, hg9⟩ := h1
      rw [hg9]
      refine zj_icmp_ge C dc_W_placesOfRepeat_26 rfl (fun h => absurd h (((zn_nle (by omega) (by omega)).mpr (by omega)))) (fun _ => ?_)
      refine zj_aload_n C dc_W_placesOfRepeat_29 rfl 4 rfl ?_
      refine zj_get (k := 0) C (by omega) hW rfl (by decide) fw_W fl_W_9 rfl rfl dc_W_placesOfRepeat_30 ?_
      refine zj_iload C dc_W_placesOfRepeat_33 0 rfl ?_
      refine zj_iald C (by omega) hm0 rfl (by omega) (by decide) dc_W_placesOfRepeat_35 ?_
      refine zj_topi ((hm k (by omega)).1) ?_
      refine zj_iload_n C dc_W_placesOfRepeat_36 rfl 7 rfl ?_
      refine zj_icmp_lt C dc_W_placesOfRepeat_37 rfl (fun h37 => ?_) (fun h37 => ?_)
      · have h37 := (nI_ltI (by have := (hm k (by omega)).2; omega) (by omega)).mp h37
        refine zj_iinc C dc_W_placesOfRepeat_104 0 rfl (zn_inc k) (by decide) rfl ?_
        refine zj_goto C dc_W_placesOfRepeat_107 rfl ?_
        refine zj_loc (L' := [(7, .int (nI (k + 1))), (6, .int (zb_i b)), (5, .int (zb_i a)), (4, .int (nI n9)), (0, .ref (ad 105)), (1, .ref (ad ni)), (2, .int (nI fr)), (3, .int (nI st))]) [0, 1, 2, 3, 4, 5, 6, 7] rfl ?_
        exact ih (k + 1) n9 a b (by omega) (by omega) (by rw [zp_foldS e3]; rw [if_neg (by rw [decide_eq_false (Nat.not_le.mpr h37)]; exact Bool.false_ne_true)]) e4 (by omega)
      · have h37 := (zn_nlt (by have := (hm k (by omega)).2; omega) (by omega)).mp h37
        refine zj_iload C dc_W_placesOfRepeat_40 0 rfl ?_
        refine zj_iload_n C dc_W_placesOfRepeat_42 rfl 6 rfl ?_
        refine zj_icmp_ge C dc_W_placesOfRepeat_43 rfl (fun h43 => ?_) (fun h43 => ?_)
        · have h43 := (nI_leI (by omega) (by omega)).mp h43
          refine zj_iinc C dc_W_placesOfRepeat_48 3 rfl (zn_inc n9) (by decide) rfl ?_
          refine zj_iload C dc_W_placesOfRepeat_51 3 rfl ?_
          refine zj_if_eq C dc_W_placesOfRepeat_53 rfl (fun h53 => ?_) (fun h53 => ?_)
          · obtain rfl : a = false := zb_i0 h53
            refine zj_iconst (v := 0) C dc_W_placesOfRepeat_78 (by decide) ?_
            refine zj_istore C dc_W_placesOfRepeat_79 (by decide) rfl ?_
            refine zj_iload C dc_W_placesOfRepeat_81 3 rfl ?_
            refine zj_if_eq C dc_W_placesOfRepeat_83 rfl (fun h83 => ?_) (fun h83 => ?_)
            · obtain rfl : b = false := zb_i0 h83
              refine zj_iconst (v := 0) C dc_W_placesOfRepeat_101 (by decide) ?_
              refine zj_istore C dc_W_placesOfRepeat_102 (by decide) rfl ?_
              refine zj_iinc C dc_W_placesOfRepeat_104 3 rfl (zn_inc k) (by decide) rfl ?_
              refine zj_goto C dc_W_placesOfRepeat_107 rfl ?_
              refine zj_loc (L' := [(7, .int (nI (k + 1))), (6, .int (zb_i false)), (5, .int (zb_i false)), (4, .int (nI (n9 + 1))), (0, .ref (ad 105)), (1, .ref (ad ni)), (2, .int (nI fr)), (3, .int (nI st))]) [0, 1, 2, 3, 4, 5, 6, 7] rfl ?_
              exact ih (k + 1) (n9 + 1) false false (by omega) (by omega) (by rw [zp_foldS e3]; rw [if_pos (decide_eq_true h37), if_neg (show ¬ k < fr by omega)]; simp only [Bool.false_and, Bool.true_and]) (fun h => by cases h) (by omega)
            · obtain rfl : b = true := zb_i1 h83
              refine zj_aload_n C dc_W_placesOfRepeat_86 rfl 4 rfl ?_
              refine zj_get (k := 0) C (by omega) hW rfl (by decide) fw_W fl_W_9 rfl rfl dc_W_placesOfRepeat_87 ?_
              refine zj_iload C dc_W_placesOfRepeat_90 2 rfl ?_
              refine zj_iald C (by omega) hm0 rfl (by omega) (by decide) dc_W_placesOfRepeat_92 ?_
              refine zj_topi ((hm k (by omega)).1) ?_
              refine zj_iload_n C dc_W_placesOfRepeat_93 rfl 7 rfl ?_
              refine zj_icmp_le C dc_W_placesOfRepeat_94 rfl (fun h94 => ?_) (fun h94 => ?_)
              · have h94 := (nI_leI (by have := (hm k (by omega)).2; omega) (by omega)).mp h94
                refine zj_iconst (v := 0) C dc_W_placesOfRepeat_101 (by decide) ?_
                refine zj_istore C dc_W_placesOfRepeat_102 (by decide) rfl ?_
                refine zj_iinc C dc_W_placesOfRepeat_104 3 rfl (zn_inc k) (by decide) rfl ?_
                refine zj_goto C dc_W_placesOfRepeat_107 rfl ?_
                refine zj_loc (L' := [(7, .int (nI (k + 1))), (6, .int (zb_i false)), (5, .int (zb_i false)), (4, .int (nI (n9 + 1))), (0, .ref (ad 105)), (1, .ref (ad ni)), (2, .int (nI fr)), (3, .int (nI st))]) [0, 1, 2, 3, 4, 5, 6, 7] rfl ?_
                exact ih (k + 1) (n9 + 1) false false (by omega) (by omega) (by rw [zp_foldS e3]; rw [if_pos (decide_eq_true h37), if_neg (show ¬ k < fr by omega)]; simp only [Bool.false_and, Bool.true_and, decide_eq_false (Nat.not_lt.mpr h94)]) (fun h => by cases h) (by omega)
              · have h94 := (zn_nle (by have := (hm k (by omega)).2; omega) (by omega)).mp h94
                refine zj_iconst (v := 1) C dc_W_placesOfRepeat_97 (by decide) ?_
                refine zj_goto C dc_W_placesOfRepeat_98 rfl ?_
                refine zj_istore C dc_W_placesOfRepeat_102 (by decide) rfl ?_
                refine zj_iinc C dc_W_placesOfRepeat_104 3 rfl (zn_inc k) (by decide) rfl ?_
                refine zj_goto C dc_W_placesOfRepeat_107 rfl ?_
                refine zj_loc (L' := [(7, .int (nI (k + 1))), (6, .int (zb_i true)), (5, .int (zb_i false)), (4, .int (nI (n9 + 1))), (0, .ref (ad 105)), (1, .ref (ad ni)), (2, .int (nI fr)), (3, .int (nI st))]) [0, 1, 2, 3, 4, 5, 6, 7] rfl ?_
                exact ih (k + 1) (n9 + 1) false true (by omega) (by omega) (by rw [zp_foldS e3]; rw [if_pos (decide_eq_true h37), if_neg (show ¬ k < fr by omega)]; simp only [Bool.false_and, Bool.true_and, decide_eq_true h94]) (fun h => by cases h) (by omega)
          · obtain rfl : a = true := zb_i1 h53
            refine zj_aload_n C dc_W_placesOfRepeat_56 rfl 5 rfl ?_
            refine zj_iload C dc_W_placesOfRepeat_57 1 rfl ?_
            refine zj_iconst (v := 1) C dc_W_placesOfRepeat_59 (by decide) ?_
            refine zj_isub C dc_W_placesOfRepeat_60 ?_
            refine zj_topi (zn_m1 (by have := e4 rfl; omega)) ?_
            refine zj_Vi C (ct_N_stepBehind _ hst z ad N g ni 20 c p q (by omega) ⟨hn0, hn1, hn2⟩ (by decide) (k - 1) (by omega)) gv_W_45 rfl rfl rfl hd_N_stepBehind ⟨(Nat.le_of_ble_eq_true rfl), (Nat.le_of_ble_eq_true rfl)⟩ (by omega) hn0 rfl rfl rfl (Nat.le_of_ble_eq_true rfl) ⟨(Nat.le_of_ble_eq_true rfl), (Nat.le_of_ble_eq_true rfl)⟩ dc_W_placesOfRepeat_61 (fun r1 g9 h1 => ?_)
            obtain ⟨rfl, hg9⟩ := h1
            rw [hg9]
            refine zj_aload_n C dc_W_placesOfRepeat_64 rfl 5 rfl ?_
            refine zj_iload_n C dc_W_placesOfRepeat_65 rfl 6 rfl ?_
            refine zj_iconst (v := 1) C dc_W_placesOfRepeat_66 (by decide) ?_
            refine zj_isub C dc_W_placesOfRepeat_67 ?_
            refine zj_topi (zn_m1 (by have := e4 rfl; omega)) ?_
            refine zj_Vi C (ct_N_stepBehind _ hst z ad N g ni 20 c p q (by omega) ⟨hn0, hn1, hn2⟩ (by decide) (fr - 1) (by omega)) gv_W_45 rfl rfl rfl hd_N_stepBehind ⟨(Nat.le_of_ble_eq_true rfl), (Nat.le_of_ble_eq_true rfl)⟩ (by omega) hn0 rfl rfl rfl (Nat.le_of_ble_eq_true rfl) ⟨(Nat.le_of_ble_eq_true rfl), (Nat.le_of_ble_eq_true rfl)⟩ dc_W_placesOfRepeat_68 (fun r2 g9 h1 => ?_)
            obtain ⟨rfl, hg9⟩ := h1
            rw [hg9]
            refine zj_icmp_ne C dc_W_placesOfRepeat_71 rfl (fun h71 => ?_) (fun h71 => ?_)
            · skip
              refine zj_iconst (v := 0) C dc_W_placesOfRepeat_78 (by decide) ?_
              refine zj_istore C dc_W_placesOfRepeat_79 (by decide) rfl ?_
              refine zj_iload C dc_W_placesOfRepeat_81 3 rfl ?_
              refine zj_if_eq C dc_W_placesOfRepeat_83 rfl (fun h83 => ?_) (fun h83 => ?_)
              · obtain rfl : b = false := zb_i0 h83
                refine zj_iconst (v := 0) C dc_W_placesOfRepeat_101 (by decide) ?_
                refine zj_istore C dc_W_placesOfRepeat_102 (by decide) rfl ?_
                refine zj_iinc C dc_W_placesOfRepeat_104 3 rfl (zn_inc k) (by decide) rfl ?_
                refine zj_goto C dc_W_placesOfRepeat_107 rfl ?_
                refine zj_loc (L' := [(7, .int (nI (k + 1))), (6, .int (zb_i false)), (5, .int (zb_i false)), (4, .int (nI (n9 + 1))), (0, .ref (ad 105)), (1, .ref (ad ni)), (2, .int (nI fr)), (3, .int (nI st))]) [0, 1, 2, 3, 4, 5, 6, 7] rfl ?_
                exact ih (k + 1) (n9 + 1) false false (by omega) (by omega) (by rw [zp_foldS e3]; rw [if_pos (decide_eq_true h37), if_neg (show ¬ k < fr by omega)]; simp only [Bool.false_and, Bool.true_and, decide_eq_false h71]) (fun h => by cases h) (by omega)
              · obtain rfl : b = true := zb_i1 h83
                refine zj_aload_n C dc_W_placesOfRepeat_86 rfl 4 rfl ?_
                refine zj_get (k := 0) C (by omega) hW rfl (by decide) fw_W fl_W_9 rfl rfl dc_W_placesOfRepeat_87 ?_
                refine zj_iload C dc_W_placesOfRepeat_90 2 rfl ?_
                refine zj_iald C (by omega) hm0 rfl (by omega) (by decide) dc_W_placesOfRepeat_92 ?_
                refine zj_topi ((hm k (by omega)).1) ?_
                refine zj_iload_n C dc_W_placesOfRepeat_93 rfl 7 rfl ?_
                refine zj_icmp_le C dc_W_placesOfRepeat_94 rfl (fun h94 => ?_) (fun h94 => ?_)
                · have h94 := (nI_leI (by have := (hm k (by omega)).2; omega) (by omega)).mp h94
                  refine zj_iconst (v := 0) C dc_W_placesOfRepeat_101 (by decide) ?_
                  refine zj_istore C dc_W_placesOfRepeat_102 (by decide) rfl ?_
                  refine zj_iinc C dc_W_placesOfRepeat_104 3 rfl (zn_inc k) (by decide) rfl ?_
                  refine zj_goto C dc_W_placesOfRepeat_107 rfl ?_
                  refine zj_loc (L' := [(7, .int (nI (k + 1))), (6, .int (zb_i false)), (5, .int (zb_i false)), (4, .int (nI (n9 + 1))), (0, .ref (ad 105)), (1, .ref (ad ni)), (2, .int (nI fr)), (3, .int (nI st))]) [0, 1, 2, 3, 4, 5, 6, 7] rfl ?_
                  exact ih (k + 1) (n9 + 1) false false (by omega) (by omega) (by rw [zp_foldS e3]; rw [if_pos (decide_eq_true h37), if_neg (show ¬ k < fr by omega)]; simp only [Bool.false_and, Bool.true_and, decide_eq_false h71, decide_eq_false (Nat.not_lt.mpr h94)]) (fun h => by cases h) (by omega)
                · have h94 := (zn_nle (by have := (hm k (by omega)).2; omega) (by omega)).mp h94
                  refine zj_iconst (v := 1) C dc_W_placesOfRepeat_97 (by decide) ?_
                  refine zj_goto C dc_W_placesOfRepeat_98 rfl ?_
                  refine zj_istore C dc_W_placesOfRepeat_102 (by decide) rfl ?_
                  refine zj_iinc C dc_W_placesOfRepeat_104 3 rfl (zn_inc k) (by decide) rfl ?_
                  refine zj_goto C dc_W_placesOfRepeat_107 rfl ?_
                  refine zj_loc (L' := [(7, .int (nI (k + 1))), (6, .int (zb_i true)), (5, .int (zb_i false)), (4, .int (nI (n9 + 1))), (0, .ref (ad 105)), (1, .ref (ad ni)), (2, .int (nI fr)), (3, .int (nI st))]) [0, 1, 2, 3, 4, 5, 6, 7] rfl ?_
                  exact ih (k + 1) (n9 + 1) false true (by omega) (by omega) (by rw [zp_foldS e3]; rw [if_pos (decide_eq_true h37), if_neg (show ¬ k < fr by omega)]; simp only [Bool.false_and, Bool.true_and, decide_eq_false h71, decide_eq_true h94]) (fun h => by cases h) (by omega)
            · skip
              refine zj_iconst (v := 1) C dc_W_placesOfRepeat_74 (by decide) ?_
              refine zj_goto C dc_W_placesOfRepeat_75 rfl ?_
              refine zj_istore C dc_W_placesOfRepeat_79 (by decide) rfl ?_
              refine zj_iload C dc_W_placesOfRepeat_81 3 rfl ?_
              refine zj_if_eq C dc_W_placesOfRepeat_83 rfl (fun h83 => ?_) (fun h83 => ?_)
              · obtain rfl : b = false := zb_i0 h83
                refine zj_iconst (v := 0) C dc_W_placesOfRepeat_101 (by decide) ?_
                refine zj_istore C dc_W_placesOfRepeat_102 (by decide) rfl ?_
                refine zj_iinc C dc_W_placesOfRepeat_104 3 rfl (zn_inc k) (by decide) rfl ?_
                refine zj_goto C dc_W_placesOfRepeat_107 rfl ?_
                refine zj_loc (L' := [(7, .int (nI (k + 1))), (6, .int (zb_i false)), (5, .int (zb_i true)), (4, .int (nI (n9 + 1))), (0, .ref (ad 105)), (1, .ref (ad ni)), (2, .int (nI fr)), (3, .int (nI st))]) [0, 1, 2, 3, 4, 5, 6, 7] rfl ?_
                exact ih (k + 1) (n9 + 1) true false (by omega) (by omega) (by rw [zp_foldS e3]; rw [if_pos (decide_eq_true h37), if_neg (show ¬ k < fr by omega)]; simp only [Bool.false_and, Bool.true_and, decide_eq_true h71]) (fun _ => e4 rfl) (by omega)
              · obtain rfl : b = true := zb_i1 h83
                refine zj_aload_n C dc_W_placesOfRepeat_86 rfl 4 rfl ?_
                refine zj_get (k := 0) C (by omega) hW rfl (by decide) fw_W fl_W_9 rfl rfl dc_W_placesOfRepeat_87 ?_
                refine zj_iload C dc_W_placesOfRepeat_90 2 rfl ?_
                refine zj_iald C (by omega) hm0 rfl (by omega) (by decide) dc_W_placesOfRepeat_92 ?_
                refine zj_topi ((hm k (by omega)).1) ?_
                refine zj_iload_n C dc_W_placesOfRepeat_93 rfl 7 rfl ?_
                refine zj_icmp_le C dc_W_placesOfRepeat_94 rfl (fun h94 => ?_) (fun h94 => ?_)
                · have h94 := (nI_leI (by have := (hm k (by omega)).2; omega) (by omega)).mp h94
                  refine zj_iconst (v := 0) C dc_W_placesOfRepeat_101 (by decide) ?_
                  refine zj_istore C dc_W_placesOfRepeat_102 (by decide) rfl ?_
                  refine zj_iinc C dc_W_placesOfRepeat_104 3 rfl (zn_inc k) (by decide) rfl ?_
                  refine zj_goto C dc_W_placesOfRepeat_107 rfl ?_
                  refine zj_loc (L' := [(7, .int (nI (k + 1))), (6, .int (zb_i false)), (5, .int (zb_i true)), (4, .int (nI (n9 + 1))), (0, .ref (ad 105)), (1, .ref (ad ni)), (2, .int (nI fr)), (3, .int (nI st))]) [0, 1, 2, 3, 4, 5, 6, 7] rfl ?_
                  exact ih (k + 1) (n9 + 1) true false (by omega) (by omega) (by rw [zp_foldS e3]; rw [if_pos (decide_eq_true h37), if_neg (show ¬ k < fr by omega)]; simp only [Bool.false_and, Bool.true_and, decide_eq_true h71, decide_eq_false (Nat.not_lt.mpr h94)]) (fun _ => e4 rfl) (by omega)
                · have h94 := (zn_nle (by have := (hm k (by omega)).2; omega) (by omega)).mp h94
                  refine zj_iconst (v := 1) C dc_W_placesOfRepeat_97 (by decide) ?_
                  refine zj_goto C dc_W_placesOfRepeat_98 rfl ?_
                  refine zj_istore C dc_W_placesOfRepeat_102 (by decide) rfl ?_
                  refine zj_iinc C dc_W_placesOfRepeat_104 3 rfl (zn_inc k) (by decide) rfl ?_
                  refine zj_goto C dc_W_placesOfRepeat_107 rfl ?_
                  refine zj_loc (L' := [(7, .int (nI (k + 1))), (6, .int (zb_i true)), (5, .int (zb_i true)), (4, .int (nI (n9 + 1))), (0, .ref (ad 105)), (1, .ref (ad ni)), (2, .int (nI fr)), (3, .int (nI st))]) [0, 1, 2, 3, 4, 5, 6, 7] rfl ?_
                  exact ih (k + 1) (n9 + 1) true true (by omega) (by omega) (by rw [zp_foldS e3]; rw [if_pos (decide_eq_true h37), if_neg (show ¬ k < fr by omega)]; simp only [Bool.false_and, Bool.true_and, decide_eq_true h71, decide_eq_true h94]) (fun _ => e4 rfl) (by omega)
        · have h43 := (zn_nle (by omega) (by omega)).mp h43
          refine zj_iconst (v := 0) C dc_W_placesOfRepeat_46 (by decide) ?_
          exact zj_iret C dc_W_placesOfRepeat_47 ⟨by have h9 := zp_foldS e3; rw [if_pos (decide_eq_true h37), if_pos h43] at h9; have h10 := zp_fold_none h9 (c - 1 - (k + 1)); rw [show k + 1 + (c - 1 - (k + 1)) = c - 1 by omega] at h10; rw [h10]; rfl, rfl⟩
  refine zj_iconst (v := 0) C dc_W_placesOfRepeat_0 (by decide) ?_
  refine zj_istore C dc_W_placesOfRepeat_1 (by decide) rfl ?_
  refine zj_iload_n C dc_W_placesOfRepeat_3 rfl 3 rfl ?_
  refine zj_if_le C dc_W_placesOfRepeat_4 rfl (fun h4 => ?_) (fun h4 => ?_)
  · have h4 : ¬ 0 < fr := by have := (zn_le0 (by omega)).mp h4; omega
    refine zj_iconst (v := 0) C dc_W_placesOfRepeat_11 (by decide) ?_
    refine zj_istore C dc_W_placesOfRepeat_12 (by decide) rfl ?_
    refine zj_iconst (v := 1) C dc_W_placesOfRepeat_14 (by decide) ?_
    refine zj_istore C dc_W_placesOfRepeat_15 (by decide) rfl ?_
    refine zj_iconst (v := 0) C dc_W_placesOfRepeat_17 (by decide) ?_
    refine zj_istore C dc_W_placesOfRepeat_18 (by decide) rfl ?_
    refine zj_loc (L' := [(7, .int (nI 0)), (6, .int (zb_i true)), (5, .int (zb_i (decide (0 < fr)))), (4, .int (nI 0)), (0, .ref (ad 105)), (1, .ref (ad ni)), (2, .int (nI fr)), (3, .int (nI st))]) [0, 1, 2, 3, 4, 5, 6, 7] (by rw [decide_eq_false h4]; rfl) ?_
    exact loop (c - 1) 0 0 (decide (0 < fr)) true rfl (by omega) rfl (fun h => of_decide_eq_true h) (by omega)
  · have h4 : 0 < fr := Nat.pos_of_ne_zero (fun e => h4 ((zn_le0 (by omega)).mpr e))
    refine zj_iconst (v := 1) C dc_W_placesOfRepeat_7 (by decide) ?_
    refine zj_goto C dc_W_placesOfRepeat_8 rfl ?_
    refine zj_istore C dc_W_placesOfRepeat_12 (by decide) rfl ?_
    refine zj_iconst (v := 1) C dc_W_placesOfRepeat_14 (by decide) ?_
    refine zj_istore C dc_W_placesOfRepeat_15 (by decide) rfl ?_
    refine zj_iconst (v := 0) C dc_W_placesOfRepeat_17 (by decide) ?_
    refine zj_istore C dc_W_placesOfRepeat_18 (by decide) rfl ?_
    refine zj_loc (L' := [(7, .int (nI 0)), (6, .int (zb_i true)), (5, .int (zb_i (decide (0 < fr)))), (4, .int (nI 0)), (0, .ref (ad 105)), (1, .ref (ad ni)), (2, .int (nI fr)), (3, .int (nI st))]) [0, 1, 2, 3, 4, 5, 6, 7] (by rw [decide_eq_true h4]; rfl) ?_
    exact loop (c - 1) 0 0 (decide (0 < fr)) true rfl (by omega) rfl (fun h => of_decide_eq_true h) (by omega)
theorem zp_sk {S : Nat} {P : Nat → Nat → Prop} (h : ∀ k, k < S → ∃ m, P k m) : ∃ f : Nat → Nat, ∀ k, k < S → P k (f k) :=
  ⟨fun k => if h' : k < S then Classical.choose (h k h') else 0, fun k hk => by dsimp only; rw [dif_pos hk]; exact Classical.choose_spec (h k hk)⟩
theorem zp_fold_eq {occ bf bh occ' bf' bh' : Nat → Bool} {fr : Nat} {b0 : Bool} : ∀ {n : Nat}, (∀ k, k < n → occ k = occ' k ∧ bf k = bf' k ∧ bh k = bh' k) → zp_fold occ bf bh fr b0 n = zp_fold occ' bf' bh' fr b0 n := by
  intro n
  induction n with
  | zero => intro _; rfl
  | succ n ih =>
    intro h
    obtain ⟨h1, h2, h3⟩ := h n (by omega)
    show (match zp_fold occ bf bh fr b0 n with | none => none | some (n', a, b) => if occ n then (if n < fr then none else some (n' + 1, a && bf n, b && bh n)) else some (n', a, b)) = (match zp_fold occ' bf' bh' fr b0 n with | none => none | some (n', a, b) => if occ' n then (if n < fr then none else some (n' + 1, a && bf' n, b && bh' n)) else some (n', a, b))
    rw [ih (fun k hk => h k (by omega)), h1, h2, h3]
theorem zp_fold_n {occ bf bh : Nat → Bool} {fr : Nat} {b0 : Bool} : ∀ {k n : Nat} {a b : Bool}, zp_fold occ bf bh fr b0 k = some (n, a, b) → n ≤ k := by
  intro k
  induction k with
  | zero => intro n a b h; cases h; exact Nat.le_refl _
  | succ k ih =>
    intro n a b h
    cases e : zp_fold occ bf bh fr b0 k with
    | none => rw [zp_fold_none e 1] at h; cases h
    | some x =>
      obtain ⟨n', a', b'⟩ := x
      have h1 := ih e
      rw [zp_foldS e] at h
      split at h
      · split at h
        · cases h
        · cases h; omega
      · cases h; omega
theorem zp_pres_le {occ bf bh : Nat → Bool} {fr k : Nat} {b0 : Bool} : zp_pres (zp_fold occ bf bh fr b0 k) ≤ k := by
  cases e : zp_fold occ bf bh fr b0 k with
  | none => exact Nat.zero_le _
  | some x =>
    obtain ⟨n, a, b⟩ := x
    have := zp_fold_n e
    show (if _ then 0 else n) ≤ k
    split <;> omega
/-- the st steps from fr on come at k too -/
def zp_oc (p : Nat → Int32) (S fr st : Nat) : Nat → Bool := fun k => decide (st ≤ S - (if fr < k then k else fr) ∧ ∀ t, t < st → zp_es p fr k t = true)
/-- at how many places the repeat of st steps from fr on is; 0: there is none -/
def zp_T (p : Nat → Int32) (S fr st : Nat) : Nat := zp_pres (zp_fold (zp_oc p S fr st) (fun k => decide (p (k - 1 + 1) - p (k - 1) = p (fr - 1 + 1) - p (fr - 1))) (zp_oc p S fr (st + 1)) fr (decide (0 < fr)) S)
theorem zp_T_mm {p : Nat → Int32} {S fr st : Nat} {mm : Nat → Nat} (h : ∀ k, k < S → zp_ld (zp_es p fr k) (S - (if fr < k then k else fr)) (mm k)) : zp_pres (zp_fold (fun k => decide (st ≤ mm k)) (fun k => decide (p (k - 1 + 1) - p (k - 1) = p (fr - 1 + 1) - p (fr - 1))) (fun k => decide (st < mm k)) fr (decide (0 < fr)) S) = zp_T p S fr st := by
  unfold zp_T
  congr 1
  refine zp_fold_eq (fun k hk => ⟨?_, rfl, ?_⟩)
  · exact decide_eq_decide.mpr (zp_ld_ge (h k hk))
  · exact decide_eq_decide.mpr (zp_ld_ge (n := st + 1) (h k hk))
/-- the repeats in their order -/
def zp_ei (T : Nat → Nat → Nat) (fr : Nat) : Nat → Nat → List (Nat × Nat × Nat)
  | _, 0 => []
  | st, n + 1 => (if 0 < T fr st then [(fr, st, T fr st)] else []) ++ zp_ei T fr (st + 1) n
def zp_eo (T : Nat → Nat → Nat) (S le : Nat) : Nat → Nat → List (Nat × Nat × Nat)
  | _, 0 => []
  | fr, n + 1 => zp_ei T fr le (S + 1 - fr - le) ++ zp_eo T S le (fr + 1) n
theorem zp_eiS (T : Nat → Nat → Nat) (fr st n : Nat) : zp_ei T fr st (n + 1) = (if 0 < T fr st then [(fr, st, T fr st)] else []) ++ zp_ei T fr (st + 1) n := rfl
set_option maxHeartbeats 4000000 in
set_option maxRecDepth 100000 in
theorem ct_W_walk (l : Launch) (hst : l.stackTraces = false) (z : zv_T) (ad : Nat → Nat) (N : Nat) (g : Nat → va_E) (ni c : Nat) (p q : Nat → Int32) (hn : zs_N z ad g ni 20 c p q) (hni : ni + 2 < 66) (hc : c ≤ 20) (hN : 107 ≤ N) (a1 a2 a3 : Int32) (cm : Nat → Int32) (hs : zs_W z ad g a1 a2 a3 cm) (le : Nat) (w : Int32) (hle : 1 ≤ le) (hle2 : le ≤ 19) : zm_i l mn_W_walk ws_W_walk rm_W_walk z ad N g [.ref (ad 105), .ref (ad ni), .int (nI le), .int w] (fun r g1 => ((∃ j x, (zp_eo (zp_T p (c - 1)) (c - 1) le 0 (c - 1))[j]? = some x ∧ nI j = w ∧ r = nI (j + 1) ∧ ∃ cm2, zs_W z ad g1 (nI x.1) (nI x.2.1) (nI x.2.2) cm2) ∨ ((∀ j, j < (zp_eo (zp_T p (c - 1)) (c - 1) le 0 (c - 1)).length → ¬ nI j = w) ∧ r = nI (zp_eo (zp_T p (c - 1)) (c - 1) le 0 (c - 1)).length ∧ ∃ cm2, zs_W z ad g1 a1 a2 a3 cm2)) ∧ ∀ j, j ≠ 105 → j ≠ 106 → g1 j = g j) := by
  obtain ⟨hW, hm0⟩ := hs
  obtain ⟨hn0, hn1, hn2⟩ := hn
  refine zm_ofi hst pn_W_walk rfl (Nat.le_of_ble_eq_true rfl) (fun X hX C => ?_)
  subst hX
  show zj_J X 0 0 _ ad N g 0 [(0, .ref (ad 105)), (1, .ref (ad ni)), (2, .int (nI le)), (3, .int w)] []
  have inner : ∀ (n : Nat) (st fr m : Nat) (D : List (Nat × Nat × Nat)) (g2 : Nat → va_E) (cm2 : Nat → Int32) (mm : Nat → Nat), c - 1 + 1 - fr - st = n → 1 ≤ st → st ≤ 20 → fr < c - 1 → zs_W z ad g2 a1 a2 a3 cm2 → (∀ k, k < c - 1 → cm2 k = nI (mm k) ∧ zp_ld (zp_es p fr k) (c - 1 - (if fr < k then k else fr)) (mm k)) → (∀ j, j ≠ 105 → j ≠ 106 → g2 j = g j) → (zp_eo (zp_T p (c - 1)) (c - 1) le 0 (c - 1)) = D ++ (zp_ei (zp_T p (c - 1)) fr st (c - 1 + 1 - fr - st) ++ zp_eo (zp_T p (c - 1)) (c - 1) le (fr + 1) m) → (∀ j, j < D.length → ¬ nI j = w) → (∀ (D : List (Nat × Nat × Nat)) (s9 : Nat), (zp_eo (zp_T p (c - 1)) (c - 1) le 0 (c - 1)) = D ++ zp_eo (zp_T p (c - 1)) (c - 1) le (fr + 1) m → (∀ j, j < D.length → ¬ nI j = w) → zj_J X 0 0 (zj_Qi X 0 0 ad N (fun r g1 => ((∃ j x, (zp_eo (zp_T p (c - 1)) (c - 1) le 0 (c - 1))[j]? = some x ∧ nI j = w ∧ r = nI (j + 1) ∧ ∃ cm2, zs_W z ad g1 (nI x.1) (nI x.2.1) (nI x.2.2) cm2) ∨ ((∀ j, j < (zp_eo (zp_T p (c - 1)) (c - 1) le 0 (c - 1)).length → ¬ nI j = w) ∧ r = nI (zp_eo (zp_T p (c - 1)) (c - 1) le 0 (c - 1)).length ∧ ∃ cm2, zs_W z ad g1 a1 a2 a3 cm2)) ∧ ∀ j, j ≠ 105 → j ≠ 106 → g1 j = g j)) ad N g2 91 [(6, .int (nI s9)), (4, .int (nI D.length)), (5, .int (nI fr)), (0, .ref (ad 105)), (1, .ref (ad ni)), (2, .int (nI le)), (3, .int w)] []) → zj_J X 0 0 (zj_Qi X 0 0 ad N (fun r g1 => ((∃ j x, (zp_eo (zp_T p (c - 1)) (c - 1) le 0 (c - 1))[j]? = some x ∧ nI j = w ∧ r = nI (j + 1) ∧ ∃ cm2, zs_W z ad g1 (nI x.1) (nI x.2.1) (nI x.2.2) cm2) ∨ ((∀ j, j < (zp_eo (zp_T p (c - 1)) (c - 1) le 0 (c - 1)).length → ¬ nI j = w) ∧ r = nI (zp_eo (zp_T p (c - 1)) (c - 1) le 0 (c - 1)).length ∧ ∃ cm2, zs_W z ad g1 a1 a2 a3 cm2)) ∧ ∀ j, j ≠ 105 → j ≠ 106 → g1 j = g j)) ad N g2 25 [(6, .int (nI st)), (4, .int (nI D.length)), (5, .int (nI fr)), (0, .ref (ad 105)), (1, .ref (ad ni)), (2, .int (nI le)), (3, .int w)] [] := by
    intro n
    induction n with
    | zero =>
      intro st fr m D g2 cm2 mm e1 e2 e2b e3 hW2 hmm hfr hE hno K
      have hW3 := hW2
      obtain ⟨hW, hm0⟩ := hW2
      refine zj_iload C dc_W_walk_25 2 rfl ?_
      refine zj_iload C dc_W_walk_27 0 rfl ?_
      refine zj_iadd C dc_W_walk_29 ?_
      refine zj_topi (nI_add _ _) ?_
      refine zj_aload_n C dc_W_walk_30 rfl 4 rfl ?_
      refine zj_Vi C (ct_N_steps _ hst z ad N g2 ni 20 c p q (by omega) ⟨((hfr ni (by omega) (by omega)).trans hn0), ((hfr (ni + 1) (by omega) (by omega)).trans hn1), ((hfr (ni + 2) (by omega) (by omega)).trans hn2)⟩ (by decide) (by omega)) gv_W_15 rfl rfl rfl hd_N_steps ⟨(Nat.le_of_ble_eq_true rfl), (Nat.le_of_ble_eq_true rfl)⟩ (by omega) ((hfr ni (by omega) (by omega)).trans hn0) rfl rfl rfl (Nat.le_of_ble_eq_true rfl) ⟨(Nat.le_of_ble_eq_true rfl), (Nat.le_of_ble_eq_true rfl)⟩ dc_W_walk_31 (fun r1 g9 h1 => ?_)
      obtain ⟨rfl, hg9⟩ := h1
      rw [hg9]
      refine zj_icmp_gt C dc_W_walk_34 rfl (fun _ => ?_) (fun h => absurd h (not_not_intro ((nI_ltI (by omega) (by omega)).mpr (by omega))))
      refine zj_loc [0, 1, 2, 3, 4, 5, 6] rfl ?_
      exact K D st (by rw [hE, show c - 1 + 1 - fr - st = 0 by omega]; rfl) hno
    | succ n ih =>
      intro st fr m D g2 cm2 mm e1 e2 e2b e3 hW2 hmm hfr hE hno K
      have hW3 := hW2
      obtain ⟨hW, hm0⟩ := hW2
      refine zj_iload C dc_W_walk_25 2 rfl ?_
      refine zj_iload C dc_W_walk_27 0 rfl ?_
      refine zj_iadd C dc_W_walk_29 ?_
      refine zj_topi (nI_add _ _) ?_
      refine zj_aload_n C dc_W_walk_30 rfl 4 rfl ?_
      refine zj_Vi C (ct_N_steps _ hst z ad N g2 ni 20 c p q (by omega) ⟨((hfr ni (by omega) (by omega)).trans hn0), ((hfr (ni + 1) (by omega) (by omega)).trans hn1), ((hfr (ni + 2) (by omega) (by omega)).trans hn2)⟩ (by decide) (by omega)) gv_W_15 rfl rfl rfl hd_N_steps ⟨(Nat.le_of_ble_eq_true rfl), (Nat.le_of_ble_eq_true rfl)⟩ (by omega) ((hfr ni (by omega) (by omega)).trans hn0) rfl rfl rfl (Nat.le_of_ble_eq_true rfl) ⟨(Nat.le_of_ble_eq_true rfl), (Nat.le_of_ble_eq_true rfl)⟩ dc_W_walk_31 (fun r1 g9 h1 => ?_)
      obtain ⟨rfl, hg9⟩ := h1
      rw [hg9]
      refine zj_icmp_gt C dc_W_walk_34 rfl (fun h => absurd h (((zn_nlt (by omega) (by omega)).mpr (by omega)))) (fun _ => ?_)
      refine zj_aload_n C dc_W_walk_37 rfl 3 rfl ?_
      refine zj_aload_n C dc_W_walk_38 rfl 4 rfl ?_
      refine zj_iload C dc_W_walk_39 2 rfl ?_
      refine zj_iload C dc_W_walk_41 0 rfl ?_
      refine zj_Vi C (ct_W_placesOfRepeat _ hst z ad N g2 ni c p q ⟨((hfr ni (by omega) (by omega)).trans hn0), ((hfr (ni + 1) (by omega) (by omega)).trans hn1), ((hfr (ni + 2) (by omega) (by omega)).trans hn2)⟩ hni hc hN a1 a2 a3 cm2 hW3 fr st mm (fun k hk => ⟨(hmm k hk).1, by have := (hmm k hk).2.1; omega⟩) e3 (by omega)) gv_W_25 rfl rfl rfl hd_W_placesOfRepeat ⟨(Nat.le_of_ble_eq_true rfl), (Nat.le_of_ble_eq_true rfl)⟩ (by omega) hW rfl rfl rfl (Nat.le_of_ble_eq_true rfl) ⟨(Nat.le_of_ble_eq_true rfl), (Nat.le_of_ble_eq_true rfl)⟩ dc_W_walk_43 (fun r1 g9 h1 => ?_)
      obtain ⟨rfl, hg9⟩ := h1
      rw [hg9, zp_T_mm (fun k hk => (hmm k hk).2)]
      have hTl : (zp_T p (c - 1)) fr st ≤ c - 1 := zp_pres_le
      refine zj_istore C dc_W_walk_46 (by decide) rfl ?_
      refine zj_iload C dc_W_walk_48 0 rfl ?_
      refine zj_if_le C dc_W_walk_50 rfl (fun h50 => ?_) (fun h50 => ?_)
      · have h50 := (zn_le0 (by omega)).mp h50
        refine zj_iinc C dc_W_walk_85 1 rfl (zn_inc st) (by decide) rfl ?_
        refine zj_goto C dc_W_walk_88 rfl ?_
        refine zj_loc (L' := [(6, .int (nI (st + 1))), (4, .int (nI D.length)), (5, .int (nI fr)), (0, .ref (ad 105)), (1, .ref (ad ni)), (2, .int (nI le)), (3, .int w)]) [0, 2, 3, 4, 5, 6, 7] rfl ?_
        exact ih (st + 1) fr m D g2 cm2 mm (by omega) (by omega) (by omega) e3 hW3 hmm hfr (by rw [hE, show c - 1 + 1 - fr - st = (c - 1 + 1 - fr - (st + 1)) + 1 by omega, zp_eiS, if_neg (by omega)]; rfl) hno K
      · have h50 : 0 < zp_T p (c - 1) fr st := Nat.pos_of_ne_zero (fun e => h50 ((zn_le0 (by omega)).mpr e))
        refine zj_iinc C dc_W_walk_53 2 rfl (zn_inc D.length) (by decide) rfl ?_
        refine zj_iload C dc_W_walk_56 0 rfl ?_
        refine zj_iconst (v := 1) C dc_W_walk_58 (by decide) ?_
        refine zj_isub C dc_W_walk_59 ?_
        refine zj_topi (nI_pred D.length) ?_
        refine zj_iload_n C dc_W_walk_60 rfl 7 rfl ?_
        refine zj_icmp_ne C dc_W_walk_61 rfl (fun h61 => ?_) (fun h61 => ?_)
        · skip
          refine zj_iinc C dc_W_walk_85 2 rfl (zn_inc st) (by decide) rfl ?_
          refine zj_goto C dc_W_walk_88 rfl ?_
          refine zj_loc (L' := [(6, .int (nI (st + 1))), (4, .int (nI (D ++ [(fr, st, zp_T p (c - 1) fr st)]).length)), (5, .int (nI fr)), (0, .ref (ad 105)), (1, .ref (ad ni)), (2, .int (nI le)), (3, .int w)]) [0, 1, 3, 4, 5, 6, 7] (by rw [List.length_append]; rfl) ?_
          exact ih (st + 1) fr m (D ++ [(fr, st, zp_T p (c - 1) fr st)]) g2 cm2 mm (by omega) (by omega) (by omega) e3 hW3 hmm hfr (by rw [hE, show c - 1 + 1 - fr - st = (c - 1 + 1 - fr - (st + 1)) + 1 by omega, zp_eiS, if_pos h50]; simp) (fun j hj => if c9 : j < D.length then hno j c9 else (by simp at hj; rw [show j = D.length by omega]; exact h61)) K
        · skip
          refine zj_aload_n C dc_W_walk_64 rfl 4 rfl ?_
          refine zj_iload C dc_W_walk_65 3 rfl ?_
          refine zj_put (k := 1) C (by omega) hW rfl (by decide) fw_W fl_W_29 rfl fy_W fk_W fn_W rfl rfl rfl (Nat.le_of_ble_eq_true rfl) rfl dc_W_walk_67 ?_
          refine zj_aload_n C dc_W_walk_70 rfl 4 rfl ?_
          refine zj_iload C dc_W_walk_71 2 rfl ?_
          refine zj_put (k := 2) C (by omega) (by (repeat rw [va_up_ne _ _ (by omega)]); exact (va_up_self _ _ _)) rfl (by decide) fw_W fl_W_33 rfl fy_W fk_W fn_W rfl rfl rfl (Nat.le_of_ble_eq_true rfl) rfl dc_W_walk_73 ?_
          refine zj_aload_n C dc_W_walk_76 rfl 4 rfl ?_
          refine zj_iload C dc_W_walk_77 1 rfl ?_
          refine zj_put (k := 3) C (by omega) (by (repeat rw [va_up_ne _ _ (by omega)]); exact (va_up_self _ _ _)) rfl (by decide) fw_W fl_W_36 rfl fy_W fk_W fn_W rfl rfl rfl (Nat.le_of_ble_eq_true rfl) rfl dc_W_walk_79 ?_
          refine zj_iload C dc_W_walk_82 0 rfl ?_
          exact zj_iret C dc_W_walk_84 ⟨Or.inl ⟨D.length, (fr, st, (zp_T p (c - 1)) fr st), by rw [hE, show c - 1 + 1 - fr - st = (c - 1 + 1 - fr - (st + 1)) + 1 by omega, zp_eiS, if_pos h50]; simp, h61, rfl, cm2, (by (repeat rw [va_up_ne _ _ (by omega)]); exact (va_up_self _ _ _)), (by (repeat rw [va_up_ne _ _ (by omega)]); exact hm0)⟩, fun j h1 h2 => by (repeat rw [va_up_ne _ _ h1]); exact hfr j h1 h2⟩
  have outer : ∀ (n : Nat) (fr m : Nat) (D : List (Nat × Nat × Nat)) (g2 : Nat → va_E) (cm2 : Nat → Int32), m = n → fr + m = c - 1 → zs_W z ad g2 a1 a2 a3 cm2 → (∀ j, j ≠ 105 → j ≠ 106 → g2 j = g j) → (zp_eo (zp_T p (c - 1)) (c - 1) le 0 (c - 1)) = D ++ zp_eo (zp_T p (c - 1)) (c - 1) le fr m → (∀ j, j < D.length → ¬ nI j = w) → zj_J X 0 0 (zj_Qi X 0 0 ad N (fun r g1 => ((∃ j x, (zp_eo (zp_T p (c - 1)) (c - 1) le 0 (c - 1))[j]? = some x ∧ nI j = w ∧ r = nI (j + 1) ∧ ∃ cm2, zs_W z ad g1 (nI x.1) (nI x.2.1) (nI x.2.2) cm2) ∨ ((∀ j, j < (zp_eo (zp_T p (c - 1)) (c - 1) le 0 (c - 1)).length → ¬ nI j = w) ∧ r = nI (zp_eo (zp_T p (c - 1)) (c - 1) le 0 (c - 1)).length ∧ ∃ cm2, zs_W z ad g1 a1 a2 a3 cm2)) ∧ ∀ j, j ≠ 105 → j ≠ 106 → g1 j = g j)) ad N g2 6 [(5, .int (nI fr)), (4, .int (nI D.length)), (0, .ref (ad 105)), (1, .ref (ad ni)), (2, .int (nI le)), (3, .int w)] [] := by
    intro n
    induction n with
    | zero =>
      intro fr m D g2 cm2 e1 e2 hW2 hfr hE hno
      have hW4 := hW2
      obtain ⟨hW, hm0⟩ := hW2
      refine zj_iload C dc_W_walk_6 0 rfl ?_
      refine zj_aload_n C dc_W_walk_8 rfl 3 rfl ?_
      refine zj_Vi C (ct_N_steps _ hst z ad N g2 ni 20 c p q (by omega) ⟨((hfr ni (by omega) (by omega)).trans hn0), ((hfr (ni + 1) (by omega) (by omega)).trans hn1), ((hfr (ni + 2) (by omega) (by omega)).trans hn2)⟩ (by decide) (by omega)) gv_W_15 rfl rfl rfl hd_N_steps ⟨(Nat.le_of_ble_eq_true rfl), (Nat.le_of_ble_eq_true rfl)⟩ (by omega) ((hfr ni (by omega) (by omega)).trans hn0) rfl rfl rfl (Nat.le_of_ble_eq_true rfl) ⟨(Nat.le_of_ble_eq_true rfl), (Nat.le_of_ble_eq_true rfl)⟩ dc_W_walk_9 (fun r1 g9 h1 => ?_)
      obtain ⟨rfl, hg9⟩ := h1
      rw [hg9]
      refine zj_icmp_ge C dc_W_walk_12 rfl (fun _ => ?_) (fun h => absurd h (not_not_intro ((nI_leI (by omega) (by omega)).mpr (by omega))))
      refine zj_iload C dc_W_walk_97 1 rfl ?_
      exact zj_iret C dc_W_walk_99 ⟨Or.inr ⟨fun j hj => hno j (by rw [hE, show m = 0 by omega] at hj; simpa [zp_eo] using hj), by rw [hE, show m = 0 by omega]; simp [zp_eo], cm2, hW4⟩, hfr⟩
    | succ n ih =>
      intro fr m D g2 cm2 e1 e2 hW2 hfr hE hno
      have hW4 := hW2
      obtain ⟨hW, hm0⟩ := hW2
      refine zj_iload C dc_W_walk_6 0 rfl ?_
      refine zj_aload_n C dc_W_walk_8 rfl 3 rfl ?_
      refine zj_Vi C (ct_N_steps _ hst z ad N g2 ni 20 c p q (by omega) ⟨((hfr ni (by omega) (by omega)).trans hn0), ((hfr (ni + 1) (by omega) (by omega)).trans hn1), ((hfr (ni + 2) (by omega) (by omega)).trans hn2)⟩ (by decide) (by omega)) gv_W_15 rfl rfl rfl hd_N_steps ⟨(Nat.le_of_ble_eq_true rfl), (Nat.le_of_ble_eq_true rfl)⟩ (by omega) ((hfr ni (by omega) (by omega)).trans hn0) rfl rfl rfl (Nat.le_of_ble_eq_true rfl) ⟨(Nat.le_of_ble_eq_true rfl), (Nat.le_of_ble_eq_true rfl)⟩ dc_W_walk_9 (fun r1 g9 h1 => ?_)
      obtain ⟨rfl, hg9⟩ := h1
      rw [hg9]
      refine zj_icmp_ge C dc_W_walk_12 rfl (fun h => absurd h (((zn_nle (by omega) (by omega)).mpr (by omega)))) (fun _ => ?_)
      refine zj_aload_n C dc_W_walk_15 rfl 2 rfl ?_
      refine zj_aload_n C dc_W_walk_16 rfl 3 rfl ?_
      refine zj_iload C dc_W_walk_17 0 rfl ?_
      refine zj_Vv C (ct_W_compare _ hst z ad N g2 ni c p q ⟨((hfr ni (by omega) (by omega)).trans hn0), ((hfr (ni + 1) (by omega) (by omega)).trans hn1), ((hfr (ni + 2) (by omega) (by omega)).trans hn2)⟩ hni hc hN a1 a2 a3 cm2 hW4 fr (by omega)) gv_W_21 rfl rfl rfl hd_W_compare ⟨(Nat.le_of_ble_eq_true rfl), (Nat.le_of_ble_eq_true rfl)⟩ (by omega) hW rfl rfl rfl (Nat.le_of_ble_eq_true rfl) ⟨(Nat.le_of_ble_eq_true rfl), (Nat.le_of_ble_eq_true rfl)⟩ dc_W_walk_19 (fun g3 h1 => ?_)
      obtain ⟨cm3, hm3, hld, hf3⟩ := h1
      obtain ⟨mm, hmm⟩ := zp_sk hld
      have hW3 : zs_W z ad g3 a1 a2 a3 cm3 := ⟨(hf3 105 (by omega)).trans hW, hm3⟩
      have hfr3 : ∀ j, j ≠ 105 → j ≠ 106 → g3 j = g j := fun j h1 h2 => (hf3 j h2).trans (hfr j h1 h2)
      obtain ⟨m, rfl⟩ : ∃ m9, m = m9 + 1 := ⟨m - 1, by omega⟩
      refine zj_iload_n C dc_W_walk_22 rfl 4 rfl ?_
      refine zj_istore C dc_W_walk_23 (by decide) rfl ?_
      refine zj_loc [0, 2, 1, 3, 4, 5, 6] rfl ?_
      refine inner (c - 1 + 1 - fr - le) le fr m D g3 cm3 mm rfl hle (by omega) (by omega) hW3 hmm hfr3 hE hno (fun D s9 hE hno => ?_)
      refine zj_iinc C dc_W_walk_91 2 rfl (zn_inc fr) (by decide) rfl ?_
      refine zj_goto C dc_W_walk_94 rfl ?_
      refine zj_loc (L' := [(5, .int (nI (fr + 1))), (4, .int (nI D.length)), (0, .ref (ad 105)), (1, .ref (ad ni)), (2, .int (nI le)), (3, .int w)]) [0, 2, 3, 4, 5, 6] rfl ?_
      exact ih (fr + 1) m D g3 cm3 (by omega) (by omega) hW3 hfr3 hE hno
  refine zj_iconst (v := 0) C dc_W_walk_0 (by decide) ?_
  refine zj_istore C dc_W_walk_1 (by decide) rfl ?_
  refine zj_iconst (v := 0) C dc_W_walk_3 (by decide) ?_
  refine zj_istore C dc_W_walk_4 (by decide) rfl ?_
  refine zj_loc (L' := [(5, .int (nI 0)), (4, .int (nI ([] : List (Nat × Nat × Nat)).length)), (0, .ref (ad 105)), (1, .ref (ad ni)), (2, .int (nI le)), (3, .int w)]) [0, 1, 2, 3, 4, 5] rfl ?_
  exact outer (c - 1) 0 (c - 1) [] g cm rfl (by omega) ⟨hW, hm0⟩ (fun j _ _ => rfl) rfl (fun j hj => by cases hj)
end ZW
