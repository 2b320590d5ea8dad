section ZF
/-- a passage as it is kept: tune, place, span, how much higher, and the number of its score -/
abbrev zs_It : Type := Int32 × Int32 × Int32 × Int32 × Int32
def zs_P (a : zs_It) : va_E := ze_o 3 [.int a.1, .int a.2.1, .int a.2.2.1, .int a.2.2.2.1, .int a.2.2.2.2]
/-- what was found, at the cells 69 .. 100; pi j: the cell of the passage at place j -/
def zs_F (z : zv_T) (ad : Nat → Nat) (g : Nat → va_E) (as tot kp : Nat) (pi : Nat → Nat) (it : Nat → zs_It) : Prop := g 69 = ze_o 0 [.ref (ad 70), .int (nI as), .int (nI tot), .int (nI kp)] ∧ (∃ f, g 70 = ze_p z 30 f ∧ ∀ j, j < 30 → f j = some (ad (pi j))) ∧ (∀ j, j < 30 → 71 ≤ pi j ∧ pi j < 101) ∧ (∀ i j, i < 30 → j < 30 → pi i = pi j → i = j) ∧ ∀ m, 71 ≤ m → m < 101 → g m = zs_P (it m)
/-- the rank of a new one: behind the last that has P -/
def zp_rk (P : Nat → Bool) : Nat → Nat
  | 0 => 0
  | i + 1 => if P i then i + 1 else zp_rk P i
theorem zp_rk_le (P : Nat → Bool) (n : Nat) : zp_rk P n ≤ n := by
  induction n with
  | zero => exact Nat.le_refl _
  | succ n ih => unfold zp_rk; split <;> omega
theorem zp_rk_t {P : Nat → Bool} {i : Nat} (h : P i = true) : zp_rk P (i + 1) = i + 1 := by
  show (if P i then i + 1 else zp_rk P i) = i + 1
  rw [if_pos h]
theorem zp_rk_f {P : Nat → Bool} {i : Nat} (h : P i = false) : zp_rk P (i + 1) = zp_rk P i := by
  show (if P i then i + 1 else zp_rk P i) = zp_rk P i
  rw [h]; rfl
/-- the one at place a goes to place r, those between move up -/
def zp_sh (pi : Nat → Nat) (r a : Nat) : Nat → Nat := fun j => if j < r then pi j else if j = r then pi a else if j ≤ a then pi (j - 1) else pi j
theorem zn_min29 {k : Nat} (h : k < 2 ^ 31) : (if (29 : Int32) < nI k then (29 : Int32) else nI k) = nI (if 29 < k then 29 else k) := by
  have e : (29 : Int32) = nI 29 := by decide
  by_cases c : 29 < k
  · rw [if_pos c, if_pos (by rw [e]; exact (nI_ltI (by omega) h).mpr c)]; exact e
  · rw [if_neg c, if_neg (by rw [e]; exact (zn_nlt (by omega) h).mpr (by omega))]
set_option maxHeartbeats 4000000 in
set_option maxRecDepth 100000 in
theorem ct_F_begin (l : Launch) (hst : l.stackTraces = false) (z : zv_T) (ad : Nat → Nat) (N : Nat) (g : Nat → va_E) (as tot kp : Nat) (pi : Nat → Nat) (it : Nat → zs_It) (hN : 101 ≤ N) (hs : zs_F z ad g as tot kp pi it) (n : Nat) : zm_v l mn_F_begin ws_F_begin rm_F_begin z ad N g [.ref (ad 69), .int (nI n)] (fun g1 => g1 = va_up g 69 (ze_o 0 [.ref (ad 70), .int (nI n), .int 0, .int 0])) := by
  obtain ⟨hF, ⟨f, hA, hf⟩, hp1, hp2, hit⟩ := hs
  refine zm_ofv hst pn_F_begin rfl (Nat.le_of_ble_eq_true rfl) (fun X hX C => ?_)
  subst hX
  show zj_J X 0 0 _ ad N g 0 [(0, .ref (ad 69)), (1, .int (nI n))] []
  refine zj_aload_n C dc_F_begin_0 rfl 0 rfl ?_
  refine zj_iload_n C dc_F_begin_1 rfl 1 rfl ?_
  refine zj_put (k := 1) C (by omega) hF rfl (by decide) fw_F fl_F_18 rfl fy_F fk_F fn_F rfl rfl rfl (Nat.le_of_ble_eq_true rfl) rfl dc_F_begin_2 ?_
  refine zj_aload_n C dc_F_begin_5 rfl 0 rfl ?_
  refine zj_iconst (v := 0) C dc_F_begin_6 (by decide) ?_
  refine zj_put (k := 2) C (by omega) (by (repeat rw [va_up_ne _ _ (by omega)]); exact (va_up_self _ _ _)) rfl (by decide) fw_F fl_F_22 rfl fy_F fk_F fn_F rfl rfl rfl (Nat.le_of_ble_eq_true rfl) rfl dc_F_begin_7 ?_
  refine zj_aload_n C dc_F_begin_10 rfl 0 rfl ?_
  refine zj_iconst (v := 0) C dc_F_begin_11 (by decide) ?_
  refine zj_put (k := 3) C (by omega) (by (repeat rw [va_up_ne _ _ (by omega)]); exact (va_up_self _ _ _)) rfl (by decide) fw_F fl_F_25 rfl fy_F fk_F fn_F rfl rfl rfl (Nat.le_of_ble_eq_true rfl) rfl dc_F_begin_12 ?_
  exact zj_vret C dc_F_begin_15 (by funext j; by_cases e : j = 69 <;> simp [va_up, e])
set_option maxHeartbeats 4000000 in
set_option maxRecDepth 100000 in
theorem ct_F_rankOf (l : Launch) (hst : l.stackTraces = false) (z : zv_T) (ad : Nat → Nat) (N : Nat) (g : Nat → va_E) (as tot kp : Nat) (pi : Nat → Nat) (it : Nat → zs_It) (hN : 101 ≤ N) (hs : zs_F z ad g as tot kp pi it) (sp cc : Int32) (hk : kp ≤ 30) : zm_i l mn_F_rankOf ws_F_rankOf rm_F_rankOf z ad N g [.ref (ad 69), .int sp, .int cc] (fun r g1 => r = nI (zp_rk (fun i => decide (cc * cc * (it (pi i)).2.2.1 ≤ (it (pi i)).2.2.2.2 * (it (pi i)).2.2.2.2 * sp)) kp) ∧ g1 = g) := by
  obtain ⟨hF, ⟨f, hA, hf⟩, hp1, hp2, hit⟩ := hs
  refine zm_ofi hst pn_F_rankOf rfl (Nat.le_of_ble_eq_true rfl) (fun X hX C => ?_)
  subst hX
  show zj_J X 0 0 _ ad N g 0 [(0, .ref (ad 69)), (1, .int sp), (2, .int cc)] []
  have loop : ∀ (n : Nat) (k : Nat), k = n → k ≤ 30 → zp_rk (fun i => decide (cc * cc * (it (pi i)).2.2.1 ≤ (it (pi i)).2.2.2.2 * (it (pi i)).2.2.2.2 * sp)) kp = zp_rk (fun i => decide (cc * cc * (it (pi i)).2.2.1 ≤ (it (pi i)).2.2.2.2 * (it (pi i)).2.2.2.2 * sp)) k → zj_J X 0 0 (zj_Qi X 0 0 ad N (fun r g1 => r = nI (zp_rk (fun i => decide (cc * cc * (it (pi i)).2.2.1 ≤ (it (pi i)).2.2.2.2 * (it (pi i)).2.2.2.2 * sp)) kp) ∧ g1 = g)) ad N g 5 [(3, .int (nI k)), (0, .ref (ad 69)), (1, .int sp), (2, .int cc)] [] := by
    intro n
    induction n with
    | zero =>
      intro k e1 e2 e3
      refine zj_iload_n C dc_F_rankOf_5 rfl 0 rfl ?_
      refine zj_if_le C dc_F_rankOf_6 rfl (fun _ => ?_) (fun h => absurd h (not_not_intro ((zn_le0 (by omega)).mpr (by omega))))
      refine zj_iconst (v := 0) C dc_F_rankOf_52 (by decide) ?_
      exact zj_iret C dc_F_rankOf_53 ⟨by rw [e3, show k = 0 by omega]; rfl, rfl⟩
    | succ n ih =>
      intro k e1 e2 e3
      refine zj_iload_n C dc_F_rankOf_5 rfl 0 rfl ?_
      refine zj_if_le C dc_F_rankOf_6 rfl (fun h => absurd h ((fun h => by have := (zn_le0 (by omega)).mp h; omega))) (fun _ => ?_)
      refine zj_aload_n C dc_F_rankOf_9 rfl 1 rfl ?_
      refine zj_get (k := 0) C (by omega) hF rfl (by decide) fw_F fl_F_11 rfl rfl dc_F_rankOf_10 ?_
      refine zj_iload_n C dc_F_rankOf_13 rfl 0 rfl ?_
      refine zj_iconst (v := 1) C dc_F_rankOf_14 (by decide) ?_
      refine zj_isub C dc_F_rankOf_15 ?_
      refine zj_topi (zn_m1 (by omega)) ?_
      refine zj_pald C (by omega) hA rfl (by omega) (by decide) dc_F_rankOf_16 ?_
      refine zj_topv (congrArg va_rf (hf (k - 1) (by omega))) ?_
      refine zj_astore C dc_F_rankOf_17 (by decide) rfl ?_
      refine zj_iload_n C dc_F_rankOf_19 rfl 4 rfl ?_
      refine zj_iload_n C dc_F_rankOf_20 rfl 4 rfl ?_
      refine zj_imul C dc_F_rankOf_21 ?_
      refine zj_aload C dc_F_rankOf_22 0 rfl ?_
      refine zj_get (k := 2) C (by have := hp1 (k - 1) (by omega); omega) (hit _ (hp1 (k - 1) (by omega)).1 (hp1 (k - 1) (by omega)).2) rfl (by decide) fw_P fl_F_42 rfl rfl dc_F_rankOf_24 ?_
      refine zj_imul C dc_F_rankOf_27 ?_
      refine zj_aload C dc_F_rankOf_28 0 rfl ?_
      refine zj_get (k := 4) C (by have := hp1 (k - 1) (by omega); omega) (hit _ (hp1 (k - 1) (by omega)).1 (hp1 (k - 1) (by omega)).2) rfl (by decide) fw_P fl_F_48 rfl rfl dc_F_rankOf_30 ?_
      refine zj_aload C dc_F_rankOf_33 0 rfl ?_
      refine zj_get (k := 4) C (by have := hp1 (k - 1) (by omega); omega) (hit _ (hp1 (k - 1) (by omega)).1 (hp1 (k - 1) (by omega)).2) rfl (by decide) fw_P fl_F_48 rfl rfl dc_F_rankOf_35 ?_
      refine zj_imul C dc_F_rankOf_38 ?_
      refine zj_iload_n C dc_F_rankOf_39 rfl 3 rfl ?_
      refine zj_imul C dc_F_rankOf_40 ?_
      refine zj_icmp_gt C dc_F_rankOf_41 rfl (fun h41 => ?_) (fun h41 => ?_)
      · skip
        refine zj_iinc C dc_F_rankOf_46 1 rfl (show nI k + Int32.ofInt (-1) = nI (k - 1) from by rw [← zn_m1 (by omega)]; show nI k + -1 = _; grind) (by decide) rfl ?_
        refine zj_goto C dc_F_rankOf_49 rfl ?_
        refine zj_loc (L' := [(3, .int (nI (k - 1))), (0, .ref (ad 69)), (1, .int sp), (2, .int cc)]) [0, 2, 3, 4] rfl ?_
        exact ih (k - 1) (by omega) (by omega) (by rw [e3, show k = (k - 1) + 1 by omega]; rw [zp_rk_f (by simpa using h41)]; rfl)
      · skip
        refine zj_iload_n C dc_F_rankOf_44 rfl 1 rfl ?_
        exact zj_iret C dc_F_rankOf_45 ⟨by rw [e3, show k = (k - 1) + 1 by omega]; rw [zp_rk_t (by simpa using h41)], rfl⟩
  refine zj_aload_n C dc_F_rankOf_0 rfl 0 rfl ?_
  refine zj_get (k := 3) C (by omega) hF rfl (by decide) fw_F fl_F_25 rfl rfl dc_F_rankOf_1 ?_
  refine zj_istore_n C dc_F_rankOf_4 rfl (by decide) rfl ?_
  refine zj_loc [0, 1, 2, 3] rfl ?_
  exact loop kp kp rfl hk rfl
/-- what is left of a when a and b are divided by all that they share -/
def zp_lt (a b : Nat) : Nat := a / Nat.gcd a b
theorem zn_rem0 {a d : Nat} (ha : a < 2 ^ 31) (h0 : 0 < d) (hd : d < 2 ^ 31) : nI a - nI a / nI d * nI d = 0 ↔ a % d = 0 := by
  rw [pk_rem ha h0 hd, zn_e0 (by have := Nat.mod_lt a h0; omega)]
set_option maxHeartbeats 4000000 in
set_option maxRecDepth 100000 in
theorem ct_F_leastTerm (l : Launch) (hst : l.stackTraces = false) (z : zv_T) (ad : Nat → Nat) (N : Nat) (g : Nat → va_E) (a b : Nat) (ha : 0 < a) (ha2 : a < 2 ^ 31) (hb : b < 2 ^ 31) : zm_i l mn_F_leastTerm ws_F_leastTerm rm_F_leastTerm z ad N g [.int (nI a), .int (nI b)] (fun r g1 => r = nI (zp_lt a b) ∧ g1 = g) := by
  refine zm_ofi hst pn_F_leastTerm rfl (Nat.le_of_ble_eq_true rfl) (fun X hX C => ?_)
  subst hX
  show zj_J X 0 0 _ ad N g 0 [(0, .int (nI a)), (1, .int (nI b))] []
  have loop : ∀ (n : Nat) (k : Nat), k - 1 = n → 0 < k → k ≤ a → (∀ e, k < e → ¬ (a % e = 0 ∧ b % e = 0)) → zj_J X 0 0 (zj_Qi X 0 0 ad N (fun r g1 => r = nI (zp_lt a b) ∧ g1 = g)) ad N g 2 [(2, .int (nI k)), (0, .int (nI a)), (1, .int (nI b))] [] := by
    intro n
    induction n with
    | zero =>
      intro k e1 e2 e3 e4
      refine zj_iload_n C dc_F_leastTerm_2 rfl 0 rfl ?_
      refine zj_iconst (v := 1) C dc_F_leastTerm_3 (by decide) ?_
      refine zj_icmp_le C dc_F_leastTerm_4 rfl (fun _ => ?_) (fun h => absurd h (not_not_intro (show nI k ≤ nI 1 from (nI_leI (by omega) (by omega)).mpr (by omega))))
      refine zj_iload_n C dc_F_leastTerm_29 rfl 1 rfl ?_
      exact zj_iret C dc_F_leastTerm_30 ⟨by unfold zp_lt; rw [← zp_gcd1 (d := 1) ha (Nat.mod_one a) (Nat.mod_one b) (fun e he => e4 e (by omega)), Nat.div_one], rfl⟩
    | succ n ih =>
      intro k e1 e2 e3 e4
      refine zj_iload_n C dc_F_leastTerm_2 rfl 0 rfl ?_
      refine zj_iconst (v := 1) C dc_F_leastTerm_3 (by decide) ?_
      refine zj_icmp_le C dc_F_leastTerm_4 rfl (fun h => absurd h ((show ¬ nI k ≤ nI 1 from (zn_nle (by omega) (by omega)).mpr (by omega)))) (fun _ => ?_)
      refine zj_iload_n C dc_F_leastTerm_7 rfl 1 rfl ?_
      refine zj_iload_n C dc_F_leastTerm_8 rfl 0 rfl ?_
      refine zj_irem C dc_F_leastTerm_9 (nI_ne0 e2 (by omega)) ?_
      refine zj_if_ne C dc_F_leastTerm_10 rfl (fun h10 => ?_) (fun h10 => ?_)
      · skip
        refine zj_iinc C dc_F_leastTerm_23 0 rfl (show nI k + Int32.ofInt (-1) = nI (k - 1) from by rw [← zn_m1 (by omega)]; show nI k + -1 = _; grind) (by decide) rfl ?_
        refine zj_goto C dc_F_leastTerm_26 rfl ?_
        refine zj_loc (L' := [(2, .int (nI (k - 1))), (0, .int (nI a)), (1, .int (nI b))]) [0, 1, 2] rfl ?_
        exact ih (k - 1) (by omega) (by omega) (by omega) (fun e he h => if c : e = k then (by subst c; first | exact h10 ((zn_rem0 ha2 e2 (by omega)).mpr h.1) | exact h16 ((zn_rem0 hb e2 (by omega)).mpr h.2)) else e4 e (by omega) h)
      · skip
        refine zj_iload_n C dc_F_leastTerm_13 rfl 2 rfl ?_
        refine zj_iload_n C dc_F_leastTerm_14 rfl 0 rfl ?_
        refine zj_irem C dc_F_leastTerm_15 (nI_ne0 e2 (by omega)) ?_
        refine zj_if_ne C dc_F_leastTerm_16 rfl (fun h16 => ?_) (fun h16 => ?_)
        · skip
          refine zj_iinc C dc_F_leastTerm_23 0 rfl (show nI k + Int32.ofInt (-1) = nI (k - 1) from by rw [← zn_m1 (by omega)]; show nI k + -1 = _; grind) (by decide) rfl ?_
          refine zj_goto C dc_F_leastTerm_26 rfl ?_
          refine zj_loc (L' := [(2, .int (nI (k - 1))), (0, .int (nI a)), (1, .int (nI b))]) [0, 1, 2] rfl ?_
          exact ih (k - 1) (by omega) (by omega) (by omega) (fun e he h => if c : e = k then (by subst c; first | exact h10 ((zn_rem0 ha2 e2 (by omega)).mpr h.1) | exact h16 ((zn_rem0 hb e2 (by omega)).mpr h.2)) else e4 e (by omega) h)
        · skip
          refine zj_iload_n C dc_F_leastTerm_19 rfl 1 rfl ?_
          refine zj_iload_n C dc_F_leastTerm_20 rfl 0 rfl ?_
          refine zj_idiv C dc_F_leastTerm_21 (nI_ne0 e2 (by omega)) ?_
          exact zj_iret C dc_F_leastTerm_22 ⟨by rw [pk_div ha2 e2 (by omega)]; unfold zp_lt; rw [← zp_gcd1 ha ((zn_rem0 ha2 e2 (by omega)).mp h10) ((zn_rem0 hb e2 (by omega)).mp h16) e4], rfl⟩
  refine zj_iload_n C dc_F_leastTerm_0 rfl 0 rfl ?_
  refine zj_istore_n C dc_F_leastTerm_1 rfl (by decide) rfl ?_
  refine zj_loc [0, 1, 2] rfl ?_
  exact loop (a - 1) a rfl ha (Nat.le_refl _) (fun e he h => by have := Nat.mod_eq_of_lt he; omega)
set_option maxHeartbeats 4000000 in
set_option maxRecDepth 100000 in
theorem ct_F_upperOfScore (l : Launch) (hst : l.stackTraces = false) (z : zv_T) (ad : Nat → Nat) (N : Nat) (g : Nat → va_E) (as tot kp : Nat) (pi : Nat → Nat) (it : Nat → zs_It) (hN : 101 ≤ N) (hs : zs_F z ad g as tot kp pi it) (m cc sp : Nat) (x1 x2 x3 : Int32) (hm1 : m < 101) (hm : g m = zs_P (x1, x2, nI sp, x3, nI cc)) (hcc : 0 < cc) (hcc2 : cc ≤ 8) (hsp : 0 < sp) (hsp2 : sp ≤ 20) (has : 0 < as) (has2 : as ≤ 8) : zm_i l mn_F_upperOfScore ws_F_upperOfScore rm_F_upperOfScore z ad N g [.ref (ad 69), .ref (ad m)] (fun r g1 => r = nI (zp_lt (cc * cc) (as * sp)) ∧ g1 = g) := by
  obtain ⟨hF, ⟨f, hA, hf⟩, hp1, hp2, hit⟩ := hs
  have hq1 : cc * cc ≤ 8 * 8 := Nat.mul_le_mul hcc2 hcc2
  have hq2 : as * sp ≤ 8 * 20 := Nat.mul_le_mul has2 hsp2
  have hq3 : 0 < cc * cc := Nat.mul_pos hcc hcc
  have hq4 : 0 < as * sp := Nat.mul_pos has hsp
  refine zm_ofi hst pn_F_upperOfScore rfl (Nat.le_of_ble_eq_true rfl) (fun X hX C => ?_)
  subst hX
  show zj_J X 0 0 _ ad N g 0 [(0, .ref (ad 69)), (1, .ref (ad m))] []
  refine zj_aload_n C dc_F_upperOfScore_0 rfl 1 rfl ?_
  refine zj_get (k := 4) C (by omega) hm rfl (by decide) fw_P fl_F_48 rfl rfl dc_F_upperOfScore_1 ?_
  refine zj_aload_n C dc_F_upperOfScore_4 rfl 1 rfl ?_
  refine zj_get (k := 4) C (by omega) hm rfl (by decide) fw_P fl_F_48 rfl rfl dc_F_upperOfScore_5 ?_
  refine zj_imul C dc_F_upperOfScore_8 ?_
  refine zj_topi (pk_mul _ _) ?_
  refine zj_aload_n C dc_F_upperOfScore_9 rfl 0 rfl ?_
  refine zj_get (k := 1) C (by omega) hF rfl (by decide) fw_F fl_F_18 rfl rfl dc_F_upperOfScore_10 ?_
  refine zj_aload_n C dc_F_upperOfScore_13 rfl 1 rfl ?_
  refine zj_get (k := 2) C (by omega) hm rfl (by decide) fw_P fl_F_42 rfl rfl dc_F_upperOfScore_14 ?_
  refine zj_imul C dc_F_upperOfScore_17 ?_
  refine zj_topi (pk_mul _ _) ?_
  refine zj_Si C (ct_F_leastTerm _ hst z ad N g (cc * cc) (as * sp) (by omega) (by omega) (by omega)) gv_F_56 rfl rfl rfl hd_F_leastTerm ⟨(Nat.le_of_ble_eq_true rfl), (Nat.le_of_ble_eq_true rfl)⟩ rfl rfl (Nat.le_of_ble_eq_true rfl) ⟨(Nat.le_of_ble_eq_true rfl), (Nat.le_of_ble_eq_true rfl)⟩ dc_F_upperOfScore_18 (fun r1 g1 h1 => ?_)
  exact zj_iret C dc_F_upperOfScore_21 h1
set_option maxHeartbeats 4000000 in
set_option maxRecDepth 100000 in
theorem ct_F_lowerOfScore (l : Launch) (hst : l.stackTraces = false) (z : zv_T) (ad : Nat → Nat) (N : Nat) (g : Nat → va_E) (as tot kp : Nat) (pi : Nat → Nat) (it : Nat → zs_It) (hN : 101 ≤ N) (hs : zs_F z ad g as tot kp pi it) (m cc sp : Nat) (x1 x2 x3 : Int32) (hm1 : m < 101) (hm : g m = zs_P (x1, x2, nI sp, x3, nI cc)) (hcc : 0 < cc) (hcc2 : cc ≤ 8) (hsp : 0 < sp) (hsp2 : sp ≤ 20) (has : 0 < as) (has2 : as ≤ 8) : zm_i l mn_F_lowerOfScore ws_F_lowerOfScore rm_F_lowerOfScore z ad N g [.ref (ad 69), .ref (ad m)] (fun r g1 => r = nI (zp_lt (as * sp) (cc * cc)) ∧ g1 = g) := by
  obtain ⟨hF, ⟨f, hA, hf⟩, hp1, hp2, hit⟩ := hs
  have hq1 : cc * cc ≤ 8 * 8 := Nat.mul_le_mul hcc2 hcc2
  have hq2 : as * sp ≤ 8 * 20 := Nat.mul_le_mul has2 hsp2
  have hq3 : 0 < cc * cc := Nat.mul_pos hcc hcc
  have hq4 : 0 < as * sp := Nat.mul_pos has hsp
  refine zm_ofi hst pn_F_lowerOfScore rfl (Nat.le_of_ble_eq_true rfl) (fun X hX C => ?_)
  subst hX
  show zj_J X 0 0 _ ad N g 0 [(0, .ref (ad 69)), (1, .ref (ad m))] []
  refine zj_aload_n C dc_F_lowerOfScore_0 rfl 0 rfl ?_
  refine zj_get (k := 1) C (by omega) hF rfl (by decide) fw_F fl_F_18 rfl rfl dc_F_lowerOfScore_1 ?_
  refine zj_aload_n C dc_F_lowerOfScore_4 rfl 1 rfl ?_
  refine zj_get (k := 2) C (by omega) hm rfl (by decide) fw_P fl_F_42 rfl rfl dc_F_lowerOfScore_5 ?_
  refine zj_imul C dc_F_lowerOfScore_8 ?_
  refine zj_topi (pk_mul _ _) ?_
  refine zj_aload_n C dc_F_lowerOfScore_9 rfl 1 rfl ?_
  refine zj_get (k := 4) C (by omega) hm rfl (by decide) fw_P fl_F_48 rfl rfl dc_F_lowerOfScore_10 ?_
  refine zj_aload_n C dc_F_lowerOfScore_13 rfl 1 rfl ?_
  refine zj_get (k := 4) C (by omega) hm rfl (by decide) fw_P fl_F_48 rfl rfl dc_F_lowerOfScore_14 ?_
  refine zj_imul C dc_F_lowerOfScore_17 ?_
  refine zj_topi (pk_mul _ _) ?_
  refine zj_Si C (ct_F_leastTerm _ hst z ad N g (as * sp) (cc * cc) (by omega) (by omega) (by omega)) gv_F_56 rfl rfl rfl hd_F_leastTerm ⟨(Nat.le_of_ble_eq_true rfl), (Nat.le_of_ble_eq_true rfl)⟩ rfl rfl (Nat.le_of_ble_eq_true rfl) ⟨(Nat.le_of_ble_eq_true rfl), (Nat.le_of_ble_eq_true rfl)⟩ dc_F_lowerOfScore_18 (fun r1 g1 h1 => ?_)
  exact zj_iret C dc_F_lowerOfScore_21 h1
theorem zp_sh_in {pi : Nat → Nat} {r a : Nat} (hr : r ≤ a) (ha : a < 30) (h1 : ∀ j, j < 30 → 71 ≤ pi j ∧ pi j < 101) : ∀ j, j < 30 → 71 ≤ zp_sh pi r a j ∧ zp_sh pi r a j < 101 := by
  intro j hj
  unfold zp_sh
  split
  · exact h1 j hj
  · split
    · exact h1 a ha
    · split
      · exact h1 (j - 1) (by omega)
      · exact h1 j hj
theorem zp_sh_inj {pi : Nat → Nat} {r a : Nat} (hr : r ≤ a) (ha : a < 30) (h2 : ∀ i j, i < 30 → j < 30 → pi i = pi j → i = j) : ∀ i j, i < 30 → j < 30 → zp_sh pi r a i = zp_sh pi r a j → i = j := by
  intro i j hi hj h
  unfold zp_sh at h
  split at h <;> (try split at h) <;> (try split at h) <;> (try split at h) <;> (try split at h) <;> (try split at h) <;> first | omega | (have := h2 _ _ (by omega) (by omega) h; omega)
set_option maxHeartbeats 4000000 in
set_option maxRecDepth 100000 in
theorem ct_F_makeRoom (l : Launch) (hst : l.stackTraces = false) (z : zv_T) (ad : Nat → Nat) (N : Nat) (g : Nat → va_E) (as tot kp : Nat) (pi : Nat → Nat) (it : Nat → zs_It) (hN : 101 ≤ N) (hs : zs_F z ad g as tot kp pi it) (r : Nat) (hr : r ≤ kp) (hr2 : r < 30) (hk : kp ≤ 30) : zm_r l mn_F_makeRoom ws_F_makeRoom rm_F_makeRoom z ad N g [.ref (ad 69), .int (nI r)] (fun k g1 => k = pi (if 29 < kp then 29 else kp) ∧ zs_F z ad g1 as tot ((if 29 < kp then 29 else kp) + 1) (zp_sh pi r (if 29 < kp then 29 else kp)) it ∧ ∀ j, j ≠ 69 → j ≠ 70 → g1 j = g j) := by
  obtain ⟨hF, ⟨f, hA, hf⟩, hp1, hp2, hit⟩ := hs
  have hla : (if 29 < kp then 29 else kp) < 30 := by split <;> omega
  have hra : r ≤ (if 29 < kp then 29 else kp) := by split <;> omega
  obtain ⟨a, ha⟩ : ∃ a, a = (if 29 < kp then 29 else kp) := ⟨_, rfl⟩
  rw [← ha] at hla hra
  refine zm_ofr hst pn_F_makeRoom rfl (Nat.le_of_ble_eq_true rfl) (fun X hX C => ?_)
  subst hX
  show zj_J X 0 0 _ ad N g 0 [(0, .ref (ad 69)), (1, .int (nI r))] []
  have loop : ∀ (n : Nat) (i : Nat) (g2 : Nat → va_E) (f2 : Nat → Option Nat), i - r = n → r ≤ i → i ≤ a → g2 70 = ze_p z 30 f2 → (∀ j, j < 30 → f2 j = some (ad (if i < j ∧ j ≤ a then pi (j - 1) else pi j))) → (∀ j, j ≠ 70 → g2 j = g j) → zj_J X 0 0 (zj_Qr X 0 0 ad N (fun k g1 => k = pi (if 29 < kp then 29 else kp) ∧ zs_F z ad g1 as tot ((if 29 < kp then 29 else kp) + 1) (zp_sh pi r (if 29 < kp then 29 else kp)) it ∧ ∀ j, j ≠ 69 → j ≠ 70 → g1 j = g j)) ad N g2 20 [(4, .int (nI i)), (3, .ref (ad (pi a))), (2, .int (nI a)), (0, .ref (ad 69)), (1, .int (nI r))] [] := by
    intro n
    induction n with
    | zero =>
      intro i g2 f2 e1 e2 e3 hA2 hf2 h69
      refine zj_iload C dc_F_makeRoom_20 0 rfl ?_
      refine zj_iload_n C dc_F_makeRoom_22 rfl 4 rfl ?_
      refine zj_icmp_le C dc_F_makeRoom_23 rfl (fun _ => ?_) (fun h => absurd h (not_not_intro ((nI_leI (by omega) (by omega)).mpr (by omega))))
      refine zj_aload_n C dc_F_makeRoom_48 rfl 3 rfl ?_
      refine zj_get (k := 0) C (by omega) ((h69 69 (by omega)).trans hF) rfl (by decide) fw_F fl_F_11 rfl rfl dc_F_makeRoom_49 ?_
      refine zj_iload_n C dc_F_makeRoom_52 rfl 4 rfl ?_
      refine zj_aload_n C dc_F_makeRoom_53 rfl 1 rfl ?_
      refine zj_past C (by omega) hA2 rfl (by omega) (by decide) (by have := hp1 a (by omega); omega) ((h69 _ (by have := hp1 a (by omega); omega)).trans (hit _ (hp1 a (by omega)).1 (hp1 a (by omega)).2)) dc_F_makeRoom_54 ?_
      generalize hg3 : va_up g2 70 _ = g3
      have hA3 : g3 70 = ze_p z 30 (va_up f2 r (some (ad (pi a)))) := by rw [← hg3]; exact va_up_self _ _ _
      have h693 : ∀ j, j ≠ 70 → g3 j = g j := fun j hj => by rw [← hg3, va_up_ne _ _ hj]; exact h69 j hj
      refine zj_aload_n C dc_F_makeRoom_55 rfl 3 rfl ?_
      refine zj_iload_n C dc_F_makeRoom_56 rfl 2 rfl ?_
      refine zj_iconst (v := 1) C dc_F_makeRoom_57 (by decide) ?_
      refine zj_iadd C dc_F_makeRoom_58 ?_
      refine zj_topi (nI_1 a) ?_
      refine zj_put (k := 3) C (by omega) ((h693 69 (by omega)).trans hF) rfl (by decide) fw_F fl_F_25 rfl fy_F fk_F fn_F rfl rfl rfl (Nat.le_of_ble_eq_true rfl) rfl dc_F_makeRoom_59 ?_
      refine zj_aload_n C dc_F_makeRoom_62 rfl 1 rfl ?_
      refine zj_aret C dc_F_makeRoom_63 ⟨by rw [ha], ⟨by rw [← ha]; exact va_up_self _ _ _, ⟨_, by rw [va_up_ne _ _ (by omega)]; exact hA3, fun j hj => ?_⟩, by rw [← ha]; exact zp_sh_in (by omega) (by omega) hp1, by rw [← ha]; exact zp_sh_inj (by omega) (by omega) hp2, fun m h1 h2 => by rw [va_up_ne _ _ (by omega)]; exact (h693 m (by omega)).trans (hit m h1 h2)⟩, fun j h1 h2 => by rw [va_up_ne _ _ h1]; exact h693 j h2⟩
      rw [← ha]
      unfold zp_sh
      by_cases c : j = r
      · subst c
        rw [va_up_self, if_neg (by omega), if_pos rfl]
      · rw [va_up_ne _ _ c, hf2 j hj]
        by_cases c2 : j < r
        · rw [if_pos c2, if_neg (by omega)]
        · rw [if_neg c2, if_neg c]
          by_cases c3 : j ≤ a
          · rw [if_pos c3, if_pos (by omega)]
          · rw [if_neg c3, if_neg (by omega)]
    | succ n ih =>
      intro i g2 f2 e1 e2 e3 hA2 hf2 h69
      refine zj_iload C dc_F_makeRoom_20 0 rfl ?_
      refine zj_iload_n C dc_F_makeRoom_22 rfl 4 rfl ?_
      refine zj_icmp_le C dc_F_makeRoom_23 rfl (fun h => absurd h (((zn_nle (by omega) (by omega)).mpr (by omega)))) (fun _ => ?_)
      refine zj_aload_n C dc_F_makeRoom_26 rfl 3 rfl ?_
      refine zj_get (k := 0) C (by omega) ((h69 69 (by omega)).trans hF) rfl (by decide) fw_F fl_F_11 rfl rfl dc_F_makeRoom_27 ?_
      refine zj_iload C dc_F_makeRoom_30 0 rfl ?_
      refine zj_aload_n C dc_F_makeRoom_32 rfl 3 rfl ?_
      refine zj_get (k := 0) C (by omega) ((h69 69 (by omega)).trans hF) rfl (by decide) fw_F fl_F_11 rfl rfl dc_F_makeRoom_33 ?_
      refine zj_iload C dc_F_makeRoom_36 0 rfl ?_
      refine zj_iconst (v := 1) C dc_F_makeRoom_38 (by decide) ?_
      refine zj_isub C dc_F_makeRoom_39 ?_
      refine zj_topi (zn_m1 (by omega)) ?_
      refine zj_pald C (by omega) hA2 rfl (by omega) (by decide) dc_F_makeRoom_40 ?_
      refine zj_topv (congrArg va_rf ((hf2 (i - 1) (by omega)).trans (by rw [if_neg (by omega)]))) ?_
      refine zj_past C (by omega) hA2 rfl (by omega) (by decide) (by have := hp1 (i - 1) (by omega); omega) ((h69 _ (by have := hp1 (i - 1) (by omega); omega)).trans (hit _ (hp1 (i - 1) (by omega)).1 (hp1 (i - 1) (by omega)).2)) dc_F_makeRoom_41 ?_
      refine zj_iinc C dc_F_makeRoom_42 0 rfl (show nI i + Int32.ofInt (-1) = nI (i - 1) from by rw [← zn_m1 (by omega)]; show nI i + -1 = _; grind) (by decide) rfl ?_
      refine zj_goto C dc_F_makeRoom_45 rfl ?_
      refine zj_loc (L' := [(4, .int (nI (i - 1))), (3, .ref (ad (pi a))), (2, .int (nI a)), (0, .ref (ad 69)), (1, .int (nI r))]) [0, 1, 2, 3, 4] rfl ?_
      refine ih (i - 1) _ _ (by omega) (by omega) (by omega) (va_up_self _ _ _) (fun j hj => ?_) (fun j hj => by rw [va_up_ne _ _ hj]; exact h69 j hj)
      by_cases c : j = i
      · subst c
        rw [va_up_self, if_pos (by omega)]
      · rw [va_up_ne _ _ c, hf2 j hj]
        by_cases c2 : i < j ∧ j ≤ a
        · rw [if_pos c2, if_pos (by omega)]
        · rw [if_neg c2, if_neg (by omega)]
  refine zj_aload_n C dc_F_makeRoom_0 rfl 0 rfl ?_
  refine zj_get (k := 3) C (by omega) hF rfl (by decide) fw_F fl_F_25 rfl rfl dc_F_makeRoom_1 ?_
  refine zj_bipush (v := 29) C dc_F_makeRoom_4 (by decide) ?_
  refine zj_mmin C ml_F_51 sm_Math_min ini_Math wk_Math_min ⟨(Nat.le_of_ble_eq_true rfl), (Nat.le_of_ble_eq_true rfl)⟩ ⟨(Nat.le_of_ble_eq_true rfl), (Nat.le_of_ble_eq_true rfl)⟩ dc_F_makeRoom_6 ?_
  refine zj_topi ((zn_min29 (by omega)).trans (congrArg nI ha.symm)) ?_
  refine zj_istore_n C dc_F_makeRoom_9 rfl (by decide) rfl ?_
  refine zj_aload_n C dc_F_makeRoom_10 rfl 1 rfl ?_
  refine zj_get (k := 0) C (by omega) hF rfl (by decide) fw_F fl_F_11 rfl rfl dc_F_makeRoom_11 ?_
  refine zj_iload_n C dc_F_makeRoom_14 rfl 0 rfl ?_
  refine zj_pald C (by omega) hA rfl hla (by decide) dc_F_makeRoom_15 ?_
  refine zj_topv (congrArg va_rf (hf a hla)) ?_
  refine zj_astore_n C dc_F_makeRoom_16 rfl (by decide) rfl ?_
  refine zj_iload_n C dc_F_makeRoom_17 rfl 1 rfl ?_
  refine zj_istore C dc_F_makeRoom_18 (by decide) rfl ?_
  refine zj_loc [0, 1, 2, 3, 4] rfl ?_
  exact loop (a - r) a g f rfl (by omega) (Nat.le_refl _) hA (fun j hj => (hf j hj).trans (by rw [if_neg (by omega)])) (fun j hj => rfl)
set_option maxHeartbeats 4000000 in
set_option maxRecDepth 100000 in
theorem ct_F_add (l : Launch) (hst : l.stackTraces = false) (z : zv_T) (ad : Nat → Nat) (N : Nat) (g : Nat → va_E) (as tot kp : Nat) (pi : Nat → Nat) (it : Nat → zs_It) (hN : 101 ≤ N) (hs : zs_F z ad g as tot kp pi it) (i1 i2 sp i4 cc : Int32) (hk : kp ≤ 30) (ht : tot < 2 ^ 30) : zm_v l mn_F_add ws_F_add rm_F_add z ad N g [.ref (ad 69), .int i1, .int i2, .int sp, .int i4, .int cc] (fun g1 => ((zp_rk (fun i => decide (cc * cc * (it (pi i)).2.2.1 ≤ (it (pi i)).2.2.2.2 * (it (pi i)).2.2.2.2 * sp)) kp) < 30 → zs_F z ad g1 as (tot + 1) ((if 29 < kp then 29 else kp) + 1) (zp_sh pi (zp_rk (fun i => decide (cc * cc * (it (pi i)).2.2.1 ≤ (it (pi i)).2.2.2.2 * (it (pi i)).2.2.2.2 * sp)) kp) (if 29 < kp then 29 else kp)) (fun m => if m = pi (if 29 < kp then 29 else kp) then (i1, i2, sp, i4, cc) else it m)) ∧ (30 ≤ (zp_rk (fun i => decide (cc * cc * (it (pi i)).2.2.1 ≤ (it (pi i)).2.2.2.2 * (it (pi i)).2.2.2.2 * sp)) kp) → zs_F z ad g1 as (tot + 1) kp pi it) ∧ ∀ j, j < 69 ∨ 101 ≤ j → g1 j = g j) := by
  obtain ⟨hF, ⟨f, hA, hf⟩, hp1, hp2, hit⟩ := hs
  refine zm_ofv hst pn_F_add rfl (Nat.le_of_ble_eq_true rfl) (fun X hX C => ?_)
  subst hX
  show zj_J X 0 0 _ ad N g 0 [(0, .ref (ad 69)), (1, .int i1), (2, .int i2), (3, .int sp), (4, .int i4), (5, .int cc)] []
  refine zj_aload_n C dc_F_add_0 rfl 0 rfl ?_
  refine zj_dup C dc_F_add_1 rfl ?_
  refine zj_get (k := 2) C (by omega) hF rfl (by decide) fw_F fl_F_22 rfl rfl dc_F_add_2 ?_
  refine zj_iconst (v := 1) C dc_F_add_5 (by decide) ?_
  refine zj_iadd C dc_F_add_6 ?_
  refine zj_topi (nI_1 tot) ?_
  refine zj_put (k := 2) C (by omega) hF rfl (by decide) fw_F fl_F_22 rfl fy_F fk_F fn_F rfl rfl rfl (Nat.le_of_ble_eq_true rfl) rfl dc_F_add_7 ?_
  have hs1 : zs_F z ad (va_up g 69 (ze_o 0 [.ref (ad 70), .int (nI as), .int (nI (tot + 1)), .int (nI kp)])) as (tot + 1) kp pi it := ⟨va_up_self _ _ _, ⟨f, by rw [va_up_ne _ _ (by omega)]; exact hA, hf⟩, hp1, hp2, fun m h1 h2 => by rw [va_up_ne _ _ (by omega)]; exact hit m h1 h2⟩
  refine zj_g (g1 := va_up g 69 (ze_o 0 [.ref (ad 70), .int (nI as), .int (nI (tot + 1)), .int (nI kp)])) rfl ?_
  have hfr : ∀ j, j ≠ 69 → va_up g 69 (ze_o 0 [.ref (ad 70), .int (nI as), .int (nI (tot + 1)), .int (nI kp)]) j = g j := fun j hj => va_up_ne _ _ hj
  generalize va_up g 69 (ze_o 0 [.ref (ad 70), .int (nI as), .int (nI (tot + 1)), .int (nI kp)]) = g2 at hs1 hfr ⊢
  refine zj_aload_n C dc_F_add_10 rfl 0 rfl ?_
  refine zj_iload_n C dc_F_add_11 rfl 3 rfl ?_
  refine zj_iload C dc_F_add_12 5 rfl ?_
  refine zj_Vi C (ct_F_rankOf _ hst z ad N g2 as (tot + 1) kp pi it hN hs1 sp cc hk) gv_F_28 rfl rfl rfl hd_F_rankOf ⟨(Nat.le_of_ble_eq_true rfl), (Nat.le_of_ble_eq_true rfl)⟩ (by omega) hs1.1 rfl rfl rfl (Nat.le_of_ble_eq_true rfl) ⟨(Nat.le_of_ble_eq_true rfl), (Nat.le_of_ble_eq_true rfl)⟩ dc_F_add_14 (fun r1 g9 h1 => ?_)
  obtain ⟨rfl, rfl⟩ := h1
  have hrk := zp_rk_le (fun i => decide (cc * cc * (it (pi i)).2.2.1 ≤ (it (pi i)).2.2.2.2 * (it (pi i)).2.2.2.2 * sp)) kp
  generalize zp_rk (fun i => decide (cc * cc * (it (pi i)).2.2.1 ≤ (it (pi i)).2.2.2.2 * (it (pi i)).2.2.2.2 * sp)) kp = rk at hrk ⊢
  refine zj_istore C dc_F_add_17 (by decide) rfl ?_
  refine zj_iload C dc_F_add_19 0 rfl ?_
  refine zj_bipush (v := 30) C dc_F_add_21 (by decide) ?_
  refine zj_icmp_lt C dc_F_add_23 rfl (fun h23 => ?_) (fun h23 => ?_)
  · have h23 := (nI_ltI (b := 30) (by omega) (by omega)).mp h23
    refine zj_aload_n C dc_F_add_27 rfl 1 rfl ?_
    refine zj_iload C dc_F_add_28 0 rfl ?_
    refine zj_Vr C (ct_F_makeRoom _ hst z ad N _ as (tot + 1) kp pi it hN hs1 rk hrk h23 hk) gv_F_32 rfl rfl rfl hd_F_makeRoom ⟨(Nat.le_of_ble_eq_true rfl), (Nat.le_of_ble_eq_true rfl)⟩ (by omega) hs1.1 rfl rfl rfl (Nat.le_of_ble_eq_true rfl) ⟨(Nat.le_of_ble_eq_true rfl), (Nat.le_of_ble_eq_true rfl)⟩ dc_F_add_30 (fun k1 g3 h1 => ?_)
    obtain ⟨rfl, hs3, hfr3⟩ := h1
    have hla : (if 29 < kp then 29 else kp) < 30 := by split <;> omega
    refine zj_astore C dc_F_add_33 (by decide) rfl ?_
    refine zj_aload C dc_F_add_35 0 rfl ?_
    refine zj_iload_n C dc_F_add_37 rfl 3 rfl ?_
    refine zj_put (k := 0) C (by have := hp1 _ hla; omega) (by (repeat rw [va_up_ne _ _ (by omega)]); exact (hs3.2.2.2.2 _ (hp1 _ hla).1 (hp1 _ hla).2)) rfl (by decide) fw_P fl_F_36 rfl fy_P fk_P fn_P rfl rfl rfl (Nat.le_of_ble_eq_true rfl) rfl dc_F_add_38 ?_
    refine zj_aload C dc_F_add_41 0 rfl ?_
    refine zj_iload_n C dc_F_add_43 rfl 4 rfl ?_
    refine zj_put (k := 1) C (by have := hp1 _ hla; omega) (by (repeat rw [va_up_ne _ _ (by omega)]); exact (va_up_self _ _ _)) rfl (by decide) fw_P fl_F_39 rfl fy_P fk_P fn_P rfl rfl rfl (Nat.le_of_ble_eq_true rfl) rfl dc_F_add_44 ?_
    refine zj_aload C dc_F_add_47 0 rfl ?_
    refine zj_iload_n C dc_F_add_49 rfl 5 rfl ?_
    refine zj_put (k := 2) C (by have := hp1 _ hla; omega) (by (repeat rw [va_up_ne _ _ (by omega)]); exact (va_up_self _ _ _)) rfl (by decide) fw_P fl_F_42 rfl fy_P fk_P fn_P rfl rfl rfl (Nat.le_of_ble_eq_true rfl) rfl dc_F_add_50 ?_
    refine zj_aload C dc_F_add_53 0 rfl ?_
    refine zj_iload C dc_F_add_55 6 rfl ?_
    refine zj_put (k := 3) C (by have := hp1 _ hla; omega) (by (repeat rw [va_up_ne _ _ (by omega)]); exact (va_up_self _ _ _)) rfl (by decide) fw_P fl_F_45 rfl fy_P fk_P fn_P rfl rfl rfl (Nat.le_of_ble_eq_true rfl) rfl dc_F_add_57 ?_
    refine zj_aload C dc_F_add_60 0 rfl ?_
    refine zj_iload C dc_F_add_62 7 rfl ?_
    refine zj_put (k := 4) C (by have := hp1 _ hla; omega) (by (repeat rw [va_up_ne _ _ (by omega)]); exact (va_up_self _ _ _)) rfl (by decide) fw_P fl_F_48 rfl fy_P fk_P fn_P rfl rfl rfl (Nat.le_of_ble_eq_true rfl) rfl dc_F_add_64 ?_
    refine zj_vret C dc_F_add_67 ⟨fun _ => ?_, fun h => by omega, fun j hj => ?_⟩
    · have hpa := hp1 _ hla
      obtain ⟨q1, ⟨f3, q2, q3⟩, q4, q5, q6⟩ := hs3
      refine ⟨by (repeat rw [va_up_ne _ _ (by omega)]); exact q1, ⟨f3, by (repeat rw [va_up_ne _ _ (by omega)]); exact q2, q3⟩, q4, q5, fun m h1 h2 => ?_⟩
      by_cases c : m = pi (if 29 < kp then 29 else kp)
      · subst c
        rw [va_up_self]
        show _ = zs_P (if _ then _ else _)
        rw [if_pos rfl]
        rfl
      · (repeat rw [va_up_ne _ _ c])
        show _ = zs_P (if _ then _ else _)
        rw [if_neg c]
        exact q6 m h1 h2
    · have hpa := hp1 _ hla
      (repeat rw [va_up_ne _ _ (by omega)])
      rw [hfr3 j (by omega) (by omega)]
      exact hfr j (by omega)
  · have h23 := (zn_nlt (b := 30) (by omega) (by omega)).mp h23
    exact zj_vret C dc_F_add_26 ⟨fun h => by omega, fun _ => hs1, fun j hj => hfr j (by omega)⟩
end ZF
