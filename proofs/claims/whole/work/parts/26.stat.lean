section ZS
/-- all of the first n have e -/
def zp_all (e : Nat → Bool) : Nat → Bool
  | 0 => true
  | n + 1 => zp_all e n && e n
theorem zp_allS (e : Nat → Bool) (n : Nat) : zp_all e (n + 1) = (zp_all e n && e n) := rfl
theorem zp_all_f {e : Nat → Bool} {i n : Nat} (hi : i < n) (h : e i = false) : zp_all e n = false := by
  induction n with
  | zero => omega
  | succ n ih =>
    rw [zp_allS]
    by_cases c : i = n
    · rw [← c, h]; simp
    · rw [ih (by omega)]; rfl
theorem zp_all_iff {e : Nat → Bool} {n : Nat} : zp_all e n = true ↔ ∀ i, i < n → e i = true := by
  induction n with
  | zero => simp [zp_all]
  | succ n ih =>
    rw [zp_allS, Bool.and_eq_true, ih]
    constructor
    · intro ⟨h1, h2⟩ i hi
      by_cases c : i = n
      · rw [c]; exact h2
      · exact h1 i (by omega)
    · intro h
      exact ⟨fun i hi => h i (by omega), h n (by omega)⟩
theorem zn_min {a b : Nat} (ha : a < 2 ^ 31) (hb : b < 2 ^ 31) : (if nI b < nI a then nI b else nI a) = nI (if b < a then b else a) := by
  by_cases c : b < a
  · rw [if_pos c, if_pos ((nI_ltI hb ha).mpr c)]
  · rw [if_neg c, if_neg (fun h => c ((nI_ltI hb ha).mp h))]
set_option maxHeartbeats 4000000 in
set_option maxRecDepth 100000 in
theorem ct_T_sameSteps (l : Launch) (hst : l.stackTraces = false) (z : zv_T) (ad : Nat → Nat) (N : Nat) (g : Nat → va_E) (ri mr rc ni nc pl : Nat) (rp rq p q : Nat → Int32) (hrN : ri + 2 < N) (hnN : ni + 2 < N) (hr : zs_N z ad g ri mr rc rp rq) (hn : zs_N z ad g ni 20 nc p q) (hmr : mr < 2 ^ 31) (len : Nat) (hn1' : 1 ≤ len) (hn2' : len ≤ mr) (hpl : pl + len ≤ 20) : zm_i l mn_T_sameSteps ws_T_sameSteps rm_T_sameSteps z ad N g [.ref (ad ri), .int (nI len), .ref (ad ni), .int (nI pl)] (fun r g1 => r = zb_i (zp_all (fun k => decide (rp (k + 1) - rp k = p (pl + k + 1) - p (pl + k))) (len - 1)) ∧ g1 = g) := by
  obtain ⟨hr0, hr1, hr2⟩ := hr
  obtain ⟨hn0, hn1, hn2⟩ := hn
  refine zm_ofz hst pn_T_sameSteps rfl (Nat.le_of_ble_eq_true rfl) (fun X hX C => ?_)
  subst hX
  show zj_J X 0 0 _ ad N g 0 [(0, .ref (ad ri)), (1, .int (nI len)), (2, .ref (ad ni)), (3, .int (nI pl))] []
  have loop : ∀ (n : Nat) (k : Nat), len - 1 - k = n → k ≤ len - 1 → zp_all (fun k => decide (rp (k + 1) - rp k = p (pl + k + 1) - p (pl + k))) k = true → zj_J X 0 0 (zj_Qi X 0 0 ad N (fun r g1 => r = zb_i (zp_all (fun k => decide (rp (k + 1) - rp k = p (pl + k + 1) - p (pl + k))) (len - 1)) ∧ g1 = g)) ad N g 3 [(4, .int (nI k)), (0, .ref (ad ri)), (1, .int (nI len)), (2, .ref (ad ni)), (3, .int (nI pl))] [] := by
    intro n
    induction n with
    | zero =>
      intro k e1 e2 e3
      refine zj_iload C dc_T_sameSteps_3 0 rfl ?_
      refine zj_iconst (v := 1) C dc_T_sameSteps_5 (by decide) ?_
      refine zj_iadd C dc_T_sameSteps_6 ?_
      refine zj_topi (nI_1 k) ?_
      refine zj_iload_n C dc_T_sameSteps_7 rfl 2 rfl ?_
      refine zj_icmp_ge C dc_T_sameSteps_8 rfl (fun _ => ?_) (fun h => absurd h (not_not_intro ((nI_leI (by omega) (by omega)).mpr (by omega))))
      refine zj_iconst (v := 1) C dc_T_sameSteps_36 (by decide) ?_
      exact zj_zret C dc_T_sameSteps_37 rfl ⟨by rw [show len - 1 = k by omega, e3]; rfl, rfl⟩
    | succ n ih =>
      intro k e1 e2 e3
      refine zj_iload C dc_T_sameSteps_3 0 rfl ?_
      refine zj_iconst (v := 1) C dc_T_sameSteps_5 (by decide) ?_
      refine zj_iadd C dc_T_sameSteps_6 ?_
      refine zj_topi (nI_1 k) ?_
      refine zj_iload_n C dc_T_sameSteps_7 rfl 2 rfl ?_
      refine zj_icmp_ge C dc_T_sameSteps_8 rfl (fun h => absurd h (((zn_nle (by omega) (by omega)).mpr (by omega)))) (fun _ => ?_)
      refine zj_aload_n C dc_T_sameSteps_11 rfl 1 rfl ?_
      refine zj_iload C dc_T_sameSteps_12 0 rfl ?_
      refine zj_Vi C (ct_N_stepBehind _ hst z ad N g ri mr rc rp rq hrN ⟨hr0, hr1, hr2⟩ hmr (k) (by omega)) gv_T_121 rfl rfl rfl hd_N_stepBehind ⟨(Nat.le_of_ble_eq_true rfl), (Nat.le_of_ble_eq_true rfl)⟩ (by omega) hr0 rfl rfl rfl (Nat.le_of_ble_eq_true rfl) ⟨(Nat.le_of_ble_eq_true rfl), (Nat.le_of_ble_eq_true rfl)⟩ dc_T_sameSteps_14 (fun r1 g9 h1 => ?_)
      obtain ⟨rfl, hg9⟩ := h1
      rw [hg9]
      refine zj_aload_n C dc_T_sameSteps_17 rfl 3 rfl ?_
      refine zj_iload_n C dc_T_sameSteps_18 rfl 4 rfl ?_
      refine zj_iload C dc_T_sameSteps_19 0 rfl ?_
      refine zj_iadd C dc_T_sameSteps_21 ?_
      refine zj_topi (nI_add _ _) ?_
      refine zj_Vi C (ct_N_stepBehind _ hst z ad N g ni 20 nc p q hnN ⟨hn0, hn1, hn2⟩ (by decide) (pl + k) (by omega)) gv_T_121 rfl rfl rfl hd_N_stepBehind ⟨(Nat.le_of_ble_eq_true rfl), (Nat.le_of_ble_eq_true rfl)⟩ (by omega) hn0 rfl rfl rfl (Nat.le_of_ble_eq_true rfl) ⟨(Nat.le_of_ble_eq_true rfl), (Nat.le_of_ble_eq_true rfl)⟩ dc_T_sameSteps_22 (fun r2 g9 h1 => ?_)
      obtain ⟨rfl, hg9⟩ := h1
      rw [hg9]
      refine zj_icmp_eq C dc_T_sameSteps_25 rfl (fun h25 => ?_) (fun h25 => ?_)
      · skip
        refine zj_iinc C dc_T_sameSteps_30 0 rfl (zn_inc k) (by decide) rfl ?_
        refine zj_goto C dc_T_sameSteps_33 rfl ?_
        refine zj_loc (L' := [(4, .int (nI (k + 1))), (0, .ref (ad ri)), (1, .int (nI len)), (2, .ref (ad ni)), (3, .int (nI pl))]) [0, 1, 2, 3, 4] rfl ?_
        exact ih (k + 1) (by omega) (by omega) (by rw [zp_allS, e3, decide_eq_true h25]; rfl)
      · skip
        refine zj_iconst (v := 0) C dc_T_sameSteps_28 (by decide) ?_
        exact zj_zret C dc_T_sameSteps_29 rfl ⟨by rw [zp_all_f (i := k) (by omega) (decide_eq_false h25)]; rfl, rfl⟩
  refine zj_iconst (v := 0) C dc_T_sameSteps_0 (by decide) ?_
  refine zj_istore C dc_T_sameSteps_1 (by decide) rfl ?_
  refine zj_loc (L' := [(4, .int (nI 0)), (0, .ref (ad ri)), (1, .int (nI len)), (2, .ref (ad ni)), (3, .int (nI pl))]) [0, 1, 2, 3, 4] rfl ?_
  exact loop (len - 1) 0 rfl (by omega) rfl
set_option maxHeartbeats 4000000 in
set_option maxRecDepth 100000 in
theorem ct_T_sameLengths (l : Launch) (hst : l.stackTraces = false) (z : zv_T) (ad : Nat → Nat) (N : Nat) (g : Nat → va_E) (ri mr rc ni nc pl : Nat) (rp rq p q : Nat → Int32) (hrN : ri + 2 < N) (hnN : ni + 2 < N) (hr : zs_N z ad g ri mr rc rp rq) (hn : zs_N z ad g ni 20 nc p q) (hmr : mr < 2 ^ 31) (len : Nat) (hn2' : len ≤ mr) (hpl : pl + len ≤ 20) : zm_i l mn_T_sameLengths ws_T_sameLengths rm_T_sameLengths z ad N g [.ref (ad ri), .int (nI len), .ref (ad ni), .int (nI pl)] (fun r g1 => r = zb_i (zp_all (fun k => decide (rq k = q (pl + k))) len) ∧ g1 = g) := by
  obtain ⟨hr0, hr1, hr2⟩ := hr
  obtain ⟨hn0, hn1, hn2⟩ := hn
  refine zm_ofz hst pn_T_sameLengths rfl (Nat.le_of_ble_eq_true rfl) (fun X hX C => ?_)
  subst hX
  show zj_J X 0 0 _ ad N g 0 [(0, .ref (ad ri)), (1, .int (nI len)), (2, .ref (ad ni)), (3, .int (nI pl))] []
  have loop : ∀ (n : Nat) (k : Nat), len - k = n → k ≤ len → zp_all (fun k => decide (rq k = q (pl + k))) k = true → zj_J X 0 0 (zj_Qi X 0 0 ad N (fun r g1 => r = zb_i (zp_all (fun k => decide (rq k = q (pl + k))) len) ∧ g1 = g)) ad N g 3 [(4, .int (nI k)), (0, .ref (ad ri)), (1, .int (nI len)), (2, .ref (ad ni)), (3, .int (nI pl))] [] := by
    intro n
    induction n with
    | zero =>
      intro k e1 e2 e3
      refine zj_iload C dc_T_sameLengths_3 0 rfl ?_
      refine zj_iload_n C dc_T_sameLengths_5 rfl 2 rfl ?_
      refine zj_icmp_ge C dc_T_sameLengths_6 rfl (fun _ => ?_) (fun h => absurd h (not_not_intro ((nI_leI (by omega) (by omega)).mpr (by omega))))
      refine zj_iconst (v := 1) C dc_T_sameLengths_36 (by decide) ?_
      exact zj_zret C dc_T_sameLengths_37 rfl ⟨by rw [show len = k by omega, e3]; rfl, rfl⟩
    | succ n ih =>
      intro k e1 e2 e3
      refine zj_iload C dc_T_sameLengths_3 0 rfl ?_
      refine zj_iload_n C dc_T_sameLengths_5 rfl 2 rfl ?_
      refine zj_icmp_ge C dc_T_sameLengths_6 rfl (fun h => absurd h (((zn_nle (by omega) (by omega)).mpr (by omega)))) (fun _ => ?_)
      refine zj_aload_n C dc_T_sameLengths_9 rfl 1 rfl ?_
      refine zj_get (k := 1) C (by omega) hr0 rfl (by decide) fw_N fl_T_250 rfl rfl dc_T_sameLengths_10 ?_
      refine zj_iload C dc_T_sameLengths_13 0 rfl ?_
      refine zj_iald C (by omega) hr2 rfl (by omega) hmr dc_T_sameLengths_15 ?_
      refine zj_aload_n C dc_T_sameLengths_16 rfl 3 rfl ?_
      refine zj_get (k := 1) C (by omega) hn0 rfl (by decide) fw_N fl_T_250 rfl rfl dc_T_sameLengths_17 ?_
      refine zj_iload_n C dc_T_sameLengths_20 rfl 4 rfl ?_
      refine zj_iload C dc_T_sameLengths_21 0 rfl ?_
      refine zj_iadd C dc_T_sameLengths_23 ?_
      refine zj_topi (nI_add _ _) ?_
      refine zj_iald C (by omega) hn2 rfl (by omega) (by decide) dc_T_sameLengths_24 ?_
      refine zj_icmp_eq C dc_T_sameLengths_25 rfl (fun h25 => ?_) (fun h25 => ?_)
      · skip
        refine zj_iinc C dc_T_sameLengths_30 0 rfl (zn_inc k) (by decide) rfl ?_
        refine zj_goto C dc_T_sameLengths_33 rfl ?_
        refine zj_loc (L' := [(4, .int (nI (k + 1))), (0, .ref (ad ri)), (1, .int (nI len)), (2, .ref (ad ni)), (3, .int (nI pl))]) [0, 1, 2, 3, 4] rfl ?_
        exact ih (k + 1) (by omega) (by omega) (by rw [zp_allS, e3, decide_eq_true h25]; rfl)
      · skip
        refine zj_iconst (v := 0) C dc_T_sameLengths_28 (by decide) ?_
        exact zj_zret C dc_T_sameLengths_29 rfl ⟨by rw [zp_all_f (i := k) (by omega) (decide_eq_false h25)]; rfl, rfl⟩
  refine zj_iconst (v := 0) C dc_T_sameLengths_0 (by decide) ?_
  refine zj_istore C dc_T_sameLengths_1 (by decide) rfl ?_
  refine zj_loc (L' := [(4, .int (nI 0)), (0, .ref (ad ri)), (1, .int (nI len)), (2, .ref (ad ni)), (3, .int (nI pl))]) [0, 1, 2, 3, 4] rfl ?_
  exact loop len 0 rfl (by omega) rfl
set_option maxHeartbeats 4000000 in
set_option maxRecDepth 100000 in
theorem ct_T_sameRatio (l : Launch) (hst : l.stackTraces = false) (z : zv_T) (ad : Nat → Nat) (N : Nat) (g : Nat → va_E) (ri mr rc ni nc pl : Nat) (rp rq p q : Nat → Int32) (hrN : ri + 2 < N) (hnN : ni + 2 < N) (hr : zs_N z ad g ri mr rc rp rq) (hn : zs_N z ad g ni 20 nc p q) (hmr : mr < 2 ^ 31) (hc1 : 1 ≤ rc) (hc2 : rc ≤ mr) (hpl : pl + rc ≤ 20) : zm_i l mn_T_sameRatio ws_T_sameRatio rm_T_sameRatio z ad N g [.ref (ad ri), .ref (ad ni), .int (nI pl)] (fun r g1 => r = zb_i (zp_all (fun k => decide (rq (k + 1) * q pl = q (pl + (k + 1)) * rq 0)) (rc - 1)) ∧ g1 = g) := by
  obtain ⟨hr0, hr1, hr2⟩ := hr
  obtain ⟨hn0, hn1, hn2⟩ := hn
  refine zm_ofz hst pn_T_sameRatio rfl (Nat.le_of_ble_eq_true rfl) (fun X hX C => ?_)
  subst hX
  show zj_J X 0 0 _ ad N g 0 [(0, .ref (ad ri)), (1, .ref (ad ni)), (2, .int (nI pl))] []
  have loop : ∀ (n : Nat) (k : Nat), rc - 1 - k = n → k ≤ rc - 1 → zp_all (fun k => decide (rq (k + 1) * q pl = q (pl + (k + 1)) * rq 0)) k = true → zj_J X 0 0 (zj_Qi X 0 0 ad N (fun r g1 => r = zb_i (zp_all (fun k => decide (rq (k + 1) * q pl = q (pl + (k + 1)) * rq 0)) (rc - 1)) ∧ g1 = g)) ad N g 2 [(3, .int (nI (k + 1))), (0, .ref (ad ri)), (1, .ref (ad ni)), (2, .int (nI pl))] [] := by
    intro n
    induction n with
    | zero =>
      intro k e1 e2 e3
      refine zj_iload_n C dc_T_sameRatio_2 rfl 0 rfl ?_
      refine zj_aload_n C dc_T_sameRatio_3 rfl 1 rfl ?_
      refine zj_get (k := 2) C (by omega) hr0 rfl (by decide) fw_N fl_T_84 rfl rfl dc_T_sameRatio_4 ?_
      refine zj_icmp_ge C dc_T_sameRatio_7 rfl (fun _ => ?_) (fun h => absurd h (not_not_intro ((nI_leI (by omega) (by omega)).mpr (by omega))))
      refine zj_iconst (v := 1) C dc_T_sameRatio_49 (by decide) ?_
      exact zj_zret C dc_T_sameRatio_50 rfl ⟨by rw [show rc - 1 = k by omega, e3]; rfl, rfl⟩
    | succ n ih =>
      intro k e1 e2 e3
      refine zj_iload_n C dc_T_sameRatio_2 rfl 0 rfl ?_
      refine zj_aload_n C dc_T_sameRatio_3 rfl 1 rfl ?_
      refine zj_get (k := 2) C (by omega) hr0 rfl (by decide) fw_N fl_T_84 rfl rfl dc_T_sameRatio_4 ?_
      refine zj_icmp_ge C dc_T_sameRatio_7 rfl (fun h => absurd h (((zn_nle (by omega) (by omega)).mpr (by omega)))) (fun _ => ?_)
      refine zj_aload_n C dc_T_sameRatio_10 rfl 1 rfl ?_
      refine zj_get (k := 1) C (by omega) hr0 rfl (by decide) fw_N fl_T_250 rfl rfl dc_T_sameRatio_11 ?_
      refine zj_iload_n C dc_T_sameRatio_14 rfl 0 rfl ?_
      refine zj_iald C (by omega) hr2 rfl (by omega) hmr dc_T_sameRatio_15 ?_
      refine zj_aload_n C dc_T_sameRatio_16 rfl 2 rfl ?_
      refine zj_get (k := 1) C (by omega) hn0 rfl (by decide) fw_N fl_T_250 rfl rfl dc_T_sameRatio_17 ?_
      refine zj_iload_n C dc_T_sameRatio_20 rfl 3 rfl ?_
      refine zj_iald C (by omega) hn2 rfl (by omega) (by decide) dc_T_sameRatio_21 ?_
      refine zj_imul C dc_T_sameRatio_22 ?_
      refine zj_aload_n C dc_T_sameRatio_23 rfl 2 rfl ?_
      refine zj_get (k := 1) C (by omega) hn0 rfl (by decide) fw_N fl_T_250 rfl rfl dc_T_sameRatio_24 ?_
      refine zj_iload_n C dc_T_sameRatio_27 rfl 3 rfl ?_
      refine zj_iload_n C dc_T_sameRatio_28 rfl 0 rfl ?_
      refine zj_iadd C dc_T_sameRatio_29 ?_
      refine zj_topi (nI_add _ _) ?_
      refine zj_iald C (by omega) hn2 rfl (by omega) (by decide) dc_T_sameRatio_30 ?_
      refine zj_aload_n C dc_T_sameRatio_31 rfl 1 rfl ?_
      refine zj_get (k := 1) C (by omega) hr0 rfl (by decide) fw_N fl_T_250 rfl rfl dc_T_sameRatio_32 ?_
      refine zj_iconst (v := 0) C dc_T_sameRatio_35 (by decide) ?_
      refine zj_iald C (by omega) hr2 nI_0.symm (by omega) hmr dc_T_sameRatio_36 ?_
      refine zj_imul C dc_T_sameRatio_37 ?_
      refine zj_icmp_eq C dc_T_sameRatio_38 rfl (fun h38 => ?_) (fun h38 => ?_)
      · skip
        refine zj_iinc C dc_T_sameRatio_43 0 rfl (zn_inc (k + 1)) (by decide) rfl ?_
        refine zj_goto C dc_T_sameRatio_46 rfl ?_
        refine zj_loc (L' := [(3, .int (nI (k + 1 + 1))), (0, .ref (ad ri)), (1, .ref (ad ni)), (2, .int (nI pl))]) [0, 1, 2, 3] rfl ?_
        exact ih (k + 1) (by omega) (by omega) (by rw [zp_allS, e3, decide_eq_true h38]; rfl)
      · skip
        refine zj_iconst (v := 0) C dc_T_sameRatio_41 (by decide) ?_
        exact zj_zret C dc_T_sameRatio_42 rfl ⟨by rw [zp_all_f (i := k) (by omega) (decide_eq_false h38)]; rfl, rfl⟩
  refine zj_iconst (v := 1) C dc_T_sameRatio_0 (by decide) ?_
  refine zj_istore_n C dc_T_sameRatio_1 rfl (by decide) rfl ?_
  refine zj_loc (L' := [(3, .int (nI (0 + 1))), (0, .ref (ad ri)), (1, .ref (ad ni)), (2, .int (nI pl))]) [0, 1, 2, 3] rfl ?_
  exact loop (rc - 1) 0 rfl (by omega) rfl
set_option maxHeartbeats 4000000 in
set_option maxRecDepth 100000 in
theorem ct_T_stepsSharedAtFirst (l : Launch) (hst : l.stackTraces = false) (z : zv_T) (ad : Nat → Nat) (N : Nat) (g : Nat → va_E) (ri rc ni nc : Nat) (rp rq p q : Nat → Int32) (hrN : ri + 2 < N) (hnN : ni + 2 < N) (hr : zs_N z ad g ri 20 rc rp rq) (hn : zs_N z ad g ni 20 nc p q) (hrc : rc ≤ 20) (hnc : nc ≤ 20) : zm_i l mn_T_stepsSharedAtFirst ws_T_stepsSharedAtFirst rm_T_stepsSharedAtFirst z ad N g [.ref (ad ri), .ref (ad ni)] (fun r g1 => (∃ m, r = nI m ∧ zp_ld (fun k => decide (rp (k + 1) - rp k = p (k + 1) - p k)) (if nc - 1 < rc - 1 then nc - 1 else rc - 1) m) ∧ g1 = g) := by
  obtain ⟨hr0, hr1, hr2⟩ := hr
  obtain ⟨hn0, hn1, hn2⟩ := hn
  have hx1 : (if nc - 1 < rc - 1 then nc - 1 else rc - 1) ≤ nc - 1 := by split <;> omega
  have hx2 : (if nc - 1 < rc - 1 then nc - 1 else rc - 1) ≤ rc - 1 := by split <;> omega
  refine zm_ofi hst pn_T_stepsSharedAtFirst rfl (Nat.le_of_ble_eq_true rfl) (fun X hX C => ?_)
  subst hX
  show zj_J X 0 0 _ ad N g 0 [(0, .ref (ad ri)), (1, .ref (ad ni))] []
  have loop : ∀ (n : Nat) (k : Nat), (if nc - 1 < rc - 1 then nc - 1 else rc - 1) - k = n → k ≤ (if nc - 1 < rc - 1 then nc - 1 else rc - 1) → (∀ t, t < k → (fun k => decide (rp (k + 1) - rp k = p (k + 1) - p k)) t = true) → zj_J X 0 0 (zj_Qi X 0 0 ad N (fun r g1 => (∃ m, r = nI m ∧ zp_ld (fun k => decide (rp (k + 1) - rp k = p (k + 1) - p k)) (if nc - 1 < rc - 1 then nc - 1 else rc - 1) m) ∧ g1 = g)) ad N g 14 [(3, .int (nI k)), (2, .int (nI (if nc - 1 < rc - 1 then nc - 1 else rc - 1))), (0, .ref (ad ri)), (1, .ref (ad ni))] [] := by
    intro n
    induction n with
    | zero =>
      intro k e1 e2 e3
      refine zj_iload_n C dc_T_stepsSharedAtFirst_14 rfl 0 rfl ?_
      refine zj_iload_n C dc_T_stepsSharedAtFirst_15 rfl 1 rfl ?_
      refine zj_icmp_ge C dc_T_stepsSharedAtFirst_16 rfl (fun _ => ?_) (fun h => absurd h (not_not_intro ((nI_leI (by omega) (by omega)).mpr (by omega))))
      refine zj_iload_n C dc_T_stepsSharedAtFirst_40 rfl 1 rfl ?_
      exact zj_iret C dc_T_stepsSharedAtFirst_41 ⟨⟨(if nc - 1 < rc - 1 then nc - 1 else rc - 1), rfl, Nat.le_refl _, by rw [show (if nc - 1 < rc - 1 then nc - 1 else rc - 1) = k by omega]; exact e3, fun h => by omega⟩, rfl⟩
    | succ n ih =>
      intro k e1 e2 e3
      refine zj_iload_n C dc_T_stepsSharedAtFirst_14 rfl 0 rfl ?_
      refine zj_iload_n C dc_T_stepsSharedAtFirst_15 rfl 1 rfl ?_
      refine zj_icmp_ge C dc_T_stepsSharedAtFirst_16 rfl (fun h => absurd h (((zn_nle (by omega) (by omega)).mpr (by omega)))) (fun _ => ?_)
      refine zj_aload_n C dc_T_stepsSharedAtFirst_19 rfl 2 rfl ?_
      refine zj_iload_n C dc_T_stepsSharedAtFirst_20 rfl 0 rfl ?_
      refine zj_Vi C (ct_N_stepBehind _ hst z ad N g ri 20 rc rp rq hrN ⟨hr0, hr1, hr2⟩ (by decide) (k) (by omega)) gv_T_121 rfl rfl rfl hd_N_stepBehind ⟨(Nat.le_of_ble_eq_true rfl), (Nat.le_of_ble_eq_true rfl)⟩ (by omega) hr0 rfl rfl rfl (Nat.le_of_ble_eq_true rfl) ⟨(Nat.le_of_ble_eq_true rfl), (Nat.le_of_ble_eq_true rfl)⟩ dc_T_stepsSharedAtFirst_21 (fun r1 g9 h1 => ?_)
      obtain ⟨rfl, hg9⟩ := h1
      rw [hg9]
      refine zj_aload_n C dc_T_stepsSharedAtFirst_24 rfl 3 rfl ?_
      refine zj_iload_n C dc_T_stepsSharedAtFirst_25 rfl 0 rfl ?_
      refine zj_Vi C (ct_N_stepBehind _ hst z ad N g ni 20 nc p q hnN ⟨hn0, hn1, hn2⟩ (by decide) (k) (by omega)) gv_T_121 rfl rfl rfl hd_N_stepBehind ⟨(Nat.le_of_ble_eq_true rfl), (Nat.le_of_ble_eq_true rfl)⟩ (by omega) hn0 rfl rfl rfl (Nat.le_of_ble_eq_true rfl) ⟨(Nat.le_of_ble_eq_true rfl), (Nat.le_of_ble_eq_true rfl)⟩ dc_T_stepsSharedAtFirst_26 (fun r2 g9 h1 => ?_)
      obtain ⟨rfl, hg9⟩ := h1
      rw [hg9]
      refine zj_icmp_eq C dc_T_stepsSharedAtFirst_29 rfl (fun h29 => ?_) (fun h29 => ?_)
      · skip
        refine zj_iinc C dc_T_stepsSharedAtFirst_34 0 rfl (zn_inc k) (by decide) rfl ?_
        refine zj_goto C dc_T_stepsSharedAtFirst_37 rfl ?_
        refine zj_loc (L' := [(3, .int (nI (k + 1))), (2, .int (nI (if nc - 1 < rc - 1 then nc - 1 else rc - 1))), (0, .ref (ad ri)), (1, .ref (ad ni))]) [0, 1, 2, 3] rfl ?_
        exact ih (k + 1) (by omega) (by omega) (fun t ht => if c9 : t = k then (by rw [c9]; exact decide_eq_true h29) else e3 t (by omega))
      · skip
        refine zj_iload_n C dc_T_stepsSharedAtFirst_32 rfl 0 rfl ?_
        exact zj_iret C dc_T_stepsSharedAtFirst_33 ⟨⟨k, rfl, by omega, e3, fun _ => decide_eq_false h29⟩, rfl⟩
  refine zj_aload_n C dc_T_stepsSharedAtFirst_0 rfl 0 rfl ?_
  refine zj_Vi C (ct_N_steps _ hst z ad N g ri 20 rc rp rq hrN ⟨hr0, hr1, hr2⟩ (by decide) (by omega)) gv_T_117 rfl rfl rfl hd_N_steps ⟨(Nat.le_of_ble_eq_true rfl), (Nat.le_of_ble_eq_true rfl)⟩ (by omega) hr0 rfl rfl rfl (Nat.le_of_ble_eq_true rfl) ⟨(Nat.le_of_ble_eq_true rfl), (Nat.le_of_ble_eq_true rfl)⟩ dc_T_stepsSharedAtFirst_1 (fun r1 g9 h1 => ?_)
  obtain ⟨rfl, hg9⟩ := h1
  rw [hg9]
  refine zj_aload_n C dc_T_stepsSharedAtFirst_4 rfl 1 rfl ?_
  refine zj_Vi C (ct_N_steps _ hst z ad N g ni 20 nc p q hnN ⟨hn0, hn1, hn2⟩ (by decide) (by omega)) gv_T_117 rfl rfl rfl hd_N_steps ⟨(Nat.le_of_ble_eq_true rfl), (Nat.le_of_ble_eq_true rfl)⟩ (by omega) hn0 rfl rfl rfl (Nat.le_of_ble_eq_true rfl) ⟨(Nat.le_of_ble_eq_true rfl), (Nat.le_of_ble_eq_true rfl)⟩ dc_T_stepsSharedAtFirst_5 (fun r2 g9 h1 => ?_)
  obtain ⟨rfl, hg9⟩ := h1
  rw [hg9]
  refine zj_mmin C ml_T_253 sm_Math_min ini_Math wk_Math_min ⟨(Nat.le_of_ble_eq_true rfl), (Nat.le_of_ble_eq_true rfl)⟩ ⟨(Nat.le_of_ble_eq_true rfl), (Nat.le_of_ble_eq_true rfl)⟩ dc_T_stepsSharedAtFirst_8 ?_
  refine zj_topi (zn_min (by omega) (by omega)) ?_
  refine zj_istore_n C dc_T_stepsSharedAtFirst_11 rfl (by decide) rfl ?_
  refine zj_iconst (v := 0) C dc_T_stepsSharedAtFirst_12 (by decide) ?_
  refine zj_istore_n C dc_T_stepsSharedAtFirst_13 rfl (by decide) rfl ?_
  refine zj_loc (L' := [(3, .int (nI 0)), (2, .int (nI (if nc - 1 < rc - 1 then nc - 1 else rc - 1))), (0, .ref (ad ri)), (1, .ref (ad ni))]) [0, 1, 2, 3] rfl ?_
  exact loop (if nc - 1 < rc - 1 then nc - 1 else rc - 1) 0 rfl (by omega) (fun t ht => by omega)
end ZS
