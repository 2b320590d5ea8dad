section ZMQ
set_option maxHeartbeats 4000000 in
set_option maxRecDepth 100000 in
theorem ct_M_correct (l : Launch) (hst : l.stackTraces = false) (z : zv_T) (ad : Nat → Nat) (N : Nat) (g : Nat → va_E) (c as fo kp : Int32) (a : Nat → Nat → Int32) (hN : 126 ≤ N) (hM0 : zs_M z ad g c as fo kp a) (th sh : Nat → Bool) (Cn Rn : Nat → Nat) (hA : zm_A a th sh Cn Rn) (id p x y : Int32) : zm_i l mn_M_correct ws_M_correct rm_M_correct z ad N g [.ref (ad 108), .int id, .int p, .int x, .int y] (fun r g1 => (∃ t pl a1, zm_is th id t ∧ pl < Cn t ∧ p = nI pl ∧ zp_no x y ∧ Rn t < 9 ∧ r = nI (Rn t) ∧ zm_M z ad g g1 0 as fo kp a1 ∧ (∀ r, r ≠ 3 → r ≠ 4 → r ≠ 5 → a1 r = a r) ∧ a1 3 = upd (a 3) t (nI (Rn t + 1)) ∧ a1 4 = zm_cp (a 4) (180 * t + 20 * Rn t) (180 * t + 20 * (Rn t - 1)) pl x (Cn t) ∧ a1 5 = zm_cp (a 5) (180 * t + 20 * Rn t) (180 * t + 20 * (Rn t - 1)) pl y (Cn t)) ∨ (((∀ t, ¬ zm_is th id t) ∨ ∃ t, zm_is th id t ∧ ∀ k, k < Cn t → ¬ p = nI k) ∧ zm_M z ad g g1 1 as fo kp a) ∨ ((∃ t k, zm_is th id t ∧ k < Cn t ∧ p = nI k) ∧ ¬ zp_no x y ∧ zm_M z ad g g1 2 as fo kp a) ∨ ((∃ t k, zm_is th id t ∧ k < Cn t ∧ p = nI k ∧ Rn t = 9) ∧ zp_no x y ∧ zm_M z ad g g1 3 as fo kp a)) := by
  have hM : zm_M z ad g g c as fo kp a := ⟨hM0, fun _ _ => rfl⟩
  refine zm_ofi hst pn_M_correct rfl (Nat.le_of_ble_eq_true rfl) (fun X hX C => ?_)
  subst hX
  show zj_J X 0 0 _ ad N g 0 [(0, .ref (ad 108)), (1, .int id), (2, .int p), (3, .int x), (4, .int y)] []
  have loop : ∀ (n : Nat) (k t pl : Nat) (g2 : Nat → va_E) (a2 : Nat → Nat → Int32), Cn t - k = n → k ≤ Cn t → t < 8 → id = nI t → th t = true → pl < Cn t → p = nI pl → zp_no x y → Rn t < 9 → zm_M z ad g g2 0 as fo kp a2 → (∀ r, r ≠ 4 → r ≠ 5 → a2 r = a r) → a2 4 = zm_cp (a 4) (180 * t + 20 * Rn t) (180 * t + 20 * (Rn t - 1)) pl x (k) → a2 5 = zm_cp (a 5) (180 * t + 20 * Rn t) (180 * t + 20 * (Rn t - 1)) pl y (k) → zj_J X 0 0 (zj_Qi X 0 0 ad N (fun r g1 => (∃ t pl a1, zm_is th id t ∧ pl < Cn t ∧ p = nI pl ∧ zp_no x y ∧ Rn t < 9 ∧ r = nI (Rn t) ∧ zm_M z ad g g1 0 as fo kp a1 ∧ (∀ r, r ≠ 3 → r ≠ 4 → r ≠ 5 → a1 r = a r) ∧ a1 3 = upd (a 3) t (nI (Rn t + 1)) ∧ a1 4 = zm_cp (a 4) (180 * t + 20 * Rn t) (180 * t + 20 * (Rn t - 1)) pl x (Cn t) ∧ a1 5 = zm_cp (a 5) (180 * t + 20 * Rn t) (180 * t + 20 * (Rn t - 1)) pl y (Cn t)) ∨ (((∀ t, ¬ zm_is th id t) ∨ ∃ t, zm_is th id t ∧ ∀ k, k < Cn t → ¬ p = nI k) ∧ zm_M z ad g g1 1 as fo kp a) ∨ ((∃ t k, zm_is th id t ∧ k < Cn t ∧ p = nI k) ∧ ¬ zp_no x y ∧ zm_M z ad g g1 2 as fo kp a) ∨ ((∃ t k, zm_is th id t ∧ k < Cn t ∧ p = nI k ∧ Rn t = 9) ∧ zp_no x y ∧ zm_M z ad g g1 3 as fo kp a))) ad N g2 83 [(6, .int (nI k)), (5, .int (nI (Rn t))), (0, .ref (ad 108)), (1, .int (nI t)), (2, .int (nI pl)), (3, .int x), (4, .int y)] [] := by
    intro n
    induction n with
    | zero =>
      intro k t pl g2 a2 e1 e2 ht hid hth hpl hp hno hR9 hM hr h4 h5
      obtain ⟨hA0, hA1, hA2, hA3, hA4, hA5, hA6⟩ := hA t ht
      have hA6 := hA6 hth
      refine zj_iload C dc_M_correct_83 0 rfl ?_
      refine zj_aload_n C dc_M_correct_85 rfl 2 rfl ?_
      refine zj_get (k := 3) C (by omega) hM.1.1 rfl (by decide) fw_M fl_M_16 rfl rfl dc_M_correct_86 ?_
      refine zj_iload_n C dc_M_correct_89 rfl 3 rfl ?_
      refine zj_iald C (by omega) hM.1.2.2.2.1 rfl ht (by decide) dc_M_correct_90 ?_
      refine zj_topi ((congrFun (hr 2 (by decide) (by decide)) t).trans hA2) ?_
      refine zj_icmp_ge C dc_M_correct_91 rfl (fun _ => ?_) (fun h => absurd h (not_not_intro ((nI_leI (by omega) (by omega)).mpr (by omega))))
      refine zj_aload_n C dc_M_correct_181 rfl 2 rfl ?_
      refine zj_get (k := 4) C (by omega) hM.1.1 rfl (by decide) fw_M fl_M_20 rfl rfl dc_M_correct_182 ?_
      refine zj_iload_n C dc_M_correct_185 rfl 3 rfl ?_
      refine zj_dup2 C dc_M_correct_186 rfl rfl ?_
      refine zj_iald C (by omega) hM.1.2.2.2.2.1 rfl ht (by decide) dc_M_correct_187 ?_
      refine zj_topi ((congrFun (hr 3 (by decide) (by decide)) t).trans hA3) ?_
      refine zj_iconst (v := 1) C dc_M_correct_188 (by decide) ?_
      refine zj_iadd C dc_M_correct_189 ?_
      refine zj_topi (nI_1 _) ?_
      refine zj_iast C (by omega) hM.1.2.2.2.2.1 rfl ht (by decide) dc_M_correct_190 ?_
      refine zM_k3 hM (fun g2 hM => ?_)
      refine zj_iload C dc_M_correct_191 1 rfl ?_
      exact zj_iret C dc_M_correct_193 (Or.inl ⟨t, pl, _, ⟨ht, hid, hth⟩, hpl, hp, hno, hR9, rfl, hM, fun r q1 q2 q3 => (va_up_ne _ _ q1).trans (hr r q2 q3), (va_up_self _ _ _).trans (by rw [hr 3 (by decide) (by decide)]), (va_up_ne _ _ (by decide)).trans (by rw [h4, show k = Cn t by omega]), (va_up_ne _ _ (by decide)).trans (by rw [h5, show k = Cn t by omega])⟩)
    | succ n ih =>
      intro k t pl g2 a2 e1 e2 ht hid hth hpl hp hno hR9 hM hr h4 h5
      obtain ⟨hA0, hA1, hA2, hA3, hA4, hA5, hA6⟩ := hA t ht
      have hA6 := hA6 hth
      refine zj_iload C dc_M_correct_83 0 rfl ?_
      refine zj_aload_n C dc_M_correct_85 rfl 2 rfl ?_
      refine zj_get (k := 3) C (by omega) hM.1.1 rfl (by decide) fw_M fl_M_16 rfl rfl dc_M_correct_86 ?_
      refine zj_iload_n C dc_M_correct_89 rfl 3 rfl ?_
      refine zj_iald C (by omega) hM.1.2.2.2.1 rfl ht (by decide) dc_M_correct_90 ?_
      refine zj_topi ((congrFun (hr 2 (by decide) (by decide)) t).trans hA2) ?_
      refine zj_icmp_ge C dc_M_correct_91 rfl (fun h => absurd h (((zn_nle (by omega) (by omega)).mpr (by omega)))) (fun _ => ?_)
      refine zj_aload_n C dc_M_correct_94 rfl 2 rfl ?_
      refine zj_get (k := 5) C (by omega) hM.1.1 rfl (by decide) fw_M fl_M_23 rfl rfl dc_M_correct_95 ?_
      refine zj_aload_n C dc_M_correct_98 rfl 2 rfl ?_
      refine zj_iload_n C dc_M_correct_99 rfl 3 rfl ?_
      refine zj_iload C dc_M_correct_100 1 rfl ?_
      refine zj_iload C dc_M_correct_102 0 rfl ?_
      refine zj_Vi C (ct_M_spot _ hst z ad N _ _ _ _ _ _ hN hM.1 (t) (Rn t) (k)) gv_M_66 rfl rfl rfl hd_M_spot ⟨(Nat.le_of_ble_eq_true rfl), (Nat.le_of_ble_eq_true rfl)⟩ (by omega) hM.1.1 rfl rfl rfl (Nat.le_of_ble_eq_true rfl) ⟨(Nat.le_of_ble_eq_true rfl), (Nat.le_of_ble_eq_true rfl)⟩ dc_M_correct_104 (fun r1 g9 h1 => ?_)
      obtain ⟨rfl, hg9⟩ := h1
      rw [hg9]
      refine zj_iload C dc_M_correct_107 0 rfl ?_
      refine zj_iload_n C dc_M_correct_109 rfl 4 rfl ?_
      refine zj_icmp_ne C dc_M_correct_110 rfl (fun b1 => ?_) (fun b1 => ?_)
      · have b1 := (zn_ne (by omega) (by omega)).mp b1
        refine zj_aload_n C dc_M_correct_117 rfl 2 rfl ?_
        refine zj_get (k := 5) C (by omega) hM.1.1 rfl (by decide) fw_M fl_M_23 rfl rfl dc_M_correct_118 ?_
        refine zj_aload_n C dc_M_correct_121 rfl 2 rfl ?_
        refine zj_iload_n C dc_M_correct_122 rfl 3 rfl ?_
        refine zj_iload C dc_M_correct_123 1 rfl ?_
        refine zj_iconst (v := 1) C dc_M_correct_125 (by decide) ?_
        refine zj_isub C dc_M_correct_126 ?_
        refine zj_topi (zn_m1 hA6) ?_
        refine zj_iload C dc_M_correct_127 0 rfl ?_
        refine zj_Vi C (ct_M_spot _ hst z ad N _ _ _ _ _ _ hN hM.1 (t) (Rn t - 1) (k)) gv_M_66 rfl rfl rfl hd_M_spot ⟨(Nat.le_of_ble_eq_true rfl), (Nat.le_of_ble_eq_true rfl)⟩ (by omega) hM.1.1 rfl rfl rfl (Nat.le_of_ble_eq_true rfl) ⟨(Nat.le_of_ble_eq_true rfl), (Nat.le_of_ble_eq_true rfl)⟩ dc_M_correct_129 (fun r1 g9 h1 => ?_)
        obtain ⟨rfl, hg9⟩ := h1
        rw [hg9]
        refine zj_iald C (by omega) hM.1.2.2.2.2.2.1 rfl (by omega) (by decide) dc_M_correct_132 ?_
        refine zj_iast C (by omega) hM.1.2.2.2.2.2.1 rfl (by omega) (by decide) dc_M_correct_133 ?_
        refine zM_k4 hM (fun g2 hM => ?_)
        refine zj_aload_n C dc_M_correct_134 rfl 2 rfl ?_
        refine zj_get (k := 6) C (by omega) hM.1.1 rfl (by decide) fw_M fl_M_26 rfl rfl dc_M_correct_135 ?_
        refine zj_aload_n C dc_M_correct_138 rfl 2 rfl ?_
        refine zj_iload_n C dc_M_correct_139 rfl 3 rfl ?_
        refine zj_iload C dc_M_correct_140 1 rfl ?_
        refine zj_iload C dc_M_correct_142 0 rfl ?_
        refine zj_Vi C (ct_M_spot _ hst z ad N _ _ _ _ _ _ hN hM.1 (t) (Rn t) (k)) gv_M_66 rfl rfl rfl hd_M_spot ⟨(Nat.le_of_ble_eq_true rfl), (Nat.le_of_ble_eq_true rfl)⟩ (by omega) hM.1.1 rfl rfl rfl (Nat.le_of_ble_eq_true rfl) ⟨(Nat.le_of_ble_eq_true rfl), (Nat.le_of_ble_eq_true rfl)⟩ dc_M_correct_144 (fun r1 g9 h1 => ?_)
        obtain ⟨rfl, hg9⟩ := h1
        rw [hg9]
        refine zj_iload C dc_M_correct_147 0 rfl ?_
        refine zj_iload_n C dc_M_correct_149 rfl 4 rfl ?_
        refine zj_icmp_ne C dc_M_correct_150 rfl (fun _ => ?_) (fun h => absurd ((nI_eq (by omega) (by omega)).mp h) b1)
        refine zj_aload_n C dc_M_correct_158 rfl 2 rfl ?_
        refine zj_get (k := 6) C (by omega) hM.1.1 rfl (by decide) fw_M fl_M_26 rfl rfl dc_M_correct_159 ?_
        refine zj_aload_n C dc_M_correct_162 rfl 2 rfl ?_
        refine zj_iload_n C dc_M_correct_163 rfl 3 rfl ?_
        refine zj_iload C dc_M_correct_164 1 rfl ?_
        refine zj_iconst (v := 1) C dc_M_correct_166 (by decide) ?_
        refine zj_isub C dc_M_correct_167 ?_
        refine zj_topi (zn_m1 hA6) ?_
        refine zj_iload C dc_M_correct_168 0 rfl ?_
        refine zj_Vi C (ct_M_spot _ hst z ad N _ _ _ _ _ _ hN hM.1 (t) (Rn t - 1) (k)) gv_M_66 rfl rfl rfl hd_M_spot ⟨(Nat.le_of_ble_eq_true rfl), (Nat.le_of_ble_eq_true rfl)⟩ (by omega) hM.1.1 rfl rfl rfl (Nat.le_of_ble_eq_true rfl) ⟨(Nat.le_of_ble_eq_true rfl), (Nat.le_of_ble_eq_true rfl)⟩ dc_M_correct_170 (fun r1 g9 h1 => ?_)
        obtain ⟨rfl, hg9⟩ := h1
        rw [hg9]
        refine zj_iald C (by omega) hM.1.2.2.2.2.2.2.1 rfl (by omega) (by decide) dc_M_correct_173 ?_
        refine zj_iast C (by omega) hM.1.2.2.2.2.2.2.1 rfl (by omega) (by decide) dc_M_correct_174 ?_
        refine zM_k5 hM (fun g2 hM => ?_)
        refine zj_iinc C dc_M_correct_175 0 rfl (zn_inc k) (by decide) rfl ?_
        refine zj_goto C dc_M_correct_178 rfl ?_
        refine zj_loc (L' := [(6, .int (nI (k + 1))), (5, .int (nI (Rn t))), (0, .ref (ad 108)), (1, .int (nI t)), (2, .int (nI pl)), (3, .int x), (4, .int y)]) [0, 1, 2, 3, 4, 5, 6] rfl ?_
        exact ih (k + 1) t pl _ _ (by omega) (by omega) ht hid hth hpl hp hno hR9 hM (fun r q1 q2 => (va_up_ne _ _ q2).trans ((va_up_ne _ _ q1).trans (hr r q1 q2))) ((va_up_ne _ _ (by decide)).trans ((va_up_self _ _ _).trans (by rw [h4]; exact zm_cpS (by rw [if_neg b1, zm_cp_lo (by omega)])))) ((va_up_self _ _ _).trans (by rw [va_up_ne _ _ (by decide), h5]; exact zm_cpS (by rw [if_neg b1, zm_cp_lo (by omega)])))
      · have b1 := (nI_eq (by omega) (by omega)).mp b1
        refine zj_iload_n C dc_M_correct_113 rfl 5 rfl ?_
        refine zj_goto C dc_M_correct_114 rfl ?_
        refine zj_iast C (by omega) hM.1.2.2.2.2.2.1 rfl (by omega) (by decide) dc_M_correct_133 ?_
        refine zM_k4 hM (fun g2 hM => ?_)
        refine zj_aload_n C dc_M_correct_134 rfl 2 rfl ?_
        refine zj_get (k := 6) C (by omega) hM.1.1 rfl (by decide) fw_M fl_M_26 rfl rfl dc_M_correct_135 ?_
        refine zj_aload_n C dc_M_correct_138 rfl 2 rfl ?_
        refine zj_iload_n C dc_M_correct_139 rfl 3 rfl ?_
        refine zj_iload C dc_M_correct_140 1 rfl ?_
        refine zj_iload C dc_M_correct_142 0 rfl ?_
        refine zj_Vi C (ct_M_spot _ hst z ad N _ _ _ _ _ _ hN hM.1 (t) (Rn t) (k)) gv_M_66 rfl rfl rfl hd_M_spot ⟨(Nat.le_of_ble_eq_true rfl), (Nat.le_of_ble_eq_true rfl)⟩ (by omega) hM.1.1 rfl rfl rfl (Nat.le_of_ble_eq_true rfl) ⟨(Nat.le_of_ble_eq_true rfl), (Nat.le_of_ble_eq_true rfl)⟩ dc_M_correct_144 (fun r1 g9 h1 => ?_)
        obtain ⟨rfl, hg9⟩ := h1
        rw [hg9]
        refine zj_iload C dc_M_correct_147 0 rfl ?_
        refine zj_iload_n C dc_M_correct_149 rfl 4 rfl ?_
        refine zj_icmp_ne C dc_M_correct_150 rfl (fun h => absurd ((nI_eq (by omega) (by omega)).mpr b1) h) (fun _ => ?_)
        refine zj_iload C dc_M_correct_153 6 rfl ?_
        refine zj_goto C dc_M_correct_155 rfl ?_
        refine zj_iast C (by omega) hM.1.2.2.2.2.2.2.1 rfl (by omega) (by decide) dc_M_correct_174 ?_
        refine zM_k5 hM (fun g2 hM => ?_)
        refine zj_iinc C dc_M_correct_175 0 rfl (zn_inc k) (by decide) rfl ?_
        refine zj_goto C dc_M_correct_178 rfl ?_
        refine zj_loc (L' := [(6, .int (nI (k + 1))), (5, .int (nI (Rn t))), (0, .ref (ad 108)), (1, .int (nI t)), (2, .int (nI pl)), (3, .int x), (4, .int y)]) [0, 1, 2, 3, 4, 5, 6] rfl ?_
        exact ih (k + 1) t pl _ _ (by omega) (by omega) ht hid hth hpl hp hno hR9 hM (fun r q1 q2 => (va_up_ne _ _ q2).trans ((va_up_ne _ _ q1).trans (hr r q1 q2))) ((va_up_ne _ _ (by decide)).trans ((va_up_self _ _ _).trans (by rw [h4]; exact zm_cpS (by rw [if_pos b1])))) ((va_up_self _ _ _).trans (by rw [va_up_ne _ _ (by decide), h5]; exact zm_cpS (by rw [if_pos b1])))
  refine zj_aload_n C dc_M_correct_0 rfl 0 rfl ?_
  refine zj_aload_n C dc_M_correct_1 rfl 0 rfl ?_
  refine zj_iload_n C dc_M_correct_2 rfl 1 rfl ?_
  refine zj_Vi C (ct_M_noTune _ hst z ad N _ _ _ _ _ _ hN hM.1 th sh Cn Rn hA _) gv_M_74 rfl rfl rfl hd_M_noTune ⟨(Nat.le_of_ble_eq_true rfl), (Nat.le_of_ble_eq_true rfl)⟩ (by omega) hM.1.1 rfl rfl rfl (Nat.le_of_ble_eq_true rfl) ⟨(Nat.le_of_ble_eq_true rfl), (Nat.le_of_ble_eq_true rfl)⟩ dc_M_correct_3 (fun r1 g9 h1 => ?_)
  obtain ⟨⟨b9, rfl, hb9⟩, hg9⟩ := h1
  rw [hg9]
  refine zj_if_eq C dc_M_correct_6 rfl (fun n1 => ?_) (fun n1 => ?_)
  · obtain ⟨t, ht, hid, hth⟩ := zm_ntf (zb_i0 n1) hb9
    subst hid
    obtain ⟨hA0, hA1, hA2, hA3, hA4, hA5, hA6⟩ := hA t ht
    have hA6 := hA6 hth
    refine zj_iload_n C dc_M_correct_13 rfl 2 rfl ?_
    refine zj_if_lt C dc_M_correct_14 rfl (fun a1 => ?_) (fun a1 => ?_)
    · skip
      refine zj_iconst (v := 1) C dc_M_correct_27 (by decide) ?_
      refine zj_goto C dc_M_correct_28 rfl ?_
      refine zj_put (k := 0) C (by omega) hM.1.1 rfl (by decide) fw_M fl_M_62 rfl fy_M fk_M fn_M rfl rfl rfl (Nat.le_of_ble_eq_true rfl) rfl dc_M_correct_60 ?_
      refine zM_kc hM (fun g2 hM => ?_)
      refine zj_aload_n C dc_M_correct_63 rfl 0 rfl ?_
      refine zj_get (k := 0) C (by omega) hM.1.1 rfl (by decide) fw_M fl_M_62 rfl rfl dc_M_correct_64 ?_
      refine zj_if_le C dc_M_correct_67 rfl (fun h => absurd h (by decide)) (fun _ => ?_)
      refine zj_iconst (v := 0) C dc_M_correct_70 (by decide) ?_
      exact zj_iret C dc_M_correct_71 (Or.inr (Or.inl ⟨Or.inr ⟨t, ⟨ht, rfl, hth⟩, fun k hk e => by subst e; exact nI_pos (by omega) a1⟩, hM⟩))
    · obtain ⟨pl, hp9, rfl⟩ := nI_of a1
      refine zj_iload_n C dc_M_correct_17 rfl 2 rfl ?_
      refine zj_aload_n C dc_M_correct_18 rfl 0 rfl ?_
      refine zj_get (k := 3) C (by omega) hM.1.1 rfl (by decide) fw_M fl_M_16 rfl rfl dc_M_correct_19 ?_
      refine zj_iload_n C dc_M_correct_22 rfl 1 rfl ?_
      refine zj_iald C (by omega) hM.1.2.2.2.1 rfl ht (by decide) dc_M_correct_23 ?_
      refine zj_topi (hA2) ?_
      refine zj_icmp_lt C dc_M_correct_24 rfl (fun a2 => ?_) (fun a2 => ?_)
      · have hpl := (nI_ltI (by omega) (by omega)).mp a2
        refine zj_iload_n C dc_M_correct_31 rfl 3 rfl ?_
        refine zj_iload C dc_M_correct_32 4 rfl ?_
        refine zj_Si C (ct_M_noNote _ hst z ad N _ x y) gv_M_78 rfl rfl rfl hd_M_noNote ⟨(Nat.le_of_ble_eq_true rfl), (Nat.le_of_ble_eq_true rfl)⟩ rfl rfl (Nat.le_of_ble_eq_true rfl) ⟨(Nat.le_of_ble_eq_true rfl), (Nat.le_of_ble_eq_true rfl)⟩ dc_M_correct_34 (fun r1 g9 h1 => ?_)
        obtain ⟨⟨b8, rfl, hb8⟩, hg9⟩ := h1
        rw [hg9]
        refine zj_if_eq C dc_M_correct_37 rfl (fun n2 => ?_) (fun n2 => ?_)
        · have hno := zm_nnf (zb_i0 n2) hb8
          refine zj_aload_n C dc_M_correct_44 rfl 0 rfl ?_
          refine zj_get (k := 4) C (by omega) hM.1.1 rfl (by decide) fw_M fl_M_20 rfl rfl dc_M_correct_45 ?_
          refine zj_iload_n C dc_M_correct_48 rfl 1 rfl ?_
          refine zj_iald C (by omega) hM.1.2.2.2.2.1 rfl ht (by decide) dc_M_correct_49 ?_
          refine zj_topi (hA3) ?_
          refine zj_bipush (v := 9) C dc_M_correct_50 (by decide) ?_
          refine zj_icmp_ne C dc_M_correct_52 rfl (fun b3 => ?_) (fun b3 => ?_)
          · have b3 := (zn_ne (b := 9) (by omega) (by omega)).mp b3
            have b4 : Rn t < 9 := by omega
            refine zj_iconst (v := 0) C dc_M_correct_59 (by decide) ?_
            refine zj_put (k := 0) C (by omega) hM.1.1 rfl (by decide) fw_M fl_M_62 rfl fy_M fk_M fn_M rfl rfl rfl (Nat.le_of_ble_eq_true rfl) rfl dc_M_correct_60 ?_
            refine zM_kc hM (fun g2 hM => ?_)
            refine zj_aload_n C dc_M_correct_63 rfl 0 rfl ?_
            refine zj_get (k := 0) C (by omega) hM.1.1 rfl (by decide) fw_M fl_M_62 rfl rfl dc_M_correct_64 ?_
            refine zj_if_le C dc_M_correct_67 rfl (fun _ => ?_) (fun h => absurd h (by decide))
            refine zj_aload_n C dc_M_correct_72 rfl 0 rfl ?_
            refine zj_get (k := 4) C (by omega) hM.1.1 rfl (by decide) fw_M fl_M_20 rfl rfl dc_M_correct_73 ?_
            refine zj_iload_n C dc_M_correct_76 rfl 1 rfl ?_
            refine zj_iald C (by omega) hM.1.2.2.2.2.1 rfl ht (by decide) dc_M_correct_77 ?_
            refine zj_topi (hA3) ?_
            refine zj_istore C dc_M_correct_78 (by decide) rfl ?_
            refine zj_iconst (v := 0) C dc_M_correct_80 (by decide) ?_
            refine zj_istore C dc_M_correct_81 (by decide) rfl ?_
            refine zj_loc (L' := [(6, .int (nI 0)), (5, .int (nI (Rn t))), (0, .ref (ad 108)), (1, .int (nI t)), (2, .int (nI pl)), (3, .int x), (4, .int y)]) [0, 1, 2, 3, 4, 5, 6] rfl ?_
            exact loop (Cn t) 0 t pl _ a rfl (by omega) ht rfl hth hpl rfl hno b4 hM (fun r _ _ => rfl) (zm_cp0 _ _ _ _ _).symm (zm_cp0 _ _ _ _ _).symm
          · have b3 := (nI_eq (b := 9) (by omega) (by omega)).mp b3
            refine zj_iconst (v := 3) C dc_M_correct_55 (by decide) ?_
            refine zj_goto C dc_M_correct_56 rfl ?_
            refine zj_put (k := 0) C (by omega) hM.1.1 rfl (by decide) fw_M fl_M_62 rfl fy_M fk_M fn_M rfl rfl rfl (Nat.le_of_ble_eq_true rfl) rfl dc_M_correct_60 ?_
            refine zM_kc hM (fun g2 hM => ?_)
            refine zj_aload_n C dc_M_correct_63 rfl 0 rfl ?_
            refine zj_get (k := 0) C (by omega) hM.1.1 rfl (by decide) fw_M fl_M_62 rfl rfl dc_M_correct_64 ?_
            refine zj_if_le C dc_M_correct_67 rfl (fun h => absurd h (by decide)) (fun _ => ?_)
            refine zj_iconst (v := 0) C dc_M_correct_70 (by decide) ?_
            exact zj_iret C dc_M_correct_71 (Or.inr (Or.inr (Or.inr ⟨⟨t, pl, ⟨ht, rfl, hth⟩, hpl, rfl, b3⟩, hno, hM⟩)))
        · have hno := zm_nnt (zb_i1 n2) hb8
          refine zj_iconst (v := 2) C dc_M_correct_40 (by decide) ?_
          refine zj_goto C dc_M_correct_41 rfl ?_
          refine zj_put (k := 0) C (by omega) hM.1.1 rfl (by decide) fw_M fl_M_62 rfl fy_M fk_M fn_M rfl rfl rfl (Nat.le_of_ble_eq_true rfl) rfl dc_M_correct_60 ?_
          refine zM_kc hM (fun g2 hM => ?_)
          refine zj_aload_n C dc_M_correct_63 rfl 0 rfl ?_
          refine zj_get (k := 0) C (by omega) hM.1.1 rfl (by decide) fw_M fl_M_62 rfl rfl dc_M_correct_64 ?_
          refine zj_if_le C dc_M_correct_67 rfl (fun h => absurd h (by decide)) (fun _ => ?_)
          refine zj_iconst (v := 0) C dc_M_correct_70 (by decide) ?_
          exact zj_iret C dc_M_correct_71 (Or.inr (Or.inr (Or.inl ⟨⟨t, pl, ⟨ht, rfl, hth⟩, hpl, rfl⟩, hno, hM⟩)))
      · have hpl := (zn_nlt (by omega) (by omega)).mp a2
        refine zj_iconst (v := 1) C dc_M_correct_27 (by decide) ?_
        refine zj_goto C dc_M_correct_28 rfl ?_
        refine zj_put (k := 0) C (by omega) hM.1.1 rfl (by decide) fw_M fl_M_62 rfl fy_M fk_M fn_M rfl rfl rfl (Nat.le_of_ble_eq_true rfl) rfl dc_M_correct_60 ?_
        refine zM_kc hM (fun g2 hM => ?_)
        refine zj_aload_n C dc_M_correct_63 rfl 0 rfl ?_
        refine zj_get (k := 0) C (by omega) hM.1.1 rfl (by decide) fw_M fl_M_62 rfl rfl dc_M_correct_64 ?_
        refine zj_if_le C dc_M_correct_67 rfl (fun h => absurd h (by decide)) (fun _ => ?_)
        refine zj_iconst (v := 0) C dc_M_correct_70 (by decide) ?_
        exact zj_iret C dc_M_correct_71 (Or.inr (Or.inl ⟨Or.inr ⟨t, ⟨ht, rfl, hth⟩, fun k hk e => by have := (nI_eq (by omega) (by omega)).mp e; omega⟩, hM⟩))
  · have hnt := zm_ntt (zb_i1 n1) hb9
    refine zj_iconst (v := 1) C dc_M_correct_9 (by decide) ?_
    refine zj_goto C dc_M_correct_10 rfl ?_
    refine zj_put (k := 0) C (by omega) hM.1.1 rfl (by decide) fw_M fl_M_62 rfl fy_M fk_M fn_M rfl rfl rfl (Nat.le_of_ble_eq_true rfl) rfl dc_M_correct_60 ?_
    refine zM_kc hM (fun g2 hM => ?_)
    refine zj_aload_n C dc_M_correct_63 rfl 0 rfl ?_
    refine zj_get (k := 0) C (by omega) hM.1.1 rfl (by decide) fw_M fl_M_62 rfl rfl dc_M_correct_64 ?_
    refine zj_if_le C dc_M_correct_67 rfl (fun h => absurd h (by decide)) (fun _ => ?_)
    refine zj_iconst (v := 0) C dc_M_correct_70 (by decide) ?_
    exact zj_iret C dc_M_correct_71 (Or.inr (Or.inl ⟨Or.inl hnt, hM⟩))
theorem zm_rd {rd : Int32} {R : Nat} (hR : R ≤ 9) (h1 : 1 ≤ R) (a : ¬ rd < -1) (b : rd < nI R) : ∃ r, r < R ∧ ((rd = -1 ∧ r = R - 1) ∨ rd = nI r) := by
  by_cases h : rd < 0
  · refine ⟨R - 1, by omega, Or.inl ⟨?_, rfl⟩⟩
    apply Int32.toInt_inj.mp
    rw [Int32.lt_iff_toInt_lt] at a h
    have e1 : (0 : Int32).toInt = 0 := rfl
    have e2 : (-1 : Int32).toInt = -1 := rfl
    omega
  · obtain ⟨r, hr, rfl⟩ := nI_of h
    exact ⟨r, (nI_ltI hr (by omega)).mp b, Or.inr rfl⟩
theorem zm_rn1 {rd : Int32} {R : Nat} (hR : R ≤ 9) (h : rd < -1 ∨ nI R ≤ rd) : ¬ rd = -1 ∧ ∀ r, r < R → ¬ rd = nI r := by
  constructor
  · rintro rfl
    rcases h with h | h
    · exact absurd h (by decide)
    · exact nI_pos (n := R) (by omega) (by rw [Int32.lt_iff_toInt_lt]; rw [Int32.le_iff_toInt_le] at h; have e1 : (0 : Int32).toInt = 0 := rfl; have e2 : (-1 : Int32).toInt = -1 := rfl; omega)
  · rintro r hr rfl
    rcases h with h | h
    · exact nI_pos (n := r) (by omega) (Int32.lt_trans h (by decide))
    · have := (nI_leI (by omega) (by omega)).mp h
      omega
set_option maxHeartbeats 4000000 in
set_option maxRecDepth 100000 in
theorem ct_M_at (l : Launch) (hst : l.stackTraces = false) (z : zv_T) (ad : Nat → Nat) (N : Nat) (g : Nat → va_E) (c as fo kp : Int32) (a : Nat → Nat → Int32) (hN : 126 ≤ N) (hM0 : zs_M z ad g c as fo kp a) (th sh : Nat → Bool) (Cn Rn : Nat → Nat) (hA : zm_A a th sh Cn Rn) (id p w rd : Int32) : zm_i l mn_M_at ws_M_at rm_M_at z ad N g [.ref (ad 108), .int id, .int p, .int w, .int rd] (fun v g1 => ((∃ t k r, zm_is th id t ∧ k < Cn t ∧ p = nI k ∧ r < Rn t ∧ ((rd = -1 ∧ r = Rn t - 1) ∨ rd = nI r) ∧ ((w = nI 0 ∧ v = a 4 (180 * t + 20 * r + k)) ∨ (w = nI 1 ∧ v = a 5 (180 * t + 20 * r + k)) ∨ (w = nI 2 ∧ v = (if k + 1 = Cn t then 0 else a 4 (180 * t + 20 * r + (k + 1)) - a 4 (180 * t + 20 * r + k))))) ∧ zm_M z ad g g1 0 as fo kp a) ∨ (((∀ t, ¬ zm_is th id t) ∨ (∃ t, zm_is th id t ∧ ∀ k, k < Cn t → ¬ p = nI k) ∨ ∃ t, zm_is th id t ∧ ¬ rd = -1 ∧ ∀ r, r < Rn t → ¬ rd = nI r) ∧ zm_M z ad g g1 1 as fo kp a) ∨ ((∃ t k r, zm_is th id t ∧ k < Cn t ∧ p = nI k ∧ r < Rn t ∧ ((rd = -1 ∧ r = Rn t - 1) ∨ rd = nI r)) ∧ (∀ k, k < 3 → ¬ w = nI k) ∧ zm_M z ad g g1 2 as fo kp a)) := by
  have hM : zm_M z ad g g c as fo kp a := ⟨hM0, fun _ _ => rfl⟩
  refine zm_ofi hst pn_M_at rfl (Nat.le_of_ble_eq_true rfl) (fun X hX C => ?_)
  subst hX
  show zj_J X 0 0 _ ad N g 0 [(0, .ref (ad 108)), (1, .int id), (2, .int p), (3, .int w), (4, .int rd)] []
  refine zj_aload_n C dc_M_at_0 rfl 0 rfl ?_
  refine zj_aload_n C dc_M_at_1 rfl 0 rfl ?_
  refine zj_iload_n C dc_M_at_2 rfl 1 rfl ?_
  refine zj_Vi C (ct_M_noTune _ hst z ad N _ _ _ _ _ _ hN hM.1 th sh Cn Rn hA _) gv_M_74 rfl rfl rfl hd_M_noTune ⟨(Nat.le_of_ble_eq_true rfl), (Nat.le_of_ble_eq_true rfl)⟩ (by omega) hM.1.1 rfl rfl rfl (Nat.le_of_ble_eq_true rfl) ⟨(Nat.le_of_ble_eq_true rfl), (Nat.le_of_ble_eq_true rfl)⟩ dc_M_at_3 (fun r1 g9 h1 => ?_)
  obtain ⟨⟨b9, rfl, hb9⟩, hg9⟩ := h1
  rw [hg9]
  refine zj_if_eq C dc_M_at_6 rfl (fun n1 => ?_) (fun n1 => ?_)
  · obtain ⟨t, ht, hid, hth⟩ := zm_ntf (zb_i0 n1) hb9
    subst hid
    obtain ⟨hA0, hA1, hA2, hA3, hA4, hA5, hA6⟩ := hA t ht
    have hA6 := hA6 hth
    refine zj_iload_n C dc_M_at_13 rfl 2 rfl ?_
    refine zj_if_lt C dc_M_at_14 rfl (fun a1 => ?_) (fun a1 => ?_)
    · skip
      refine zj_iconst (v := 1) C dc_M_at_44 (by decide) ?_
      refine zj_goto C dc_M_at_45 rfl ?_
      refine zj_put (k := 0) C (by omega) hM.1.1 rfl (by decide) fw_M fl_M_62 rfl fy_M fk_M fn_M rfl rfl rfl (Nat.le_of_ble_eq_true rfl) rfl dc_M_at_62 ?_
      refine zM_kc hM (fun g2 hM => ?_)
      refine zj_aload_n C dc_M_at_65 rfl 0 rfl ?_
      refine zj_get (k := 0) C (by omega) hM.1.1 rfl (by decide) fw_M fl_M_62 rfl rfl dc_M_at_66 ?_
      refine zj_if_le C dc_M_at_69 rfl (fun h => absurd h (by decide)) (fun _ => ?_)
      refine zj_iconst (v := 0) C dc_M_at_72 (by decide) ?_
      exact zj_iret C dc_M_at_73 (Or.inr (Or.inl ⟨Or.inr (Or.inl ⟨t, ⟨ht, rfl, hth⟩, fun k hk e => by subst e; exact nI_pos (by omega) a1⟩), hM⟩))
    · obtain ⟨k, hp9, rfl⟩ := nI_of a1
      refine zj_iload_n C dc_M_at_17 rfl 2 rfl ?_
      refine zj_aload_n C dc_M_at_18 rfl 0 rfl ?_
      refine zj_get (k := 3) C (by omega) hM.1.1 rfl (by decide) fw_M fl_M_16 rfl rfl dc_M_at_19 ?_
      refine zj_iload_n C dc_M_at_22 rfl 1 rfl ?_
      refine zj_iald C (by omega) hM.1.2.2.2.1 rfl ht (by decide) dc_M_at_23 ?_
      refine zj_topi (hA2) ?_
      refine zj_icmp_ge C dc_M_at_24 rfl (fun a2 => ?_) (fun a2 => ?_)
      · have hk := (nI_leI (by omega) (by omega)).mp a2
        refine zj_iconst (v := 1) C dc_M_at_44 (by decide) ?_
        refine zj_goto C dc_M_at_45 rfl ?_
        refine zj_put (k := 0) C (by omega) hM.1.1 rfl (by decide) fw_M fl_M_62 rfl fy_M fk_M fn_M rfl rfl rfl (Nat.le_of_ble_eq_true rfl) rfl dc_M_at_62 ?_
        refine zM_kc hM (fun g2 hM => ?_)
        refine zj_aload_n C dc_M_at_65 rfl 0 rfl ?_
        refine zj_get (k := 0) C (by omega) hM.1.1 rfl (by decide) fw_M fl_M_62 rfl rfl dc_M_at_66 ?_
        refine zj_if_le C dc_M_at_69 rfl (fun h => absurd h (by decide)) (fun _ => ?_)
        refine zj_iconst (v := 0) C dc_M_at_72 (by decide) ?_
        exact zj_iret C dc_M_at_73 (Or.inr (Or.inl ⟨Or.inr (Or.inl ⟨t, ⟨ht, rfl, hth⟩, fun q hq e => by have := (nI_eq (by omega) (by omega)).mp e; omega⟩), hM⟩))
      · have hk := (zn_nle (by omega) (by omega)).mp a2
        refine zj_iload C dc_M_at_27 4 rfl ?_
        refine zj_iconst (v := -1) C dc_M_at_29 (by decide) ?_
        refine zj_icmp_lt C dc_M_at_30 rfl (fun a3 => ?_) (fun a3 => ?_)
        · skip
          refine zj_iconst (v := 1) C dc_M_at_44 (by decide) ?_
          refine zj_goto C dc_M_at_45 rfl ?_
          refine zj_put (k := 0) C (by omega) hM.1.1 rfl (by decide) fw_M fl_M_62 rfl fy_M fk_M fn_M rfl rfl rfl (Nat.le_of_ble_eq_true rfl) rfl dc_M_at_62 ?_
          refine zM_kc hM (fun g2 hM => ?_)
          refine zj_aload_n C dc_M_at_65 rfl 0 rfl ?_
          refine zj_get (k := 0) C (by omega) hM.1.1 rfl (by decide) fw_M fl_M_62 rfl rfl dc_M_at_66 ?_
          refine zj_if_le C dc_M_at_69 rfl (fun h => absurd h (by decide)) (fun _ => ?_)
          refine zj_iconst (v := 0) C dc_M_at_72 (by decide) ?_
          exact zj_iret C dc_M_at_73 (Or.inr (Or.inl ⟨Or.inr (Or.inr ⟨t, ⟨ht, rfl, hth⟩, zm_rn1 hA5 (Or.inl a3)⟩), hM⟩))
        · skip
          refine zj_iload C dc_M_at_33 4 rfl ?_
          refine zj_aload_n C dc_M_at_35 rfl 0 rfl ?_
          refine zj_get (k := 4) C (by omega) hM.1.1 rfl (by decide) fw_M fl_M_20 rfl rfl dc_M_at_36 ?_
          refine zj_iload_n C dc_M_at_39 rfl 1 rfl ?_
          refine zj_iald C (by omega) hM.1.2.2.2.2.1 rfl ht (by decide) dc_M_at_40 ?_
          refine zj_topi (hA3) ?_
          refine zj_icmp_lt C dc_M_at_41 rfl (fun a4 => ?_) (fun a4 => ?_)
          · have hrd := zm_rd hA5 hA6 a3 a4
            refine zj_iload_n C dc_M_at_48 rfl 3 rfl ?_
            refine zj_if_lt C dc_M_at_49 rfl (fun b1 => ?_) (fun b1 => ?_)
            · skip
              refine zj_iconst (v := 2) C dc_M_at_57 (by decide) ?_
              refine zj_goto C dc_M_at_58 rfl ?_
              refine zj_put (k := 0) C (by omega) hM.1.1 rfl (by decide) fw_M fl_M_62 rfl fy_M fk_M fn_M rfl rfl rfl (Nat.le_of_ble_eq_true rfl) rfl dc_M_at_62 ?_
              refine zM_kc hM (fun g2 hM => ?_)
              refine zj_aload_n C dc_M_at_65 rfl 0 rfl ?_
              refine zj_get (k := 0) C (by omega) hM.1.1 rfl (by decide) fw_M fl_M_62 rfl rfl dc_M_at_66 ?_
              refine zj_if_le C dc_M_at_69 rfl (fun h => absurd h (by decide)) (fun _ => ?_)
              refine zj_iconst (v := 0) C dc_M_at_72 (by decide) ?_
              exact zj_iret C dc_M_at_73 (Or.inr (Or.inr ⟨⟨t, k, hrd.choose, ⟨ht, rfl, hth⟩, hk, rfl, hrd.choose_spec.1, hrd.choose_spec.2⟩, fun k hk e => by subst e; exact nI_pos (by omega) b1, hM⟩))
            · skip
              refine zj_iload_n C dc_M_at_52 rfl 3 rfl ?_
              refine zj_iconst (v := 2) C dc_M_at_53 (by decide) ?_
              refine zj_icmp_le C dc_M_at_54 rfl (fun b2 => ?_) (fun b2 => ?_)
              · skip
                refine zj_iconst (v := 0) C dc_M_at_61 (by decide) ?_
                refine zj_put (k := 0) C (by omega) hM.1.1 rfl (by decide) fw_M fl_M_62 rfl fy_M fk_M fn_M rfl rfl rfl (Nat.le_of_ble_eq_true rfl) rfl dc_M_at_62 ?_
                refine zM_kc hM (fun g2 hM => ?_)
                refine zj_aload_n C dc_M_at_65 rfl 0 rfl ?_
                refine zj_get (k := 0) C (by omega) hM.1.1 rfl (by decide) fw_M fl_M_62 rfl rfl dc_M_at_66 ?_
                refine zj_if_le C dc_M_at_69 rfl (fun _ => ?_) (fun h => absurd h (by decide))
                rcases hrd with ⟨r, hr, hrd⟩
                have hrd2 := hrd
                rcases hrd2 with ⟨rfl, hr2⟩ | rfl
                · skip
                  refine zj_iload C dc_M_at_74 4 rfl ?_
                  refine zj_if_ge C dc_M_at_76 rfl (fun h => absurd h (by decide)) (fun _ => ?_)
                  refine zj_aload_n C dc_M_at_79 rfl 0 rfl ?_
                  refine zj_get (k := 4) C (by omega) hM.1.1 rfl (by decide) fw_M fl_M_20 rfl rfl dc_M_at_80 ?_
                  refine zj_iload_n C dc_M_at_83 rfl 1 rfl ?_
                  refine zj_iald C (by omega) hM.1.2.2.2.2.1 rfl ht (by decide) dc_M_at_84 ?_
                  refine zj_topi (hA3) ?_
                  refine zj_iconst (v := 1) C dc_M_at_85 (by decide) ?_
                  refine zj_isub C dc_M_at_86 ?_
                  refine zj_topi ((zn_m1 hA6).trans (by rw [← hr2])) ?_
                  refine zj_goto C dc_M_at_87 rfl ?_
                  refine zj_istore C dc_M_at_92 (by decide) rfl ?_
                  refine zj_aload_n C dc_M_at_94 rfl 1 rfl ?_
                  refine zj_get (k := 5) C (by omega) hM.1.1 rfl (by decide) fw_M fl_M_23 rfl rfl dc_M_at_95 ?_
                  refine zj_aload_n C dc_M_at_98 rfl 1 rfl ?_
                  refine zj_iload_n C dc_M_at_99 rfl 2 rfl ?_
                  refine zj_iload C dc_M_at_100 0 rfl ?_
                  refine zj_iload_n C dc_M_at_102 rfl 3 rfl ?_
                  refine zj_Vi C (ct_M_spot _ hst z ad N _ _ _ _ _ _ hN hM.1 (t) (r) (k)) gv_M_66 rfl rfl rfl hd_M_spot ⟨(Nat.le_of_ble_eq_true rfl), (Nat.le_of_ble_eq_true rfl)⟩ (by omega) hM.1.1 rfl rfl rfl (Nat.le_of_ble_eq_true rfl) ⟨(Nat.le_of_ble_eq_true rfl), (Nat.le_of_ble_eq_true rfl)⟩ dc_M_at_103 (fun r1 g9 h1 => ?_)
                  obtain ⟨rfl, hg9⟩ := h1
                  rw [hg9]
                  refine zj_iald C (by omega) hM.1.2.2.2.2.2.1 rfl (by omega) (by decide) dc_M_at_106 ?_
                  refine zj_istore C dc_M_at_107 (by decide) rfl ?_
                  have hw4 : w = nI 0 ∨ w = nI 1 ∨ w = nI 2 := zp_w3 b1 b2
                  rcases hw4 with rfl | rfl | rfl
                  · skip
                    refine zj_iload_n C dc_M_at_109 rfl 5 rfl ?_
                    refine zj_if_ne C dc_M_at_110 rfl (fun h => absurd h (by decide)) (fun _ => ?_)
                    refine zj_iload C dc_M_at_113 0 rfl ?_
                    exact zj_iret C dc_M_at_115 (Or.inl ⟨⟨t, k, r, ⟨ht, rfl, hth⟩, hk, rfl, hr, hrd, Or.inl ⟨rfl, rfl⟩⟩, hM⟩)
                  · skip
                    refine zj_iload_n C dc_M_at_109 rfl 5 rfl ?_
                    refine zj_if_ne C dc_M_at_110 rfl (fun _ => ?_) (fun h => absurd h (by decide))
                    refine zj_iload_n C dc_M_at_116 rfl 5 rfl ?_
                    refine zj_iconst (v := 1) C dc_M_at_117 (by decide) ?_
                    refine zj_icmp_ne C dc_M_at_118 rfl (fun h => absurd h (by decide)) (fun _ => ?_)
                    refine zj_aload_n C dc_M_at_121 rfl 2 rfl ?_
                    refine zj_get (k := 6) C (by omega) hM.1.1 rfl (by decide) fw_M fl_M_26 rfl rfl dc_M_at_122 ?_
                    refine zj_aload_n C dc_M_at_125 rfl 2 rfl ?_
                    refine zj_iload_n C dc_M_at_126 rfl 3 rfl ?_
                    refine zj_iload C dc_M_at_127 1 rfl ?_
                    refine zj_iload_n C dc_M_at_129 rfl 4 rfl ?_
                    refine zj_Vi C (ct_M_spot _ hst z ad N _ _ _ _ _ _ hN hM.1 (t) (r) (k)) gv_M_66 rfl rfl rfl hd_M_spot ⟨(Nat.le_of_ble_eq_true rfl), (Nat.le_of_ble_eq_true rfl)⟩ (by omega) hM.1.1 rfl rfl rfl (Nat.le_of_ble_eq_true rfl) ⟨(Nat.le_of_ble_eq_true rfl), (Nat.le_of_ble_eq_true rfl)⟩ dc_M_at_130 (fun r1 g9 h1 => ?_)
                    obtain ⟨rfl, hg9⟩ := h1
                    rw [hg9]
                    refine zj_iald C (by omega) hM.1.2.2.2.2.2.2.1 rfl (by omega) (by decide) dc_M_at_133 ?_
                    exact zj_iret C dc_M_at_134 (Or.inl ⟨⟨t, k, r, ⟨ht, rfl, hth⟩, hk, rfl, hr, hrd, Or.inr (Or.inl ⟨rfl, rfl⟩)⟩, hM⟩)
                  · skip
                    refine zj_iload_n C dc_M_at_109 rfl 5 rfl ?_
                    refine zj_if_ne C dc_M_at_110 rfl (fun _ => ?_) (fun h => absurd h (by decide))
                    refine zj_iload_n C dc_M_at_116 rfl 5 rfl ?_
                    refine zj_iconst (v := 1) C dc_M_at_117 (by decide) ?_
                    refine zj_icmp_ne C dc_M_at_118 rfl (fun _ => ?_) (fun h => absurd h (by decide))
                    refine zj_iload_n C dc_M_at_135 rfl 4 rfl ?_
                    refine zj_iconst (v := 1) C dc_M_at_136 (by decide) ?_
                    refine zj_iadd C dc_M_at_137 ?_
                    refine zj_topi (nI_1 _) ?_
                    refine zj_aload_n C dc_M_at_138 rfl 2 rfl ?_
                    refine zj_get (k := 3) C (by omega) hM.1.1 rfl (by decide) fw_M fl_M_16 rfl rfl dc_M_at_139 ?_
                    refine zj_iload_n C dc_M_at_142 rfl 3 rfl ?_
                    refine zj_iald C (by omega) hM.1.2.2.2.1 rfl ht (by decide) dc_M_at_143 ?_
                    refine zj_topi (hA2) ?_
                    refine zj_icmp_ne C dc_M_at_144 rfl (fun c1 => ?_) (fun c1 => ?_)
                    · have c1 := (zn_ne (by omega) (by omega)).mp c1
                      refine zj_aload_n C dc_M_at_151 rfl 2 rfl ?_
                      refine zj_get (k := 5) C (by omega) hM.1.1 rfl (by decide) fw_M fl_M_23 rfl rfl dc_M_at_152 ?_
                      refine zj_aload_n C dc_M_at_155 rfl 2 rfl ?_
                      refine zj_iload_n C dc_M_at_156 rfl 3 rfl ?_
                      refine zj_iload C dc_M_at_157 1 rfl ?_
                      refine zj_iload_n C dc_M_at_159 rfl 4 rfl ?_
                      refine zj_iconst (v := 1) C dc_M_at_160 (by decide) ?_
                      refine zj_iadd C dc_M_at_161 ?_
                      refine zj_topi (nI_1 _) ?_
                      refine zj_Vi C (ct_M_spot _ hst z ad N _ _ _ _ _ _ hN hM.1 (t) (r) (k + 1)) gv_M_66 rfl rfl rfl hd_M_spot ⟨(Nat.le_of_ble_eq_true rfl), (Nat.le_of_ble_eq_true rfl)⟩ (by omega) hM.1.1 rfl rfl rfl (Nat.le_of_ble_eq_true rfl) ⟨(Nat.le_of_ble_eq_true rfl), (Nat.le_of_ble_eq_true rfl)⟩ dc_M_at_162 (fun r1 g9 h1 => ?_)
                      obtain ⟨rfl, hg9⟩ := h1
                      rw [hg9]
                      refine zj_iald C (by omega) hM.1.2.2.2.2.2.1 rfl (by omega) (by decide) dc_M_at_165 ?_
                      refine zj_iload C dc_M_at_166 0 rfl ?_
                      refine zj_isub C dc_M_at_168 ?_
                      exact zj_iret C dc_M_at_169 (Or.inl ⟨⟨t, k, r, ⟨ht, rfl, hth⟩, hk, rfl, hr, hrd, Or.inr (Or.inr ⟨rfl, by rw [if_neg c1]⟩)⟩, hM⟩)
                    · have c1 := (nI_eq (by omega) (by omega)).mp c1
                      refine zj_iconst (v := 0) C dc_M_at_147 (by decide) ?_
                      refine zj_goto C dc_M_at_148 rfl ?_
                      exact zj_iret C dc_M_at_169 (Or.inl ⟨⟨t, k, r, ⟨ht, rfl, hth⟩, hk, rfl, hr, hrd, Or.inr (Or.inr ⟨rfl, by rw [if_pos c1]⟩)⟩, hM⟩)
                · skip
                  refine zj_iload C dc_M_at_74 4 rfl ?_
                  refine zj_if_ge C dc_M_at_76 rfl (fun _ => ?_) (fun h => absurd h (not_not_intro (nI_pos' (by omega))))
                  refine zj_iload C dc_M_at_90 4 rfl ?_
                  refine zj_istore C dc_M_at_92 (by decide) rfl ?_
                  refine zj_aload_n C dc_M_at_94 rfl 1 rfl ?_
                  refine zj_get (k := 5) C (by omega) hM.1.1 rfl (by decide) fw_M fl_M_23 rfl rfl dc_M_at_95 ?_
                  refine zj_aload_n C dc_M_at_98 rfl 1 rfl ?_
                  refine zj_iload_n C dc_M_at_99 rfl 2 rfl ?_
                  refine zj_iload C dc_M_at_100 0 rfl ?_
                  refine zj_iload_n C dc_M_at_102 rfl 3 rfl ?_
                  refine zj_Vi C (ct_M_spot _ hst z ad N _ _ _ _ _ _ hN hM.1 (t) (r) (k)) gv_M_66 rfl rfl rfl hd_M_spot ⟨(Nat.le_of_ble_eq_true rfl), (Nat.le_of_ble_eq_true rfl)⟩ (by omega) hM.1.1 rfl rfl rfl (Nat.le_of_ble_eq_true rfl) ⟨(Nat.le_of_ble_eq_true rfl), (Nat.le_of_ble_eq_true rfl)⟩ dc_M_at_103 (fun r1 g9 h1 => ?_)
                  obtain ⟨rfl, hg9⟩ := h1
                  rw [hg9]
                  refine zj_iald C (by omega) hM.1.2.2.2.2.2.1 rfl (by omega) (by decide) dc_M_at_106 ?_
                  refine zj_istore C dc_M_at_107 (by decide) rfl ?_
                  have hw4 : w = nI 0 ∨ w = nI 1 ∨ w = nI 2 := zp_w3 b1 b2
                  rcases hw4 with rfl | rfl | rfl
                  · skip
                    refine zj_iload_n C dc_M_at_109 rfl 5 rfl ?_
                    refine zj_if_ne C dc_M_at_110 rfl (fun h => absurd h (by decide)) (fun _ => ?_)
                    refine zj_iload C dc_M_at_113 0 rfl ?_
                    exact zj_iret C dc_M_at_115 (Or.inl ⟨⟨t, k, r, ⟨ht, rfl, hth⟩, hk, rfl, hr, hrd, Or.inl ⟨rfl, rfl⟩⟩, hM⟩)
                  · skip
                    refine zj_iload_n C dc_M_at_109 rfl 5 rfl ?_
                    refine zj_if_ne C dc_M_at_110 rfl (fun _ => ?_) (fun h => absurd h (by decide))
                    refine zj_iload_n C dc_M_at_116 rfl 5 rfl ?_
                    refine zj_iconst (v := 1) C dc_M_at_117 (by decide) ?_
                    refine zj_icmp_ne C dc_M_at_118 rfl (fun h => absurd h (by decide)) (fun _ => ?_)
                    refine zj_aload_n C dc_M_at_121 rfl 2 rfl ?_
                    refine zj_get (k := 6) C (by omega) hM.1.1 rfl (by decide) fw_M fl_M_26 rfl rfl dc_M_at_122 ?_
                    refine zj_aload_n C dc_M_at_125 rfl 2 rfl ?_
                    refine zj_iload_n C dc_M_at_126 rfl 3 rfl ?_
                    refine zj_iload C dc_M_at_127 1 rfl ?_
                    refine zj_iload_n C dc_M_at_129 rfl 4 rfl ?_
                    refine zj_Vi C (ct_M_spot _ hst z ad N _ _ _ _ _ _ hN hM.1 (t) (r) (k)) gv_M_66 rfl rfl rfl hd_M_spot ⟨(Nat.le_of_ble_eq_true rfl), (Nat.le_of_ble_eq_true rfl)⟩ (by omega) hM.1.1 rfl rfl rfl (Nat.le_of_ble_eq_true rfl) ⟨(Nat.le_of_ble_eq_true rfl), (Nat.le_of_ble_eq_true rfl)⟩ dc_M_at_130 (fun r1 g9 h1 => ?_)
                    obtain ⟨rfl, hg9⟩ := h1
                    rw [hg9]
                    refine zj_iald C (by omega) hM.1.2.2.2.2.2.2.1 rfl (by omega) (by decide) dc_M_at_133 ?_
                    exact zj_iret C dc_M_at_134 (Or.inl ⟨⟨t, k, r, ⟨ht, rfl, hth⟩, hk, rfl, hr, hrd, Or.inr (Or.inl ⟨rfl, rfl⟩)⟩, hM⟩)
                  · skip
                    refine zj_iload_n C dc_M_at_109 rfl 5 rfl ?_
                    refine zj_if_ne C dc_M_at_110 rfl (fun _ => ?_) (fun h => absurd h (by decide))
                    refine zj_iload_n C dc_M_at_116 rfl 5 rfl ?_
                    refine zj_iconst (v := 1) C dc_M_at_117 (by decide) ?_
                    refine zj_icmp_ne C dc_M_at_118 rfl (fun _ => ?_) (fun h => absurd h (by decide))
                    refine zj_iload_n C dc_M_at_135 rfl 4 rfl ?_
                    refine zj_iconst (v := 1) C dc_M_at_136 (by decide) ?_
                    refine zj_iadd C dc_M_at_137 ?_
                    refine zj_topi (nI_1 _) ?_
                    refine zj_aload_n C dc_M_at_138 rfl 2 rfl ?_
                    refine zj_get (k := 3) C (by omega) hM.1.1 rfl (by decide) fw_M fl_M_16 rfl rfl dc_M_at_139 ?_
                    refine zj_iload_n C dc_M_at_142 rfl 3 rfl ?_
                    refine zj_iald C (by omega) hM.1.2.2.2.1 rfl ht (by decide) dc_M_at_143 ?_
                    refine zj_topi (hA2) ?_
                    refine zj_icmp_ne C dc_M_at_144 rfl (fun c1 => ?_) (fun c1 => ?_)
                    · have c1 := (zn_ne (by omega) (by omega)).mp c1
                      refine zj_aload_n C dc_M_at_151 rfl 2 rfl ?_
                      refine zj_get (k := 5) C (by omega) hM.1.1 rfl (by decide) fw_M fl_M_23 rfl rfl dc_M_at_152 ?_
                      refine zj_aload_n C dc_M_at_155 rfl 2 rfl ?_
                      refine zj_iload_n C dc_M_at_156 rfl 3 rfl ?_
                      refine zj_iload C dc_M_at_157 1 rfl ?_
                      refine zj_iload_n C dc_M_at_159 rfl 4 rfl ?_
                      refine zj_iconst (v := 1) C dc_M_at_160 (by decide) ?_
                      refine zj_iadd C dc_M_at_161 ?_
                      refine zj_topi (nI_1 _) ?_
                      refine zj_Vi C (ct_M_spot _ hst z ad N _ _ _ _ _ _ hN hM.1 (t) (r) (k + 1)) gv_M_66 rfl rfl rfl hd_M_spot ⟨(Nat.le_of_ble_eq_true rfl), (Nat.le_of_ble_eq_true rfl)⟩ (by omega) hM.1.1 rfl rfl rfl (Nat.le_of_ble_eq_true rfl) ⟨(Nat.le_of_ble_eq_true rfl), (Nat.le_of_ble_eq_true rfl)⟩ dc_M_at_162 (fun r1 g9 h1 => ?_)
                      obtain ⟨rfl, hg9⟩ := h1
                      rw [hg9]
                      refine zj_iald C (by omega) hM.1.2.2.2.2.2.1 rfl (by omega) (by decide) dc_M_at_165 ?_
                      refine zj_iload C dc_M_at_166 0 rfl ?_
                      refine zj_isub C dc_M_at_168 ?_
                      exact zj_iret C dc_M_at_169 (Or.inl ⟨⟨t, k, r, ⟨ht, rfl, hth⟩, hk, rfl, hr, hrd, Or.inr (Or.inr ⟨rfl, by rw [if_neg c1]⟩)⟩, hM⟩)
                    · have c1 := (nI_eq (by omega) (by omega)).mp c1
                      refine zj_iconst (v := 0) C dc_M_at_147 (by decide) ?_
                      refine zj_goto C dc_M_at_148 rfl ?_
                      exact zj_iret C dc_M_at_169 (Or.inl ⟨⟨t, k, r, ⟨ht, rfl, hth⟩, hk, rfl, hr, hrd, Or.inr (Or.inr ⟨rfl, by rw [if_pos c1]⟩)⟩, hM⟩)
              · skip
                refine zj_iconst (v := 2) C dc_M_at_57 (by decide) ?_
                refine zj_goto C dc_M_at_58 rfl ?_
                refine zj_put (k := 0) C (by omega) hM.1.1 rfl (by decide) fw_M fl_M_62 rfl fy_M fk_M fn_M rfl rfl rfl (Nat.le_of_ble_eq_true rfl) rfl dc_M_at_62 ?_
                refine zM_kc hM (fun g2 hM => ?_)
                refine zj_aload_n C dc_M_at_65 rfl 0 rfl ?_
                refine zj_get (k := 0) C (by omega) hM.1.1 rfl (by decide) fw_M fl_M_62 rfl rfl dc_M_at_66 ?_
                refine zj_if_le C dc_M_at_69 rfl (fun h => absurd h (by decide)) (fun _ => ?_)
                refine zj_iconst (v := 0) C dc_M_at_72 (by decide) ?_
                exact zj_iret C dc_M_at_73 (Or.inr (Or.inr ⟨⟨t, k, hrd.choose, ⟨ht, rfl, hth⟩, hk, rfl, hrd.choose_spec.1, hrd.choose_spec.2⟩, fun k hk e => by subst e; exact b2 ((nI_leI (b := 2) (by omega) (by omega)).mpr (by omega)), hM⟩))
          · skip
            refine zj_iconst (v := 1) C dc_M_at_44 (by decide) ?_
            refine zj_goto C dc_M_at_45 rfl ?_
            refine zj_put (k := 0) C (by omega) hM.1.1 rfl (by decide) fw_M fl_M_62 rfl fy_M fk_M fn_M rfl rfl rfl (Nat.le_of_ble_eq_true rfl) rfl dc_M_at_62 ?_
            refine zM_kc hM (fun g2 hM => ?_)
            refine zj_aload_n C dc_M_at_65 rfl 0 rfl ?_
            refine zj_get (k := 0) C (by omega) hM.1.1 rfl (by decide) fw_M fl_M_62 rfl rfl dc_M_at_66 ?_
            refine zj_if_le C dc_M_at_69 rfl (fun h => absurd h (by decide)) (fun _ => ?_)
            refine zj_iconst (v := 0) C dc_M_at_72 (by decide) ?_
            exact zj_iret C dc_M_at_73 (Or.inr (Or.inl ⟨Or.inr (Or.inr ⟨t, ⟨ht, rfl, hth⟩, zm_rn1 hA5 (Or.inr (Int32.not_lt.mp a4))⟩), hM⟩))
  · have hnt := zm_ntt (zb_i1 n1) hb9
    refine zj_iconst (v := 1) C dc_M_at_9 (by decide) ?_
    refine zj_goto C dc_M_at_10 rfl ?_
    refine zj_put (k := 0) C (by omega) hM.1.1 rfl (by decide) fw_M fl_M_62 rfl fy_M fk_M fn_M rfl rfl rfl (Nat.le_of_ble_eq_true rfl) rfl dc_M_at_62 ?_
    refine zM_kc hM (fun g2 hM => ?_)
    refine zj_aload_n C dc_M_at_65 rfl 0 rfl ?_
    refine zj_get (k := 0) C (by omega) hM.1.1 rfl (by decide) fw_M fl_M_62 rfl rfl dc_M_at_66 ?_
    refine zj_if_le C dc_M_at_69 rfl (fun h => absurd h (by decide)) (fun _ => ?_)
    refine zj_iconst (v := 0) C dc_M_at_72 (by decide) ?_
    exact zj_iret C dc_M_at_73 (Or.inr (Or.inl ⟨Or.inl hnt, hM⟩))
theorem zm_big {k n : Nat} (h : 2 ^ 30 ≤ k) (h2 : nI k < nI n - 1) : 21 ≤ n ∨ 2 ^ 31 ≤ k := by
  by_cases hk : 2 ^ 31 ≤ k
  · exact Or.inr hk
  · by_cases hn : 21 ≤ n
    · exact Or.inl hn
    · exfalso
      cases n with
      | zero => exact nI_pos (n := k) (by omega) (Int32.lt_trans h2 (by decide))
      | succ n => rw [nI_pred] at h2; have := (nI_ltI (by omega) (by omega)).mp h2; omega
set_option maxHeartbeats 4000000 in
set_option maxRecDepth 100000 in
theorem ct_M_contour (l : Launch) (hst : l.stackTraces = false) (z : zv_T) (ad : Nat → Nat) (N : Nat) (g : Nat → va_E) (c as fo kp : Int32) (a : Nat → Nat → Int32) (hN : 126 ≤ N) (hM0 : zs_M z ad g c as fo kp a) (th sh : Nat → Bool) (Cn Rn : Nat → Nat) (hA : zm_A a th sh Cn Rn) (id i : Int32) : zm_i l mn_M_contour ws_M_contour rm_M_contour z ad N g [.ref (ad 108), .int id, .int i] (fun r g1 => ((∃ t, zm_is th id t ∧ (((∀ k, k + 1 < Cn t → ¬ i = nI k) ∧ r = -1) ∨ ∃ k, k + 1 < Cn t ∧ i = nI k ∧ r = (if a 4 (180 * t + 20 * (Rn t - 1) + (k + 1)) - a 4 (180 * t + 20 * (Rn t - 1) + (k)) = 0 then 115 else if 0 < a 4 (180 * t + 20 * (Rn t - 1) + (k + 1)) - a 4 (180 * t + 20 * (Rn t - 1) + (k)) then 117 else 100))) ∧ zm_M z ad g g1 0 as fo kp a) ∨ ((∀ t, ¬ zm_is th id t) ∧ zm_M z ad g g1 1 as fo kp a)) := by
  have hM : zm_M z ad g g c as fo kp a := ⟨hM0, fun _ _ => rfl⟩
  refine zm_ofi hst pn_M_contour rfl (Nat.le_of_ble_eq_true rfl) (fun X hX C => ?_)
  subst hX
  show zj_J X 0 0 _ ad N g 0 [(0, .ref (ad 108)), (1, .int id), (2, .int i)] []
  refine zj_aload_n C dc_M_contour_0 rfl 0 rfl ?_
  refine zj_aload_n C dc_M_contour_1 rfl 0 rfl ?_
  refine zj_iload_n C dc_M_contour_2 rfl 1 rfl ?_
  refine zj_Vi C (ct_M_noTune _ hst z ad N _ _ _ _ _ _ hN hM.1 th sh Cn Rn hA _) gv_M_74 rfl rfl rfl hd_M_noTune ⟨(Nat.le_of_ble_eq_true rfl), (Nat.le_of_ble_eq_true rfl)⟩ (by omega) hM.1.1 rfl rfl rfl (Nat.le_of_ble_eq_true rfl) ⟨(Nat.le_of_ble_eq_true rfl), (Nat.le_of_ble_eq_true rfl)⟩ dc_M_contour_3 (fun r1 g9 h1 => ?_)
  obtain ⟨⟨b9, rfl, hb9⟩, hg9⟩ := h1
  rw [hg9]
  refine zj_if_eq C dc_M_contour_6 rfl (fun n1 => ?_) (fun n1 => ?_)
  · obtain ⟨t, ht, hid, hth⟩ := zm_ntf (zb_i0 n1) hb9
    subst hid
    obtain ⟨hA0, hA1, hA2, hA3, hA4, hA5, hA6⟩ := hA t ht
    have hA6 := hA6 hth
    refine zj_iconst (v := 0) C dc_M_contour_13 (by decide) ?_
    refine zj_put (k := 0) C (by omega) hM.1.1 rfl (by decide) fw_M fl_M_62 rfl fy_M fk_M fn_M rfl rfl rfl (Nat.le_of_ble_eq_true rfl) rfl dc_M_contour_14 ?_
    refine zM_kc hM (fun g2 hM => ?_)
    refine zj_aload_n C dc_M_contour_17 rfl 0 rfl ?_
    refine zj_get (k := 0) C (by omega) hM.1.1 rfl (by decide) fw_M fl_M_62 rfl rfl dc_M_contour_18 ?_
    refine zj_if_le C dc_M_contour_21 rfl (fun _ => ?_) (fun h => absurd h (by decide))
    refine zj_iload_n C dc_M_contour_26 rfl 2 rfl ?_
    refine zj_if_lt C dc_M_contour_27 rfl (fun a1 => ?_) (fun a1 => ?_)
    · skip
      refine zj_iconst (v := -1) C dc_M_contour_42 (by decide) ?_
      exact zj_iret C dc_M_contour_43 (Or.inl ⟨⟨t, ⟨ht, rfl, hth⟩, Or.inl ⟨fun k hk e => by subst e; exact nI_pos (by omega) a1, rfl⟩⟩, hM⟩)
    · obtain ⟨k, hk9, rfl⟩ := nI_of a1
      refine zj_iload_n C dc_M_contour_30 rfl 2 rfl ?_
      refine zj_aload_n C dc_M_contour_31 rfl 0 rfl ?_
      refine zj_get (k := 3) C (by omega) hM.1.1 rfl (by decide) fw_M fl_M_16 rfl rfl dc_M_contour_32 ?_
      refine zj_iload_n C dc_M_contour_35 rfl 1 rfl ?_
      refine zj_iald C (by omega) hM.1.2.2.2.1 rfl ht (by decide) dc_M_contour_36 ?_
      refine zj_topi (hA2) ?_
      refine zj_iconst (v := 1) C dc_M_contour_37 (by decide) ?_
      refine zj_isub C dc_M_contour_38 ?_
      refine zj_icmp_lt C dc_M_contour_39 rfl (fun a2 => ?_) (fun a2 => ?_)
      · have hk9 : k < 2 ^ 30 := Nat.lt_of_not_le (fun e => absurd (zm_big e a2) (by omega))
        have a2 := (zn_lm1 hk9 (by omega)).mp a2
        refine zj_aload_n C dc_M_contour_44 rfl 0 rfl ?_
        refine zj_iload_n C dc_M_contour_45 rfl 1 rfl ?_
        refine zj_iload_n C dc_M_contour_46 rfl 2 rfl ?_
        refine zj_Vi C (ct_M_step _ hst z ad N _ _ _ _ _ _ hN hM.1 t k (Rn t) ht (by omega) hA3 hA6 hA5) gv_M_82 rfl rfl rfl hd_M_step ⟨(Nat.le_of_ble_eq_true rfl), (Nat.le_of_ble_eq_true rfl)⟩ (by omega) hM.1.1 rfl rfl rfl (Nat.le_of_ble_eq_true rfl) ⟨(Nat.le_of_ble_eq_true rfl), (Nat.le_of_ble_eq_true rfl)⟩ dc_M_contour_47 (fun r1 g9 h1 => ?_)
        obtain ⟨rfl, hg9⟩ := h1
        rw [hg9]
        refine zj_Si C (ct_M_sign _ hst z ad N _ _) gv_M_85 rfl rfl rfl hd_M_sign ⟨(Nat.le_of_ble_eq_true rfl), (Nat.le_of_ble_eq_true rfl)⟩ rfl rfl (Nat.le_of_ble_eq_true rfl) ⟨(Nat.le_of_ble_eq_true rfl), (Nat.le_of_ble_eq_true rfl)⟩ dc_M_contour_50 (fun r1 g9 h1 => ?_)
        obtain ⟨rfl, hg9⟩ := h1
        rw [hg9]
        refine zj_istore_n C dc_M_contour_53 rfl (by decide) rfl ?_
        refine zj_iload_n C dc_M_contour_54 rfl 0 rfl ?_
        refine zj_if_le C dc_M_contour_55 rfl (fun c1 => ?_) (fun c1 => ?_)
        · have c1 := zm_sgp.mp c1
          refine zj_iload_n C dc_M_contour_63 rfl 0 rfl ?_
          refine zj_if_ge C dc_M_contour_64 rfl (fun c2 => ?_) (fun c2 => ?_)
          · have c2 := zm_sgn.mp c2
            refine zj_bipush (v := 115) C dc_M_contour_72 (by decide) ?_
            exact zj_iret C dc_M_contour_74 (Or.inl ⟨⟨t, ⟨ht, rfl, hth⟩, Or.inr ⟨k, a2, rfl, by rw [if_pos (zm_ch c1 c2)]⟩⟩, hM⟩)
          · have c2 := Classical.not_not.mp (fun e => c2 (zm_sgn.mpr e))
            refine zj_bipush (v := 100) C dc_M_contour_67 (by decide) ?_
            refine zj_goto C dc_M_contour_69 rfl ?_
            exact zj_iret C dc_M_contour_74 (Or.inl ⟨⟨t, ⟨ht, rfl, hth⟩, Or.inr ⟨k, a2, rfl, by rw [if_neg (fun e => by rw [e] at c2; exact absurd c2 (by decide)), if_neg c1]⟩⟩, hM⟩)
        · have c1 := Classical.not_not.mp (fun e => c1 (zm_sgp.mpr e))
          refine zj_bipush (v := 117) C dc_M_contour_58 (by decide) ?_
          refine zj_goto C dc_M_contour_60 rfl ?_
          exact zj_iret C dc_M_contour_74 (Or.inl ⟨⟨t, ⟨ht, rfl, hth⟩, Or.inr ⟨k, a2, rfl, by rw [if_neg (fun e => by rw [e] at c1; exact absurd c1 (by decide)), if_pos c1]⟩⟩, hM⟩)
      · skip
        refine zj_iconst (v := -1) C dc_M_contour_42 (by decide) ?_
        exact zj_iret C dc_M_contour_43 (Or.inl ⟨⟨t, ⟨ht, rfl, hth⟩, Or.inl ⟨fun q hq e => by subst_vars; rw [e] at a2; exact a2 ((zn_lm1 (by omega) (by omega)).mpr hq), rfl⟩⟩, hM⟩)
  · have hnt := zm_ntt (zb_i1 n1) hb9
    refine zj_iconst (v := 1) C dc_M_contour_9 (by decide) ?_
    refine zj_goto C dc_M_contour_10 rfl ?_
    refine zj_put (k := 0) C (by omega) hM.1.1 rfl (by decide) fw_M fl_M_62 rfl fy_M fk_M fn_M rfl rfl rfl (Nat.le_of_ble_eq_true rfl) rfl dc_M_contour_14 ?_
    refine zM_kc hM (fun g2 hM => ?_)
    refine zj_aload_n C dc_M_contour_17 rfl 0 rfl ?_
    refine zj_get (k := 0) C (by omega) hM.1.1 rfl (by decide) fw_M fl_M_62 rfl rfl dc_M_contour_18 ?_
    refine zj_if_le C dc_M_contour_21 rfl (fun h => absurd h (by decide)) (fun _ => ?_)
    refine zj_iconst (v := 0) C dc_M_contour_24 (by decide) ?_
    exact zj_iret C dc_M_contour_25 (Or.inr ⟨hnt, hM⟩)
set_option maxHeartbeats 4000000 in
set_option maxRecDepth 100000 in
theorem ct_M_ask (l : Launch) (hst : l.stackTraces = false) (z : zv_T) (ad : Nat → Nat) (N : Nat) (g : Nat → va_E) (c as fo kp : Int32) (a : Nat → Nat → Int32) (hN : 126 ≤ N) (hM0 : zs_M z ad g c as fo kp a) (qc : Nat) (has : as = nI qc) (hqc : qc ≤ 8) (x y : Int32) : zm_i l mn_M_ask ws_M_ask rm_M_ask z ad N g [.ref (ad 108), .int x, .int y] (fun r g1 => (zp_no x y ∧ qc < 8 ∧ r = nI (qc + 1) ∧ zm_M z ad g g1 0 (nI (qc + 1)) fo kp (va_up (va_up a 6 (upd (a 6) qc x)) 7 (upd (a 7) qc y))) ∨ (¬ zp_no x y ∧ zm_M z ad g g1 1 as fo kp a) ∨ (zp_no x y ∧ qc = 8 ∧ zm_M z ad g g1 2 as fo kp a)) := by
  have hM : zm_M z ad g g c as fo kp a := ⟨hM0, fun _ _ => rfl⟩
  subst has
  refine zm_ofi hst pn_M_ask rfl (Nat.le_of_ble_eq_true rfl) (fun X hX C => ?_)
  subst hX
  show zj_J X 0 0 _ ad N g 0 [(0, .ref (ad 108)), (1, .int x), (2, .int y)] []
  refine zj_aload_n C dc_M_ask_0 rfl 0 rfl ?_
  refine zj_iload_n C dc_M_ask_1 rfl 1 rfl ?_
  refine zj_iload_n C dc_M_ask_2 rfl 2 rfl ?_
  refine zj_Si C (ct_M_noNote _ hst z ad N _ x y) gv_M_78 rfl rfl rfl hd_M_noNote ⟨(Nat.le_of_ble_eq_true rfl), (Nat.le_of_ble_eq_true rfl)⟩ rfl rfl (Nat.le_of_ble_eq_true rfl) ⟨(Nat.le_of_ble_eq_true rfl), (Nat.le_of_ble_eq_true rfl)⟩ dc_M_ask_3 (fun r1 g9 h1 => ?_)
  obtain ⟨⟨b8, rfl, hb8⟩, hg9⟩ := h1
  rw [hg9]
  refine zj_if_eq C dc_M_ask_6 rfl (fun n2 => ?_) (fun n2 => ?_)
  · have hno := zm_nnf (zb_i0 n2) hb8
    refine zj_aload_n C dc_M_ask_13 rfl 0 rfl ?_
    refine zj_get (k := 7) C (by omega) hM.1.1 rfl (by decide) fw_M fl_M_89 rfl rfl dc_M_ask_14 ?_
    refine zj_bipush (v := 8) C dc_M_ask_17 (by decide) ?_
    refine zj_icmp_ne C dc_M_ask_19 rfl (fun a1 => ?_) (fun a1 => ?_)
    · have a1 := (zn_ne (b := 8) (by omega) (by omega)).mp a1
      refine zj_iconst (v := 0) C dc_M_ask_26 (by decide) ?_
      refine zj_put (k := 0) C (by omega) hM.1.1 rfl (by decide) fw_M fl_M_62 rfl fy_M fk_M fn_M rfl rfl rfl (Nat.le_of_ble_eq_true rfl) rfl dc_M_ask_27 ?_
      refine zM_kc hM (fun g2 hM => ?_)
      refine zj_aload_n C dc_M_ask_30 rfl 0 rfl ?_
      refine zj_get (k := 0) C (by omega) hM.1.1 rfl (by decide) fw_M fl_M_62 rfl rfl dc_M_ask_31 ?_
      refine zj_if_le C dc_M_ask_34 rfl (fun _ => ?_) (fun h => absurd h (by decide))
      refine zj_aload_n C dc_M_ask_39 rfl 0 rfl ?_
      refine zj_get (k := 8) C (by omega) hM.1.1 rfl (by decide) fw_M fl_M_29 rfl rfl dc_M_ask_40 ?_
      refine zj_aload_n C dc_M_ask_43 rfl 0 rfl ?_
      refine zj_get (k := 7) C (by omega) hM.1.1 rfl (by decide) fw_M fl_M_89 rfl rfl dc_M_ask_44 ?_
      refine zj_iload_n C dc_M_ask_47 rfl 1 rfl ?_
      refine zj_iast C (by omega) hM.1.2.2.2.2.2.2.2.1 rfl (by omega) (by decide) dc_M_ask_48 ?_
      refine zM_k6 hM (fun g2 hM => ?_)
      refine zj_aload_n C dc_M_ask_49 rfl 0 rfl ?_
      refine zj_get (k := 9) C (by omega) hM.1.1 rfl (by decide) fw_M fl_M_32 rfl rfl dc_M_ask_50 ?_
      refine zj_aload_n C dc_M_ask_53 rfl 0 rfl ?_
      refine zj_get (k := 7) C (by omega) hM.1.1 rfl (by decide) fw_M fl_M_89 rfl rfl dc_M_ask_54 ?_
      refine zj_iload_n C dc_M_ask_57 rfl 2 rfl ?_
      refine zj_iast C (by omega) hM.1.2.2.2.2.2.2.2.2.1 rfl (by omega) (by decide) dc_M_ask_58 ?_
      refine zM_k7 hM (fun g2 hM => ?_)
      refine zj_aload_n C dc_M_ask_59 rfl 0 rfl ?_
      refine zj_dup C dc_M_ask_60 rfl ?_
      refine zj_get (k := 7) C (by omega) hM.1.1 rfl (by decide) fw_M fl_M_89 rfl rfl dc_M_ask_61 ?_
      refine zj_iconst (v := 1) C dc_M_ask_64 (by decide) ?_
      refine zj_iadd C dc_M_ask_65 ?_
      refine zj_topi (nI_1 _) ?_
      refine zj_put (k := 7) C (by omega) hM.1.1 rfl (by decide) fw_M fl_M_89 rfl fy_M fk_M fn_M rfl rfl rfl (Nat.le_of_ble_eq_true rfl) rfl dc_M_ask_66 ?_
      refine zM_ka hM (fun g2 hM => ?_)
      refine zj_aload_n C dc_M_ask_69 rfl 0 rfl ?_
      refine zj_get (k := 7) C (by omega) hM.1.1 rfl (by decide) fw_M fl_M_89 rfl rfl dc_M_ask_70 ?_
      exact zj_iret C dc_M_ask_73 (Or.inl ⟨hno, by omega, rfl, hM⟩)
    · have a1 := (nI_eq (b := 8) (by omega) (by omega)).mp a1
      refine zj_iconst (v := 2) C dc_M_ask_22 (by decide) ?_
      refine zj_goto C dc_M_ask_23 rfl ?_
      refine zj_put (k := 0) C (by omega) hM.1.1 rfl (by decide) fw_M fl_M_62 rfl fy_M fk_M fn_M rfl rfl rfl (Nat.le_of_ble_eq_true rfl) rfl dc_M_ask_27 ?_
      refine zM_kc hM (fun g2 hM => ?_)
      refine zj_aload_n C dc_M_ask_30 rfl 0 rfl ?_
      refine zj_get (k := 0) C (by omega) hM.1.1 rfl (by decide) fw_M fl_M_62 rfl rfl dc_M_ask_31 ?_
      refine zj_if_le C dc_M_ask_34 rfl (fun h => absurd h (by decide)) (fun _ => ?_)
      refine zj_iconst (v := 0) C dc_M_ask_37 (by decide) ?_
      exact zj_iret C dc_M_ask_38 (Or.inr (Or.inr ⟨hno, a1, hM⟩))
  · have hno := zm_nnt (zb_i1 n2) hb8
    refine zj_iconst (v := 1) C dc_M_ask_9 (by decide) ?_
    refine zj_goto C dc_M_ask_10 rfl ?_
    refine zj_put (k := 0) C (by omega) hM.1.1 rfl (by decide) fw_M fl_M_62 rfl fy_M fk_M fn_M rfl rfl rfl (Nat.le_of_ble_eq_true rfl) rfl dc_M_ask_27 ?_
    refine zM_kc hM (fun g2 hM => ?_)
    refine zj_aload_n C dc_M_ask_30 rfl 0 rfl ?_
    refine zj_get (k := 0) C (by omega) hM.1.1 rfl (by decide) fw_M fl_M_62 rfl rfl dc_M_ask_31 ?_
    refine zj_if_le C dc_M_ask_34 rfl (fun h => absurd h (by decide)) (fun _ => ?_)
    refine zj_iconst (v := 0) C dc_M_ask_37 (by decide) ?_
    exact zj_iret C dc_M_ask_38 (Or.inr (Or.inl ⟨hno, hM⟩))
set_option maxHeartbeats 4000000 in
set_option maxRecDepth 100000 in
theorem ct_M_forget (l : Launch) (hst : l.stackTraces = false) (z : zv_T) (ad : Nat → Nat) (N : Nat) (g : Nat → va_E) (c as fo kp : Int32) (a : Nat → Nat → Int32) (hN : 126 ≤ N) (hM0 : zs_M z ad g c as fo kp a) : zm_v l mn_M_forget ws_M_forget rm_M_forget z ad N g [.ref (ad 108)] (fun g1 => zm_M z ad g g1 0 0 fo kp a) := by
  have hM : zm_M z ad g g c as fo kp a := ⟨hM0, fun _ _ => rfl⟩
  refine zm_ofv hst pn_M_forget rfl (Nat.le_of_ble_eq_true rfl) (fun X hX C => ?_)
  subst hX
  show zj_J X 0 0 _ ad N g 0 [(0, .ref (ad 108))] []
  refine zj_aload_n C dc_M_forget_0 rfl 0 rfl ?_
  refine zj_iconst (v := 0) C dc_M_forget_1 (by decide) ?_
  refine zj_put (k := 0) C (by omega) hM.1.1 rfl (by decide) fw_M fl_M_62 rfl fy_M fk_M fn_M rfl rfl rfl (Nat.le_of_ble_eq_true rfl) rfl dc_M_forget_2 ?_
  refine zM_kc hM (fun g2 hM => ?_)
  refine zj_aload_n C dc_M_forget_5 rfl 0 rfl ?_
  refine zj_iconst (v := 0) C dc_M_forget_6 (by decide) ?_
  refine zj_put (k := 7) C (by omega) hM.1.1 rfl (by decide) fw_M fl_M_89 rfl fy_M fk_M fn_M rfl rfl rfl (Nat.le_of_ble_eq_true rfl) rfl dc_M_forget_7 ?_
  refine zM_ka hM (fun g2 hM => ?_)
  exact zj_vret C dc_M_forget_10 hM
end ZMQ
