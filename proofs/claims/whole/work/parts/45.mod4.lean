section ZMR
/-- the notes of tune t now: r: the row (4 pitches, 5 lengths) -/
def zm_f (a : Nat → Nat → Int32) (r t R : Nat) : Nat → Int32 := fun k => a r (180 * t + 20 * (R - 1) + k)
def zm_e (kd : Nat) (qp qq p q : Nat → Int32) (pl : Nat) : Nat → Bool := match kd with
  | 0 => fun i => decide (p (pl + i + 1) - p (pl + i) = qp (i + 1) - qp i) && decide (q (pl + i) * qq (i + 1) = q (pl + i + 1) * qq i)
  | 1 => fun i => decide (p (pl + i + 1) - p (pl + i) = qp (i + 1) - qp i)
  | 2 => fun i => decide (zm_sg (p (pl + i + 1) - p (pl + i)) = zm_sg (qp (i + 1) - qp i))
  | _ => fun i => decide (q (pl + 0) * qq (i + 1) = q (pl + i + 1) * qq 0)
set_option maxHeartbeats 4000000 in
set_option maxRecDepth 100000 in
theorem ct_M_plain0 (l : Launch) (hst : l.stackTraces = false) (z : zv_T) (ad : Nat → Nat) (N : Nat) (g : Nat → va_E) (c as fo kp : Int32) (a : Nat → Nat → Int32) (hN : 126 ≤ N) (hM0 : zs_M z ad g c as fo kp a) (qc t R : Nat) (has : as = nI qc) (hqc : 2 ≤ qc) (hqc8 : qc ≤ 8) (ht : t < 8) (hR : a 3 t = nI R) (hR1 : 1 ≤ R) (hR9 : R ≤ 9) (pl : Nat) (hpl : pl + qc ≤ 20) : zm_i l mn_M_plain ws_M_plain rm_M_plain z ad N g [.ref (ad 108), .int (nI 0), .int (nI t), .int (nI pl)] (fun r g1 => r = zb_i (zp_all (zm_e 0 (a 6) (a 7) (zm_f a 4 t R) (zm_f a 5 t R) pl) (qc - 1)) ∧ g1 = g) := by
  have hM : zm_M z ad g g c as fo kp a := ⟨hM0, fun _ _ => rfl⟩
  subst has
  refine zm_ofz hst pn_M_plain rfl (Nat.le_of_ble_eq_true rfl) (fun X hX C => ?_)
  subst hX
  show zj_J X 0 0 _ ad N g 0 [(0, .ref (ad 108)), (1, .int (nI 0)), (2, .int (nI t)), (3, .int (nI pl))] []
  have loop : ∀ (n : Nat) (i : Nat), qc - 1 - i = n → i ≤ qc - 1 → zj_J X 0 0 (zj_Qi X 0 0 ad N (fun r g1 => r = zb_i (zp_all (zm_e 0 (a 6) (a 7) (zm_f a 4 t R) (zm_f a 5 t R) pl) (qc - 1)) ∧ g1 = g)) ad N g 6 [(5, .int (nI i)), (4, .int (zb_i (zp_all (zm_e 0 (a 6) (a 7) (zm_f a 4 t R) (zm_f a 5 t R) pl) i))), (0, .ref (ad 108)), (1, .int (nI 0)), (2, .int (nI t)), (3, .int (nI pl))] [] := by
    intro n
    induction n with
    | zero =>
      intro i e1 e2
      refine zj_iload C dc_M_plain_6 0 rfl ?_
      refine zj_iconst (v := 1) C dc_M_plain_8 (by decide) ?_
      refine zj_iadd C dc_M_plain_9 ?_
      refine zj_topi (nI_1 _) ?_
      refine zj_aload_n C dc_M_plain_10 rfl 2 rfl ?_
      refine zj_get (k := 7) C (by omega) hM.1.1 rfl (by decide) fw_M fl_M_89 rfl rfl dc_M_plain_11 ?_
      refine zj_icmp_ge C dc_M_plain_14 rfl (fun _ => ?_) (fun h => absurd h (not_not_intro ((nI_leI (by omega) (by omega)).mpr (by omega))))
      refine zj_iload C dc_M_plain_174 1 rfl ?_
      exact zj_zret C dc_M_plain_176 (by first | rfl | (unfold zb_i; split <;> rfl)) ⟨by rw [show qc - 1 = i by omega], rfl⟩
    | succ n ih =>
      intro i e1 e2
      refine zj_iload C dc_M_plain_6 0 rfl ?_
      refine zj_iconst (v := 1) C dc_M_plain_8 (by decide) ?_
      refine zj_iadd C dc_M_plain_9 ?_
      refine zj_topi (nI_1 _) ?_
      refine zj_aload_n C dc_M_plain_10 rfl 2 rfl ?_
      refine zj_get (k := 7) C (by omega) hM.1.1 rfl (by decide) fw_M fl_M_89 rfl rfl dc_M_plain_11 ?_
      refine zj_icmp_ge C dc_M_plain_14 rfl (fun h => absurd h (((zn_nle (by omega) (by omega)).mpr (by omega)))) (fun _ => ?_)
      refine zj_aload_n C dc_M_plain_17 rfl 2 rfl ?_
      refine zj_iload_n C dc_M_plain_18 rfl 4 rfl ?_
      refine zj_iload_n C dc_M_plain_19 rfl 5 rfl ?_
      refine zj_iload C dc_M_plain_20 0 rfl ?_
      refine zj_iadd C dc_M_plain_22 ?_
      refine zj_topi (nI_add _ _) ?_
      refine zj_Vi C (ct_M_step _ hst z ad N _ _ _ _ _ _ hN hM.1 t (pl + i) R ht (by omega) hR hR1 hR9) gv_M_82 rfl rfl rfl hd_M_step ⟨(Nat.le_of_ble_eq_true rfl), (Nat.le_of_ble_eq_true rfl)⟩ (by omega) hM.1.1 rfl rfl rfl (Nat.le_of_ble_eq_true rfl) ⟨(Nat.le_of_ble_eq_true rfl), (Nat.le_of_ble_eq_true rfl)⟩ dc_M_plain_23 (fun r1 g9 h1 => ?_)
      obtain ⟨rfl, hg9⟩ := h1
      rw [hg9]
      refine zj_istore C dc_M_plain_26 (by decide) rfl ?_
      refine zj_aload_n C dc_M_plain_28 rfl 3 rfl ?_
      refine zj_iload C dc_M_plain_29 1 rfl ?_
      refine zj_Vi C (ct_M_askedStep _ hst z ad N _ _ _ _ _ _ hN hM.1 (i) (by omega)) gv_M_92 rfl rfl rfl hd_M_askedStep ⟨(Nat.le_of_ble_eq_true rfl), (Nat.le_of_ble_eq_true rfl)⟩ (by omega) hM.1.1 rfl rfl rfl (Nat.le_of_ble_eq_true rfl) ⟨(Nat.le_of_ble_eq_true rfl), (Nat.le_of_ble_eq_true rfl)⟩ dc_M_plain_31 (fun r1 g9 h1 => ?_)
      obtain ⟨rfl, hg9⟩ := h1
      rw [hg9]
      refine zj_istore C dc_M_plain_34 (by decide) rfl ?_
      refine zj_iload C dc_M_plain_36 3 rfl ?_
      refine zj_if_eq C dc_M_plain_38 rfl (fun hb => ?_) (fun hb => ?_)
      · have hb := zb_i0 hb
        refine zj_iconst (v := 0) C dc_M_plain_78 (by decide) ?_
        refine zj_istore C dc_M_plain_79 (by decide) rfl ?_
        refine zj_iload_n C dc_M_plain_81 rfl 5 rfl ?_
        refine zj_if_ne C dc_M_plain_82 rfl (fun h => absurd h (by decide)) (fun _ => ?_)
        refine zj_iload C dc_M_plain_85 3 rfl ?_
        refine zj_goto C dc_M_plain_87 rfl ?_
        refine zj_istore C dc_M_plain_91 (by decide) rfl ?_
        refine zj_aload_n C dc_M_plain_93 rfl 5 rfl ?_
        refine zj_iload_n C dc_M_plain_94 rfl 7 rfl ?_
        refine zj_iload_n C dc_M_plain_95 rfl 8 rfl ?_
        refine zj_iload C dc_M_plain_96 0 rfl ?_
        refine zj_iadd C dc_M_plain_98 ?_
        refine zj_topi (nI_add _ _) ?_
        refine zj_Vi C (ct_M_lengthOf _ hst z ad N _ _ _ _ _ _ hN hM.1 (t) (pl + i) (R) (by omega) (by omega) hR hR1 hR9) gv_M_95 rfl rfl rfl hd_M_lengthOf ⟨(Nat.le_of_ble_eq_true rfl), (Nat.le_of_ble_eq_true rfl)⟩ (by omega) hM.1.1 rfl rfl rfl (Nat.le_of_ble_eq_true rfl) ⟨(Nat.le_of_ble_eq_true rfl), (Nat.le_of_ble_eq_true rfl)⟩ dc_M_plain_99 (fun r1 g9 h1 => ?_)
        obtain ⟨rfl, hg9⟩ := h1
        rw [hg9]
        refine zj_aload_n C dc_M_plain_102 rfl 5 rfl ?_
        refine zj_get (k := 9) C (by omega) hM.1.1 rfl (by decide) fw_M fl_M_32 rfl rfl dc_M_plain_103 ?_
        refine zj_iload C dc_M_plain_106 4 rfl ?_
        refine zj_iconst (v := 1) C dc_M_plain_108 (by decide) ?_
        refine zj_iadd C dc_M_plain_109 ?_
        refine zj_topi (nI_1 _) ?_
        refine zj_iald C (by omega) hM.1.2.2.2.2.2.2.2.2.1 rfl (by omega) (by decide) dc_M_plain_110 ?_
        refine zj_imul C dc_M_plain_111 ?_
        refine zj_aload_n C dc_M_plain_112 rfl 5 rfl ?_
        refine zj_iload_n C dc_M_plain_113 rfl 7 rfl ?_
        refine zj_iload_n C dc_M_plain_114 rfl 8 rfl ?_
        refine zj_iload C dc_M_plain_115 4 rfl ?_
        refine zj_iadd C dc_M_plain_117 ?_
        refine zj_topi (nI_add _ _) ?_
        refine zj_iconst (v := 1) C dc_M_plain_118 (by decide) ?_
        refine zj_iadd C dc_M_plain_119 ?_
        refine zj_topi (nI_1 _) ?_
        refine zj_Vi C (ct_M_lengthOf _ hst z ad N _ _ _ _ _ _ hN hM.1 (t) (pl + i + 1) (R) (by omega) (by omega) hR hR1 hR9) gv_M_95 rfl rfl rfl hd_M_lengthOf ⟨(Nat.le_of_ble_eq_true rfl), (Nat.le_of_ble_eq_true rfl)⟩ (by omega) hM.1.1 rfl rfl rfl (Nat.le_of_ble_eq_true rfl) ⟨(Nat.le_of_ble_eq_true rfl), (Nat.le_of_ble_eq_true rfl)⟩ dc_M_plain_120 (fun r1 g9 h1 => ?_)
        obtain ⟨rfl, hg9⟩ := h1
        rw [hg9]
        refine zj_aload_n C dc_M_plain_123 rfl 5 rfl ?_
        refine zj_get (k := 9) C (by omega) hM.1.1 rfl (by decide) fw_M fl_M_32 rfl rfl dc_M_plain_124 ?_
        refine zj_iload C dc_M_plain_127 0 rfl ?_
        refine zj_iald C (by omega) hM.1.2.2.2.2.2.2.2.2.1 rfl (by omega) (by decide) dc_M_plain_129 ?_
        refine zj_imul C dc_M_plain_130 ?_
        refine zj_icmp_ne C dc_M_plain_131 rfl (fun c2 => ?_) (fun c2 => ?_)
        · have c2 : ¬ ((zm_f a 5 t R) (pl + i) * a 7 (i + 1) = (zm_f a 5 t R) (pl + i + 1) * a 7 i) := c2
          refine zj_iconst (v := 0) C dc_M_plain_138 (by decide) ?_
          refine zj_istore C dc_M_plain_139 (by decide) rfl ?_
          refine zj_iload C dc_M_plain_141 2 rfl ?_
          refine zj_if_eq C dc_M_plain_143 rfl (fun _ => ?_) (fun h => absurd h (by decide))
          refine zj_iconst (v := 0) C dc_M_plain_165 (by decide) ?_
          refine zj_istore C dc_M_plain_166 (by decide) rfl ?_
          refine zj_iinc C dc_M_plain_168 5 rfl (zn_inc i) (by decide) rfl ?_
          refine zj_goto C dc_M_plain_171 rfl ?_
          refine zj_loc (L' := [(5, .int (nI (i + 1))), (4, .int (zb_i (zp_all (zm_e 0 (a 6) (a 7) (zm_f a 4 t R) (zm_f a 5 t R) pl) (i + 1)))), (0, .ref (ad 108)), (1, .int (nI 0)), (2, .int (nI t)), (3, .int (nI pl))]) [0, 1, 6, 7, 8, 9] (by rw [show zp_all (zm_e 0 (a 6) (a 7) (zm_f a 4 t R) (zm_f a 5 t R) pl) (i + 1) = false from by rw [zp_allS, hb]; rfl]; rfl) ?_
          exact ih (i + 1) (by omega) (by omega)
        · have c2 : (zm_f a 5 t R) (pl + i) * a 7 (i + 1) = (zm_f a 5 t R) (pl + i + 1) * a 7 i := c2
          refine zj_iconst (v := 1) C dc_M_plain_134 (by decide) ?_
          refine zj_goto C dc_M_plain_135 rfl ?_
          refine zj_istore C dc_M_plain_139 (by decide) rfl ?_
          refine zj_iload C dc_M_plain_141 2 rfl ?_
          refine zj_if_eq C dc_M_plain_143 rfl (fun _ => ?_) (fun h => absurd h (by decide))
          refine zj_iconst (v := 0) C dc_M_plain_165 (by decide) ?_
          refine zj_istore C dc_M_plain_166 (by decide) rfl ?_
          refine zj_iinc C dc_M_plain_168 5 rfl (zn_inc i) (by decide) rfl ?_
          refine zj_goto C dc_M_plain_171 rfl ?_
          refine zj_loc (L' := [(5, .int (nI (i + 1))), (4, .int (zb_i (zp_all (zm_e 0 (a 6) (a 7) (zm_f a 4 t R) (zm_f a 5 t R) pl) (i + 1)))), (0, .ref (ad 108)), (1, .int (nI 0)), (2, .int (nI t)), (3, .int (nI pl))]) [0, 1, 6, 7, 8, 9] (by rw [show zp_all (zm_e 0 (a 6) (a 7) (zm_f a 4 t R) (zm_f a 5 t R) pl) (i + 1) = false from by rw [zp_allS, hb]; rfl]; rfl) ?_
          exact ih (i + 1) (by omega) (by omega)
      · have hb := zb_i1 hb
        refine zj_iload_n C dc_M_plain_41 rfl 5 rfl ?_
        refine zj_iconst (v := 3) C dc_M_plain_42 (by decide) ?_
        refine zj_icmp_eq C dc_M_plain_43 rfl (fun h => absurd h (by decide)) (fun _ => ?_)
        refine zj_iload_n C dc_M_plain_46 rfl 5 rfl ?_
        refine zj_iconst (v := 2) C dc_M_plain_47 (by decide) ?_
        refine zj_icmp_ne C dc_M_plain_48 rfl (fun _ => ?_) (fun h => absurd h (by decide))
        refine zj_iload C dc_M_plain_67 1 rfl ?_
        refine zj_iload C dc_M_plain_69 0 rfl ?_
        refine zj_icmp_ne C dc_M_plain_71 rfl (fun c1 => ?_) (fun c1 => ?_)
        · have c1 : ¬ ((zm_f a 4 t R) (pl + i + 1) - (zm_f a 4 t R) (pl + i) = a 6 (i + 1) - a 6 i) := c1
          refine zj_iconst (v := 0) C dc_M_plain_78 (by decide) ?_
          refine zj_istore C dc_M_plain_79 (by decide) rfl ?_
          refine zj_iload_n C dc_M_plain_81 rfl 5 rfl ?_
          refine zj_if_ne C dc_M_plain_82 rfl (fun h => absurd h (by decide)) (fun _ => ?_)
          refine zj_iload C dc_M_plain_85 3 rfl ?_
          refine zj_goto C dc_M_plain_87 rfl ?_
          refine zj_istore C dc_M_plain_91 (by decide) rfl ?_
          refine zj_aload_n C dc_M_plain_93 rfl 5 rfl ?_
          refine zj_iload_n C dc_M_plain_94 rfl 7 rfl ?_
          refine zj_iload_n C dc_M_plain_95 rfl 8 rfl ?_
          refine zj_iload C dc_M_plain_96 0 rfl ?_
          refine zj_iadd C dc_M_plain_98 ?_
          refine zj_topi (nI_add _ _) ?_
          refine zj_Vi C (ct_M_lengthOf _ hst z ad N _ _ _ _ _ _ hN hM.1 (t) (pl + i) (R) (by omega) (by omega) hR hR1 hR9) gv_M_95 rfl rfl rfl hd_M_lengthOf ⟨(Nat.le_of_ble_eq_true rfl), (Nat.le_of_ble_eq_true rfl)⟩ (by omega) hM.1.1 rfl rfl rfl (Nat.le_of_ble_eq_true rfl) ⟨(Nat.le_of_ble_eq_true rfl), (Nat.le_of_ble_eq_true rfl)⟩ dc_M_plain_99 (fun r1 g9 h1 => ?_)
          obtain ⟨rfl, hg9⟩ := h1
          rw [hg9]
          refine zj_aload_n C dc_M_plain_102 rfl 5 rfl ?_
          refine zj_get (k := 9) C (by omega) hM.1.1 rfl (by decide) fw_M fl_M_32 rfl rfl dc_M_plain_103 ?_
          refine zj_iload C dc_M_plain_106 4 rfl ?_
          refine zj_iconst (v := 1) C dc_M_plain_108 (by decide) ?_
          refine zj_iadd C dc_M_plain_109 ?_
          refine zj_topi (nI_1 _) ?_
          refine zj_iald C (by omega) hM.1.2.2.2.2.2.2.2.2.1 rfl (by omega) (by decide) dc_M_plain_110 ?_
          refine zj_imul C dc_M_plain_111 ?_
          refine zj_aload_n C dc_M_plain_112 rfl 5 rfl ?_
          refine zj_iload_n C dc_M_plain_113 rfl 7 rfl ?_
          refine zj_iload_n C dc_M_plain_114 rfl 8 rfl ?_
          refine zj_iload C dc_M_plain_115 4 rfl ?_
          refine zj_iadd C dc_M_plain_117 ?_
          refine zj_topi (nI_add _ _) ?_
          refine zj_iconst (v := 1) C dc_M_plain_118 (by decide) ?_
          refine zj_iadd C dc_M_plain_119 ?_
          refine zj_topi (nI_1 _) ?_
          refine zj_Vi C (ct_M_lengthOf _ hst z ad N _ _ _ _ _ _ hN hM.1 (t) (pl + i + 1) (R) (by omega) (by omega) hR hR1 hR9) gv_M_95 rfl rfl rfl hd_M_lengthOf ⟨(Nat.le_of_ble_eq_true rfl), (Nat.le_of_ble_eq_true rfl)⟩ (by omega) hM.1.1 rfl rfl rfl (Nat.le_of_ble_eq_true rfl) ⟨(Nat.le_of_ble_eq_true rfl), (Nat.le_of_ble_eq_true rfl)⟩ dc_M_plain_120 (fun r1 g9 h1 => ?_)
          obtain ⟨rfl, hg9⟩ := h1
          rw [hg9]
          refine zj_aload_n C dc_M_plain_123 rfl 5 rfl ?_
          refine zj_get (k := 9) C (by omega) hM.1.1 rfl (by decide) fw_M fl_M_32 rfl rfl dc_M_plain_124 ?_
          refine zj_iload C dc_M_plain_127 0 rfl ?_
          refine zj_iald C (by omega) hM.1.2.2.2.2.2.2.2.2.1 rfl (by omega) (by decide) dc_M_plain_129 ?_
          refine zj_imul C dc_M_plain_130 ?_
          refine zj_icmp_ne C dc_M_plain_131 rfl (fun c2 => ?_) (fun c2 => ?_)
          · have c2 : ¬ ((zm_f a 5 t R) (pl + i) * a 7 (i + 1) = (zm_f a 5 t R) (pl + i + 1) * a 7 i) := c2
            refine zj_iconst (v := 0) C dc_M_plain_138 (by decide) ?_
            refine zj_istore C dc_M_plain_139 (by decide) rfl ?_
            refine zj_iload C dc_M_plain_141 2 rfl ?_
            refine zj_if_eq C dc_M_plain_143 rfl (fun _ => ?_) (fun h => absurd h (by decide))
            refine zj_iconst (v := 0) C dc_M_plain_165 (by decide) ?_
            refine zj_istore C dc_M_plain_166 (by decide) rfl ?_
            refine zj_iinc C dc_M_plain_168 5 rfl (zn_inc i) (by decide) rfl ?_
            refine zj_goto C dc_M_plain_171 rfl ?_
            refine zj_loc (L' := [(5, .int (nI (i + 1))), (4, .int (zb_i (zp_all (zm_e 0 (a 6) (a 7) (zm_f a 4 t R) (zm_f a 5 t R) pl) (i + 1)))), (0, .ref (ad 108)), (1, .int (nI 0)), (2, .int (nI t)), (3, .int (nI pl))]) [0, 1, 6, 7, 8, 9] (by rw [show zp_all (zm_e 0 (a 6) (a 7) (zm_f a 4 t R) (zm_f a 5 t R) pl) (i + 1) = false from by rw [zp_allS, hb]; show (true && (decide ((zm_f a 4 t R) (pl + i + 1) - (zm_f a 4 t R) (pl + i) = a 6 (i + 1) - a 6 i) && _)) = _; rw [decide_eq_false c1]; rfl]; rfl) ?_
            exact ih (i + 1) (by omega) (by omega)
          · have c2 : (zm_f a 5 t R) (pl + i) * a 7 (i + 1) = (zm_f a 5 t R) (pl + i + 1) * a 7 i := c2
            refine zj_iconst (v := 1) C dc_M_plain_134 (by decide) ?_
            refine zj_goto C dc_M_plain_135 rfl ?_
            refine zj_istore C dc_M_plain_139 (by decide) rfl ?_
            refine zj_iload C dc_M_plain_141 2 rfl ?_
            refine zj_if_eq C dc_M_plain_143 rfl (fun _ => ?_) (fun h => absurd h (by decide))
            refine zj_iconst (v := 0) C dc_M_plain_165 (by decide) ?_
            refine zj_istore C dc_M_plain_166 (by decide) rfl ?_
            refine zj_iinc C dc_M_plain_168 5 rfl (zn_inc i) (by decide) rfl ?_
            refine zj_goto C dc_M_plain_171 rfl ?_
            refine zj_loc (L' := [(5, .int (nI (i + 1))), (4, .int (zb_i (zp_all (zm_e 0 (a 6) (a 7) (zm_f a 4 t R) (zm_f a 5 t R) pl) (i + 1)))), (0, .ref (ad 108)), (1, .int (nI 0)), (2, .int (nI t)), (3, .int (nI pl))]) [0, 1, 6, 7, 8, 9] (by rw [show zp_all (zm_e 0 (a 6) (a 7) (zm_f a 4 t R) (zm_f a 5 t R) pl) (i + 1) = false from by rw [zp_allS, hb]; show (true && (decide ((zm_f a 4 t R) (pl + i + 1) - (zm_f a 4 t R) (pl + i) = a 6 (i + 1) - a 6 i) && _)) = _; rw [decide_eq_false c1]; rfl]; rfl) ?_
            exact ih (i + 1) (by omega) (by omega)
        · have c1 : (zm_f a 4 t R) (pl + i + 1) - (zm_f a 4 t R) (pl + i) = a 6 (i + 1) - a 6 i := c1
          refine zj_iconst (v := 1) C dc_M_plain_74 (by decide) ?_
          refine zj_goto C dc_M_plain_75 rfl ?_
          refine zj_istore C dc_M_plain_79 (by decide) rfl ?_
          refine zj_iload_n C dc_M_plain_81 rfl 5 rfl ?_
          refine zj_if_ne C dc_M_plain_82 rfl (fun h => absurd h (by decide)) (fun _ => ?_)
          refine zj_iload C dc_M_plain_85 3 rfl ?_
          refine zj_goto C dc_M_plain_87 rfl ?_
          refine zj_istore C dc_M_plain_91 (by decide) rfl ?_
          refine zj_aload_n C dc_M_plain_93 rfl 5 rfl ?_
          refine zj_iload_n C dc_M_plain_94 rfl 7 rfl ?_
          refine zj_iload_n C dc_M_plain_95 rfl 8 rfl ?_
          refine zj_iload C dc_M_plain_96 0 rfl ?_
          refine zj_iadd C dc_M_plain_98 ?_
          refine zj_topi (nI_add _ _) ?_
          refine zj_Vi C (ct_M_lengthOf _ hst z ad N _ _ _ _ _ _ hN hM.1 (t) (pl + i) (R) (by omega) (by omega) hR hR1 hR9) gv_M_95 rfl rfl rfl hd_M_lengthOf ⟨(Nat.le_of_ble_eq_true rfl), (Nat.le_of_ble_eq_true rfl)⟩ (by omega) hM.1.1 rfl rfl rfl (Nat.le_of_ble_eq_true rfl) ⟨(Nat.le_of_ble_eq_true rfl), (Nat.le_of_ble_eq_true rfl)⟩ dc_M_plain_99 (fun r1 g9 h1 => ?_)
          obtain ⟨rfl, hg9⟩ := h1
          rw [hg9]
          refine zj_aload_n C dc_M_plain_102 rfl 5 rfl ?_
          refine zj_get (k := 9) C (by omega) hM.1.1 rfl (by decide) fw_M fl_M_32 rfl rfl dc_M_plain_103 ?_
          refine zj_iload C dc_M_plain_106 4 rfl ?_
          refine zj_iconst (v := 1) C dc_M_plain_108 (by decide) ?_
          refine zj_iadd C dc_M_plain_109 ?_
          refine zj_topi (nI_1 _) ?_
          refine zj_iald C (by omega) hM.1.2.2.2.2.2.2.2.2.1 rfl (by omega) (by decide) dc_M_plain_110 ?_
          refine zj_imul C dc_M_plain_111 ?_
          refine zj_aload_n C dc_M_plain_112 rfl 5 rfl ?_
          refine zj_iload_n C dc_M_plain_113 rfl 7 rfl ?_
          refine zj_iload_n C dc_M_plain_114 rfl 8 rfl ?_
          refine zj_iload C dc_M_plain_115 4 rfl ?_
          refine zj_iadd C dc_M_plain_117 ?_
          refine zj_topi (nI_add _ _) ?_
          refine zj_iconst (v := 1) C dc_M_plain_118 (by decide) ?_
          refine zj_iadd C dc_M_plain_119 ?_
          refine zj_topi (nI_1 _) ?_
          refine zj_Vi C (ct_M_lengthOf _ hst z ad N _ _ _ _ _ _ hN hM.1 (t) (pl + i + 1) (R) (by omega) (by omega) hR hR1 hR9) gv_M_95 rfl rfl rfl hd_M_lengthOf ⟨(Nat.le_of_ble_eq_true rfl), (Nat.le_of_ble_eq_true rfl)⟩ (by omega) hM.1.1 rfl rfl rfl (Nat.le_of_ble_eq_true rfl) ⟨(Nat.le_of_ble_eq_true rfl), (Nat.le_of_ble_eq_true rfl)⟩ dc_M_plain_120 (fun r1 g9 h1 => ?_)
          obtain ⟨rfl, hg9⟩ := h1
          rw [hg9]
          refine zj_aload_n C dc_M_plain_123 rfl 5 rfl ?_
          refine zj_get (k := 9) C (by omega) hM.1.1 rfl (by decide) fw_M fl_M_32 rfl rfl dc_M_plain_124 ?_
          refine zj_iload C dc_M_plain_127 0 rfl ?_
          refine zj_iald C (by omega) hM.1.2.2.2.2.2.2.2.2.1 rfl (by omega) (by decide) dc_M_plain_129 ?_
          refine zj_imul C dc_M_plain_130 ?_
          refine zj_icmp_ne C dc_M_plain_131 rfl (fun c2 => ?_) (fun c2 => ?_)
          · have c2 : ¬ ((zm_f a 5 t R) (pl + i) * a 7 (i + 1) = (zm_f a 5 t R) (pl + i + 1) * a 7 i) := c2
            refine zj_iconst (v := 0) C dc_M_plain_138 (by decide) ?_
            refine zj_istore C dc_M_plain_139 (by decide) rfl ?_
            refine zj_iload C dc_M_plain_141 2 rfl ?_
            refine zj_if_eq C dc_M_plain_143 rfl (fun h => absurd h (by decide)) (fun _ => ?_)
            refine zj_iload_n C dc_M_plain_146 rfl 7 rfl ?_
            refine zj_iconst (v := 1) C dc_M_plain_147 (by decide) ?_
            refine zj_icmp_eq C dc_M_plain_148 rfl (fun h => absurd h (by decide)) (fun _ => ?_)
            refine zj_iload_n C dc_M_plain_151 rfl 7 rfl ?_
            refine zj_iconst (v := 2) C dc_M_plain_152 (by decide) ?_
            refine zj_icmp_eq C dc_M_plain_153 rfl (fun h => absurd h (by decide)) (fun _ => ?_)
            refine zj_iload C dc_M_plain_156 0 rfl ?_
            refine zj_if_eq C dc_M_plain_158 rfl (fun _ => ?_) (fun h => absurd h (by decide))
            refine zj_iconst (v := 0) C dc_M_plain_165 (by decide) ?_
            refine zj_istore C dc_M_plain_166 (by decide) rfl ?_
            refine zj_iinc C dc_M_plain_168 5 rfl (zn_inc i) (by decide) rfl ?_
            refine zj_goto C dc_M_plain_171 rfl ?_
            refine zj_loc (L' := [(5, .int (nI (i + 1))), (4, .int (zb_i (zp_all (zm_e 0 (a 6) (a 7) (zm_f a 4 t R) (zm_f a 5 t R) pl) (i + 1)))), (0, .ref (ad 108)), (1, .int (nI 0)), (2, .int (nI t)), (3, .int (nI pl))]) [0, 1, 6, 7, 8, 9] (by rw [show zp_all (zm_e 0 (a 6) (a 7) (zm_f a 4 t R) (zm_f a 5 t R) pl) (i + 1) = false from by rw [zp_allS, hb]; show (true && (decide ((zm_f a 4 t R) (pl + i + 1) - (zm_f a 4 t R) (pl + i) = a 6 (i + 1) - a 6 i) && decide ((zm_f a 5 t R) (pl + i) * a 7 (i + 1) = (zm_f a 5 t R) (pl + i + 1) * a 7 i))) = _; rw [decide_eq_true c1, decide_eq_false c2]; rfl]; rfl) ?_
            exact ih (i + 1) (by omega) (by omega)
          · have c2 : (zm_f a 5 t R) (pl + i) * a 7 (i + 1) = (zm_f a 5 t R) (pl + i + 1) * a 7 i := c2
            refine zj_iconst (v := 1) C dc_M_plain_134 (by decide) ?_
            refine zj_goto C dc_M_plain_135 rfl ?_
            refine zj_istore C dc_M_plain_139 (by decide) rfl ?_
            refine zj_iload C dc_M_plain_141 2 rfl ?_
            refine zj_if_eq C dc_M_plain_143 rfl (fun h => absurd h (by decide)) (fun _ => ?_)
            refine zj_iload_n C dc_M_plain_146 rfl 7 rfl ?_
            refine zj_iconst (v := 1) C dc_M_plain_147 (by decide) ?_
            refine zj_icmp_eq C dc_M_plain_148 rfl (fun h => absurd h (by decide)) (fun _ => ?_)
            refine zj_iload_n C dc_M_plain_151 rfl 7 rfl ?_
            refine zj_iconst (v := 2) C dc_M_plain_152 (by decide) ?_
            refine zj_icmp_eq C dc_M_plain_153 rfl (fun h => absurd h (by decide)) (fun _ => ?_)
            refine zj_iload C dc_M_plain_156 0 rfl ?_
            refine zj_if_eq C dc_M_plain_158 rfl (fun h => absurd h (by decide)) (fun _ => ?_)
            refine zj_iconst (v := 1) C dc_M_plain_161 (by decide) ?_
            refine zj_goto C dc_M_plain_162 rfl ?_
            refine zj_istore C dc_M_plain_166 (by decide) rfl ?_
            refine zj_iinc C dc_M_plain_168 5 rfl (zn_inc i) (by decide) rfl ?_
            refine zj_goto C dc_M_plain_171 rfl ?_
            refine zj_loc (L' := [(5, .int (nI (i + 1))), (4, .int (zb_i (zp_all (zm_e 0 (a 6) (a 7) (zm_f a 4 t R) (zm_f a 5 t R) pl) (i + 1)))), (0, .ref (ad 108)), (1, .int (nI 0)), (2, .int (nI t)), (3, .int (nI pl))]) [0, 1, 6, 7, 8, 9] (by rw [show zp_all (zm_e 0 (a 6) (a 7) (zm_f a 4 t R) (zm_f a 5 t R) pl) (i + 1) = true from by rw [zp_allS, hb]; show (true && (decide ((zm_f a 4 t R) (pl + i + 1) - (zm_f a 4 t R) (pl + i) = a 6 (i + 1) - a 6 i) && decide ((zm_f a 5 t R) (pl + i) * a 7 (i + 1) = (zm_f a 5 t R) (pl + i + 1) * a 7 i))) = _; rw [decide_eq_true c1, decide_eq_true c2]; rfl]; rfl) ?_
            exact ih (i + 1) (by omega) (by omega)
  refine zj_iconst (v := 1) C dc_M_plain_0 (by decide) ?_
  refine zj_istore C dc_M_plain_1 (by decide) rfl ?_
  refine zj_iconst (v := 0) C dc_M_plain_3 (by decide) ?_
  refine zj_istore C dc_M_plain_4 (by decide) rfl ?_
  refine zj_loc (L' := [(5, .int (nI 0)), (4, .int (zb_i (zp_all (zm_e 0 (a 6) (a 7) (zm_f a 4 t R) (zm_f a 5 t R) pl) 0))), (0, .ref (ad 108)), (1, .int (nI 0)), (2, .int (nI t)), (3, .int (nI pl))]) [0, 1, 2, 3, 4, 5] rfl ?_
  exact loop (qc - 1) 0 rfl (by omega)
set_option maxHeartbeats 4000000 in
set_option maxRecDepth 100000 in
theorem ct_M_plain1 (l : Launch) (hst : l.stackTraces = false) (z : zv_T) (ad : Nat → Nat) (N : Nat) (g : Nat → va_E) (c as fo kp : Int32) (a : Nat → Nat → Int32) (hN : 126 ≤ N) (hM0 : zs_M z ad g c as fo kp a) (qc t R : Nat) (has : as = nI qc) (hqc : 2 ≤ qc) (hqc8 : qc ≤ 8) (ht : t < 8) (hR : a 3 t = nI R) (hR1 : 1 ≤ R) (hR9 : R ≤ 9) (pl : Nat) (hpl : pl + qc ≤ 20) : zm_i l mn_M_plain ws_M_plain rm_M_plain z ad N g [.ref (ad 108), .int (nI 1), .int (nI t), .int (nI pl)] (fun r g1 => r = zb_i (zp_all (zm_e 1 (a 6) (a 7) (zm_f a 4 t R) (zm_f a 5 t R) pl) (qc - 1)) ∧ g1 = g) := by
  have hM : zm_M z ad g g c as fo kp a := ⟨hM0, fun _ _ => rfl⟩
  subst has
  refine zm_ofz hst pn_M_plain rfl (Nat.le_of_ble_eq_true rfl) (fun X hX C => ?_)
  subst hX
  show zj_J X 0 0 _ ad N g 0 [(0, .ref (ad 108)), (1, .int (nI 1)), (2, .int (nI t)), (3, .int (nI pl))] []
  have loop : ∀ (n : Nat) (i : Nat), qc - 1 - i = n → i ≤ qc - 1 → zj_J X 0 0 (zj_Qi X 0 0 ad N (fun r g1 => r = zb_i (zp_all (zm_e 1 (a 6) (a 7) (zm_f a 4 t R) (zm_f a 5 t R) pl) (qc - 1)) ∧ g1 = g)) ad N g 6 [(5, .int (nI i)), (4, .int (zb_i (zp_all (zm_e 1 (a 6) (a 7) (zm_f a 4 t R) (zm_f a 5 t R) pl) i))), (0, .ref (ad 108)), (1, .int (nI 1)), (2, .int (nI t)), (3, .int (nI pl))] [] := by
    intro n
    induction n with
    | zero =>
      intro i e1 e2
      refine zj_iload C dc_M_plain_6 0 rfl ?_
      refine zj_iconst (v := 1) C dc_M_plain_8 (by decide) ?_
      refine zj_iadd C dc_M_plain_9 ?_
      refine zj_topi (nI_1 _) ?_
      refine zj_aload_n C dc_M_plain_10 rfl 2 rfl ?_
      refine zj_get (k := 7) C (by omega) hM.1.1 rfl (by decide) fw_M fl_M_89 rfl rfl dc_M_plain_11 ?_
      refine zj_icmp_ge C dc_M_plain_14 rfl (fun _ => ?_) (fun h => absurd h (not_not_intro ((nI_leI (by omega) (by omega)).mpr (by omega))))
      refine zj_iload C dc_M_plain_174 1 rfl ?_
      exact zj_zret C dc_M_plain_176 (by first | rfl | (unfold zb_i; split <;> rfl)) ⟨by rw [show qc - 1 = i by omega], rfl⟩
    | succ n ih =>
      intro i e1 e2
      refine zj_iload C dc_M_plain_6 0 rfl ?_
      refine zj_iconst (v := 1) C dc_M_plain_8 (by decide) ?_
      refine zj_iadd C dc_M_plain_9 ?_
      refine zj_topi (nI_1 _) ?_
      refine zj_aload_n C dc_M_plain_10 rfl 2 rfl ?_
      refine zj_get (k := 7) C (by omega) hM.1.1 rfl (by decide) fw_M fl_M_89 rfl rfl dc_M_plain_11 ?_
      refine zj_icmp_ge C dc_M_plain_14 rfl (fun h => absurd h (((zn_nle (by omega) (by omega)).mpr (by omega)))) (fun _ => ?_)
      refine zj_aload_n C dc_M_plain_17 rfl 2 rfl ?_
      refine zj_iload_n C dc_M_plain_18 rfl 4 rfl ?_
      refine zj_iload_n C dc_M_plain_19 rfl 5 rfl ?_
      refine zj_iload C dc_M_plain_20 0 rfl ?_
      refine zj_iadd C dc_M_plain_22 ?_
      refine zj_topi (nI_add _ _) ?_
      refine zj_Vi C (ct_M_step _ hst z ad N _ _ _ _ _ _ hN hM.1 t (pl + i) R ht (by omega) hR hR1 hR9) gv_M_82 rfl rfl rfl hd_M_step ⟨(Nat.le_of_ble_eq_true rfl), (Nat.le_of_ble_eq_true rfl)⟩ (by omega) hM.1.1 rfl rfl rfl (Nat.le_of_ble_eq_true rfl) ⟨(Nat.le_of_ble_eq_true rfl), (Nat.le_of_ble_eq_true rfl)⟩ dc_M_plain_23 (fun r1 g9 h1 => ?_)
      obtain ⟨rfl, hg9⟩ := h1
      rw [hg9]
      refine zj_istore C dc_M_plain_26 (by decide) rfl ?_
      refine zj_aload_n C dc_M_plain_28 rfl 3 rfl ?_
      refine zj_iload C dc_M_plain_29 1 rfl ?_
      refine zj_Vi C (ct_M_askedStep _ hst z ad N _ _ _ _ _ _ hN hM.1 (i) (by omega)) gv_M_92 rfl rfl rfl hd_M_askedStep ⟨(Nat.le_of_ble_eq_true rfl), (Nat.le_of_ble_eq_true rfl)⟩ (by omega) hM.1.1 rfl rfl rfl (Nat.le_of_ble_eq_true rfl) ⟨(Nat.le_of_ble_eq_true rfl), (Nat.le_of_ble_eq_true rfl)⟩ dc_M_plain_31 (fun r1 g9 h1 => ?_)
      obtain ⟨rfl, hg9⟩ := h1
      rw [hg9]
      refine zj_istore C dc_M_plain_34 (by decide) rfl ?_
      refine zj_iload C dc_M_plain_36 3 rfl ?_
      refine zj_if_eq C dc_M_plain_38 rfl (fun hb => ?_) (fun hb => ?_)
      · have hb := zb_i0 hb
        refine zj_iconst (v := 0) C dc_M_plain_78 (by decide) ?_
        refine zj_istore C dc_M_plain_79 (by decide) rfl ?_
        refine zj_iload_n C dc_M_plain_81 rfl 5 rfl ?_
        refine zj_if_ne C dc_M_plain_82 rfl (fun _ => ?_) (fun h => absurd h (by decide))
        refine zj_iconst (v := 0) C dc_M_plain_90 (by decide) ?_
        refine zj_topi (nI_0.symm) ?_
        refine zj_istore C dc_M_plain_91 (by decide) rfl ?_
        refine zj_aload_n C dc_M_plain_93 rfl 5 rfl ?_
        refine zj_iload_n C dc_M_plain_94 rfl 7 rfl ?_
        refine zj_iload_n C dc_M_plain_95 rfl 8 rfl ?_
        refine zj_iload C dc_M_plain_96 0 rfl ?_
        refine zj_iadd C dc_M_plain_98 ?_
        refine zj_topi (nI_add _ _) ?_
        refine zj_Vi C (ct_M_lengthOf _ hst z ad N _ _ _ _ _ _ hN hM.1 (t) (pl + 0) (R) (by omega) (by omega) hR hR1 hR9) gv_M_95 rfl rfl rfl hd_M_lengthOf ⟨(Nat.le_of_ble_eq_true rfl), (Nat.le_of_ble_eq_true rfl)⟩ (by omega) hM.1.1 rfl rfl rfl (Nat.le_of_ble_eq_true rfl) ⟨(Nat.le_of_ble_eq_true rfl), (Nat.le_of_ble_eq_true rfl)⟩ dc_M_plain_99 (fun r1 g9 h1 => ?_)
        obtain ⟨rfl, hg9⟩ := h1
        rw [hg9]
        refine zj_aload_n C dc_M_plain_102 rfl 5 rfl ?_
        refine zj_get (k := 9) C (by omega) hM.1.1 rfl (by decide) fw_M fl_M_32 rfl rfl dc_M_plain_103 ?_
        refine zj_iload C dc_M_plain_106 4 rfl ?_
        refine zj_iconst (v := 1) C dc_M_plain_108 (by decide) ?_
        refine zj_iadd C dc_M_plain_109 ?_
        refine zj_topi (nI_1 _) ?_
        refine zj_iald C (by omega) hM.1.2.2.2.2.2.2.2.2.1 rfl (by omega) (by decide) dc_M_plain_110 ?_
        refine zj_imul C dc_M_plain_111 ?_
        refine zj_aload_n C dc_M_plain_112 rfl 5 rfl ?_
        refine zj_iload_n C dc_M_plain_113 rfl 7 rfl ?_
        refine zj_iload_n C dc_M_plain_114 rfl 8 rfl ?_
        refine zj_iload C dc_M_plain_115 4 rfl ?_
        refine zj_iadd C dc_M_plain_117 ?_
        refine zj_topi (nI_add _ _) ?_
        refine zj_iconst (v := 1) C dc_M_plain_118 (by decide) ?_
        refine zj_iadd C dc_M_plain_119 ?_
        refine zj_topi (nI_1 _) ?_
        refine zj_Vi C (ct_M_lengthOf _ hst z ad N _ _ _ _ _ _ hN hM.1 (t) (pl + i + 1) (R) (by omega) (by omega) hR hR1 hR9) gv_M_95 rfl rfl rfl hd_M_lengthOf ⟨(Nat.le_of_ble_eq_true rfl), (Nat.le_of_ble_eq_true rfl)⟩ (by omega) hM.1.1 rfl rfl rfl (Nat.le_of_ble_eq_true rfl) ⟨(Nat.le_of_ble_eq_true rfl), (Nat.le_of_ble_eq_true rfl)⟩ dc_M_plain_120 (fun r1 g9 h1 => ?_)
        obtain ⟨rfl, hg9⟩ := h1
        rw [hg9]
        refine zj_aload_n C dc_M_plain_123 rfl 5 rfl ?_
        refine zj_get (k := 9) C (by omega) hM.1.1 rfl (by decide) fw_M fl_M_32 rfl rfl dc_M_plain_124 ?_
        refine zj_iload C dc_M_plain_127 0 rfl ?_
        refine zj_iald C (by omega) hM.1.2.2.2.2.2.2.2.2.1 rfl (by omega) (by decide) dc_M_plain_129 ?_
        refine zj_imul C dc_M_plain_130 ?_
        refine zj_icmp_ne C dc_M_plain_131 rfl (fun c2 => ?_) (fun c2 => ?_)
        · have c2 : ¬ ((zm_f a 5 t R) (pl + 0) * a 7 (i + 1) = (zm_f a 5 t R) (pl + i + 1) * a 7 0) := c2
          refine zj_iconst (v := 0) C dc_M_plain_138 (by decide) ?_
          refine zj_istore C dc_M_plain_139 (by decide) rfl ?_
          refine zj_iload C dc_M_plain_141 2 rfl ?_
          refine zj_if_eq C dc_M_plain_143 rfl (fun _ => ?_) (fun h => absurd h (by decide))
          refine zj_iconst (v := 0) C dc_M_plain_165 (by decide) ?_
          refine zj_istore C dc_M_plain_166 (by decide) rfl ?_
          refine zj_iinc C dc_M_plain_168 5 rfl (zn_inc i) (by decide) rfl ?_
          refine zj_goto C dc_M_plain_171 rfl ?_
          refine zj_loc (L' := [(5, .int (nI (i + 1))), (4, .int (zb_i (zp_all (zm_e 1 (a 6) (a 7) (zm_f a 4 t R) (zm_f a 5 t R) pl) (i + 1)))), (0, .ref (ad 108)), (1, .int (nI 1)), (2, .int (nI t)), (3, .int (nI pl))]) [0, 1, 6, 7, 8, 9] (by rw [show zp_all (zm_e 1 (a 6) (a 7) (zm_f a 4 t R) (zm_f a 5 t R) pl) (i + 1) = false from by rw [zp_allS, hb]; rfl]; rfl) ?_
          exact ih (i + 1) (by omega) (by omega)
        · have c2 : (zm_f a 5 t R) (pl + 0) * a 7 (i + 1) = (zm_f a 5 t R) (pl + i + 1) * a 7 0 := c2
          refine zj_iconst (v := 1) C dc_M_plain_134 (by decide) ?_
          refine zj_goto C dc_M_plain_135 rfl ?_
          refine zj_istore C dc_M_plain_139 (by decide) rfl ?_
          refine zj_iload C dc_M_plain_141 2 rfl ?_
          refine zj_if_eq C dc_M_plain_143 rfl (fun _ => ?_) (fun h => absurd h (by decide))
          refine zj_iconst (v := 0) C dc_M_plain_165 (by decide) ?_
          refine zj_istore C dc_M_plain_166 (by decide) rfl ?_
          refine zj_iinc C dc_M_plain_168 5 rfl (zn_inc i) (by decide) rfl ?_
          refine zj_goto C dc_M_plain_171 rfl ?_
          refine zj_loc (L' := [(5, .int (nI (i + 1))), (4, .int (zb_i (zp_all (zm_e 1 (a 6) (a 7) (zm_f a 4 t R) (zm_f a 5 t R) pl) (i + 1)))), (0, .ref (ad 108)), (1, .int (nI 1)), (2, .int (nI t)), (3, .int (nI pl))]) [0, 1, 6, 7, 8, 9] (by rw [show zp_all (zm_e 1 (a 6) (a 7) (zm_f a 4 t R) (zm_f a 5 t R) pl) (i + 1) = false from by rw [zp_allS, hb]; rfl]; rfl) ?_
          exact ih (i + 1) (by omega) (by omega)
      · have hb := zb_i1 hb
        refine zj_iload_n C dc_M_plain_41 rfl 5 rfl ?_
        refine zj_iconst (v := 3) C dc_M_plain_42 (by decide) ?_
        refine zj_icmp_eq C dc_M_plain_43 rfl (fun h => absurd h (by decide)) (fun _ => ?_)
        refine zj_iload_n C dc_M_plain_46 rfl 5 rfl ?_
        refine zj_iconst (v := 2) C dc_M_plain_47 (by decide) ?_
        refine zj_icmp_ne C dc_M_plain_48 rfl (fun _ => ?_) (fun h => absurd h (by decide))
        refine zj_iload C dc_M_plain_67 1 rfl ?_
        refine zj_iload C dc_M_plain_69 0 rfl ?_
        refine zj_icmp_ne C dc_M_plain_71 rfl (fun c1 => ?_) (fun c1 => ?_)
        · have c1 : ¬ ((zm_f a 4 t R) (pl + i + 1) - (zm_f a 4 t R) (pl + i) = a 6 (i + 1) - a 6 i) := c1
          refine zj_iconst (v := 0) C dc_M_plain_78 (by decide) ?_
          refine zj_istore C dc_M_plain_79 (by decide) rfl ?_
          refine zj_iload_n C dc_M_plain_81 rfl 5 rfl ?_
          refine zj_if_ne C dc_M_plain_82 rfl (fun _ => ?_) (fun h => absurd h (by decide))
          refine zj_iconst (v := 0) C dc_M_plain_90 (by decide) ?_
          refine zj_topi (nI_0.symm) ?_
          refine zj_istore C dc_M_plain_91 (by decide) rfl ?_
          refine zj_aload_n C dc_M_plain_93 rfl 5 rfl ?_
          refine zj_iload_n C dc_M_plain_94 rfl 7 rfl ?_
          refine zj_iload_n C dc_M_plain_95 rfl 8 rfl ?_
          refine zj_iload C dc_M_plain_96 0 rfl ?_
          refine zj_iadd C dc_M_plain_98 ?_
          refine zj_topi (nI_add _ _) ?_
          refine zj_Vi C (ct_M_lengthOf _ hst z ad N _ _ _ _ _ _ hN hM.1 (t) (pl + 0) (R) (by omega) (by omega) hR hR1 hR9) gv_M_95 rfl rfl rfl hd_M_lengthOf ⟨(Nat.le_of_ble_eq_true rfl), (Nat.le_of_ble_eq_true rfl)⟩ (by omega) hM.1.1 rfl rfl rfl (Nat.le_of_ble_eq_true rfl) ⟨(Nat.le_of_ble_eq_true rfl), (Nat.le_of_ble_eq_true rfl)⟩ dc_M_plain_99 (fun r1 g9 h1 => ?_)
          obtain ⟨rfl, hg9⟩ := h1
          rw [hg9]
          refine zj_aload_n C dc_M_plain_102 rfl 5 rfl ?_
          refine zj_get (k := 9) C (by omega) hM.1.1 rfl (by decide) fw_M fl_M_32 rfl rfl dc_M_plain_103 ?_
          refine zj_iload C dc_M_plain_106 4 rfl ?_
          refine zj_iconst (v := 1) C dc_M_plain_108 (by decide) ?_
          refine zj_iadd C dc_M_plain_109 ?_
          refine zj_topi (nI_1 _) ?_
          refine zj_iald C (by omega) hM.1.2.2.2.2.2.2.2.2.1 rfl (by omega) (by decide) dc_M_plain_110 ?_
          refine zj_imul C dc_M_plain_111 ?_
          refine zj_aload_n C dc_M_plain_112 rfl 5 rfl ?_
          refine zj_iload_n C dc_M_plain_113 rfl 7 rfl ?_
          refine zj_iload_n C dc_M_plain_114 rfl 8 rfl ?_
          refine zj_iload C dc_M_plain_115 4 rfl ?_
          refine zj_iadd C dc_M_plain_117 ?_
          refine zj_topi (nI_add _ _) ?_
          refine zj_iconst (v := 1) C dc_M_plain_118 (by decide) ?_
          refine zj_iadd C dc_M_plain_119 ?_
          refine zj_topi (nI_1 _) ?_
          refine zj_Vi C (ct_M_lengthOf _ hst z ad N _ _ _ _ _ _ hN hM.1 (t) (pl + i + 1) (R) (by omega) (by omega) hR hR1 hR9) gv_M_95 rfl rfl rfl hd_M_lengthOf ⟨(Nat.le_of_ble_eq_true rfl), (Nat.le_of_ble_eq_true rfl)⟩ (by omega) hM.1.1 rfl rfl rfl (Nat.le_of_ble_eq_true rfl) ⟨(Nat.le_of_ble_eq_true rfl), (Nat.le_of_ble_eq_true rfl)⟩ dc_M_plain_120 (fun r1 g9 h1 => ?_)
          obtain ⟨rfl, hg9⟩ := h1
          rw [hg9]
          refine zj_aload_n C dc_M_plain_123 rfl 5 rfl ?_
          refine zj_get (k := 9) C (by omega) hM.1.1 rfl (by decide) fw_M fl_M_32 rfl rfl dc_M_plain_124 ?_
          refine zj_iload C dc_M_plain_127 0 rfl ?_
          refine zj_iald C (by omega) hM.1.2.2.2.2.2.2.2.2.1 rfl (by omega) (by decide) dc_M_plain_129 ?_
          refine zj_imul C dc_M_plain_130 ?_
          refine zj_icmp_ne C dc_M_plain_131 rfl (fun c2 => ?_) (fun c2 => ?_)
          · have c2 : ¬ ((zm_f a 5 t R) (pl + 0) * a 7 (i + 1) = (zm_f a 5 t R) (pl + i + 1) * a 7 0) := c2
            refine zj_iconst (v := 0) C dc_M_plain_138 (by decide) ?_
            refine zj_istore C dc_M_plain_139 (by decide) rfl ?_
            refine zj_iload C dc_M_plain_141 2 rfl ?_
            refine zj_if_eq C dc_M_plain_143 rfl (fun _ => ?_) (fun h => absurd h (by decide))
            refine zj_iconst (v := 0) C dc_M_plain_165 (by decide) ?_
            refine zj_istore C dc_M_plain_166 (by decide) rfl ?_
            refine zj_iinc C dc_M_plain_168 5 rfl (zn_inc i) (by decide) rfl ?_
            refine zj_goto C dc_M_plain_171 rfl ?_
            refine zj_loc (L' := [(5, .int (nI (i + 1))), (4, .int (zb_i (zp_all (zm_e 1 (a 6) (a 7) (zm_f a 4 t R) (zm_f a 5 t R) pl) (i + 1)))), (0, .ref (ad 108)), (1, .int (nI 1)), (2, .int (nI t)), (3, .int (nI pl))]) [0, 1, 6, 7, 8, 9] (by rw [show zp_all (zm_e 1 (a 6) (a 7) (zm_f a 4 t R) (zm_f a 5 t R) pl) (i + 1) = false from by rw [zp_allS, hb]; show (true && decide ((zm_f a 4 t R) (pl + i + 1) - (zm_f a 4 t R) (pl + i) = a 6 (i + 1) - a 6 i)) = _; rw [decide_eq_false c1]; rfl]; rfl) ?_
            exact ih (i + 1) (by omega) (by omega)
          · have c2 : (zm_f a 5 t R) (pl + 0) * a 7 (i + 1) = (zm_f a 5 t R) (pl + i + 1) * a 7 0 := c2
            refine zj_iconst (v := 1) C dc_M_plain_134 (by decide) ?_
            refine zj_goto C dc_M_plain_135 rfl ?_
            refine zj_istore C dc_M_plain_139 (by decide) rfl ?_
            refine zj_iload C dc_M_plain_141 2 rfl ?_
            refine zj_if_eq C dc_M_plain_143 rfl (fun _ => ?_) (fun h => absurd h (by decide))
            refine zj_iconst (v := 0) C dc_M_plain_165 (by decide) ?_
            refine zj_istore C dc_M_plain_166 (by decide) rfl ?_
            refine zj_iinc C dc_M_plain_168 5 rfl (zn_inc i) (by decide) rfl ?_
            refine zj_goto C dc_M_plain_171 rfl ?_
            refine zj_loc (L' := [(5, .int (nI (i + 1))), (4, .int (zb_i (zp_all (zm_e 1 (a 6) (a 7) (zm_f a 4 t R) (zm_f a 5 t R) pl) (i + 1)))), (0, .ref (ad 108)), (1, .int (nI 1)), (2, .int (nI t)), (3, .int (nI pl))]) [0, 1, 6, 7, 8, 9] (by rw [show zp_all (zm_e 1 (a 6) (a 7) (zm_f a 4 t R) (zm_f a 5 t R) pl) (i + 1) = false from by rw [zp_allS, hb]; show (true && decide ((zm_f a 4 t R) (pl + i + 1) - (zm_f a 4 t R) (pl + i) = a 6 (i + 1) - a 6 i)) = _; rw [decide_eq_false c1]; rfl]; rfl) ?_
            exact ih (i + 1) (by omega) (by omega)
        · have c1 : (zm_f a 4 t R) (pl + i + 1) - (zm_f a 4 t R) (pl + i) = a 6 (i + 1) - a 6 i := c1
          refine zj_iconst (v := 1) C dc_M_plain_74 (by decide) ?_
          refine zj_goto C dc_M_plain_75 rfl ?_
          refine zj_istore C dc_M_plain_79 (by decide) rfl ?_
          refine zj_iload_n C dc_M_plain_81 rfl 5 rfl ?_
          refine zj_if_ne C dc_M_plain_82 rfl (fun _ => ?_) (fun h => absurd h (by decide))
          refine zj_iconst (v := 0) C dc_M_plain_90 (by decide) ?_
          refine zj_topi (nI_0.symm) ?_
          refine zj_istore C dc_M_plain_91 (by decide) rfl ?_
          refine zj_aload_n C dc_M_plain_93 rfl 5 rfl ?_
          refine zj_iload_n C dc_M_plain_94 rfl 7 rfl ?_
          refine zj_iload_n C dc_M_plain_95 rfl 8 rfl ?_
          refine zj_iload C dc_M_plain_96 0 rfl ?_
          refine zj_iadd C dc_M_plain_98 ?_
          refine zj_topi (nI_add _ _) ?_
          refine zj_Vi C (ct_M_lengthOf _ hst z ad N _ _ _ _ _ _ hN hM.1 (t) (pl + 0) (R) (by omega) (by omega) hR hR1 hR9) gv_M_95 rfl rfl rfl hd_M_lengthOf ⟨(Nat.le_of_ble_eq_true rfl), (Nat.le_of_ble_eq_true rfl)⟩ (by omega) hM.1.1 rfl rfl rfl (Nat.le_of_ble_eq_true rfl) ⟨(Nat.le_of_ble_eq_true rfl), (Nat.le_of_ble_eq_true rfl)⟩ dc_M_plain_99 (fun r1 g9 h1 => ?_)
          obtain ⟨rfl, hg9⟩ := h1
          rw [hg9]
          refine zj_aload_n C dc_M_plain_102 rfl 5 rfl ?_
          refine zj_get (k := 9) C (by omega) hM.1.1 rfl (by decide) fw_M fl_M_32 rfl rfl dc_M_plain_103 ?_
          refine zj_iload C dc_M_plain_106 4 rfl ?_
          refine zj_iconst (v := 1) C dc_M_plain_108 (by decide) ?_
          refine zj_iadd C dc_M_plain_109 ?_
          refine zj_topi (nI_1 _) ?_
          refine zj_iald C (by omega) hM.1.2.2.2.2.2.2.2.2.1 rfl (by omega) (by decide) dc_M_plain_110 ?_
          refine zj_imul C dc_M_plain_111 ?_
          refine zj_aload_n C dc_M_plain_112 rfl 5 rfl ?_
          refine zj_iload_n C dc_M_plain_113 rfl 7 rfl ?_
          refine zj_iload_n C dc_M_plain_114 rfl 8 rfl ?_
          refine zj_iload C dc_M_plain_115 4 rfl ?_
          refine zj_iadd C dc_M_plain_117 ?_
          refine zj_topi (nI_add _ _) ?_
          refine zj_iconst (v := 1) C dc_M_plain_118 (by decide) ?_
          refine zj_iadd C dc_M_plain_119 ?_
          refine zj_topi (nI_1 _) ?_
          refine zj_Vi C (ct_M_lengthOf _ hst z ad N _ _ _ _ _ _ hN hM.1 (t) (pl + i + 1) (R) (by omega) (by omega) hR hR1 hR9) gv_M_95 rfl rfl rfl hd_M_lengthOf ⟨(Nat.le_of_ble_eq_true rfl), (Nat.le_of_ble_eq_true rfl)⟩ (by omega) hM.1.1 rfl rfl rfl (Nat.le_of_ble_eq_true rfl) ⟨(Nat.le_of_ble_eq_true rfl), (Nat.le_of_ble_eq_true rfl)⟩ dc_M_plain_120 (fun r1 g9 h1 => ?_)
          obtain ⟨rfl, hg9⟩ := h1
          rw [hg9]
          refine zj_aload_n C dc_M_plain_123 rfl 5 rfl ?_
          refine zj_get (k := 9) C (by omega) hM.1.1 rfl (by decide) fw_M fl_M_32 rfl rfl dc_M_plain_124 ?_
          refine zj_iload C dc_M_plain_127 0 rfl ?_
          refine zj_iald C (by omega) hM.1.2.2.2.2.2.2.2.2.1 rfl (by omega) (by decide) dc_M_plain_129 ?_
          refine zj_imul C dc_M_plain_130 ?_
          refine zj_icmp_ne C dc_M_plain_131 rfl (fun c2 => ?_) (fun c2 => ?_)
          · have c2 : ¬ ((zm_f a 5 t R) (pl + 0) * a 7 (i + 1) = (zm_f a 5 t R) (pl + i + 1) * a 7 0) := c2
            refine zj_iconst (v := 0) C dc_M_plain_138 (by decide) ?_
            refine zj_istore C dc_M_plain_139 (by decide) rfl ?_
            refine zj_iload C dc_M_plain_141 2 rfl ?_
            refine zj_if_eq C dc_M_plain_143 rfl (fun h => absurd h (by decide)) (fun _ => ?_)
            refine zj_iload_n C dc_M_plain_146 rfl 7 rfl ?_
            refine zj_iconst (v := 1) C dc_M_plain_147 (by decide) ?_
            refine zj_icmp_eq C dc_M_plain_148 rfl (fun _ => ?_) (fun h => absurd h (by decide))
            refine zj_iconst (v := 1) C dc_M_plain_161 (by decide) ?_
            refine zj_goto C dc_M_plain_162 rfl ?_
            refine zj_istore C dc_M_plain_166 (by decide) rfl ?_
            refine zj_iinc C dc_M_plain_168 5 rfl (zn_inc i) (by decide) rfl ?_
            refine zj_goto C dc_M_plain_171 rfl ?_
            refine zj_loc (L' := [(5, .int (nI (i + 1))), (4, .int (zb_i (zp_all (zm_e 1 (a 6) (a 7) (zm_f a 4 t R) (zm_f a 5 t R) pl) (i + 1)))), (0, .ref (ad 108)), (1, .int (nI 1)), (2, .int (nI t)), (3, .int (nI pl))]) [0, 1, 6, 7, 8, 9] (by rw [show zp_all (zm_e 1 (a 6) (a 7) (zm_f a 4 t R) (zm_f a 5 t R) pl) (i + 1) = true from by rw [zp_allS, hb]; show (true && decide ((zm_f a 4 t R) (pl + i + 1) - (zm_f a 4 t R) (pl + i) = a 6 (i + 1) - a 6 i)) = _; rw [decide_eq_true c1]; rfl]; rfl) ?_
            exact ih (i + 1) (by omega) (by omega)
          · have c2 : (zm_f a 5 t R) (pl + 0) * a 7 (i + 1) = (zm_f a 5 t R) (pl + i + 1) * a 7 0 := c2
            refine zj_iconst (v := 1) C dc_M_plain_134 (by decide) ?_
            refine zj_goto C dc_M_plain_135 rfl ?_
            refine zj_istore C dc_M_plain_139 (by decide) rfl ?_
            refine zj_iload C dc_M_plain_141 2 rfl ?_
            refine zj_if_eq C dc_M_plain_143 rfl (fun h => absurd h (by decide)) (fun _ => ?_)
            refine zj_iload_n C dc_M_plain_146 rfl 7 rfl ?_
            refine zj_iconst (v := 1) C dc_M_plain_147 (by decide) ?_
            refine zj_icmp_eq C dc_M_plain_148 rfl (fun _ => ?_) (fun h => absurd h (by decide))
            refine zj_iconst (v := 1) C dc_M_plain_161 (by decide) ?_
            refine zj_goto C dc_M_plain_162 rfl ?_
            refine zj_istore C dc_M_plain_166 (by decide) rfl ?_
            refine zj_iinc C dc_M_plain_168 5 rfl (zn_inc i) (by decide) rfl ?_
            refine zj_goto C dc_M_plain_171 rfl ?_
            refine zj_loc (L' := [(5, .int (nI (i + 1))), (4, .int (zb_i (zp_all (zm_e 1 (a 6) (a 7) (zm_f a 4 t R) (zm_f a 5 t R) pl) (i + 1)))), (0, .ref (ad 108)), (1, .int (nI 1)), (2, .int (nI t)), (3, .int (nI pl))]) [0, 1, 6, 7, 8, 9] (by rw [show zp_all (zm_e 1 (a 6) (a 7) (zm_f a 4 t R) (zm_f a 5 t R) pl) (i + 1) = true from by rw [zp_allS, hb]; show (true && decide ((zm_f a 4 t R) (pl + i + 1) - (zm_f a 4 t R) (pl + i) = a 6 (i + 1) - a 6 i)) = _; rw [decide_eq_true c1]; rfl]; rfl) ?_
            exact ih (i + 1) (by omega) (by omega)
  refine zj_iconst (v := 1) C dc_M_plain_0 (by decide) ?_
  refine zj_istore C dc_M_plain_1 (by decide) rfl ?_
  refine zj_iconst (v := 0) C dc_M_plain_3 (by decide) ?_
  refine zj_istore C dc_M_plain_4 (by decide) rfl ?_
  refine zj_loc (L' := [(5, .int (nI 0)), (4, .int (zb_i (zp_all (zm_e 1 (a 6) (a 7) (zm_f a 4 t R) (zm_f a 5 t R) pl) 0))), (0, .ref (ad 108)), (1, .int (nI 1)), (2, .int (nI t)), (3, .int (nI pl))]) [0, 1, 2, 3, 4, 5] rfl ?_
  exact loop (qc - 1) 0 rfl (by omega)
set_option maxHeartbeats 4000000 in
set_option maxRecDepth 100000 in
theorem ct_M_plain2 (l : Launch) (hst : l.stackTraces = false) (z : zv_T) (ad : Nat → Nat) (N : Nat) (g : Nat → va_E) (c as fo kp : Int32) (a : Nat → Nat → Int32) (hN : 126 ≤ N) (hM0 : zs_M z ad g c as fo kp a) (qc t R : Nat) (has : as = nI qc) (hqc : 2 ≤ qc) (hqc8 : qc ≤ 8) (ht : t < 8) (hR : a 3 t = nI R) (hR1 : 1 ≤ R) (hR9 : R ≤ 9) (pl : Nat) (hpl : pl + qc ≤ 20) : zm_i l mn_M_plain ws_M_plain rm_M_plain z ad N g [.ref (ad 108), .int (nI 2), .int (nI t), .int (nI pl)] (fun r g1 => r = zb_i (zp_all (zm_e 2 (a 6) (a 7) (zm_f a 4 t R) (zm_f a 5 t R) pl) (qc - 1)) ∧ g1 = g) := by
  have hM : zm_M z ad g g c as fo kp a := ⟨hM0, fun _ _ => rfl⟩
  subst has
  refine zm_ofz hst pn_M_plain rfl (Nat.le_of_ble_eq_true rfl) (fun X hX C => ?_)
  subst hX
  show zj_J X 0 0 _ ad N g 0 [(0, .ref (ad 108)), (1, .int (nI 2)), (2, .int (nI t)), (3, .int (nI pl))] []
  have loop : ∀ (n : Nat) (i : Nat), qc - 1 - i = n → i ≤ qc - 1 → zj_J X 0 0 (zj_Qi X 0 0 ad N (fun r g1 => r = zb_i (zp_all (zm_e 2 (a 6) (a 7) (zm_f a 4 t R) (zm_f a 5 t R) pl) (qc - 1)) ∧ g1 = g)) ad N g 6 [(5, .int (nI i)), (4, .int (zb_i (zp_all (zm_e 2 (a 6) (a 7) (zm_f a 4 t R) (zm_f a 5 t R) pl) i))), (0, .ref (ad 108)), (1, .int (nI 2)), (2, .int (nI t)), (3, .int (nI pl))] [] := by
    intro n
    induction n with
    | zero =>
      intro i e1 e2
      refine zj_iload C dc_M_plain_6 0 rfl ?_
      refine zj_iconst (v := 1) C dc_M_plain_8 (by decide) ?_
      refine zj_iadd C dc_M_plain_9 ?_
      refine zj_topi (nI_1 _) ?_
      refine zj_aload_n C dc_M_plain_10 rfl 2 rfl ?_
      refine zj_get (k := 7) C (by omega) hM.1.1 rfl (by decide) fw_M fl_M_89 rfl rfl dc_M_plain_11 ?_
      refine zj_icmp_ge C dc_M_plain_14 rfl (fun _ => ?_) (fun h => absurd h (not_not_intro ((nI_leI (by omega) (by omega)).mpr (by omega))))
      refine zj_iload C dc_M_plain_174 1 rfl ?_
      exact zj_zret C dc_M_plain_176 (by first | rfl | (unfold zb_i; split <;> rfl)) ⟨by rw [show qc - 1 = i by omega], rfl⟩
    | succ n ih =>
      intro i e1 e2
      refine zj_iload C dc_M_plain_6 0 rfl ?_
      refine zj_iconst (v := 1) C dc_M_plain_8 (by decide) ?_
      refine zj_iadd C dc_M_plain_9 ?_
      refine zj_topi (nI_1 _) ?_
      refine zj_aload_n C dc_M_plain_10 rfl 2 rfl ?_
      refine zj_get (k := 7) C (by omega) hM.1.1 rfl (by decide) fw_M fl_M_89 rfl rfl dc_M_plain_11 ?_
      refine zj_icmp_ge C dc_M_plain_14 rfl (fun h => absurd h (((zn_nle (by omega) (by omega)).mpr (by omega)))) (fun _ => ?_)
      refine zj_aload_n C dc_M_plain_17 rfl 2 rfl ?_
      refine zj_iload_n C dc_M_plain_18 rfl 4 rfl ?_
      refine zj_iload_n C dc_M_plain_19 rfl 5 rfl ?_
      refine zj_iload C dc_M_plain_20 0 rfl ?_
      refine zj_iadd C dc_M_plain_22 ?_
      refine zj_topi (nI_add _ _) ?_
      refine zj_Vi C (ct_M_step _ hst z ad N _ _ _ _ _ _ hN hM.1 t (pl + i) R ht (by omega) hR hR1 hR9) gv_M_82 rfl rfl rfl hd_M_step ⟨(Nat.le_of_ble_eq_true rfl), (Nat.le_of_ble_eq_true rfl)⟩ (by omega) hM.1.1 rfl rfl rfl (Nat.le_of_ble_eq_true rfl) ⟨(Nat.le_of_ble_eq_true rfl), (Nat.le_of_ble_eq_true rfl)⟩ dc_M_plain_23 (fun r1 g9 h1 => ?_)
      obtain ⟨rfl, hg9⟩ := h1
      rw [hg9]
      refine zj_istore C dc_M_plain_26 (by decide) rfl ?_
      refine zj_aload_n C dc_M_plain_28 rfl 3 rfl ?_
      refine zj_iload C dc_M_plain_29 1 rfl ?_
      refine zj_Vi C (ct_M_askedStep _ hst z ad N _ _ _ _ _ _ hN hM.1 (i) (by omega)) gv_M_92 rfl rfl rfl hd_M_askedStep ⟨(Nat.le_of_ble_eq_true rfl), (Nat.le_of_ble_eq_true rfl)⟩ (by omega) hM.1.1 rfl rfl rfl (Nat.le_of_ble_eq_true rfl) ⟨(Nat.le_of_ble_eq_true rfl), (Nat.le_of_ble_eq_true rfl)⟩ dc_M_plain_31 (fun r1 g9 h1 => ?_)
      obtain ⟨rfl, hg9⟩ := h1
      rw [hg9]
      refine zj_istore C dc_M_plain_34 (by decide) rfl ?_
      refine zj_iload C dc_M_plain_36 3 rfl ?_
      refine zj_if_eq C dc_M_plain_38 rfl (fun hb => ?_) (fun hb => ?_)
      · have hb := zb_i0 hb
        refine zj_iconst (v := 0) C dc_M_plain_78 (by decide) ?_
        refine zj_istore C dc_M_plain_79 (by decide) rfl ?_
        refine zj_iload_n C dc_M_plain_81 rfl 5 rfl ?_
        refine zj_if_ne C dc_M_plain_82 rfl (fun _ => ?_) (fun h => absurd h (by decide))
        refine zj_iconst (v := 0) C dc_M_plain_90 (by decide) ?_
        refine zj_topi (nI_0.symm) ?_
        refine zj_istore C dc_M_plain_91 (by decide) rfl ?_
        refine zj_aload_n C dc_M_plain_93 rfl 5 rfl ?_
        refine zj_iload_n C dc_M_plain_94 rfl 7 rfl ?_
        refine zj_iload_n C dc_M_plain_95 rfl 8 rfl ?_
        refine zj_iload C dc_M_plain_96 0 rfl ?_
        refine zj_iadd C dc_M_plain_98 ?_
        refine zj_topi (nI_add _ _) ?_
        refine zj_Vi C (ct_M_lengthOf _ hst z ad N _ _ _ _ _ _ hN hM.1 (t) (pl + 0) (R) (by omega) (by omega) hR hR1 hR9) gv_M_95 rfl rfl rfl hd_M_lengthOf ⟨(Nat.le_of_ble_eq_true rfl), (Nat.le_of_ble_eq_true rfl)⟩ (by omega) hM.1.1 rfl rfl rfl (Nat.le_of_ble_eq_true rfl) ⟨(Nat.le_of_ble_eq_true rfl), (Nat.le_of_ble_eq_true rfl)⟩ dc_M_plain_99 (fun r1 g9 h1 => ?_)
        obtain ⟨rfl, hg9⟩ := h1
        rw [hg9]
        refine zj_aload_n C dc_M_plain_102 rfl 5 rfl ?_
        refine zj_get (k := 9) C (by omega) hM.1.1 rfl (by decide) fw_M fl_M_32 rfl rfl dc_M_plain_103 ?_
        refine zj_iload C dc_M_plain_106 4 rfl ?_
        refine zj_iconst (v := 1) C dc_M_plain_108 (by decide) ?_
        refine zj_iadd C dc_M_plain_109 ?_
        refine zj_topi (nI_1 _) ?_
        refine zj_iald C (by omega) hM.1.2.2.2.2.2.2.2.2.1 rfl (by omega) (by decide) dc_M_plain_110 ?_
        refine zj_imul C dc_M_plain_111 ?_
        refine zj_aload_n C dc_M_plain_112 rfl 5 rfl ?_
        refine zj_iload_n C dc_M_plain_113 rfl 7 rfl ?_
        refine zj_iload_n C dc_M_plain_114 rfl 8 rfl ?_
        refine zj_iload C dc_M_plain_115 4 rfl ?_
        refine zj_iadd C dc_M_plain_117 ?_
        refine zj_topi (nI_add _ _) ?_
        refine zj_iconst (v := 1) C dc_M_plain_118 (by decide) ?_
        refine zj_iadd C dc_M_plain_119 ?_
        refine zj_topi (nI_1 _) ?_
        refine zj_Vi C (ct_M_lengthOf _ hst z ad N _ _ _ _ _ _ hN hM.1 (t) (pl + i + 1) (R) (by omega) (by omega) hR hR1 hR9) gv_M_95 rfl rfl rfl hd_M_lengthOf ⟨(Nat.le_of_ble_eq_true rfl), (Nat.le_of_ble_eq_true rfl)⟩ (by omega) hM.1.1 rfl rfl rfl (Nat.le_of_ble_eq_true rfl) ⟨(Nat.le_of_ble_eq_true rfl), (Nat.le_of_ble_eq_true rfl)⟩ dc_M_plain_120 (fun r1 g9 h1 => ?_)
        obtain ⟨rfl, hg9⟩ := h1
        rw [hg9]
        refine zj_aload_n C dc_M_plain_123 rfl 5 rfl ?_
        refine zj_get (k := 9) C (by omega) hM.1.1 rfl (by decide) fw_M fl_M_32 rfl rfl dc_M_plain_124 ?_
        refine zj_iload C dc_M_plain_127 0 rfl ?_
        refine zj_iald C (by omega) hM.1.2.2.2.2.2.2.2.2.1 rfl (by omega) (by decide) dc_M_plain_129 ?_
        refine zj_imul C dc_M_plain_130 ?_
        refine zj_icmp_ne C dc_M_plain_131 rfl (fun c2 => ?_) (fun c2 => ?_)
        · have c2 : ¬ ((zm_f a 5 t R) (pl + 0) * a 7 (i + 1) = (zm_f a 5 t R) (pl + i + 1) * a 7 0) := c2
          refine zj_iconst (v := 0) C dc_M_plain_138 (by decide) ?_
          refine zj_istore C dc_M_plain_139 (by decide) rfl ?_
          refine zj_iload C dc_M_plain_141 2 rfl ?_
          refine zj_if_eq C dc_M_plain_143 rfl (fun _ => ?_) (fun h => absurd h (by decide))
          refine zj_iconst (v := 0) C dc_M_plain_165 (by decide) ?_
          refine zj_istore C dc_M_plain_166 (by decide) rfl ?_
          refine zj_iinc C dc_M_plain_168 5 rfl (zn_inc i) (by decide) rfl ?_
          refine zj_goto C dc_M_plain_171 rfl ?_
          refine zj_loc (L' := [(5, .int (nI (i + 1))), (4, .int (zb_i (zp_all (zm_e 2 (a 6) (a 7) (zm_f a 4 t R) (zm_f a 5 t R) pl) (i + 1)))), (0, .ref (ad 108)), (1, .int (nI 2)), (2, .int (nI t)), (3, .int (nI pl))]) [0, 1, 6, 7, 8, 9] (by rw [show zp_all (zm_e 2 (a 6) (a 7) (zm_f a 4 t R) (zm_f a 5 t R) pl) (i + 1) = false from by rw [zp_allS, hb]; rfl]; rfl) ?_
          exact ih (i + 1) (by omega) (by omega)
        · have c2 : (zm_f a 5 t R) (pl + 0) * a 7 (i + 1) = (zm_f a 5 t R) (pl + i + 1) * a 7 0 := c2
          refine zj_iconst (v := 1) C dc_M_plain_134 (by decide) ?_
          refine zj_goto C dc_M_plain_135 rfl ?_
          refine zj_istore C dc_M_plain_139 (by decide) rfl ?_
          refine zj_iload C dc_M_plain_141 2 rfl ?_
          refine zj_if_eq C dc_M_plain_143 rfl (fun _ => ?_) (fun h => absurd h (by decide))
          refine zj_iconst (v := 0) C dc_M_plain_165 (by decide) ?_
          refine zj_istore C dc_M_plain_166 (by decide) rfl ?_
          refine zj_iinc C dc_M_plain_168 5 rfl (zn_inc i) (by decide) rfl ?_
          refine zj_goto C dc_M_plain_171 rfl ?_
          refine zj_loc (L' := [(5, .int (nI (i + 1))), (4, .int (zb_i (zp_all (zm_e 2 (a 6) (a 7) (zm_f a 4 t R) (zm_f a 5 t R) pl) (i + 1)))), (0, .ref (ad 108)), (1, .int (nI 2)), (2, .int (nI t)), (3, .int (nI pl))]) [0, 1, 6, 7, 8, 9] (by rw [show zp_all (zm_e 2 (a 6) (a 7) (zm_f a 4 t R) (zm_f a 5 t R) pl) (i + 1) = false from by rw [zp_allS, hb]; rfl]; rfl) ?_
          exact ih (i + 1) (by omega) (by omega)
      · have hb := zb_i1 hb
        refine zj_iload_n C dc_M_plain_41 rfl 5 rfl ?_
        refine zj_iconst (v := 3) C dc_M_plain_42 (by decide) ?_
        refine zj_icmp_eq C dc_M_plain_43 rfl (fun h => absurd h (by decide)) (fun _ => ?_)
        refine zj_iload_n C dc_M_plain_46 rfl 5 rfl ?_
        refine zj_iconst (v := 2) C dc_M_plain_47 (by decide) ?_
        refine zj_icmp_ne C dc_M_plain_48 rfl (fun h => absurd h (by decide)) (fun _ => ?_)
        refine zj_iload C dc_M_plain_51 1 rfl ?_
        refine zj_Si C (ct_M_sign _ hst z ad N _ _) gv_M_85 rfl rfl rfl hd_M_sign ⟨(Nat.le_of_ble_eq_true rfl), (Nat.le_of_ble_eq_true rfl)⟩ rfl rfl (Nat.le_of_ble_eq_true rfl) ⟨(Nat.le_of_ble_eq_true rfl), (Nat.le_of_ble_eq_true rfl)⟩ dc_M_plain_53 (fun r1 g9 h1 => ?_)
        obtain ⟨rfl, hg9⟩ := h1
        rw [hg9]
        refine zj_iload C dc_M_plain_56 0 rfl ?_
        refine zj_Si C (ct_M_sign _ hst z ad N _ _) gv_M_85 rfl rfl rfl hd_M_sign ⟨(Nat.le_of_ble_eq_true rfl), (Nat.le_of_ble_eq_true rfl)⟩ rfl rfl (Nat.le_of_ble_eq_true rfl) ⟨(Nat.le_of_ble_eq_true rfl), (Nat.le_of_ble_eq_true rfl)⟩ dc_M_plain_58 (fun r1 g9 h1 => ?_)
        obtain ⟨rfl, hg9⟩ := h1
        rw [hg9]
        refine zj_icmp_ne C dc_M_plain_61 rfl (fun c1 => ?_) (fun c1 => ?_)
        · have c1 : ¬ (zm_sg ((zm_f a 4 t R) (pl + i + 1) - (zm_f a 4 t R) (pl + i)) = zm_sg (a 6 (i + 1) - a 6 i)) := c1
          refine zj_iconst (v := 0) C dc_M_plain_78 (by decide) ?_
          refine zj_istore C dc_M_plain_79 (by decide) rfl ?_
          refine zj_iload_n C dc_M_plain_81 rfl 5 rfl ?_
          refine zj_if_ne C dc_M_plain_82 rfl (fun _ => ?_) (fun h => absurd h (by decide))
          refine zj_iconst (v := 0) C dc_M_plain_90 (by decide) ?_
          refine zj_topi (nI_0.symm) ?_
          refine zj_istore C dc_M_plain_91 (by decide) rfl ?_
          refine zj_aload_n C dc_M_plain_93 rfl 5 rfl ?_
          refine zj_iload_n C dc_M_plain_94 rfl 7 rfl ?_
          refine zj_iload_n C dc_M_plain_95 rfl 8 rfl ?_
          refine zj_iload C dc_M_plain_96 0 rfl ?_
          refine zj_iadd C dc_M_plain_98 ?_
          refine zj_topi (nI_add _ _) ?_
          refine zj_Vi C (ct_M_lengthOf _ hst z ad N _ _ _ _ _ _ hN hM.1 (t) (pl + 0) (R) (by omega) (by omega) hR hR1 hR9) gv_M_95 rfl rfl rfl hd_M_lengthOf ⟨(Nat.le_of_ble_eq_true rfl), (Nat.le_of_ble_eq_true rfl)⟩ (by omega) hM.1.1 rfl rfl rfl (Nat.le_of_ble_eq_true rfl) ⟨(Nat.le_of_ble_eq_true rfl), (Nat.le_of_ble_eq_true rfl)⟩ dc_M_plain_99 (fun r1 g9 h1 => ?_)
          obtain ⟨rfl, hg9⟩ := h1
          rw [hg9]
          refine zj_aload_n C dc_M_plain_102 rfl 5 rfl ?_
          refine zj_get (k := 9) C (by omega) hM.1.1 rfl (by decide) fw_M fl_M_32 rfl rfl dc_M_plain_103 ?_
          refine zj_iload C dc_M_plain_106 4 rfl ?_
          refine zj_iconst (v := 1) C dc_M_plain_108 (by decide) ?_
          refine zj_iadd C dc_M_plain_109 ?_
          refine zj_topi (nI_1 _) ?_
          refine zj_iald C (by omega) hM.1.2.2.2.2.2.2.2.2.1 rfl (by omega) (by decide) dc_M_plain_110 ?_
          refine zj_imul C dc_M_plain_111 ?_
          refine zj_aload_n C dc_M_plain_112 rfl 5 rfl ?_
          refine zj_iload_n C dc_M_plain_113 rfl 7 rfl ?_
          refine zj_iload_n C dc_M_plain_114 rfl 8 rfl ?_
          refine zj_iload C dc_M_plain_115 4 rfl ?_
          refine zj_iadd C dc_M_plain_117 ?_
          refine zj_topi (nI_add _ _) ?_
          refine zj_iconst (v := 1) C dc_M_plain_118 (by decide) ?_
          refine zj_iadd C dc_M_plain_119 ?_
          refine zj_topi (nI_1 _) ?_
          refine zj_Vi C (ct_M_lengthOf _ hst z ad N _ _ _ _ _ _ hN hM.1 (t) (pl + i + 1) (R) (by omega) (by omega) hR hR1 hR9) gv_M_95 rfl rfl rfl hd_M_lengthOf ⟨(Nat.le_of_ble_eq_true rfl), (Nat.le_of_ble_eq_true rfl)⟩ (by omega) hM.1.1 rfl rfl rfl (Nat.le_of_ble_eq_true rfl) ⟨(Nat.le_of_ble_eq_true rfl), (Nat.le_of_ble_eq_true rfl)⟩ dc_M_plain_120 (fun r1 g9 h1 => ?_)
          obtain ⟨rfl, hg9⟩ := h1
          rw [hg9]
          refine zj_aload_n C dc_M_plain_123 rfl 5 rfl ?_
          refine zj_get (k := 9) C (by omega) hM.1.1 rfl (by decide) fw_M fl_M_32 rfl rfl dc_M_plain_124 ?_
          refine zj_iload C dc_M_plain_127 0 rfl ?_
          refine zj_iald C (by omega) hM.1.2.2.2.2.2.2.2.2.1 rfl (by omega) (by decide) dc_M_plain_129 ?_
          refine zj_imul C dc_M_plain_130 ?_
          refine zj_icmp_ne C dc_M_plain_131 rfl (fun c2 => ?_) (fun c2 => ?_)
          · have c2 : ¬ ((zm_f a 5 t R) (pl + 0) * a 7 (i + 1) = (zm_f a 5 t R) (pl + i + 1) * a 7 0) := c2
            refine zj_iconst (v := 0) C dc_M_plain_138 (by decide) ?_
            refine zj_istore C dc_M_plain_139 (by decide) rfl ?_
            refine zj_iload C dc_M_plain_141 2 rfl ?_
            refine zj_if_eq C dc_M_plain_143 rfl (fun _ => ?_) (fun h => absurd h (by decide))
            refine zj_iconst (v := 0) C dc_M_plain_165 (by decide) ?_
            refine zj_istore C dc_M_plain_166 (by decide) rfl ?_
            refine zj_iinc C dc_M_plain_168 5 rfl (zn_inc i) (by decide) rfl ?_
            refine zj_goto C dc_M_plain_171 rfl ?_
            refine zj_loc (L' := [(5, .int (nI (i + 1))), (4, .int (zb_i (zp_all (zm_e 2 (a 6) (a 7) (zm_f a 4 t R) (zm_f a 5 t R) pl) (i + 1)))), (0, .ref (ad 108)), (1, .int (nI 2)), (2, .int (nI t)), (3, .int (nI pl))]) [0, 1, 6, 7, 8, 9] (by rw [show zp_all (zm_e 2 (a 6) (a 7) (zm_f a 4 t R) (zm_f a 5 t R) pl) (i + 1) = false from by rw [zp_allS, hb]; show (true && decide (zm_sg ((zm_f a 4 t R) (pl + i + 1) - (zm_f a 4 t R) (pl + i)) = zm_sg (a 6 (i + 1) - a 6 i))) = _; rw [decide_eq_false c1]; rfl]; rfl) ?_
            exact ih (i + 1) (by omega) (by omega)
          · have c2 : (zm_f a 5 t R) (pl + 0) * a 7 (i + 1) = (zm_f a 5 t R) (pl + i + 1) * a 7 0 := c2
            refine zj_iconst (v := 1) C dc_M_plain_134 (by decide) ?_
            refine zj_goto C dc_M_plain_135 rfl ?_
            refine zj_istore C dc_M_plain_139 (by decide) rfl ?_
            refine zj_iload C dc_M_plain_141 2 rfl ?_
            refine zj_if_eq C dc_M_plain_143 rfl (fun _ => ?_) (fun h => absurd h (by decide))
            refine zj_iconst (v := 0) C dc_M_plain_165 (by decide) ?_
            refine zj_istore C dc_M_plain_166 (by decide) rfl ?_
            refine zj_iinc C dc_M_plain_168 5 rfl (zn_inc i) (by decide) rfl ?_
            refine zj_goto C dc_M_plain_171 rfl ?_
            refine zj_loc (L' := [(5, .int (nI (i + 1))), (4, .int (zb_i (zp_all (zm_e 2 (a 6) (a 7) (zm_f a 4 t R) (zm_f a 5 t R) pl) (i + 1)))), (0, .ref (ad 108)), (1, .int (nI 2)), (2, .int (nI t)), (3, .int (nI pl))]) [0, 1, 6, 7, 8, 9] (by rw [show zp_all (zm_e 2 (a 6) (a 7) (zm_f a 4 t R) (zm_f a 5 t R) pl) (i + 1) = false from by rw [zp_allS, hb]; show (true && decide (zm_sg ((zm_f a 4 t R) (pl + i + 1) - (zm_f a 4 t R) (pl + i)) = zm_sg (a 6 (i + 1) - a 6 i))) = _; rw [decide_eq_false c1]; rfl]; rfl) ?_
            exact ih (i + 1) (by omega) (by omega)
        · have c1 : zm_sg ((zm_f a 4 t R) (pl + i + 1) - (zm_f a 4 t R) (pl + i)) = zm_sg (a 6 (i + 1) - a 6 i) := c1
          refine zj_goto C dc_M_plain_64 rfl ?_
          refine zj_iconst (v := 1) C dc_M_plain_74 (by decide) ?_
          refine zj_goto C dc_M_plain_75 rfl ?_
          refine zj_istore C dc_M_plain_79 (by decide) rfl ?_
          refine zj_iload_n C dc_M_plain_81 rfl 5 rfl ?_
          refine zj_if_ne C dc_M_plain_82 rfl (fun _ => ?_) (fun h => absurd h (by decide))
          refine zj_iconst (v := 0) C dc_M_plain_90 (by decide) ?_
          refine zj_topi (nI_0.symm) ?_
          refine zj_istore C dc_M_plain_91 (by decide) rfl ?_
          refine zj_aload_n C dc_M_plain_93 rfl 5 rfl ?_
          refine zj_iload_n C dc_M_plain_94 rfl 7 rfl ?_
          refine zj_iload_n C dc_M_plain_95 rfl 8 rfl ?_
          refine zj_iload C dc_M_plain_96 0 rfl ?_
          refine zj_iadd C dc_M_plain_98 ?_
          refine zj_topi (nI_add _ _) ?_
          refine zj_Vi C (ct_M_lengthOf _ hst z ad N _ _ _ _ _ _ hN hM.1 (t) (pl + 0) (R) (by omega) (by omega) hR hR1 hR9) gv_M_95 rfl rfl rfl hd_M_lengthOf ⟨(Nat.le_of_ble_eq_true rfl), (Nat.le_of_ble_eq_true rfl)⟩ (by omega) hM.1.1 rfl rfl rfl (Nat.le_of_ble_eq_true rfl) ⟨(Nat.le_of_ble_eq_true rfl), (Nat.le_of_ble_eq_true rfl)⟩ dc_M_plain_99 (fun r1 g9 h1 => ?_)
          obtain ⟨rfl, hg9⟩ := h1
          rw [hg9]
          refine zj_aload_n C dc_M_plain_102 rfl 5 rfl ?_
          refine zj_get (k := 9) C (by omega) hM.1.1 rfl (by decide) fw_M fl_M_32 rfl rfl dc_M_plain_103 ?_
          refine zj_iload C dc_M_plain_106 4 rfl ?_
          refine zj_iconst (v := 1) C dc_M_plain_108 (by decide) ?_
          refine zj_iadd C dc_M_plain_109 ?_
          refine zj_topi (nI_1 _) ?_
          refine zj_iald C (by omega) hM.1.2.2.2.2.2.2.2.2.1 rfl (by omega) (by decide) dc_M_plain_110 ?_
          refine zj_imul C dc_M_plain_111 ?_
          refine zj_aload_n C dc_M_plain_112 rfl 5 rfl ?_
          refine zj_iload_n C dc_M_plain_113 rfl 7 rfl ?_
          refine zj_iload_n C dc_M_plain_114 rfl 8 rfl ?_
          refine zj_iload C dc_M_plain_115 4 rfl ?_
          refine zj_iadd C dc_M_plain_117 ?_
          refine zj_topi (nI_add _ _) ?_
          refine zj_iconst (v := 1) C dc_M_plain_118 (by decide) ?_
          refine zj_iadd C dc_M_plain_119 ?_
          refine zj_topi (nI_1 _) ?_
          refine zj_Vi C (ct_M_lengthOf _ hst z ad N _ _ _ _ _ _ hN hM.1 (t) (pl + i + 1) (R) (by omega) (by omega) hR hR1 hR9) gv_M_95 rfl rfl rfl hd_M_lengthOf ⟨(Nat.le_of_ble_eq_true rfl), (Nat.le_of_ble_eq_true rfl)⟩ (by omega) hM.1.1 rfl rfl rfl (Nat.le_of_ble_eq_true rfl) ⟨(Nat.le_of_ble_eq_true rfl), (Nat.le_of_ble_eq_true rfl)⟩ dc_M_plain_120 (fun r1 g9 h1 => ?_)
          obtain ⟨rfl, hg9⟩ := h1
          rw [hg9]
          refine zj_aload_n C dc_M_plain_123 rfl 5 rfl ?_
          refine zj_get (k := 9) C (by omega) hM.1.1 rfl (by decide) fw_M fl_M_32 rfl rfl dc_M_plain_124 ?_
          refine zj_iload C dc_M_plain_127 0 rfl ?_
          refine zj_iald C (by omega) hM.1.2.2.2.2.2.2.2.2.1 rfl (by omega) (by decide) dc_M_plain_129 ?_
          refine zj_imul C dc_M_plain_130 ?_
          refine zj_icmp_ne C dc_M_plain_131 rfl (fun c2 => ?_) (fun c2 => ?_)
          · have c2 : ¬ ((zm_f a 5 t R) (pl + 0) * a 7 (i + 1) = (zm_f a 5 t R) (pl + i + 1) * a 7 0) := c2
            refine zj_iconst (v := 0) C dc_M_plain_138 (by decide) ?_
            refine zj_istore C dc_M_plain_139 (by decide) rfl ?_
            refine zj_iload C dc_M_plain_141 2 rfl ?_
            refine zj_if_eq C dc_M_plain_143 rfl (fun h => absurd h (by decide)) (fun _ => ?_)
            refine zj_iload_n C dc_M_plain_146 rfl 7 rfl ?_
            refine zj_iconst (v := 1) C dc_M_plain_147 (by decide) ?_
            refine zj_icmp_eq C dc_M_plain_148 rfl (fun h => absurd h (by decide)) (fun _ => ?_)
            refine zj_iload_n C dc_M_plain_151 rfl 7 rfl ?_
            refine zj_iconst (v := 2) C dc_M_plain_152 (by decide) ?_
            refine zj_icmp_eq C dc_M_plain_153 rfl (fun _ => ?_) (fun h => absurd h (by decide))
            refine zj_iconst (v := 1) C dc_M_plain_161 (by decide) ?_
            refine zj_goto C dc_M_plain_162 rfl ?_
            refine zj_istore C dc_M_plain_166 (by decide) rfl ?_
            refine zj_iinc C dc_M_plain_168 5 rfl (zn_inc i) (by decide) rfl ?_
            refine zj_goto C dc_M_plain_171 rfl ?_
            refine zj_loc (L' := [(5, .int (nI (i + 1))), (4, .int (zb_i (zp_all (zm_e 2 (a 6) (a 7) (zm_f a 4 t R) (zm_f a 5 t R) pl) (i + 1)))), (0, .ref (ad 108)), (1, .int (nI 2)), (2, .int (nI t)), (3, .int (nI pl))]) [0, 1, 6, 7, 8, 9] (by rw [show zp_all (zm_e 2 (a 6) (a 7) (zm_f a 4 t R) (zm_f a 5 t R) pl) (i + 1) = true from by rw [zp_allS, hb]; show (true && decide (zm_sg ((zm_f a 4 t R) (pl + i + 1) - (zm_f a 4 t R) (pl + i)) = zm_sg (a 6 (i + 1) - a 6 i))) = _; rw [decide_eq_true c1]; rfl]; rfl) ?_
            exact ih (i + 1) (by omega) (by omega)
          · have c2 : (zm_f a 5 t R) (pl + 0) * a 7 (i + 1) = (zm_f a 5 t R) (pl + i + 1) * a 7 0 := c2
            refine zj_iconst (v := 1) C dc_M_plain_134 (by decide) ?_
            refine zj_goto C dc_M_plain_135 rfl ?_
            refine zj_istore C dc_M_plain_139 (by decide) rfl ?_
            refine zj_iload C dc_M_plain_141 2 rfl ?_
            refine zj_if_eq C dc_M_plain_143 rfl (fun h => absurd h (by decide)) (fun _ => ?_)
            refine zj_iload_n C dc_M_plain_146 rfl 7 rfl ?_
            refine zj_iconst (v := 1) C dc_M_plain_147 (by decide) ?_
            refine zj_icmp_eq C dc_M_plain_148 rfl (fun h => absurd h (by decide)) (fun _ => ?_)
            refine zj_iload_n C dc_M_plain_151 rfl 7 rfl ?_
            refine zj_iconst (v := 2) C dc_M_plain_152 (by decide) ?_
            refine zj_icmp_eq C dc_M_plain_153 rfl (fun _ => ?_) (fun h => absurd h (by decide))
            refine zj_iconst (v := 1) C dc_M_plain_161 (by decide) ?_
            refine zj_goto C dc_M_plain_162 rfl ?_
            refine zj_istore C dc_M_plain_166 (by decide) rfl ?_
            refine zj_iinc C dc_M_plain_168 5 rfl (zn_inc i) (by decide) rfl ?_
            refine zj_goto C dc_M_plain_171 rfl ?_
            refine zj_loc (L' := [(5, .int (nI (i + 1))), (4, .int (zb_i (zp_all (zm_e 2 (a 6) (a 7) (zm_f a 4 t R) (zm_f a 5 t R) pl) (i + 1)))), (0, .ref (ad 108)), (1, .int (nI 2)), (2, .int (nI t)), (3, .int (nI pl))]) [0, 1, 6, 7, 8, 9] (by rw [show zp_all (zm_e 2 (a 6) (a 7) (zm_f a 4 t R) (zm_f a 5 t R) pl) (i + 1) = true from by rw [zp_allS, hb]; show (true && decide (zm_sg ((zm_f a 4 t R) (pl + i + 1) - (zm_f a 4 t R) (pl + i)) = zm_sg (a 6 (i + 1) - a 6 i))) = _; rw [decide_eq_true c1]; rfl]; rfl) ?_
            exact ih (i + 1) (by omega) (by omega)
  refine zj_iconst (v := 1) C dc_M_plain_0 (by decide) ?_
  refine zj_istore C dc_M_plain_1 (by decide) rfl ?_
  refine zj_iconst (v := 0) C dc_M_plain_3 (by decide) ?_
  refine zj_istore C dc_M_plain_4 (by decide) rfl ?_
  refine zj_loc (L' := [(5, .int (nI 0)), (4, .int (zb_i (zp_all (zm_e 2 (a 6) (a 7) (zm_f a 4 t R) (zm_f a 5 t R) pl) 0))), (0, .ref (ad 108)), (1, .int (nI 2)), (2, .int (nI t)), (3, .int (nI pl))]) [0, 1, 2, 3, 4, 5] rfl ?_
  exact loop (qc - 1) 0 rfl (by omega)
set_option maxHeartbeats 4000000 in
set_option maxRecDepth 100000 in
theorem ct_M_plain3 (l : Launch) (hst : l.stackTraces = false) (z : zv_T) (ad : Nat → Nat) (N : Nat) (g : Nat → va_E) (c as fo kp : Int32) (a : Nat → Nat → Int32) (hN : 126 ≤ N) (hM0 : zs_M z ad g c as fo kp a) (qc t R : Nat) (has : as = nI qc) (hqc : 2 ≤ qc) (hqc8 : qc ≤ 8) (ht : t < 8) (hR : a 3 t = nI R) (hR1 : 1 ≤ R) (hR9 : R ≤ 9) (pl : Nat) (hpl : pl + qc ≤ 20) : zm_i l mn_M_plain ws_M_plain rm_M_plain z ad N g [.ref (ad 108), .int (nI 3), .int (nI t), .int (nI pl)] (fun r g1 => r = zb_i (zp_all (zm_e 3 (a 6) (a 7) (zm_f a 4 t R) (zm_f a 5 t R) pl) (qc - 1)) ∧ g1 = g) := by
  have hM : zm_M z ad g g c as fo kp a := ⟨hM0, fun _ _ => rfl⟩
  subst has
  refine zm_ofz hst pn_M_plain rfl (Nat.le_of_ble_eq_true rfl) (fun X hX C => ?_)
  subst hX
  show zj_J X 0 0 _ ad N g 0 [(0, .ref (ad 108)), (1, .int (nI 3)), (2, .int (nI t)), (3, .int (nI pl))] []
  have loop : ∀ (n : Nat) (i : Nat), qc - 1 - i = n → i ≤ qc - 1 → zj_J X 0 0 (zj_Qi X 0 0 ad N (fun r g1 => r = zb_i (zp_all (zm_e 3 (a 6) (a 7) (zm_f a 4 t R) (zm_f a 5 t R) pl) (qc - 1)) ∧ g1 = g)) ad N g 6 [(5, .int (nI i)), (4, .int (zb_i (zp_all (zm_e 3 (a 6) (a 7) (zm_f a 4 t R) (zm_f a 5 t R) pl) i))), (0, .ref (ad 108)), (1, .int (nI 3)), (2, .int (nI t)), (3, .int (nI pl))] [] := by
    intro n
    induction n with
    | zero =>
      intro i e1 e2
      refine zj_iload C dc_M_plain_6 0 rfl ?_
      refine zj_iconst (v := 1) C dc_M_plain_8 (by decide) ?_
      refine zj_iadd C dc_M_plain_9 ?_
      refine zj_topi (nI_1 _) ?_
      refine zj_aload_n C dc_M_plain_10 rfl 2 rfl ?_
      refine zj_get (k := 7) C (by omega) hM.1.1 rfl (by decide) fw_M fl_M_89 rfl rfl dc_M_plain_11 ?_
      refine zj_icmp_ge C dc_M_plain_14 rfl (fun _ => ?_) (fun h => absurd h (not_not_intro ((nI_leI (by omega) (by omega)).mpr (by omega))))
      refine zj_iload C dc_M_plain_174 1 rfl ?_
      exact zj_zret C dc_M_plain_176 (by first | rfl | (unfold zb_i; split <;> rfl)) ⟨by rw [show qc - 1 = i by omega], rfl⟩
    | succ n ih =>
      intro i e1 e2
      refine zj_iload C dc_M_plain_6 0 rfl ?_
      refine zj_iconst (v := 1) C dc_M_plain_8 (by decide) ?_
      refine zj_iadd C dc_M_plain_9 ?_
      refine zj_topi (nI_1 _) ?_
      refine zj_aload_n C dc_M_plain_10 rfl 2 rfl ?_
      refine zj_get (k := 7) C (by omega) hM.1.1 rfl (by decide) fw_M fl_M_89 rfl rfl dc_M_plain_11 ?_
      refine zj_icmp_ge C dc_M_plain_14 rfl (fun h => absurd h (((zn_nle (by omega) (by omega)).mpr (by omega)))) (fun _ => ?_)
      refine zj_aload_n C dc_M_plain_17 rfl 2 rfl ?_
      refine zj_iload_n C dc_M_plain_18 rfl 4 rfl ?_
      refine zj_iload_n C dc_M_plain_19 rfl 5 rfl ?_
      refine zj_iload C dc_M_plain_20 0 rfl ?_
      refine zj_iadd C dc_M_plain_22 ?_
      refine zj_topi (nI_add _ _) ?_
      refine zj_Vi C (ct_M_step _ hst z ad N _ _ _ _ _ _ hN hM.1 t (pl + i) R ht (by omega) hR hR1 hR9) gv_M_82 rfl rfl rfl hd_M_step ⟨(Nat.le_of_ble_eq_true rfl), (Nat.le_of_ble_eq_true rfl)⟩ (by omega) hM.1.1 rfl rfl rfl (Nat.le_of_ble_eq_true rfl) ⟨(Nat.le_of_ble_eq_true rfl), (Nat.le_of_ble_eq_true rfl)⟩ dc_M_plain_23 (fun r1 g9 h1 => ?_)
      obtain ⟨rfl, hg9⟩ := h1
      rw [hg9]
      refine zj_istore C dc_M_plain_26 (by decide) rfl ?_
      refine zj_aload_n C dc_M_plain_28 rfl 3 rfl ?_
      refine zj_iload C dc_M_plain_29 1 rfl ?_
      refine zj_Vi C (ct_M_askedStep _ hst z ad N _ _ _ _ _ _ hN hM.1 (i) (by omega)) gv_M_92 rfl rfl rfl hd_M_askedStep ⟨(Nat.le_of_ble_eq_true rfl), (Nat.le_of_ble_eq_true rfl)⟩ (by omega) hM.1.1 rfl rfl rfl (Nat.le_of_ble_eq_true rfl) ⟨(Nat.le_of_ble_eq_true rfl), (Nat.le_of_ble_eq_true rfl)⟩ dc_M_plain_31 (fun r1 g9 h1 => ?_)
      obtain ⟨rfl, hg9⟩ := h1
      rw [hg9]
      refine zj_istore C dc_M_plain_34 (by decide) rfl ?_
      refine zj_iload C dc_M_plain_36 3 rfl ?_
      refine zj_if_eq C dc_M_plain_38 rfl (fun hb => ?_) (fun hb => ?_)
      · have hb := zb_i0 hb
        refine zj_iconst (v := 0) C dc_M_plain_78 (by decide) ?_
        refine zj_istore C dc_M_plain_79 (by decide) rfl ?_
        refine zj_iload_n C dc_M_plain_81 rfl 5 rfl ?_
        refine zj_if_ne C dc_M_plain_82 rfl (fun _ => ?_) (fun h => absurd h (by decide))
        refine zj_iconst (v := 0) C dc_M_plain_90 (by decide) ?_
        refine zj_topi (nI_0.symm) ?_
        refine zj_istore C dc_M_plain_91 (by decide) rfl ?_
        refine zj_aload_n C dc_M_plain_93 rfl 5 rfl ?_
        refine zj_iload_n C dc_M_plain_94 rfl 7 rfl ?_
        refine zj_iload_n C dc_M_plain_95 rfl 8 rfl ?_
        refine zj_iload C dc_M_plain_96 0 rfl ?_
        refine zj_iadd C dc_M_plain_98 ?_
        refine zj_topi (nI_add _ _) ?_
        refine zj_Vi C (ct_M_lengthOf _ hst z ad N _ _ _ _ _ _ hN hM.1 (t) (pl + 0) (R) (by omega) (by omega) hR hR1 hR9) gv_M_95 rfl rfl rfl hd_M_lengthOf ⟨(Nat.le_of_ble_eq_true rfl), (Nat.le_of_ble_eq_true rfl)⟩ (by omega) hM.1.1 rfl rfl rfl (Nat.le_of_ble_eq_true rfl) ⟨(Nat.le_of_ble_eq_true rfl), (Nat.le_of_ble_eq_true rfl)⟩ dc_M_plain_99 (fun r1 g9 h1 => ?_)
        obtain ⟨rfl, hg9⟩ := h1
        rw [hg9]
        refine zj_aload_n C dc_M_plain_102 rfl 5 rfl ?_
        refine zj_get (k := 9) C (by omega) hM.1.1 rfl (by decide) fw_M fl_M_32 rfl rfl dc_M_plain_103 ?_
        refine zj_iload C dc_M_plain_106 4 rfl ?_
        refine zj_iconst (v := 1) C dc_M_plain_108 (by decide) ?_
        refine zj_iadd C dc_M_plain_109 ?_
        refine zj_topi (nI_1 _) ?_
        refine zj_iald C (by omega) hM.1.2.2.2.2.2.2.2.2.1 rfl (by omega) (by decide) dc_M_plain_110 ?_
        refine zj_imul C dc_M_plain_111 ?_
        refine zj_aload_n C dc_M_plain_112 rfl 5 rfl ?_
        refine zj_iload_n C dc_M_plain_113 rfl 7 rfl ?_
        refine zj_iload_n C dc_M_plain_114 rfl 8 rfl ?_
        refine zj_iload C dc_M_plain_115 4 rfl ?_
        refine zj_iadd C dc_M_plain_117 ?_
        refine zj_topi (nI_add _ _) ?_
        refine zj_iconst (v := 1) C dc_M_plain_118 (by decide) ?_
        refine zj_iadd C dc_M_plain_119 ?_
        refine zj_topi (nI_1 _) ?_
        refine zj_Vi C (ct_M_lengthOf _ hst z ad N _ _ _ _ _ _ hN hM.1 (t) (pl + i + 1) (R) (by omega) (by omega) hR hR1 hR9) gv_M_95 rfl rfl rfl hd_M_lengthOf ⟨(Nat.le_of_ble_eq_true rfl), (Nat.le_of_ble_eq_true rfl)⟩ (by omega) hM.1.1 rfl rfl rfl (Nat.le_of_ble_eq_true rfl) ⟨(Nat.le_of_ble_eq_true rfl), (Nat.le_of_ble_eq_true rfl)⟩ dc_M_plain_120 (fun r1 g9 h1 => ?_)
        obtain ⟨rfl, hg9⟩ := h1
        rw [hg9]
        refine zj_aload_n C dc_M_plain_123 rfl 5 rfl ?_
        refine zj_get (k := 9) C (by omega) hM.1.1 rfl (by decide) fw_M fl_M_32 rfl rfl dc_M_plain_124 ?_
        refine zj_iload C dc_M_plain_127 0 rfl ?_
        refine zj_iald C (by omega) hM.1.2.2.2.2.2.2.2.2.1 rfl (by omega) (by decide) dc_M_plain_129 ?_
        refine zj_imul C dc_M_plain_130 ?_
        refine zj_icmp_ne C dc_M_plain_131 rfl (fun c2 => ?_) (fun c2 => ?_)
        · have c2 : ¬ ((zm_f a 5 t R) (pl + 0) * a 7 (i + 1) = (zm_f a 5 t R) (pl + i + 1) * a 7 0) := c2
          refine zj_iconst (v := 0) C dc_M_plain_138 (by decide) ?_
          refine zj_istore C dc_M_plain_139 (by decide) rfl ?_
          refine zj_iload C dc_M_plain_141 2 rfl ?_
          refine zj_if_eq C dc_M_plain_143 rfl (fun _ => ?_) (fun h => absurd h (by decide))
          refine zj_iconst (v := 0) C dc_M_plain_165 (by decide) ?_
          refine zj_istore C dc_M_plain_166 (by decide) rfl ?_
          refine zj_iinc C dc_M_plain_168 5 rfl (zn_inc i) (by decide) rfl ?_
          refine zj_goto C dc_M_plain_171 rfl ?_
          refine zj_loc (L' := [(5, .int (nI (i + 1))), (4, .int (zb_i (zp_all (zm_e 3 (a 6) (a 7) (zm_f a 4 t R) (zm_f a 5 t R) pl) (i + 1)))), (0, .ref (ad 108)), (1, .int (nI 3)), (2, .int (nI t)), (3, .int (nI pl))]) [0, 1, 6, 7, 8, 9] (by rw [show zp_all (zm_e 3 (a 6) (a 7) (zm_f a 4 t R) (zm_f a 5 t R) pl) (i + 1) = false from by rw [zp_allS, hb]; rfl]; rfl) ?_
          exact ih (i + 1) (by omega) (by omega)
        · have c2 : (zm_f a 5 t R) (pl + 0) * a 7 (i + 1) = (zm_f a 5 t R) (pl + i + 1) * a 7 0 := c2
          refine zj_iconst (v := 1) C dc_M_plain_134 (by decide) ?_
          refine zj_goto C dc_M_plain_135 rfl ?_
          refine zj_istore C dc_M_plain_139 (by decide) rfl ?_
          refine zj_iload C dc_M_plain_141 2 rfl ?_
          refine zj_if_eq C dc_M_plain_143 rfl (fun _ => ?_) (fun h => absurd h (by decide))
          refine zj_iconst (v := 0) C dc_M_plain_165 (by decide) ?_
          refine zj_istore C dc_M_plain_166 (by decide) rfl ?_
          refine zj_iinc C dc_M_plain_168 5 rfl (zn_inc i) (by decide) rfl ?_
          refine zj_goto C dc_M_plain_171 rfl ?_
          refine zj_loc (L' := [(5, .int (nI (i + 1))), (4, .int (zb_i (zp_all (zm_e 3 (a 6) (a 7) (zm_f a 4 t R) (zm_f a 5 t R) pl) (i + 1)))), (0, .ref (ad 108)), (1, .int (nI 3)), (2, .int (nI t)), (3, .int (nI pl))]) [0, 1, 6, 7, 8, 9] (by rw [show zp_all (zm_e 3 (a 6) (a 7) (zm_f a 4 t R) (zm_f a 5 t R) pl) (i + 1) = false from by rw [zp_allS, hb]; rfl]; rfl) ?_
          exact ih (i + 1) (by omega) (by omega)
      · have hb := zb_i1 hb
        refine zj_iload_n C dc_M_plain_41 rfl 5 rfl ?_
        refine zj_iconst (v := 3) C dc_M_plain_42 (by decide) ?_
        refine zj_icmp_eq C dc_M_plain_43 rfl (fun _ => ?_) (fun h => absurd h (by decide))
        refine zj_iconst (v := 1) C dc_M_plain_74 (by decide) ?_
        refine zj_goto C dc_M_plain_75 rfl ?_
        refine zj_istore C dc_M_plain_79 (by decide) rfl ?_
        refine zj_iload_n C dc_M_plain_81 rfl 5 rfl ?_
        refine zj_if_ne C dc_M_plain_82 rfl (fun _ => ?_) (fun h => absurd h (by decide))
        refine zj_iconst (v := 0) C dc_M_plain_90 (by decide) ?_
        refine zj_topi (nI_0.symm) ?_
        refine zj_istore C dc_M_plain_91 (by decide) rfl ?_
        refine zj_aload_n C dc_M_plain_93 rfl 5 rfl ?_
        refine zj_iload_n C dc_M_plain_94 rfl 7 rfl ?_
        refine zj_iload_n C dc_M_plain_95 rfl 8 rfl ?_
        refine zj_iload C dc_M_plain_96 0 rfl ?_
        refine zj_iadd C dc_M_plain_98 ?_
        refine zj_topi (nI_add _ _) ?_
        refine zj_Vi C (ct_M_lengthOf _ hst z ad N _ _ _ _ _ _ hN hM.1 (t) (pl + 0) (R) (by omega) (by omega) hR hR1 hR9) gv_M_95 rfl rfl rfl hd_M_lengthOf ⟨(Nat.le_of_ble_eq_true rfl), (Nat.le_of_ble_eq_true rfl)⟩ (by omega) hM.1.1 rfl rfl rfl (Nat.le_of_ble_eq_true rfl) ⟨(Nat.le_of_ble_eq_true rfl), (Nat.le_of_ble_eq_true rfl)⟩ dc_M_plain_99 (fun r1 g9 h1 => ?_)
        obtain ⟨rfl, hg9⟩ := h1
        rw [hg9]
        refine zj_aload_n C dc_M_plain_102 rfl 5 rfl ?_
        refine zj_get (k := 9) C (by omega) hM.1.1 rfl (by decide) fw_M fl_M_32 rfl rfl dc_M_plain_103 ?_
        refine zj_iload C dc_M_plain_106 4 rfl ?_
        refine zj_iconst (v := 1) C dc_M_plain_108 (by decide) ?_
        refine zj_iadd C dc_M_plain_109 ?_
        refine zj_topi (nI_1 _) ?_
        refine zj_iald C (by omega) hM.1.2.2.2.2.2.2.2.2.1 rfl (by omega) (by decide) dc_M_plain_110 ?_
        refine zj_imul C dc_M_plain_111 ?_
        refine zj_aload_n C dc_M_plain_112 rfl 5 rfl ?_
        refine zj_iload_n C dc_M_plain_113 rfl 7 rfl ?_
        refine zj_iload_n C dc_M_plain_114 rfl 8 rfl ?_
        refine zj_iload C dc_M_plain_115 4 rfl ?_
        refine zj_iadd C dc_M_plain_117 ?_
        refine zj_topi (nI_add _ _) ?_
        refine zj_iconst (v := 1) C dc_M_plain_118 (by decide) ?_
        refine zj_iadd C dc_M_plain_119 ?_
        refine zj_topi (nI_1 _) ?_
        refine zj_Vi C (ct_M_lengthOf _ hst z ad N _ _ _ _ _ _ hN hM.1 (t) (pl + i + 1) (R) (by omega) (by omega) hR hR1 hR9) gv_M_95 rfl rfl rfl hd_M_lengthOf ⟨(Nat.le_of_ble_eq_true rfl), (Nat.le_of_ble_eq_true rfl)⟩ (by omega) hM.1.1 rfl rfl rfl (Nat.le_of_ble_eq_true rfl) ⟨(Nat.le_of_ble_eq_true rfl), (Nat.le_of_ble_eq_true rfl)⟩ dc_M_plain_120 (fun r1 g9 h1 => ?_)
        obtain ⟨rfl, hg9⟩ := h1
        rw [hg9]
        refine zj_aload_n C dc_M_plain_123 rfl 5 rfl ?_
        refine zj_get (k := 9) C (by omega) hM.1.1 rfl (by decide) fw_M fl_M_32 rfl rfl dc_M_plain_124 ?_
        refine zj_iload C dc_M_plain_127 0 rfl ?_
        refine zj_iald C (by omega) hM.1.2.2.2.2.2.2.2.2.1 rfl (by omega) (by decide) dc_M_plain_129 ?_
        refine zj_imul C dc_M_plain_130 ?_
        refine zj_icmp_ne C dc_M_plain_131 rfl (fun c2 => ?_) (fun c2 => ?_)
        · have c2 : ¬ ((zm_f a 5 t R) (pl + 0) * a 7 (i + 1) = (zm_f a 5 t R) (pl + i + 1) * a 7 0) := c2
          refine zj_iconst (v := 0) C dc_M_plain_138 (by decide) ?_
          refine zj_istore C dc_M_plain_139 (by decide) rfl ?_
          refine zj_iload C dc_M_plain_141 2 rfl ?_
          refine zj_if_eq C dc_M_plain_143 rfl (fun h => absurd h (by decide)) (fun _ => ?_)
          refine zj_iload_n C dc_M_plain_146 rfl 7 rfl ?_
          refine zj_iconst (v := 1) C dc_M_plain_147 (by decide) ?_
          refine zj_icmp_eq C dc_M_plain_148 rfl (fun h => absurd h (by decide)) (fun _ => ?_)
          refine zj_iload_n C dc_M_plain_151 rfl 7 rfl ?_
          refine zj_iconst (v := 2) C dc_M_plain_152 (by decide) ?_
          refine zj_icmp_eq C dc_M_plain_153 rfl (fun h => absurd h (by decide)) (fun _ => ?_)
          refine zj_iload C dc_M_plain_156 0 rfl ?_
          refine zj_if_eq C dc_M_plain_158 rfl (fun _ => ?_) (fun h => absurd h (by decide))
          refine zj_iconst (v := 0) C dc_M_plain_165 (by decide) ?_
          refine zj_istore C dc_M_plain_166 (by decide) rfl ?_
          refine zj_iinc C dc_M_plain_168 5 rfl (zn_inc i) (by decide) rfl ?_
          refine zj_goto C dc_M_plain_171 rfl ?_
          refine zj_loc (L' := [(5, .int (nI (i + 1))), (4, .int (zb_i (zp_all (zm_e 3 (a 6) (a 7) (zm_f a 4 t R) (zm_f a 5 t R) pl) (i + 1)))), (0, .ref (ad 108)), (1, .int (nI 3)), (2, .int (nI t)), (3, .int (nI pl))]) [0, 1, 6, 7, 8, 9] (by rw [show zp_all (zm_e 3 (a 6) (a 7) (zm_f a 4 t R) (zm_f a 5 t R) pl) (i + 1) = false from by rw [zp_allS, hb]; show (true && decide ((zm_f a 5 t R) (pl + 0) * a 7 (i + 1) = (zm_f a 5 t R) (pl + i + 1) * a 7 0)) = _; rw [decide_eq_false c2]; rfl]; rfl) ?_
          exact ih (i + 1) (by omega) (by omega)
        · have c2 : (zm_f a 5 t R) (pl + 0) * a 7 (i + 1) = (zm_f a 5 t R) (pl + i + 1) * a 7 0 := c2
          refine zj_iconst (v := 1) C dc_M_plain_134 (by decide) ?_
          refine zj_goto C dc_M_plain_135 rfl ?_
          refine zj_istore C dc_M_plain_139 (by decide) rfl ?_
          refine zj_iload C dc_M_plain_141 2 rfl ?_
          refine zj_if_eq C dc_M_plain_143 rfl (fun h => absurd h (by decide)) (fun _ => ?_)
          refine zj_iload_n C dc_M_plain_146 rfl 7 rfl ?_
          refine zj_iconst (v := 1) C dc_M_plain_147 (by decide) ?_
          refine zj_icmp_eq C dc_M_plain_148 rfl (fun h => absurd h (by decide)) (fun _ => ?_)
          refine zj_iload_n C dc_M_plain_151 rfl 7 rfl ?_
          refine zj_iconst (v := 2) C dc_M_plain_152 (by decide) ?_
          refine zj_icmp_eq C dc_M_plain_153 rfl (fun h => absurd h (by decide)) (fun _ => ?_)
          refine zj_iload C dc_M_plain_156 0 rfl ?_
          refine zj_if_eq C dc_M_plain_158 rfl (fun h => absurd h (by decide)) (fun _ => ?_)
          refine zj_iconst (v := 1) C dc_M_plain_161 (by decide) ?_
          refine zj_goto C dc_M_plain_162 rfl ?_
          refine zj_istore C dc_M_plain_166 (by decide) rfl ?_
          refine zj_iinc C dc_M_plain_168 5 rfl (zn_inc i) (by decide) rfl ?_
          refine zj_goto C dc_M_plain_171 rfl ?_
          refine zj_loc (L' := [(5, .int (nI (i + 1))), (4, .int (zb_i (zp_all (zm_e 3 (a 6) (a 7) (zm_f a 4 t R) (zm_f a 5 t R) pl) (i + 1)))), (0, .ref (ad 108)), (1, .int (nI 3)), (2, .int (nI t)), (3, .int (nI pl))]) [0, 1, 6, 7, 8, 9] (by rw [show zp_all (zm_e 3 (a 6) (a 7) (zm_f a 4 t R) (zm_f a 5 t R) pl) (i + 1) = true from by rw [zp_allS, hb]; show (true && decide ((zm_f a 5 t R) (pl + 0) * a 7 (i + 1) = (zm_f a 5 t R) (pl + i + 1) * a 7 0)) = _; rw [decide_eq_true c2]; rfl]; rfl) ?_
          exact ih (i + 1) (by omega) (by omega)
  refine zj_iconst (v := 1) C dc_M_plain_0 (by decide) ?_
  refine zj_istore C dc_M_plain_1 (by decide) rfl ?_
  refine zj_iconst (v := 0) C dc_M_plain_3 (by decide) ?_
  refine zj_istore C dc_M_plain_4 (by decide) rfl ?_
  refine zj_loc (L' := [(5, .int (nI 0)), (4, .int (zb_i (zp_all (zm_e 3 (a 6) (a 7) (zm_f a 4 t R) (zm_f a 5 t R) pl) 0))), (0, .ref (ad 108)), (1, .int (nI 3)), (2, .int (nI t)), (3, .int (nI pl))]) [0, 1, 2, 3, 4, 5] rfl ?_
  exact loop (qc - 1) 0 rfl (by omega)
end ZMR
