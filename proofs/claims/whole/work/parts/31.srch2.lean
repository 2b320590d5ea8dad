section ZO2
def zo_re (e : Int32) : Nat → Int32
  | 0 => 0
  | d + 1 => zo_re e d ||| (e <<< (nI (d + 1) &&& 31))
/-- the places where the i-th note of an outline from pl on can be, a bit each -/
def zo_en (c : Nat) (p qp : Nat → Int32) (pl kk : Nat) : Nat → Int32
  | 0 => (1 : Int32) <<< (nI pl &&& 31)
  | i + 1 => zo_re (zo_en c p qp pl kk i) (kk + 1) &&& zp_bits p (qp (i + 1) + (p pl - qp 0)) c
set_option maxHeartbeats 4000000 in
set_option maxRecDepth 100000 in
theorem ct_T_outlineEnds (l : Launch) (hst : l.stackTraces = false) (z : zv_T) (ad : Nat → Nat) (N : Nat) (g : Nat → va_E) (ni nc pl kk qc : Nat) (qp qq p q : Nat → Int32) (ts : Nat → zu_S) (hN : 108 ≤ N) (hnN : ni + 2 < 66) (hA' : zs_A z ad g ts) (hq : zs_N z ad g 66 8 qc qp qq) (hn : zs_N z ad g ni 20 nc p q) (hqc : 2 ≤ qc) (hqc8 : qc ≤ 8) (hpl : pl < 20) (hnc : nc ≤ 20) (hkk : kk ≤ 4) : zm_i l mn_T_outlineEnds ws_T_outlineEnds rm_T_outlineEnds z ad N g [.ref (ad 0), .ref (ad ni), .int (nI pl), .int (nI kk)] (fun r g1 => r = (zo_en nc p qp pl kk (qc - 1)) ∧ g1 = g) := by
  obtain ⟨h0, ⟨f, hA, hf⟩, hts⟩ := hA'
  obtain ⟨hq0, hq1, hq2⟩ := hq
  obtain ⟨hn0, hn1, hn2⟩ := hn
  refine zm_ofi hst pn_T_outlineEnds rfl (Nat.le_of_ble_eq_true rfl) (fun X hX C => ?_)
  subst hX
  show zj_J X 0 0 _ ad N g 0 [(0, .ref (ad 0)), (1, .ref (ad ni)), (2, .int (nI pl)), (3, .int (nI kk))] []
  have inner : ∀ (n : Nat) (d i : Nat), kk + 1 - d = n → d ≤ kk + 1 → i + 1 < qc → (zj_J X 0 0 (zj_Qi X 0 0 ad N (fun r g1 => r = (zo_en nc p qp pl kk (qc - 1)) ∧ g1 = g)) ad N g 68 [(8, .int (nI ((kk + 1) + 1))), (7, .int (zo_re (zo_en nc p qp pl kk i) (kk + 1))), (6, .int (nI (i + 1))), (5, .int (zo_en nc p qp pl kk i)), (4, .int (p pl - qp 0)), (0, .ref (ad 0)), (1, .ref (ad ni)), (2, .int (nI pl)), (3, .int (nI kk))] []) → zj_J X 0 0 (zj_Qi X 0 0 ad N (fun r g1 => r = (zo_en nc p qp pl kk (qc - 1)) ∧ g1 = g)) ad N g 44 [(8, .int (nI (d + 1))), (7, .int (zo_re (zo_en nc p qp pl kk i) d)), (6, .int (nI (i + 1))), (5, .int (zo_en nc p qp pl kk i)), (4, .int (p pl - qp 0)), (0, .ref (ad 0)), (1, .ref (ad ni)), (2, .int (nI pl)), (3, .int (nI kk))] [] := by
    intro n
    induction n with
    | zero =>
      intro d i e1 e2 e3 K
      refine zj_iload C dc_T_outlineEnds_44 0 rfl ?_
      refine zj_iload_n C dc_T_outlineEnds_46 rfl 8 rfl ?_
      refine zj_iconst (v := 1) C dc_T_outlineEnds_47 (by decide) ?_
      refine zj_iadd C dc_T_outlineEnds_48 ?_
      refine zj_topi (nI_1 _) ?_
      refine zj_icmp_gt C dc_T_outlineEnds_49 rfl (fun _ => ?_) (fun h => absurd h (not_not_intro ((nI_ltI (by omega) (by omega)).mpr (by omega))))
      refine zj_loc [0, 1, 2, 3, 4, 5, 6, 7, 8] rfl ?_
      exact (show d = kk + 1 by omega) ▸ K
    | succ n ih =>
      intro d i e1 e2 e3 K
      refine zj_iload C dc_T_outlineEnds_44 0 rfl ?_
      refine zj_iload_n C dc_T_outlineEnds_46 rfl 8 rfl ?_
      refine zj_iconst (v := 1) C dc_T_outlineEnds_47 (by decide) ?_
      refine zj_iadd C dc_T_outlineEnds_48 ?_
      refine zj_topi (nI_1 _) ?_
      refine zj_icmp_gt C dc_T_outlineEnds_49 rfl (fun h => absurd h (((zn_nlt (by omega) (by omega)).mpr (by omega)))) (fun _ => ?_)
      refine zj_iload C dc_T_outlineEnds_52 1 rfl ?_
      refine zj_iload C dc_T_outlineEnds_54 3 rfl ?_
      refine zj_iload C dc_T_outlineEnds_56 0 rfl ?_
      refine zj_ishl C dc_T_outlineEnds_58 ?_
      refine zj_ior C dc_T_outlineEnds_59 ?_
      refine zj_istore C dc_T_outlineEnds_60 (by decide) rfl ?_
      refine zj_iinc C dc_T_outlineEnds_62 1 rfl (zn_inc (d + 1)) (by decide) rfl ?_
      refine zj_goto C dc_T_outlineEnds_65 rfl ?_
      refine zj_loc (L' := [(8, .int (nI ((d + 1) + 1))), (7, .int (zo_re (zo_en nc p qp pl kk i) (d + 1))), (6, .int (nI (i + 1))), (5, .int (zo_en nc p qp pl kk i)), (4, .int (p pl - qp 0)), (0, .ref (ad 0)), (1, .ref (ad ni)), (2, .int (nI pl)), (3, .int (nI kk))]) [0, 1, 2, 3, 4, 5, 6, 7, 8] rfl ?_
      exact ih (d + 1) i (by omega) (by omega) e3 K
  have outer : ∀ (n : Nat) (i : Nat), qc - 1 - i = n → i + 1 ≤ qc → zj_J X 0 0 (zj_Qi X 0 0 ad N (fun r g1 => r = (zo_en nc p qp pl kk (qc - 1)) ∧ g1 = g)) ad N g 26 [(6, .int (nI (i + 1))), (5, .int (zo_en nc p qp pl kk i)), (4, .int (p pl - qp 0)), (0, .ref (ad 0)), (1, .ref (ad ni)), (2, .int (nI pl)), (3, .int (nI kk))] [] := by
    intro n
    induction n with
    | zero =>
      intro i e1 e2
      refine zj_iload C dc_T_outlineEnds_26 0 rfl ?_
      refine zj_aload_n C dc_T_outlineEnds_28 rfl 3 rfl ?_
      refine zj_get (k := 1) C (by omega) h0 rfl (by decide) fw_T fl_T_21 rfl rfl dc_T_outlineEnds_29 ?_
      refine zj_get (k := 2) C (by omega) hq0 rfl (by decide) fw_N fl_T_84 rfl rfl dc_T_outlineEnds_32 ?_
      refine zj_icmp_ge C dc_T_outlineEnds_35 rfl (fun _ => ?_) (fun h => absurd h (not_not_intro ((nI_leI (by omega) (by omega)).mpr (by omega))))
      refine zj_iload C dc_T_outlineEnds_96 1 rfl ?_
      exact zj_iret C dc_T_outlineEnds_98 ⟨by rw [show qc - 1 = i by omega], rfl⟩
    | succ n ih =>
      intro i e1 e2
      refine zj_iload C dc_T_outlineEnds_26 0 rfl ?_
      refine zj_aload_n C dc_T_outlineEnds_28 rfl 3 rfl ?_
      refine zj_get (k := 1) C (by omega) h0 rfl (by decide) fw_T fl_T_21 rfl rfl dc_T_outlineEnds_29 ?_
      refine zj_get (k := 2) C (by omega) hq0 rfl (by decide) fw_N fl_T_84 rfl rfl dc_T_outlineEnds_32 ?_
      refine zj_icmp_ge C dc_T_outlineEnds_35 rfl (fun h => absurd h (((zn_nle (by omega) (by omega)).mpr (by omega)))) (fun _ => ?_)
      refine zj_iconst (v := 0) C dc_T_outlineEnds_38 (by decide) ?_
      refine zj_istore C dc_T_outlineEnds_39 (by decide) rfl ?_
      refine zj_iconst (v := 1) C dc_T_outlineEnds_41 (by decide) ?_
      refine zj_istore C dc_T_outlineEnds_42 (by decide) rfl ?_
      refine zj_loc (L' := [(8, .int (nI (0 + 1))), (7, .int (zo_re (zo_en nc p qp pl kk i) 0)), (6, .int (nI (i + 1))), (5, .int (zo_en nc p qp pl kk i)), (4, .int (p pl - qp 0)), (0, .ref (ad 0)), (1, .ref (ad ni)), (2, .int (nI pl)), (3, .int (nI kk))]) [0, 1, 2, 3, 4, 5, 6, 7, 8] rfl ?_
      refine inner (kk + 1) 0 i rfl (by omega) (by omega) ?_
      refine zj_iload C dc_T_outlineEnds_68 1 rfl ?_
      refine zj_aload_n C dc_T_outlineEnds_70 rfl 6 rfl ?_
      refine zj_aload_n C dc_T_outlineEnds_71 rfl 5 rfl ?_
      refine zj_get (k := 1) C (by omega) h0 rfl (by decide) fw_T fl_T_21 rfl rfl dc_T_outlineEnds_72 ?_
      refine zj_get (k := 0) C (by omega) hq0 rfl (by decide) fw_N fl_T_219 rfl rfl dc_T_outlineEnds_75 ?_
      refine zj_iload C dc_T_outlineEnds_78 2 rfl ?_
      refine zj_iald C (by omega) hq1 rfl (by omega) (by decide) dc_T_outlineEnds_80 ?_
      refine zj_iload C dc_T_outlineEnds_81 4 rfl ?_
      refine zj_iadd C dc_T_outlineEnds_83 ?_
      refine zj_Vi C (ct_N_placesOfPitch _ hst z ad N g ni 20 nc p q (by omega) ⟨hn0, hn1, hn2⟩ (by decide) _ hnc) gv_T_222 rfl rfl rfl hd_N_placesOfPitch ⟨(Nat.le_of_ble_eq_true rfl), (Nat.le_of_ble_eq_true rfl)⟩ (by omega) hn0 rfl rfl rfl (Nat.le_of_ble_eq_true rfl) ⟨(Nat.le_of_ble_eq_true rfl), (Nat.le_of_ble_eq_true rfl)⟩ dc_T_outlineEnds_84 (fun r1 g9 h1 => ?_)
      obtain ⟨rfl, hg9⟩ := h1
      rw [hg9]
      refine zj_iand C dc_T_outlineEnds_87 ?_
      refine zj_istore C dc_T_outlineEnds_88 (by decide) rfl ?_
      refine zj_iinc C dc_T_outlineEnds_90 3 rfl (zn_inc (i + 1)) (by decide) rfl ?_
      refine zj_goto C dc_T_outlineEnds_93 rfl ?_
      refine zj_loc (L' := [(6, .int (nI ((i + 1) + 1))), (5, .int (zo_en nc p qp pl kk (i + 1))), (4, .int (p pl - qp 0)), (0, .ref (ad 0)), (1, .ref (ad ni)), (2, .int (nI pl)), (3, .int (nI kk))]) [0, 1, 4, 5, 6, 7, 8] rfl ?_
      exact ih (i + 1) (by omega) (by omega)
  refine zj_aload_n C dc_T_outlineEnds_0 rfl 1 rfl ?_
  refine zj_get (k := 0) C (by omega) hn0 rfl (by decide) fw_N fl_T_219 rfl rfl dc_T_outlineEnds_1 ?_
  refine zj_iload_n C dc_T_outlineEnds_4 rfl 2 rfl ?_
  refine zj_iald C (by omega) hn1 rfl hpl (by decide) dc_T_outlineEnds_5 ?_
  refine zj_aload_n C dc_T_outlineEnds_6 rfl 0 rfl ?_
  refine zj_get (k := 1) C (by omega) h0 rfl (by decide) fw_T fl_T_21 rfl rfl dc_T_outlineEnds_7 ?_
  refine zj_get (k := 0) C (by omega) hq0 rfl (by decide) fw_N fl_T_219 rfl rfl dc_T_outlineEnds_10 ?_
  refine zj_iconst (v := 0) C dc_T_outlineEnds_13 (by decide) ?_
  refine zj_iald C (by omega) hq1 nI_0.symm (by omega) (by decide) dc_T_outlineEnds_14 ?_
  refine zj_isub C dc_T_outlineEnds_15 ?_
  refine zj_istore C dc_T_outlineEnds_16 (by decide) rfl ?_
  refine zj_iconst (v := 1) C dc_T_outlineEnds_18 (by decide) ?_
  refine zj_iload_n C dc_T_outlineEnds_19 rfl 3 rfl ?_
  refine zj_ishl C dc_T_outlineEnds_20 ?_
  refine zj_istore C dc_T_outlineEnds_21 (by decide) rfl ?_
  refine zj_iconst (v := 1) C dc_T_outlineEnds_23 (by decide) ?_
  refine zj_istore C dc_T_outlineEnds_24 (by decide) rfl ?_
  refine zj_loc (L' := [(6, .int (nI (0 + 1))), (5, .int (zo_en nc p qp pl kk 0)), (4, .int (p pl - qp 0)), (0, .ref (ad 0)), (1, .ref (ad ni)), (2, .int (nI pl)), (3, .int (nI kk))]) [0, 1, 2, 3, 4, 5, 6] rfl ?_
  exact outer (qc - 1) 0 rfl (by omega)
def zq_cc (f : Nat → List zq_I) : Nat → Nat → List zq_I
  | _, 0 => []
  | pl, n + 1 => f pl ++ zq_cc f (pl + 1) n
theorem zq_ccS (f : Nat → List zq_I) (pl n : Nat) : zq_cc f pl (n + 1) = f pl ++ zq_cc f (pl + 1) n := rfl
/-- the outlines that begin at a place -/
def zq_ol (c qc kk t : Nat) (p qp : Nat → Int32) : Nat → List zq_I := fun pl => zq_nn (fun e => decide ((zo_en c p qp pl kk (qc - 1) >>> (nI e &&& 31)) &&& 1 = 1)) (fun e => (t, pl, e - pl + 1, p pl - qp 0, qc)) (pl + 1) (c - (pl + 1))
set_option maxHeartbeats 4000000 in
set_option maxRecDepth 100000 in
theorem ct_T_searchOutline (l : Launch) (hst : l.stackTraces = false) (z : zv_T) (ad : Nat → Nat) (N : Nat) (g : Nat → va_E) (ts : Nat → zu_S) (t qc : Nat) (qp qq : Nat → Int32) (F : List zq_I) (hN : 108 ≤ N) (hA' : zs_A z ad g ts) (hq : zs_N z ad g 66 8 qc qp qq) (hF : zq_F z ad g qc F) (ht : t < 8) (kk : Nat) (hkk : kk ≤ 4) (hqc : 2 ≤ qc) (hqc8 : qc ≤ 8) (hcn : zu_cn (ts t) ≤ 20) (hok : zq_ok (F ++ zq_cc (zq_ol (zu_cn (ts t)) qc kk t (zu_p (ts t)) qp) 0 (zu_cn (ts t) + 1 - qc))) (hFl : (F ++ zq_cc (zq_ol (zu_cn (ts t)) qc kk t (zu_p (ts t)) qp) 0 (zu_cn (ts t) + 1 - qc)).length < 2 ^ 30) : zm_v l mn_T_searchOutline ws_T_searchOutline rm_T_searchOutline z ad N g [.ref (ad 0), .int (nI t), .int (nI kk)] (fun g1 => zq_F z ad g1 qc (F ++ zq_cc (zq_ol (zu_cn (ts t)) qc kk t (zu_p (ts t)) qp) 0 (zu_cn (ts t) + 1 - qc)) ∧ ∀ j, j < 69 ∨ 101 ≤ j → g1 j = g j) := by
  have hA9 := hA'
  have hq9 := hq
  obtain ⟨h0, ⟨f, hA, hf⟩, hts⟩ := hA'
  obtain ⟨hq0, hq1, hq2⟩ := hq
  refine zm_ofv hst pn_T_searchOutline rfl (Nat.le_of_ble_eq_true rfl) (fun X hX C => ?_)
  subst hX
  show zj_J X 0 0 _ ad N g 0 [(0, .ref (ad 0)), (1, .int (nI t)), (2, .int (nI kk))] []
  have inner : ∀ (n : Nat) (e pl : Nat) (g2 : Nat → va_E) (F2 Fr : List zq_I), zu_cn (ts t) - e = n → pl < e → e ≤ 21 → pl < 20 → zq_F z ad g2 qc F2 → (∀ j, j < 69 ∨ 101 ≤ j → g2 j = g j) → (F ++ zq_cc (zq_ol (zu_cn (ts t)) qc kk t (zu_p (ts t)) qp) 0 (zu_cn (ts t) + 1 - qc)) = F2 ++ (zq_nn (fun e => decide (((zo_en (zu_cn (ts t)) (zu_p (ts t)) qp pl kk (qc - 1)) >>> (nI e &&& 31)) &&& 1 = 1)) (fun e => ((t, pl, e - pl + 1, zu_p (ts t) pl - qp 0, qc) : zq_I)) e (zu_cn (ts t) - e) ++ Fr) → (∀ (e : Nat) (g2 : Nat → va_E) (F2 : List zq_I), zq_F z ad g2 qc F2 → (∀ j, j < 69 ∨ 101 ≤ j → g2 j = g j) → (F ++ zq_cc (zq_ol (zu_cn (ts t)) qc kk t (zu_p (ts t)) qp) 0 (zu_cn (ts t) + 1 - qc)) = F2 ++ Fr → zj_J X 0 0 (zj_Qv X 0 0 ad N (fun g1 => zq_F z ad g1 qc (F ++ zq_cc (zq_ol (zu_cn (ts t)) qc kk t (zu_p (ts t)) qp) 0 (zu_cn (ts t) + 1 - qc)) ∧ ∀ j, j < 69 ∨ 101 ≤ j → g1 j = g j)) ad N g2 93 [(6, .int (nI e)), (5, .int (zo_en (zu_cn (ts t)) (zu_p (ts t)) qp pl kk (qc - 1))), (4, .int (nI pl)), (3, .ref (ad (2 + 8 * t + 1))), (0, .ref (ad 0)), (1, .int (nI t)), (2, .int (nI kk))] []) → zj_J X 0 0 (zj_Qv X 0 0 ad N (fun g1 => zq_F z ad g1 qc (F ++ zq_cc (zq_ol (zu_cn (ts t)) qc kk t (zu_p (ts t)) qp) 0 (zu_cn (ts t) + 1 - qc)) ∧ ∀ j, j < 69 ∨ 101 ≤ j → g1 j = g j)) ad N g2 46 [(6, .int (nI e)), (5, .int (zo_en (zu_cn (ts t)) (zu_p (ts t)) qp pl kk (qc - 1))), (4, .int (nI pl)), (3, .ref (ad (2 + 8 * t + 1))), (0, .ref (ad 0)), (1, .int (nI t)), (2, .int (nI kk))] [] := by
    intro n
    induction n with
    | zero =>
      intro e pl g2 F2 Fr e1 e2 e2b e2c hF2 hfr hE K
      refine zj_iload C dc_T_searchOutline_46 0 rfl ?_
      refine zj_aload_n C dc_T_searchOutline_48 rfl 3 rfl ?_
      refine zj_get (k := 2) C (by omega) ((hfr (2 + 8 * t + 1) (by omega)).trans (hts t ht).2.1.1) rfl (by decide) fw_N fl_T_84 rfl rfl dc_T_searchOutline_49 ?_
      refine zj_icmp_ge C dc_T_searchOutline_52 rfl (fun _ => ?_) (fun h => absurd h (not_not_intro ((nI_leI (by omega) (by omega)).mpr (by omega))))
      refine zj_loc [0, 1, 2, 3, 4, 5, 6] rfl ?_
      exact K e g2 F2 hF2 hfr (by rw [hE, show zu_cn (ts t) - e = 0 by omega]; rfl)
    | succ n ih =>
      intro e pl g2 F2 Fr e1 e2 e2b e2c hF2 hfr hE K
      refine zj_iload C dc_T_searchOutline_46 0 rfl ?_
      refine zj_aload_n C dc_T_searchOutline_48 rfl 3 rfl ?_
      refine zj_get (k := 2) C (by omega) ((hfr (2 + 8 * t + 1) (by omega)).trans (hts t ht).2.1.1) rfl (by decide) fw_N fl_T_84 rfl rfl dc_T_searchOutline_49 ?_
      refine zj_icmp_ge C dc_T_searchOutline_52 rfl (fun h => absurd h (((zn_nle (by omega) (by omega)).mpr (by omega)))) (fun _ => ?_)
      refine zj_iload C dc_T_searchOutline_55 1 rfl ?_
      refine zj_iload C dc_T_searchOutline_57 0 rfl ?_
      refine zj_ishr C dc_T_searchOutline_59 ?_
      refine zj_iconst (v := 1) C dc_T_searchOutline_60 (by decide) ?_
      refine zj_iand C dc_T_searchOutline_61 ?_
      refine zj_iconst (v := 1) C dc_T_searchOutline_62 (by decide) ?_
      refine zj_icmp_ne C dc_T_searchOutline_63 rfl (fun h63 => ?_) (fun h63 => ?_)
      · have hE2 := hE
        rw [show zu_cn (ts t) - e = (zu_cn (ts t) - (e + 1)) + 1 by omega, zq_nnS, if_neg (by rw [decide_eq_false h63]; exact Bool.false_ne_true)] at hE2
        refine zj_iinc C dc_T_searchOutline_87 0 rfl (zn_inc e) (by decide) rfl ?_
        refine zj_goto C dc_T_searchOutline_90 rfl ?_
        refine zj_loc (L' := [(6, .int (nI (e + 1))), (5, .int (zo_en (zu_cn (ts t)) (zu_p (ts t)) qp pl kk (qc - 1))), (4, .int (nI pl)), (3, .ref (ad (2 + 8 * t + 1))), (0, .ref (ad 0)), (1, .int (nI t)), (2, .int (nI kk))]) [0, 1, 2, 3, 4, 5, 6] rfl ?_
        exact ih (e + 1) pl g2 F2 Fr (by omega) (by omega) (by omega) e2c hF2 hfr hE2 K
      · have hE2 := hE
        rw [show zu_cn (ts t) - e = (zu_cn (ts t) - (e + 1)) + 1 by omega, zq_nnS, if_pos (decide_eq_true h63)] at hE2
        have hE3 : (F ++ zq_cc (zq_ol (zu_cn (ts t)) qc kk t (zu_p (ts t)) qp) 0 (zu_cn (ts t) + 1 - qc)) = (F2 ++ [(fun e => ((t, pl, e - pl + 1, zu_p (ts t) pl - qp 0, qc) : zq_I)) e]) ++ (zq_nn (fun e => decide (((zo_en (zu_cn (ts t)) (zu_p (ts t)) qp pl kk (qc - 1)) >>> (nI e &&& 31)) &&& 1 = 1)) (fun e => ((t, pl, e - pl + 1, zu_p (ts t) pl - qp 0, qc) : zq_I)) (e + 1) (zu_cn (ts t) - (e + 1)) ++ Fr) := by rw [hE2]; simp only [List.append_assoc]
        refine zj_aload_n C dc_T_searchOutline_66 rfl 4 rfl ?_
        refine zj_iload_n C dc_T_searchOutline_67 rfl 5 rfl ?_
        refine zj_iload C dc_T_searchOutline_68 2 rfl ?_
        refine zj_iload C dc_T_searchOutline_70 0 rfl ?_
        refine zj_iload C dc_T_searchOutline_72 2 rfl ?_
        refine zj_isub C dc_T_searchOutline_74 ?_
        refine zj_topi (pk_sub (by omega)) ?_
        refine zj_iconst (v := 1) C dc_T_searchOutline_75 (by decide) ?_
        refine zj_iadd C dc_T_searchOutline_76 ?_
        refine zj_topi (nI_1 _) ?_
        refine zj_aload_n C dc_T_searchOutline_77 rfl 4 rfl ?_
        refine zj_get (k := 1) C (by omega) ((hfr 0 (by omega)).trans h0) rfl (by decide) fw_T fl_T_21 rfl rfl dc_T_searchOutline_78 ?_
        refine zj_get (k := 2) C (by omega) ((hfr 66 (by omega)).trans hq0) rfl (by decide) fw_N fl_T_84 rfl rfl dc_T_searchOutline_81 ?_
        refine zj_Vv C (ct_T_offer _ hst z ad N g2 ts t qc qp qq F2 hN (zs_A_fr hA9 (fun j hj => hfr j (by omega))) (zs_N_fr hq9 (fun j h1 h2 => hfr j (by omega))) hF2 ht pl (e - pl + 1) qc e2c (by rw [hE3] at hok; exact zq_pre hok) (by have h9 := congrArg List.length hE; simp only [List.length_append] at h9 hFl; omega)) gv_T_205 rfl rfl rfl hd_T_offer ⟨(Nat.le_of_ble_eq_true rfl), (Nat.le_of_ble_eq_true rfl)⟩ (by omega) ((hfr 0 (by omega)).trans h0) rfl rfl rfl (Nat.le_of_ble_eq_true rfl) ⟨(Nat.le_of_ble_eq_true rfl), (Nat.le_of_ble_eq_true rfl)⟩ dc_T_searchOutline_84 (fun g3 h1 => ?_)
        obtain ⟨b1, b2⟩ := h1
        refine zj_iinc C dc_T_searchOutline_87 0 rfl (zn_inc e) (by decide) rfl ?_
        refine zj_goto C dc_T_searchOutline_90 rfl ?_
        refine zj_loc (L' := [(6, .int (nI (e + 1))), (5, .int (zo_en (zu_cn (ts t)) (zu_p (ts t)) qp pl kk (qc - 1))), (4, .int (nI pl)), (3, .ref (ad (2 + 8 * t + 1))), (0, .ref (ad 0)), (1, .int (nI t)), (2, .int (nI kk))]) [0, 1, 2, 3, 4, 5, 6] rfl ?_
        exact ih (e + 1) pl g3 (F2 ++ [(fun e => ((t, pl, e - pl + 1, zu_p (ts t) pl - qp 0, qc) : zq_I)) e]) Fr (by omega) (by omega) (by omega) e2c b1 (fun j hj => (b2 j hj).trans (hfr j hj)) hE3 K
  have outer : ∀ (n : Nat) (pl : Nat) (g2 : Nat → va_E) (F2 : List zq_I), zu_cn (ts t) + 1 - qc - pl = n → pl ≤ 21 → zq_F z ad g2 qc F2 → (∀ j, j < 69 ∨ 101 ≤ j → g2 j = g j) → (F ++ zq_cc (zq_ol (zu_cn (ts t)) qc kk t (zu_p (ts t)) qp) 0 (zu_cn (ts t) + 1 - qc)) = F2 ++ zq_cc (zq_ol (zu_cn (ts t)) qc kk t (zu_p (ts t)) qp) pl (zu_cn (ts t) + 1 - qc - pl) → zj_J X 0 0 (zj_Qv X 0 0 ad N (fun g1 => zq_F z ad g1 qc (F ++ zq_cc (zq_ol (zu_cn (ts t)) qc kk t (zu_p (ts t)) qp) 0 (zu_cn (ts t) + 1 - qc)) ∧ ∀ j, j < 69 ∨ 101 ≤ j → g1 j = g j)) ad N g2 13 [(4, .int (nI pl)), (3, .ref (ad (2 + 8 * t + 1))), (0, .ref (ad 0)), (1, .int (nI t)), (2, .int (nI kk))] [] := by
    intro n
    induction n with
    | zero =>
      intro pl g2 F2 e1 e2 hF2 hfr hE
      refine zj_iload C dc_T_searchOutline_13 0 rfl ?_
      refine zj_aload_n C dc_T_searchOutline_15 rfl 2 rfl ?_
      refine zj_get (k := 1) C (by omega) ((hfr 0 (by omega)).trans h0) rfl (by decide) fw_T fl_T_21 rfl rfl dc_T_searchOutline_16 ?_
      refine zj_get (k := 2) C (by omega) ((hfr 66 (by omega)).trans hq0) rfl (by decide) fw_N fl_T_84 rfl rfl dc_T_searchOutline_19 ?_
      refine zj_iadd C dc_T_searchOutline_22 ?_
      refine zj_topi (nI_add _ _) ?_
      refine zj_aload_n C dc_T_searchOutline_23 rfl 1 rfl ?_
      refine zj_get (k := 2) C (by omega) ((hfr (2 + 8 * t + 1) (by omega)).trans (hts t ht).2.1.1) rfl (by decide) fw_N fl_T_84 rfl rfl dc_T_searchOutline_24 ?_
      refine zj_icmp_gt C dc_T_searchOutline_27 rfl (fun _ => ?_) (fun h => absurd h (not_not_intro ((nI_ltI (by omega) (by omega)).mpr (by omega))))
      exact zj_vret C dc_T_searchOutline_99 ⟨by rw [hE, show zu_cn (ts t) + 1 - qc - pl = 0 by omega]; show zq_F z ad g2 qc (F2 ++ []); rw [List.append_nil]; exact hF2, hfr⟩
    | succ n ih =>
      intro pl g2 F2 e1 e2 hF2 hfr hE
      refine zj_iload C dc_T_searchOutline_13 0 rfl ?_
      refine zj_aload_n C dc_T_searchOutline_15 rfl 2 rfl ?_
      refine zj_get (k := 1) C (by omega) ((hfr 0 (by omega)).trans h0) rfl (by decide) fw_T fl_T_21 rfl rfl dc_T_searchOutline_16 ?_
      refine zj_get (k := 2) C (by omega) ((hfr 66 (by omega)).trans hq0) rfl (by decide) fw_N fl_T_84 rfl rfl dc_T_searchOutline_19 ?_
      refine zj_iadd C dc_T_searchOutline_22 ?_
      refine zj_topi (nI_add _ _) ?_
      refine zj_aload_n C dc_T_searchOutline_23 rfl 1 rfl ?_
      refine zj_get (k := 2) C (by omega) ((hfr (2 + 8 * t + 1) (by omega)).trans (hts t ht).2.1.1) rfl (by decide) fw_N fl_T_84 rfl rfl dc_T_searchOutline_24 ?_
      refine zj_icmp_gt C dc_T_searchOutline_27 rfl (fun h => absurd h (((zn_nlt (by omega) (by omega)).mpr (by omega)))) (fun _ => ?_)
      refine zj_aload_n C dc_T_searchOutline_30 rfl 2 rfl ?_
      refine zj_aload_n C dc_T_searchOutline_31 rfl 1 rfl ?_
      refine zj_iload C dc_T_searchOutline_32 0 rfl ?_
      refine zj_iload_n C dc_T_searchOutline_34 rfl 4 rfl ?_
      refine zj_Vi C (ct_T_outlineEnds _ hst z ad N g2 (2 + 8 * t + 1) (zu_cn (ts t)) pl kk qc qp qq (zu_p (ts t)) (zu_q (ts t)) ts hN (by omega) (zs_A_fr hA9 (fun j hj => hfr j (by omega))) (zs_N_fr hq9 (fun j h1 h2 => hfr j (by omega))) (zs_N_fr (hts t ht).2.1 (fun j h1 h2 => hfr j (by omega))) hqc hqc8 (by omega) hcn hkk) gv_T_216 rfl rfl rfl hd_T_outlineEnds ⟨(Nat.le_of_ble_eq_true rfl), (Nat.le_of_ble_eq_true rfl)⟩ (by omega) ((hfr 0 (by omega)).trans h0) rfl rfl rfl (Nat.le_of_ble_eq_true rfl) ⟨(Nat.le_of_ble_eq_true rfl), (Nat.le_of_ble_eq_true rfl)⟩ dc_T_searchOutline_35 (fun r1 g9 h1 => ?_)
      obtain ⟨rfl, hg9⟩ := h1
      rw [hg9]
      have hE2 : (F ++ zq_cc (zq_ol (zu_cn (ts t)) qc kk t (zu_p (ts t)) qp) 0 (zu_cn (ts t) + 1 - qc)) = F2 ++ (zq_nn (fun e => decide (((zo_en (zu_cn (ts t)) (zu_p (ts t)) qp pl kk (qc - 1)) >>> (nI e &&& 31)) &&& 1 = 1)) (fun e => ((t, pl, e - pl + 1, zu_p (ts t) pl - qp 0, qc) : zq_I)) (pl + 1) (zu_cn (ts t) - (pl + 1)) ++ zq_cc (zq_ol (zu_cn (ts t)) qc kk t (zu_p (ts t)) qp) (pl + 1) (zu_cn (ts t) + 1 - qc - (pl + 1))) := by rw [hE, show zu_cn (ts t) + 1 - qc - pl = (zu_cn (ts t) + 1 - qc - (pl + 1)) + 1 by omega, zq_ccS]; rfl
      refine zj_istore C dc_T_searchOutline_38 (by decide) rfl ?_
      refine zj_iload C dc_T_searchOutline_40 1 rfl ?_
      refine zj_iconst (v := 1) C dc_T_searchOutline_42 (by decide) ?_
      refine zj_iadd C dc_T_searchOutline_43 ?_
      refine zj_topi (nI_1 _) ?_
      refine zj_istore C dc_T_searchOutline_44 (by decide) rfl ?_
      refine zj_loc [0, 1, 2, 3, 4, 5, 6] rfl ?_
      refine inner (zu_cn (ts t) - (pl + 1)) (pl + 1) pl g2 F2 _ rfl (by omega) (by omega) (by omega) hF2 hfr hE2 (fun e g2 F2 hF2 hfr hE => ?_)
      refine zj_iinc C dc_T_searchOutline_93 2 rfl (zn_inc pl) (by decide) rfl ?_
      refine zj_goto C dc_T_searchOutline_96 rfl ?_
      refine zj_loc (L' := [(4, .int (nI (pl + 1))), (3, .ref (ad (2 + 8 * t + 1))), (0, .ref (ad 0)), (1, .int (nI t)), (2, .int (nI kk))]) [0, 3, 4, 5, 6] rfl ?_
      exact ih (pl + 1) g2 F2 (by omega) (by omega) hF2 hfr hE
  refine zj_aload_n C dc_T_searchOutline_0 rfl 0 rfl ?_
  refine zj_get (k := 0) C (by omega) h0 rfl (by decide) fw_T fl_T_11 rfl rfl dc_T_searchOutline_1 ?_
  refine zj_iload_n C dc_T_searchOutline_4 rfl 1 rfl ?_
  refine zj_uald C (by omega) hA rfl ht (by decide) dc_T_searchOutline_5 ?_
  refine zj_topv (congrArg va_rf (hf t ht)) ?_
  refine zj_get (k := 0) C (by omega) (hts t ht).1 rfl (by decide) fw_U fl_T_81 rfl rfl dc_T_searchOutline_6 ?_
  refine zj_astore_n C dc_T_searchOutline_9 rfl (by decide) rfl ?_
  refine zj_iconst (v := 0) C dc_T_searchOutline_10 (by decide) ?_
  refine zj_istore C dc_T_searchOutline_11 (by decide) rfl ?_
  refine zj_loc (L' := [(4, .int (nI 0)), (3, .ref (ad (2 + 8 * t + 1))), (0, .ref (ad 0)), (1, .int (nI t)), (2, .int (nI kk))]) [0, 1, 2, 3, 4] rfl ?_
  exact outer (zu_cn (ts t) + 1 - qc) 0 g F rfl (by omega) hF (fun j hj => rfl) rfl
end ZO2
