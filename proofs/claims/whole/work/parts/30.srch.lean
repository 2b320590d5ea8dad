section ZO
set_option maxHeartbeats 4000000 in
set_option maxRecDepth 100000 in
theorem ct_T_offer (l : Launch) (hst : l.stackTraces = false) (z : zv_T) (ad : Nat → Nat) (N : Nat) (g : Nat → va_E) (ts : Nat → zu_S) (t qc : Nat) (qp qq : Nat → Int32) (F : List zq_I) (hN : 108 ≤ N) (hA' : zs_A z ad g ts) (hq : zs_N z ad g 66 8 qc qp qq) (hF : zq_F z ad g qc F) (ht : t < 8) (pl sp c : Nat) (hpl : pl < 20) (hok : zq_ok (F ++ [(t, pl, sp, zu_p (ts t) pl - qp 0, c)])) (hFl : F.length < 2 ^ 30) : zm_v l mn_T_offer ws_T_offer rm_T_offer z ad N g [.ref (ad 0), .int (nI t), .int (nI pl), .int (nI sp), .int (nI c)] (fun g1 => zq_F z ad g1 qc (F ++ [(t, pl, sp, zu_p (ts t) pl - qp 0, c)]) ∧ ∀ j, j < 69 ∨ 101 ≤ j → g1 j = g j) := by
  obtain ⟨h0, ⟨f, hA, hf⟩, hts⟩ := hA'
  obtain ⟨hq0, hq1, hq2⟩ := hq
  obtain ⟨pi, it, s, hs, hr, hfl, hit⟩ := hF
  have hp2 := hs.2.2.2.1
  refine zm_ofv hst pn_T_offer rfl (Nat.le_of_ble_eq_true rfl) (fun X hX C => ?_)
  subst hX
  show zj_J X 0 0 _ ad N g 0 [(0, .ref (ad 0)), (1, .int (nI t)), (2, .int (nI pl)), (3, .int (nI sp)), (4, .int (nI c))] []
  refine zj_aload_n C dc_T_offer_0 rfl 0 rfl ?_
  refine zj_get (k := 0) C (by omega) h0 rfl (by decide) fw_T fl_T_11 rfl rfl dc_T_offer_1 ?_
  refine zj_iload_n C dc_T_offer_4 rfl 1 rfl ?_
  refine zj_uald C (by omega) hA rfl ht (by decide) dc_T_offer_5 ?_
  refine zj_topv (congrArg va_rf (hf t ht)) ?_
  refine zj_get (k := 0) C (by omega) (hts t ht).1 rfl (by decide) fw_U fl_T_81 rfl rfl dc_T_offer_6 ?_
  refine zj_get (k := 0) C (by omega) (hts t ht).2.1.1 rfl (by decide) fw_N fl_T_219 rfl rfl dc_T_offer_9 ?_
  refine zj_iload_n C dc_T_offer_12 rfl 2 rfl ?_
  refine zj_iald C (by omega) (hts t ht).2.1.2.1 rfl hpl (by decide) dc_T_offer_13 ?_
  refine zj_aload_n C dc_T_offer_14 rfl 0 rfl ?_
  refine zj_get (k := 1) C (by omega) h0 rfl (by decide) fw_T fl_T_21 rfl rfl dc_T_offer_15 ?_
  refine zj_get (k := 0) C (by omega) hq0 rfl (by decide) fw_N fl_T_219 rfl rfl dc_T_offer_18 ?_
  refine zj_iconst (v := 0) C dc_T_offer_21 (by decide) ?_
  refine zj_iald C (by omega) hq1 nI_0.symm (by omega) (by decide) dc_T_offer_22 ?_
  refine zj_isub C dc_T_offer_23 ?_
  refine zj_istore C dc_T_offer_24 (by decide) rfl ?_
  refine zj_aload_n C dc_T_offer_26 rfl 1 rfl ?_
  refine zj_get (k := 2) C (by omega) h0 rfl (by decide) fw_T fl_T_28 rfl rfl dc_T_offer_27 ?_
  refine zj_iload_n C dc_T_offer_30 rfl 2 rfl ?_
  refine zj_iload_n C dc_T_offer_31 rfl 3 rfl ?_
  refine zj_iload_n C dc_T_offer_32 rfl 4 rfl ?_
  refine zj_iload C dc_T_offer_33 0 rfl ?_
  refine zj_iload C dc_T_offer_35 5 rfl ?_
  refine zj_Vv C (ct_F_add _ hst z ad N g qc F.length (if 30 < F.length then 30 else F.length) pi it (by omega) hs (nI t) (nI pl) (nI sp) (zu_p (ts t) pl - qp 0) (nI c) (by split <;> omega) hFl) gv_T_241 rfl rfl rfl hd_F_add ⟨(Nat.le_of_ble_eq_true rfl), (Nat.le_of_ble_eq_true rfl)⟩ (by omega) hs.1 rfl rfl rfl (Nat.le_of_ble_eq_true rfl) ⟨(Nat.le_of_ble_eq_true rfl), (Nat.le_of_ble_eq_true rfl)⟩ dc_T_offer_37 (fun g1 h1 => ?_)
  obtain ⟨b1, b2, b3⟩ := h1
  exact zj_vret C dc_T_offer_40 ⟨zq_add (x := (t, pl, sp, zu_p (ts t) pl - qp 0, c)) rfl hok hp2 hr hfl hit b1 b2, b3⟩
theorem zs_N_fr {z : zv_T} {ad : Nat → Nat} {g g2 : Nat → va_E} {i most c : Nat} {p q : Nat → Int32} (h : zs_N z ad g i most c p q) (hf : ∀ j, i ≤ j → j ≤ i + 2 → g2 j = g j) : zs_N z ad g2 i most c p q :=
  ⟨(hf i (by omega) (by omega)).trans h.1, (hf (i + 1) (by omega) (by omega)).trans h.2.1, (hf (i + 2) (by omega) (by omega)).trans h.2.2⟩
theorem zs_V_fr {z : zv_T} {ad : Nat → Nat} {g g2 : Nat → va_E} {b : Nat} {s : zu_S} (h : zs_V z ad g b s) (hf : ∀ j, b ≤ j → j ≤ b + 7 → g2 j = g j) : zs_V z ad g2 b s :=
  ⟨(hf b (by omega) (by omega)).trans h.1, zs_N_fr h.2.1 (fun j h1 h2 => hf j (by omega) (by omega)), (hf (b + 4) (by omega) (by omega)).trans h.2.2.1, zs_N_fr h.2.2.2 (fun j h1 h2 => hf j (by omega) (by omega))⟩
theorem zs_A_fr {z : zv_T} {ad : Nat → Nat} {g g2 : Nat → va_E} {ts : Nat → zu_S} (h : zs_A z ad g ts) (hf : ∀ j, j < 66 → g2 j = g j) : zs_A z ad g2 ts := by
  obtain ⟨h0, ⟨f, hA, hff⟩, hts⟩ := h
  exact ⟨(hf 0 (by omega)).trans h0, ⟨f, (hf 1 (by omega)).trans hA, hff⟩, fun t ht => zs_V_fr (hts t ht) (fun j h1 h2 => hf j (by omega))⟩
theorem zq_pre {A B : List zq_I} (h : zq_ok (A ++ B)) : zq_ok A := fun x hx => h x (List.mem_append_left _ hx)
/-- a passage fits note by note -/
def zp_e1 (qp p : Nat → Int32) (pl : Nat) : Nat → Bool := fun k => decide (qp (k + 1) - qp k = p (pl + k + 1) - p (pl + k))
def zp_e3 (qq q : Nat → Int32) (pl : Nat) : Nat → Bool := fun k => decide (qq (k + 1) * q pl = q (pl + (k + 1)) * qq 0)
def zp_e5 (qp p : Nat → Int32) (pl : Nat) : Nat → Bool := fun k => decide (zp_sg (qp (k + 1) - qp k) = zp_sg (p (pl + k + 1) - p (pl + k)))
def zp_fit (kd qc : Nat) (qp qq p q : Nat → Int32) (pl : Nat) : Bool := match kd with
  | 0 => zp_all (zp_e1 qp p pl) (qc - 1) && zp_all (zp_e3 qq q pl) (qc - 1)
  | 1 => zp_all (zp_e1 qp p pl) (qc - 1)
  | 2 => zp_all (zp_e5 qp p pl) (qc - 1)
  | _ => zp_all (zp_e3 qq q pl) (qc - 1)
set_option maxHeartbeats 4000000 in
set_option maxRecDepth 100000 in
theorem ct_T_fits (l : Launch) (hst : l.stackTraces = false) (z : zv_T) (ad : Nat → Nat) (N : Nat) (g : Nat → va_E) (ni nc pl kd qc : Nat) (qp qq p q : Nat → Int32) (ts : Nat → zu_S) (hN : 108 ≤ N) (hnN : ni + 2 < 66) (hA' : zs_A z ad g ts) (hq : zs_N z ad g 66 8 qc qp qq) (hn : zs_N z ad g ni 20 nc p q) (hqc : 2 ≤ qc) (hqc8 : qc ≤ 8) (hpl : pl + qc ≤ 20) (hkd : kd ≤ 3) : zm_i l mn_T_fits ws_T_fits rm_T_fits z ad N g [.ref (ad 0), .int (nI kd), .ref (ad ni), .int (nI pl)] (fun r g1 => r = zb_i (zp_fit kd qc qp qq p q pl) ∧ g1 = g) := by
  obtain ⟨h0, ⟨f, hA, hf⟩, hts⟩ := hA'
  obtain ⟨hq0, hq1, hq2⟩ := hq
  obtain ⟨hn0, hn1, hn2⟩ := hn
  refine zm_ofz hst pn_T_fits rfl (Nat.le_of_ble_eq_true rfl) (fun X hX C => ?_)
  subst hX
  show zj_J X 0 0 _ ad N g 0 [(0, .ref (ad 0)), (1, .int (nI kd)), (2, .ref (ad ni)), (3, .int (nI pl))] []
  refine zj_iload_n C dc_T_fits_0 rfl 1 rfl ?_
  have hk4 : kd = 0 ∨ kd = 1 ∨ kd = 2 ∨ kd = 3 := by omega
  rcases hk4 with rfl | rfl | rfl | rfl
  · refine zj_tableIn C dc_T_fits_1 (by decide) (by decide) rfl rfl ?_
    refine zj_aload_n C dc_T_fits_28 rfl 0 rfl ?_
    refine zj_get (k := 1) C (by omega) h0 rfl (by decide) fw_T fl_T_21 rfl rfl dc_T_fits_29 ?_
    refine zj_aload_n C dc_T_fits_32 rfl 0 rfl ?_
    refine zj_get (k := 1) C (by omega) h0 rfl (by decide) fw_T fl_T_21 rfl rfl dc_T_fits_33 ?_
    refine zj_get (k := 2) C (by omega) hq0 rfl (by decide) fw_N fl_T_84 rfl rfl dc_T_fits_36 ?_
    refine zj_aload_n C dc_T_fits_39 rfl 2 rfl ?_
    refine zj_iload_n C dc_T_fits_40 rfl 3 rfl ?_
    refine zj_Si C (ct_T_sameSteps _ hst z ad N g 66 8 qc ni nc pl qp qq p q (by omega) (by omega) ⟨hq0, hq1, hq2⟩ ⟨hn0, hn1, hn2⟩ (by decide) qc (by omega) (by omega) hpl) gv_T_181 rfl rfl rfl hd_T_sameSteps ⟨(Nat.le_of_ble_eq_true rfl), (Nat.le_of_ble_eq_true rfl)⟩ rfl rfl (Nat.le_of_ble_eq_true rfl) ⟨(Nat.le_of_ble_eq_true rfl), (Nat.le_of_ble_eq_true rfl)⟩ dc_T_fits_41 (fun r1 g9 h1 => ?_)
    obtain ⟨rfl, hg9⟩ := h1
    rw [hg9]
    refine zj_if_eq C dc_T_fits_44 rfl (fun h44 => ?_) (fun h44 => ?_)
    · have h44 := zb_i0 h44
      refine zj_iconst (v := 0) C dc_T_fits_63 (by decide) ?_
      exact zj_zret C dc_T_fits_64 rfl ⟨(by show _ = zb_i (zp_all (zp_e1 qp p pl) (qc - 1) && _); rw [show zp_all (zp_e1 qp p pl) (qc - 1) = false from h44]; rfl), rfl⟩
    · have h44 := zb_i1 h44
      refine zj_aload_n C dc_T_fits_47 rfl 0 rfl ?_
      refine zj_get (k := 1) C (by omega) h0 rfl (by decide) fw_T fl_T_21 rfl rfl dc_T_fits_48 ?_
      refine zj_aload_n C dc_T_fits_51 rfl 2 rfl ?_
      refine zj_iload_n C dc_T_fits_52 rfl 3 rfl ?_
      refine zj_Si C (ct_T_sameRatio _ hst z ad N g 66 8 qc ni nc pl qp qq p q (by omega) (by omega) ⟨hq0, hq1, hq2⟩ ⟨hn0, hn1, hn2⟩ (by decide) (by omega) (by omega) hpl) gv_T_209 rfl rfl rfl hd_T_sameRatio ⟨(Nat.le_of_ble_eq_true rfl), (Nat.le_of_ble_eq_true rfl)⟩ rfl rfl (Nat.le_of_ble_eq_true rfl) ⟨(Nat.le_of_ble_eq_true rfl), (Nat.le_of_ble_eq_true rfl)⟩ dc_T_fits_53 (fun r2 g9 h1 => ?_)
      obtain ⟨rfl, hg9⟩ := h1
      rw [hg9]
      refine zj_if_eq C dc_T_fits_56 rfl (fun h56 => ?_) (fun h56 => ?_)
      · have h56 := zb_i0 h56
        refine zj_iconst (v := 0) C dc_T_fits_63 (by decide) ?_
        exact zj_zret C dc_T_fits_64 rfl ⟨(by show _ = zb_i (_ && zp_all (zp_e3 qq q pl) (qc - 1)); rw [show zp_all (zp_e3 qq q pl) (qc - 1) = false from h56, Bool.and_false]; rfl), rfl⟩
      · have h56 := zb_i1 h56
        refine zj_iconst (v := 1) C dc_T_fits_59 (by decide) ?_
        refine zj_goto C dc_T_fits_60 rfl ?_
        exact zj_zret C dc_T_fits_64 rfl ⟨(by show _ = zb_i (zp_all (zp_e1 qp p pl) (qc - 1) && zp_all (zp_e3 qq q pl) (qc - 1)); rw [show zp_all (zp_e1 qp p pl) (qc - 1) = true from h44, show zp_all (zp_e3 qq q pl) (qc - 1) = true from h56]; rfl), rfl⟩
  · refine zj_tableIn C dc_T_fits_1 (by decide) (by decide) rfl rfl ?_
    refine zj_aload_n C dc_T_fits_65 rfl 0 rfl ?_
    refine zj_get (k := 1) C (by omega) h0 rfl (by decide) fw_T fl_T_21 rfl rfl dc_T_fits_66 ?_
    refine zj_aload_n C dc_T_fits_69 rfl 0 rfl ?_
    refine zj_get (k := 1) C (by omega) h0 rfl (by decide) fw_T fl_T_21 rfl rfl dc_T_fits_70 ?_
    refine zj_get (k := 2) C (by omega) hq0 rfl (by decide) fw_N fl_T_84 rfl rfl dc_T_fits_73 ?_
    refine zj_aload_n C dc_T_fits_76 rfl 2 rfl ?_
    refine zj_iload_n C dc_T_fits_77 rfl 3 rfl ?_
    refine zj_Si C (ct_T_sameSteps _ hst z ad N g 66 8 qc ni nc pl qp qq p q (by omega) (by omega) ⟨hq0, hq1, hq2⟩ ⟨hn0, hn1, hn2⟩ (by decide) qc (by omega) (by omega) hpl) gv_T_181 rfl rfl rfl hd_T_sameSteps ⟨(Nat.le_of_ble_eq_true rfl), (Nat.le_of_ble_eq_true rfl)⟩ rfl rfl (Nat.le_of_ble_eq_true rfl) ⟨(Nat.le_of_ble_eq_true rfl), (Nat.le_of_ble_eq_true rfl)⟩ dc_T_fits_78 (fun r1 g9 h1 => ?_)
    obtain ⟨rfl, hg9⟩ := h1
    rw [hg9]
    exact zj_zret C dc_T_fits_81 (by first | rfl | (unfold zb_i; split <;> rfl)) ⟨rfl, rfl⟩
  · refine zj_tableIn C dc_T_fits_1 (by decide) (by decide) rfl rfl ?_
    refine zj_aload_n C dc_T_fits_82 rfl 0 rfl ?_
    refine zj_get (k := 1) C (by omega) h0 rfl (by decide) fw_T fl_T_21 rfl rfl dc_T_fits_83 ?_
    refine zj_aload_n C dc_T_fits_86 rfl 2 rfl ?_
    refine zj_iload_n C dc_T_fits_87 rfl 3 rfl ?_
    refine zj_Si C (ct_T_sameContour _ hst z ad N g 66 8 qc ni nc pl qp qq p q (by omega) (by omega) ⟨hq0, hq1, hq2⟩ ⟨hn0, hn1, hn2⟩ (by decide) (by omega) (by omega) hpl) gv_T_213 rfl rfl rfl hd_T_sameContour ⟨(Nat.le_of_ble_eq_true rfl), (Nat.le_of_ble_eq_true rfl)⟩ rfl rfl (Nat.le_of_ble_eq_true rfl) ⟨(Nat.le_of_ble_eq_true rfl), (Nat.le_of_ble_eq_true rfl)⟩ dc_T_fits_88 (fun r1 g9 h1 => ?_)
    obtain ⟨rfl, hg9⟩ := h1
    rw [hg9]
    exact zj_zret C dc_T_fits_91 (by first | rfl | (unfold zb_i; split <;> rfl)) ⟨rfl, rfl⟩
  · refine zj_tableOut C dc_T_fits_1 (Or.inr (by decide)) rfl ?_
    refine zj_aload_n C dc_T_fits_92 rfl 0 rfl ?_
    refine zj_get (k := 1) C (by omega) h0 rfl (by decide) fw_T fl_T_21 rfl rfl dc_T_fits_93 ?_
    refine zj_aload_n C dc_T_fits_96 rfl 2 rfl ?_
    refine zj_iload_n C dc_T_fits_97 rfl 3 rfl ?_
    refine zj_Si C (ct_T_sameRatio _ hst z ad N g 66 8 qc ni nc pl qp qq p q (by omega) (by omega) ⟨hq0, hq1, hq2⟩ ⟨hn0, hn1, hn2⟩ (by decide) (by omega) (by omega) hpl) gv_T_209 rfl rfl rfl hd_T_sameRatio ⟨(Nat.le_of_ble_eq_true rfl), (Nat.le_of_ble_eq_true rfl)⟩ rfl rfl (Nat.le_of_ble_eq_true rfl) ⟨(Nat.le_of_ble_eq_true rfl), (Nat.le_of_ble_eq_true rfl)⟩ dc_T_fits_98 (fun r2 g9 h1 => ?_)
    obtain ⟨rfl, hg9⟩ := h1
    rw [hg9]
    exact zj_zret C dc_T_fits_101 (by first | rfl | (unfold zb_i; split <;> rfl)) ⟨rfl, rfl⟩
/-- those of the places pl, pl + 1 .. that fit -/
def zq_nn (fit : Nat → Bool) (mk : Nat → zq_I) : Nat → Nat → List zq_I
  | _, 0 => []
  | pl, n + 1 => (if fit pl then [mk pl] else []) ++ zq_nn fit mk (pl + 1) n
theorem zq_nnS (fit : Nat → Bool) (mk : Nat → zq_I) (pl n : Nat) : zq_nn fit mk pl (n + 1) = (if fit pl then [mk pl] else []) ++ zq_nn fit mk (pl + 1) n := rfl
set_option maxHeartbeats 4000000 in
set_option maxRecDepth 100000 in
theorem ct_T_searchNoteByNote (l : Launch) (hst : l.stackTraces = false) (z : zv_T) (ad : Nat → Nat) (N : Nat) (g : Nat → va_E) (ts : Nat → zu_S) (t qc : Nat) (qp qq : Nat → Int32) (F : List zq_I) (hN : 108 ≤ N) (hA' : zs_A z ad g ts) (hq : zs_N z ad g 66 8 qc qp qq) (hF : zq_F z ad g qc F) (ht : t < 8) (kd : Nat) (hkd : kd ≤ 3) (hqc : 2 ≤ qc) (hqc8 : qc ≤ 8) (hcn : zu_cn (ts t) ≤ 20) (hok : zq_ok (F ++ zq_nn (zp_fit kd qc qp qq (zu_p (ts t)) (zu_q (ts t))) (fun pl => ((t, pl, qc, zu_p (ts t) pl - qp 0, qc) : zq_I)) 0 (zu_cn (ts t) + 1 - qc))) (hFl : (F ++ zq_nn (zp_fit kd qc qp qq (zu_p (ts t)) (zu_q (ts t))) (fun pl => ((t, pl, qc, zu_p (ts t) pl - qp 0, qc) : zq_I)) 0 (zu_cn (ts t) + 1 - qc)).length < 2 ^ 30) : zm_v l mn_T_searchNoteByNote ws_T_searchNoteByNote rm_T_searchNoteByNote z ad N g [.ref (ad 0), .int (nI t), .int (nI kd)] (fun g1 => zq_F z ad g1 qc (F ++ zq_nn (zp_fit kd qc qp qq (zu_p (ts t)) (zu_q (ts t))) (fun pl => ((t, pl, qc, zu_p (ts t) pl - qp 0, qc) : zq_I)) 0 (zu_cn (ts t) + 1 - qc)) ∧ ∀ j, j < 69 ∨ 101 ≤ j → g1 j = g j) := by
  have hA9 := hA'
  have hq9 := hq
  obtain ⟨h0, ⟨f, hA, hf⟩, hts⟩ := hA'
  obtain ⟨hq0, hq1, hq2⟩ := hq
  refine zm_ofv hst pn_T_searchNoteByNote rfl (Nat.le_of_ble_eq_true rfl) (fun X hX C => ?_)
  subst hX
  show zj_J X 0 0 _ ad N g 0 [(0, .ref (ad 0)), (1, .int (nI t)), (2, .int (nI kd))] []
  have loop : ∀ (n : Nat) (pl : Nat) (g2 : Nat → va_E) (F2 : List zq_I), zu_cn (ts t) + 1 - qc - pl = n → pl ≤ 21 → zq_F z ad g2 qc F2 → (∀ j, j < 69 ∨ 101 ≤ j → g2 j = g j) → (F ++ zq_nn (zp_fit kd qc qp qq (zu_p (ts t)) (zu_q (ts t))) (fun pl => ((t, pl, qc, zu_p (ts t) pl - qp 0, qc) : zq_I)) 0 (zu_cn (ts t) + 1 - qc)) = F2 ++ zq_nn (zp_fit kd qc qp qq (zu_p (ts t)) (zu_q (ts t))) (fun pl => ((t, pl, qc, zu_p (ts t) pl - qp 0, qc) : zq_I)) pl (zu_cn (ts t) + 1 - qc - pl) → zj_J X 0 0 (zj_Qv X 0 0 ad N (fun g1 => zq_F z ad g1 qc (F ++ zq_nn (zp_fit kd qc qp qq (zu_p (ts t)) (zu_q (ts t))) (fun pl => ((t, pl, qc, zu_p (ts t) pl - qp 0, qc) : zq_I)) 0 (zu_cn (ts t) + 1 - qc)) ∧ ∀ j, j < 69 ∨ 101 ≤ j → g1 j = g j)) ad N g2 13 [(4, .int (nI pl)), (3, .ref (ad (2 + 8 * t + 1))), (0, .ref (ad 0)), (1, .int (nI t)), (2, .int (nI kd))] [] := by
    intro n
    induction n with
    | zero =>
      intro pl g2 F2 e1 e2 hF2 hfr hE
      refine zj_iload C dc_T_searchNoteByNote_13 0 rfl ?_
      refine zj_aload_n C dc_T_searchNoteByNote_15 rfl 2 rfl ?_
      refine zj_get (k := 1) C (by omega) ((hfr 0 (by omega)).trans h0) rfl (by decide) fw_T fl_T_21 rfl rfl dc_T_searchNoteByNote_16 ?_
      refine zj_get (k := 2) C (by omega) ((hfr 66 (by omega)).trans hq0) rfl (by decide) fw_N fl_T_84 rfl rfl dc_T_searchNoteByNote_19 ?_
      refine zj_iadd C dc_T_searchNoteByNote_22 ?_
      refine zj_topi (nI_add _ _) ?_
      refine zj_aload_n C dc_T_searchNoteByNote_23 rfl 1 rfl ?_
      refine zj_get (k := 2) C (by omega) ((hfr (2 + 8 * t + 1) (by omega)).trans (hts t ht).2.1.1) rfl (by decide) fw_N fl_T_84 rfl rfl dc_T_searchNoteByNote_24 ?_
      refine zj_icmp_gt C dc_T_searchNoteByNote_27 rfl (fun _ => ?_) (fun h => absurd h (not_not_intro ((nI_ltI (by omega) (by omega)).mpr (by omega))))
      exact zj_vret C dc_T_searchNoteByNote_68 ⟨by rw [hE, show zu_cn (ts t) + 1 - qc - pl = 0 by omega]; show zq_F z ad g2 qc (F2 ++ []); rw [List.append_nil]; exact hF2, hfr⟩
    | succ n ih =>
      intro pl g2 F2 e1 e2 hF2 hfr hE
      refine zj_iload C dc_T_searchNoteByNote_13 0 rfl ?_
      refine zj_aload_n C dc_T_searchNoteByNote_15 rfl 2 rfl ?_
      refine zj_get (k := 1) C (by omega) ((hfr 0 (by omega)).trans h0) rfl (by decide) fw_T fl_T_21 rfl rfl dc_T_searchNoteByNote_16 ?_
      refine zj_get (k := 2) C (by omega) ((hfr 66 (by omega)).trans hq0) rfl (by decide) fw_N fl_T_84 rfl rfl dc_T_searchNoteByNote_19 ?_
      refine zj_iadd C dc_T_searchNoteByNote_22 ?_
      refine zj_topi (nI_add _ _) ?_
      refine zj_aload_n C dc_T_searchNoteByNote_23 rfl 1 rfl ?_
      refine zj_get (k := 2) C (by omega) ((hfr (2 + 8 * t + 1) (by omega)).trans (hts t ht).2.1.1) rfl (by decide) fw_N fl_T_84 rfl rfl dc_T_searchNoteByNote_24 ?_
      refine zj_icmp_gt C dc_T_searchNoteByNote_27 rfl (fun h => absurd h (((zn_nlt (by omega) (by omega)).mpr (by omega)))) (fun _ => ?_)
      refine zj_aload_n C dc_T_searchNoteByNote_30 rfl 2 rfl ?_
      refine zj_iload_n C dc_T_searchNoteByNote_31 rfl 4 rfl ?_
      refine zj_aload_n C dc_T_searchNoteByNote_32 rfl 1 rfl ?_
      refine zj_iload C dc_T_searchNoteByNote_33 0 rfl ?_
      refine zj_Vi C (ct_T_fits _ hst z ad N g2 (2 + 8 * t + 1) (zu_cn (ts t)) pl kd qc qp qq (zu_p (ts t)) (zu_q (ts t)) ts hN (by omega) (zs_A_fr hA9 (fun j hj => hfr j (by omega))) (zs_N_fr hq9 (fun j h1 h2 => hfr j (by omega))) (zs_N_fr (hts t ht).2.1 (fun j h1 h2 => hfr j (by omega))) hqc hqc8 (by omega) hkd) gv_T_201 rfl rfl rfl hd_T_fits ⟨(Nat.le_of_ble_eq_true rfl), (Nat.le_of_ble_eq_true rfl)⟩ (by omega) ((hfr 0 (by omega)).trans h0) rfl rfl rfl (Nat.le_of_ble_eq_true rfl) ⟨(Nat.le_of_ble_eq_true rfl), (Nat.le_of_ble_eq_true rfl)⟩ dc_T_searchNoteByNote_35 (fun r1 g9 h1 => ?_)
      obtain ⟨rfl, hg9⟩ := h1
      rw [hg9]
      have hE2 := hE
      rw [show zu_cn (ts t) + 1 - qc - pl = (zu_cn (ts t) + 1 - qc - (pl + 1)) + 1 by omega, zq_nnS] at hE2
      refine zj_if_eq C dc_T_searchNoteByNote_38 rfl (fun h38 => ?_) (fun h38 => ?_)
      · have h38 := zb_i0 h38
        refine zj_iinc C dc_T_searchNoteByNote_62 0 rfl (zn_inc pl) (by decide) rfl ?_
        refine zj_goto C dc_T_searchNoteByNote_65 rfl ?_
        refine zj_loc (L' := [(4, .int (nI (pl + 1))), (3, .ref (ad (2 + 8 * t + 1))), (0, .ref (ad 0)), (1, .int (nI t)), (2, .int (nI kd))]) [0, 1, 2, 3, 4] rfl ?_
        exact ih (pl + 1) g2 F2 (by omega) (by omega) hF2 hfr (by rw [hE2, if_neg (by rw [h38]; exact Bool.false_ne_true)]; rfl)
      · have h38 := zb_i1 h38
        rw [if_pos h38] at hE2
        have hE3 : (F ++ zq_nn (zp_fit kd qc qp qq (zu_p (ts t)) (zu_q (ts t))) (fun pl => ((t, pl, qc, zu_p (ts t) pl - qp 0, qc) : zq_I)) 0 (zu_cn (ts t) + 1 - qc)) = (F2 ++ [(fun pl => ((t, pl, qc, zu_p (ts t) pl - qp 0, qc) : zq_I)) pl]) ++ zq_nn (zp_fit kd qc qp qq (zu_p (ts t)) (zu_q (ts t))) (fun pl => ((t, pl, qc, zu_p (ts t) pl - qp 0, qc) : zq_I)) (pl + 1) (zu_cn (ts t) + 1 - qc - (pl + 1)) := by rw [hE2, List.append_assoc]
        refine zj_aload_n C dc_T_searchNoteByNote_41 rfl 2 rfl ?_
        refine zj_iload_n C dc_T_searchNoteByNote_42 rfl 3 rfl ?_
        refine zj_iload C dc_T_searchNoteByNote_43 0 rfl ?_
        refine zj_aload_n C dc_T_searchNoteByNote_45 rfl 2 rfl ?_
        refine zj_get (k := 1) C (by omega) ((hfr 0 (by omega)).trans h0) rfl (by decide) fw_T fl_T_21 rfl rfl dc_T_searchNoteByNote_46 ?_
        refine zj_get (k := 2) C (by omega) ((hfr 66 (by omega)).trans hq0) rfl (by decide) fw_N fl_T_84 rfl rfl dc_T_searchNoteByNote_49 ?_
        refine zj_aload_n C dc_T_searchNoteByNote_52 rfl 2 rfl ?_
        refine zj_get (k := 1) C (by omega) ((hfr 0 (by omega)).trans h0) rfl (by decide) fw_T fl_T_21 rfl rfl dc_T_searchNoteByNote_53 ?_
        refine zj_get (k := 2) C (by omega) ((hfr 66 (by omega)).trans hq0) rfl (by decide) fw_N fl_T_84 rfl rfl dc_T_searchNoteByNote_56 ?_
        refine zj_Vv C (ct_T_offer _ hst z ad N g2 ts t qc qp qq F2 hN (zs_A_fr hA9 (fun j hj => hfr j (by omega))) (zs_N_fr hq9 (fun j h1 h2 => hfr j (by omega))) hF2 ht pl qc qc (by omega) (by rw [hE3] at hok; exact zq_pre hok) (by have h9 := congrArg List.length hE; simp only [List.length_append] at h9 hFl; omega)) gv_T_205 rfl rfl rfl hd_T_offer ⟨(Nat.le_of_ble_eq_true rfl), (Nat.le_of_ble_eq_true rfl)⟩ (by omega) ((hfr 0 (by omega)).trans h0) rfl rfl rfl (Nat.le_of_ble_eq_true rfl) ⟨(Nat.le_of_ble_eq_true rfl), (Nat.le_of_ble_eq_true rfl)⟩ dc_T_searchNoteByNote_59 (fun g3 h1 => ?_)
        obtain ⟨b1, b2⟩ := h1
        refine zj_iinc C dc_T_searchNoteByNote_62 0 rfl (zn_inc pl) (by decide) rfl ?_
        refine zj_goto C dc_T_searchNoteByNote_65 rfl ?_
        refine zj_loc (L' := [(4, .int (nI (pl + 1))), (3, .ref (ad (2 + 8 * t + 1))), (0, .ref (ad 0)), (1, .int (nI t)), (2, .int (nI kd))]) [0, 1, 2, 3, 4] rfl ?_
        exact ih (pl + 1) g3 (F2 ++ [(fun pl => ((t, pl, qc, zu_p (ts t) pl - qp 0, qc) : zq_I)) pl]) (by omega) (by omega) b1 (fun j hj => (b2 j hj).trans (hfr j hj)) hE3
  refine zj_aload_n C dc_T_searchNoteByNote_0 rfl 0 rfl ?_
  refine zj_get (k := 0) C (by omega) h0 rfl (by decide) fw_T fl_T_11 rfl rfl dc_T_searchNoteByNote_1 ?_
  refine zj_iload_n C dc_T_searchNoteByNote_4 rfl 1 rfl ?_
  refine zj_uald C (by omega) hA rfl ht (by decide) dc_T_searchNoteByNote_5 ?_
  refine zj_topv (congrArg va_rf (hf t ht)) ?_
  refine zj_get (k := 0) C (by omega) (hts t ht).1 rfl (by decide) fw_U fl_T_81 rfl rfl dc_T_searchNoteByNote_6 ?_
  refine zj_astore_n C dc_T_searchNoteByNote_9 rfl (by decide) rfl ?_
  refine zj_iconst (v := 0) C dc_T_searchNoteByNote_10 (by decide) ?_
  refine zj_istore C dc_T_searchNoteByNote_11 (by decide) rfl ?_
  refine zj_loc (L' := [(4, .int (nI 0)), (3, .ref (ad (2 + 8 * t + 1))), (0, .ref (ad 0)), (1, .int (nI t)), (2, .int (nI kd))]) [0, 1, 2, 3, 4] rfl ?_
  exact loop (zu_cn (ts t) + 1 - qc) 0 g F rfl (by omega) hF (fun j hj => rfl) rfl
end ZO
