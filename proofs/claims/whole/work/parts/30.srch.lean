section ZO
set_option maxHeartbeats 4000000 in
set_option maxRecDepth 100000 in
theorem ct_T_offer (l : Launch) (hst : l.stackTraces = false) (z : zv_T) (ad : Nat → Nat) (N : Nat) (g : Nat → va_E) (ts : Nat → zu_S) (t qc : Nat) (qp qq : Nat → Int32) (F : List zq_I) (hN : 108 ≤ N) (hA' : zs_A z ad g ts) (hq : zs_N z ad g 66 8 qc qp qq) (hF : zq_F z ad g qc F) (ht : t < 8) (pl sp c : Nat) (hpl : pl < 20) (hok : zq_ok (F ++ [(t, pl, sp, zu_p (ts t) pl - qp 0, c)])) (hFl : F.length < 2 ^ 30) : zm_v l mn_T_offer ws_T_offer rm_T_offer z ad N g [.ref (ad 0), .int (nI t), .int (nI pl), .int (nI sp), .int (nI c)] (fun g1 => zq_F z ad g1 qc (F ++ [(t, pl, sp, zu_p (ts t) pl - qp 0, c)]) ∧ ∀ j, j < 69 ∨ 101 ≤ j → g1 j = g j) := by
  obtain ⟨h0, ⟨f, hA, hf⟩, hts⟩ := hA'
  obtain ⟨hq0, hq1, hq2⟩ := hq
  obtain ⟨pi, it, s, hs, hr, hfl, hit⟩ := hF
  have hp2 := hs.2.2.2.1
  refine zm_ofv hst pn_T_offer rfl (Nat.le_of_ble_eq_true rfl) (fun X hX C => ?_)
  subst hX
  show zj_J X 0 0 _ ad N g 0 [(0, .ref (ad 0)), (1, .int (nI t)), (2, .int (nI pl)), (3, .int (nI sp)), (4, .int (nI c))] []
  refine zj_aload_n C dc_T_offer_0 rfl 0 rfl ?_
  refine zj_get (k := 0) C (by omega) h0 rfl (by decide) fw_T fl_T_11 rfl rfl dc_T_offer_1 ?_
  refine zj_iload_n C dc_T_offer_4 rfl 1 rfl ?_
  refine zj_uald C (by omega) hA rfl ht (by decide) dc_T_offer_5 ?_
  refine zj_topv (congrArg va_rf (hf t ht)) ?_
  refine zj_get (k := 0) C (by omega) (hts t ht).1 rfl (by decide) fw_U fl_T_81 rfl rfl dc_T_offer_6 ?_
  refine zj_get (k := 0) C (by omega) (hts t ht).2.1.1 rfl (by decide) fw_N fl_T_219 rfl rfl dc_T_offer_9 ?_
  refine zj_iload_n C dc_T_offer_12 rfl 2 rfl ?_
  refine zj_iald C (by omega) (hts t ht).2.1.2.1 rfl hpl (by decide) dc_T_offer_13 ?_
  refine zj_aload_n C dc_T_offer_14 rfl 0 rfl ?_
  refine zj_get (k := 1) C (by omega) h0 rfl (by decide) fw_T fl_T_21 rfl rfl dc_T_offer_15 ?_
  refine zj_get (k := 0) C (by omega) hq0 rfl (by decide) fw_N fl_T_219 rfl rfl dc_T_offer_18 ?_
  refine zj_iconst (v := 0) C dc_T_offer_21 (by decide) ?_
  refine zj_iald C (by omega) hq1 nI_0.symm (by omega) (by decide) dc_T_offer_22 ?_
  refine zj_isub C dc_T_offer_23 ?_
  refine zj_istore C dc_T_offer_24 (by decide) rfl ?_
  refine zj_aload_n C dc_T_offer_26 rfl 1 rfl ?_
  refine zj_get (k := 2) C (by omega) h0 rfl (by decide) fw_T fl_T_28 rfl rfl dc_T_offer_27 ?_
  refine zj_iload_n C dc_T_offer_30 rfl 2 rfl ?_
  refine zj_iload_n C dc_T_offer_31 rfl 3 rfl ?_
  refine zj_iload_n C dc_T_offer_32 rfl 4 rfl ?_
  refine zj_iload C dc_T_offer_33 0 rfl ?_
  refine zj_iload C dc_T_offer_35 5 rfl ?_
  refine zj_Vv C (ct_F_add _ hst z ad N g qc F.length (if 30 < F.length then 30 else F.length) pi it (by omega) hs (nI t) (nI pl) (nI sp) (zu_p (ts t) pl - qp 0) (nI c) (by split <;> omega) hFl) gv_T_241 rfl rfl rfl hd_F_add ⟨(Nat.le_of_ble_eq_true rfl), (Nat.le_of_ble_eq_true rfl)⟩ (by omega) hs.1 rfl rfl rfl (Nat.le_of_ble_eq_true rfl) ⟨(Nat.le_of_ble_eq_true rfl), (Nat.le_of_ble_eq_true rfl)⟩ dc_T_offer_37 (fun g1 h1 => ?_)
  obtain ⟨b1, b2, b3⟩ := h1
  exact zj_vret C dc_T_offer_40 ⟨zq_add (x := (t, pl, sp, zu_p (ts t) pl - qp 0, c)) rfl hok hp2 hr hfl hit b1 b2, b3⟩
end ZO
