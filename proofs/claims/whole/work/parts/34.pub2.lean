section ZP2
set_option maxHeartbeats 4000000 in
set_option maxRecDepth 100000 in
theorem ct_T_at (l : Launch) (hst : l.stackTraces = false) (z : zv_T) (ad : Nat → Nat) (N : Nat) (g : Nat → va_E) (ts : Nat → zu_S) (id : Int32) (hN : 108 ≤ N) (hs : zs_A z ad g ts) (pl w rd : Int32) (hcn : ∀ t, t < 8 → zu_cn (ts t) ≤ 20) (hlr : ∀ t, t < 8 → zu_lr (ts t) ≤ 8) : zx_i l mn_T_at ws_T_at rm_T_at z ad N g [.ref (ad 0), .int id, .int pl, .int w, .int rd] 4 24 (fun v g1 => ∃ t k r, zp_is ts id t ∧ k < zu_cn (ts t) ∧ pl = nI k ∧ r ≤ zu_lr (ts t) ∧ ((rd = -1 ∧ r = zu_lr (ts t)) ∨ rd = nI r) ∧ ((w = nI 0 ∧ v = zp_in (zu_p (ts t)) (zu_rp (ts t)) (zp_ra (zu_pr (ts t)) (nI (k)) r (zu_lr (ts t) - r)) (k)) ∨ (w = nI 1 ∧ v = zp_in (zu_q (ts t)) (zu_rq (ts t)) (zp_ra (zu_pr (ts t)) (nI (k)) r (zu_lr (ts t) - r)) (k)) ∨ (w = nI 2 ∧ v = (if k + 1 < zu_cn (ts t) then zp_in (zu_p (ts t)) (zu_rp (ts t)) (zp_ra (zu_pr (ts t)) (nI (k + 1)) r (zu_lr (ts t) - r)) (k + 1) - zp_in (zu_p (ts t)) (zu_rp (ts t)) (zp_ra (zu_pr (ts t)) (nI (k)) r (zu_lr (ts t) - r)) (k) else 0))) ∧ g1 = g) (fun E g1 => g1 = g ∧ ((E = "java/lang/IndexOutOfBoundsException" ∧ ((∀ t, ¬ zp_is ts id t) ∨ (∃ t, zp_is ts id t ∧ ∀ k, k < zu_cn (ts t) → ¬ pl = nI k) ∨ ∃ t k, zp_is ts id t ∧ k < zu_cn (ts t) ∧ pl = nI k ∧ ¬ rd = -1 ∧ ∀ r, r ≤ zu_lr (ts t) → ¬ rd = nI r)) ∨ (E = "java/lang/IllegalArgumentException" ∧ (∃ t k r, zp_is ts id t ∧ k < zu_cn (ts t) ∧ pl = nI k ∧ r ≤ zu_lr (ts t) ∧ ((rd = -1 ∧ r = zu_lr (ts t)) ∨ rd = nI r)) ∧ ∀ k, k < 3 → ¬ w = nI k))) := by
  have hA9 := hs
  obtain ⟨h0, ⟨f, hA, hf⟩, hts⟩ := hs
  refine zx_ofi hst pn_T_at rfl (Nat.le_of_ble_eq_true rfl) (fun X hX C hT => ?_)
  subst hX
  show zj_J X 0 0 _ ad N g 0 [(0, .ref (ad 0)), (1, .int id), (2, .int pl), (3, .int w), (4, .int rd)] []
  refine zj_aload_n C dc_T_at_0 rfl 0 rfl ?_
  refine zj_iload_n C dc_T_at_1 rfl 1 rfl ?_
  refine zx_Vr C (ct_T_existing _ hst z ad N g ts _ hN hA9) gv_T_63 rfl rfl rfl hd_T_existing ⟨(Nat.le_of_ble_eq_true rfl), (Nat.le_of_ble_eq_true rfl)⟩ (by omega) h0 rfl rfl rfl (Nat.le_of_ble_eq_true rfl) ⟨(Nat.le_of_ble_eq_true rfl), (Nat.le_of_ble_eq_true rfl)⟩ dc_T_at_2 (fun E9 g9 h9 => zx_passi C hT ⟨(Nat.le_of_ble_eq_true rfl), (Nat.le_of_ble_eq_true rfl)⟩ ⟨h9.2.1, Or.inl ⟨h9.1, Or.inl h9.2.2⟩⟩) (fun k1 g1 h1 => ?_)
  obtain ⟨⟨t, ⟨ht, rfl, hth⟩, rfl⟩, hg1⟩ := h1
  rw [hg1]
  have hc9 := hcn t ht
  have hl9 := hlr t ht
  refine zj_astore C dc_T_at_5 (by decide) rfl ?_
  refine zj_aload C dc_T_at_7 0 rfl ?_
  refine zj_iload_n C dc_T_at_9 rfl 3 rfl ?_
  refine zx_Sv C (ct_T_refuseUnlessPlace _ hst z ad N g (2 + 8 * t) (ts t) (by omega) (hts t ht) pl hc9) gv_T_91 rfl rfl rfl hd_T_refuseUnlessPlace ⟨(Nat.le_of_ble_eq_true rfl), (Nat.le_of_ble_eq_true rfl)⟩ rfl rfl (Nat.le_of_ble_eq_true rfl) ⟨(Nat.le_of_ble_eq_true rfl), (Nat.le_of_ble_eq_true rfl)⟩ dc_T_at_10 (fun E9 g9 h9 => zx_passi C hT ⟨(Nat.le_of_ble_eq_true rfl), (Nat.le_of_ble_eq_true rfl)⟩ ⟨h9.2.1, Or.inl ⟨h9.1, Or.inr (Or.inl ⟨t, ⟨ht, rfl, hth⟩, h9.2.2⟩)⟩⟩) (fun g1 h1 => ?_)
  obtain ⟨⟨k, hk, rfl⟩, hg2⟩ := h1
  rw [hg2]
  refine zj_iload C dc_T_at_13 5 rfl ?_
  refine zj_iconst (v := -1) C dc_T_at_15 (by decide) ?_
  refine zj_icmp_ne C dc_T_at_16 rfl (fun a1 => ?_) (fun a1 => ?_)
  · skip
    refine zj_iload C dc_T_at_27 5 rfl ?_
    refine zj_istore C dc_T_at_29 (by decide) rfl ?_
    refine zj_aload C dc_T_at_31 1 rfl ?_
    refine zj_iload C dc_T_at_33 0 rfl ?_
    refine zx_Sv C (ct_T_refuseUnlessReading _ hst z ad N g (2 + 8 * t) (ts t) (by omega) (hts t ht) _ hl9) gv_T_99 rfl rfl rfl hd_T_refuseUnlessReading ⟨(Nat.le_of_ble_eq_true rfl), (Nat.le_of_ble_eq_true rfl)⟩ rfl rfl (Nat.le_of_ble_eq_true rfl) ⟨(Nat.le_of_ble_eq_true rfl), (Nat.le_of_ble_eq_true rfl)⟩ dc_T_at_35 (fun E9 g9 h9 => zx_passi C hT ⟨(Nat.le_of_ble_eq_true rfl), (Nat.le_of_ble_eq_true rfl)⟩ ⟨h9.2.1, Or.inl ⟨h9.1, Or.inr (Or.inr ⟨t, k, ⟨ht, rfl, hth⟩, hk, rfl, a1, h9.2.2⟩)⟩⟩) (fun g1 h1 => ?_)
    obtain ⟨⟨r, hr, rfl⟩, hg3⟩ := h1
    rw [hg3]
    have hrd : (nI r = -1 ∧ r = zu_lr (ts t)) ∨ nI r = nI r := Or.inr rfl
    refine zj_iload_n C dc_T_at_38 rfl 5 rfl ?_
    rcases zp_sw3 w with rfl | rfl | rfl | hw
    · refine zj_tableIn C dc_T_at_39 (by decide) (by decide) rfl rfl ?_
      refine zj_aload C dc_T_at_64 1 rfl ?_
      refine zj_iload C dc_T_at_66 0 rfl ?_
      refine zj_iload_n C dc_T_at_68 rfl 4 rfl ?_
      refine zj_Vi C (ct_U_pitchIn _ hst z ad N g (2 + 8 * t) _ _ _ _ _ _ _ _ _ (by omega) (hts t ht) r k hr hl9 (by omega)) gv_T_105 rfl rfl rfl hd_U_pitchIn ⟨(Nat.le_of_ble_eq_true rfl), (Nat.le_of_ble_eq_true rfl)⟩ (by omega) (hts t ht).1 rfl rfl rfl (Nat.le_of_ble_eq_true rfl) ⟨(Nat.le_of_ble_eq_true rfl), (Nat.le_of_ble_eq_true rfl)⟩ dc_T_at_69 (fun r1 g9 h1 => ?_)
      obtain ⟨rfl, hg9⟩ := h1
      rw [hg9]
      exact zx_iret C ⟨(Nat.le_of_ble_eq_true rfl), (Nat.le_of_ble_eq_true rfl)⟩ dc_T_at_72 ⟨t, k, r, ⟨ht, rfl, hth⟩, hk, rfl, hr, hrd, Or.inl ⟨rfl, rfl⟩, rfl⟩
    · refine zj_tableIn C dc_T_at_39 (by decide) (by decide) rfl rfl ?_
      refine zj_aload C dc_T_at_73 1 rfl ?_
      refine zj_iload C dc_T_at_75 0 rfl ?_
      refine zj_iload_n C dc_T_at_77 rfl 4 rfl ?_
      refine zj_Vi C (ct_U_lengthIn _ hst z ad N g (2 + 8 * t) _ _ _ _ _ _ _ _ _ (by omega) (hts t ht) r k hr hl9 (by omega)) gv_T_108 rfl rfl rfl hd_U_lengthIn ⟨(Nat.le_of_ble_eq_true rfl), (Nat.le_of_ble_eq_true rfl)⟩ (by omega) (hts t ht).1 rfl rfl rfl (Nat.le_of_ble_eq_true rfl) ⟨(Nat.le_of_ble_eq_true rfl), (Nat.le_of_ble_eq_true rfl)⟩ dc_T_at_78 (fun r1 g9 h1 => ?_)
      obtain ⟨rfl, hg9⟩ := h1
      rw [hg9]
      exact zx_iret C ⟨(Nat.le_of_ble_eq_true rfl), (Nat.le_of_ble_eq_true rfl)⟩ dc_T_at_81 ⟨t, k, r, ⟨ht, rfl, hth⟩, hk, rfl, hr, hrd, Or.inr (Or.inl ⟨rfl, rfl⟩), rfl⟩
    · refine zj_tableIn C dc_T_at_39 (by decide) (by decide) rfl rfl ?_
      refine zj_aload C dc_T_at_82 1 rfl ?_
      refine zj_iload C dc_T_at_84 0 rfl ?_
      refine zj_iload_n C dc_T_at_86 rfl 4 rfl ?_
      refine zj_Vi C (ct_U_stepIn _ hst z ad N g (2 + 8 * t) _ _ _ _ _ _ _ _ _ (by omega) (hts t ht) r k hr hl9 (by omega) hc9) gv_T_111 rfl rfl rfl hd_U_stepIn ⟨(Nat.le_of_ble_eq_true rfl), (Nat.le_of_ble_eq_true rfl)⟩ (by omega) (hts t ht).1 rfl rfl rfl (Nat.le_of_ble_eq_true rfl) ⟨(Nat.le_of_ble_eq_true rfl), (Nat.le_of_ble_eq_true rfl)⟩ dc_T_at_87 (fun r1 g9 h1 => ?_)
      obtain ⟨rfl, hg9⟩ := h1
      rw [hg9]
      exact zx_iret C ⟨(Nat.le_of_ble_eq_true rfl), (Nat.le_of_ble_eq_true rfl)⟩ dc_T_at_90 ⟨t, k, r, ⟨ht, rfl, hth⟩, hk, rfl, hr, hrd, Or.inr (Or.inr ⟨rfl, rfl⟩), rfl⟩
    · refine zj_tableOut C dc_T_at_39 hw rfl ?_
      exact zx_throwi (names := xt_ns) C hT xt_fit_IllegalArgumentException xt_nf cl_T_114 ini_IllegalArgumentException xt_at_IllegalArgumentException xt_bd_IllegalArgumentException ins_IllegalArgumentException xt_ok_IllegalArgumentException dc_T_at_91 dc_T_at_94 dc_T_at_95 dc_T_at_98 ⟨(Nat.le_of_ble_eq_true rfl), (Nat.le_of_ble_eq_true rfl), (Nat.le_of_ble_eq_true rfl), (Nat.le_of_ble_eq_true rfl)⟩ ⟨(Nat.le_of_ble_eq_true rfl), (Nat.le_of_ble_eq_true rfl)⟩ ⟨rfl, Or.inr ⟨rfl, ⟨t, k, r, ⟨ht, rfl, hth⟩, hk, rfl, hr, hrd⟩, zp_sw3n hw⟩⟩
  · skip
    refine zj_aload C dc_T_at_19 0 rfl ?_
    refine zj_get (k := 5) C (by omega) (hts t ht).1 rfl (by decide) fw_U fl_T_77 rfl rfl dc_T_at_21 ?_
    refine zj_goto C dc_T_at_24 rfl ?_
    refine zj_istore C dc_T_at_29 (by decide) rfl ?_
    refine zj_aload C dc_T_at_31 1 rfl ?_
    refine zj_iload C dc_T_at_33 0 rfl ?_
    refine zx_Sv C (ct_T_refuseUnlessReading _ hst z ad N g (2 + 8 * t) (ts t) (by omega) (hts t ht) _ hl9) gv_T_99 rfl rfl rfl hd_T_refuseUnlessReading ⟨(Nat.le_of_ble_eq_true rfl), (Nat.le_of_ble_eq_true rfl)⟩ rfl rfl (Nat.le_of_ble_eq_true rfl) ⟨(Nat.le_of_ble_eq_true rfl), (Nat.le_of_ble_eq_true rfl)⟩ dc_T_at_35 (fun E9 g9 h9 => zx_passi C hT ⟨(Nat.le_of_ble_eq_true rfl), (Nat.le_of_ble_eq_true rfl)⟩ ⟨h9.2.1, Or.inl ⟨h9.1, Or.inr (Or.inr ⟨t, k, ⟨ht, rfl, hth⟩, hk, rfl, absurd rfl (h9.2.2 _ (Nat.le_refl _)), absurd rfl (h9.2.2 _ (Nat.le_refl _))⟩)⟩⟩) (fun g1 h1 => ?_)
    obtain ⟨⟨r, hr, hr2⟩, hg3⟩ := h1
    rw [hg3]
    rw [hr2]
    have hrd : (rd = -1 ∧ r = zu_lr (ts t)) ∨ rd = nI r := Or.inl ⟨a1, ((nI_eq (by omega) (by omega)).mp hr2).symm⟩
    refine zj_iload_n C dc_T_at_38 rfl 5 rfl ?_
    rcases zp_sw3 w with rfl | rfl | rfl | hw
    · refine zj_tableIn C dc_T_at_39 (by decide) (by decide) rfl rfl ?_
      refine zj_aload C dc_T_at_64 1 rfl ?_
      refine zj_iload C dc_T_at_66 0 rfl ?_
      refine zj_iload_n C dc_T_at_68 rfl 4 rfl ?_
      refine zj_Vi C (ct_U_pitchIn _ hst z ad N g (2 + 8 * t) _ _ _ _ _ _ _ _ _ (by omega) (hts t ht) r k hr hl9 (by omega)) gv_T_105 rfl rfl rfl hd_U_pitchIn ⟨(Nat.le_of_ble_eq_true rfl), (Nat.le_of_ble_eq_true rfl)⟩ (by omega) (hts t ht).1 rfl rfl rfl (Nat.le_of_ble_eq_true rfl) ⟨(Nat.le_of_ble_eq_true rfl), (Nat.le_of_ble_eq_true rfl)⟩ dc_T_at_69 (fun r1 g9 h1 => ?_)
      obtain ⟨rfl, hg9⟩ := h1
      rw [hg9]
      exact zx_iret C ⟨(Nat.le_of_ble_eq_true rfl), (Nat.le_of_ble_eq_true rfl)⟩ dc_T_at_72 ⟨t, k, r, ⟨ht, rfl, hth⟩, hk, rfl, hr, hrd, Or.inl ⟨rfl, rfl⟩, rfl⟩
    · refine zj_tableIn C dc_T_at_39 (by decide) (by decide) rfl rfl ?_
      refine zj_aload C dc_T_at_73 1 rfl ?_
      refine zj_iload C dc_T_at_75 0 rfl ?_
      refine zj_iload_n C dc_T_at_77 rfl 4 rfl ?_
      refine zj_Vi C (ct_U_lengthIn _ hst z ad N g (2 + 8 * t) _ _ _ _ _ _ _ _ _ (by omega) (hts t ht) r k hr hl9 (by omega)) gv_T_108 rfl rfl rfl hd_U_lengthIn ⟨(Nat.le_of_ble_eq_true rfl), (Nat.le_of_ble_eq_true rfl)⟩ (by omega) (hts t ht).1 rfl rfl rfl (Nat.le_of_ble_eq_true rfl) ⟨(Nat.le_of_ble_eq_true rfl), (Nat.le_of_ble_eq_true rfl)⟩ dc_T_at_78 (fun r1 g9 h1 => ?_)
      obtain ⟨rfl, hg9⟩ := h1
      rw [hg9]
      exact zx_iret C ⟨(Nat.le_of_ble_eq_true rfl), (Nat.le_of_ble_eq_true rfl)⟩ dc_T_at_81 ⟨t, k, r, ⟨ht, rfl, hth⟩, hk, rfl, hr, hrd, Or.inr (Or.inl ⟨rfl, rfl⟩), rfl⟩
    · refine zj_tableIn C dc_T_at_39 (by decide) (by decide) rfl rfl ?_
      refine zj_aload C dc_T_at_82 1 rfl ?_
      refine zj_iload C dc_T_at_84 0 rfl ?_
      refine zj_iload_n C dc_T_at_86 rfl 4 rfl ?_
      refine zj_Vi C (ct_U_stepIn _ hst z ad N g (2 + 8 * t) _ _ _ _ _ _ _ _ _ (by omega) (hts t ht) r k hr hl9 (by omega) hc9) gv_T_111 rfl rfl rfl hd_U_stepIn ⟨(Nat.le_of_ble_eq_true rfl), (Nat.le_of_ble_eq_true rfl)⟩ (by omega) (hts t ht).1 rfl rfl rfl (Nat.le_of_ble_eq_true rfl) ⟨(Nat.le_of_ble_eq_true rfl), (Nat.le_of_ble_eq_true rfl)⟩ dc_T_at_87 (fun r1 g9 h1 => ?_)
      obtain ⟨rfl, hg9⟩ := h1
      rw [hg9]
      exact zx_iret C ⟨(Nat.le_of_ble_eq_true rfl), (Nat.le_of_ble_eq_true rfl)⟩ dc_T_at_90 ⟨t, k, r, ⟨ht, rfl, hth⟩, hk, rfl, hr, hrd, Or.inr (Or.inr ⟨rfl, rfl⟩), rfl⟩
    · refine zj_tableOut C dc_T_at_39 hw rfl ?_
      exact zx_throwi (names := xt_ns) C hT xt_fit_IllegalArgumentException xt_nf cl_T_114 ini_IllegalArgumentException xt_at_IllegalArgumentException xt_bd_IllegalArgumentException ins_IllegalArgumentException xt_ok_IllegalArgumentException dc_T_at_91 dc_T_at_94 dc_T_at_95 dc_T_at_98 ⟨(Nat.le_of_ble_eq_true rfl), (Nat.le_of_ble_eq_true rfl), (Nat.le_of_ble_eq_true rfl), (Nat.le_of_ble_eq_true rfl)⟩ ⟨(Nat.le_of_ble_eq_true rfl), (Nat.le_of_ble_eq_true rfl)⟩ ⟨rfl, Or.inr ⟨rfl, ⟨t, k, r, ⟨ht, rfl, hth⟩, hk, rfl, hr, hrd⟩, zp_sw3n hw⟩⟩
set_option maxHeartbeats 4000000 in
set_option maxRecDepth 100000 in
theorem ct_T_contour (l : Launch) (hst : l.stackTraces = false) (z : zv_T) (ad : Nat → Nat) (N : Nat) (g : Nat → va_E) (ts : Nat → zu_S) (id : Int32) (hN : 108 ≤ N) (hs : zs_A z ad g ts) (i : Int32) (hcn : ∀ t, t < 8 → zu_cn (ts t) ≤ 20) : zx_i l mn_T_contour ws_T_contour rm_T_contour z ad N g [.ref (ad 0), .int id, .int i] 1 6 (fun r g1 => ∃ t, zp_is ts id t ∧ (((∀ k, k + 1 < zu_cn (ts t) → ¬ i = nI k) ∧ r = -1) ∨ ∃ k, k + 1 < zu_cn (ts t) ∧ i = nI k ∧ r = (if zu_p (ts t) (k + 1) - zu_p (ts t) k = 0 then 115 else if 0 < zu_p (ts t) (k + 1) - zu_p (ts t) k then 117 else 100)) ∧ g1 = g) (fun E g1 => g1 = g ∧ E = "java/lang/IndexOutOfBoundsException" ∧ ∀ t, ¬ zp_is ts id t) := by
  have hA9 := hs
  obtain ⟨h0, ⟨f, hA, hf⟩, hts⟩ := hs
  refine zx_ofi hst pn_T_contour rfl (Nat.le_of_ble_eq_true rfl) (fun X hX C hT => ?_)
  subst hX
  show zj_J X 0 0 _ ad N g 0 [(0, .ref (ad 0)), (1, .int id), (2, .int i)] []
  refine zj_aload_n C dc_T_contour_0 rfl 0 rfl ?_
  refine zj_iload_n C dc_T_contour_1 rfl 1 rfl ?_
  refine zx_Vr C (ct_T_existing _ hst z ad N g ts _ hN hA9) gv_T_63 rfl rfl rfl hd_T_existing ⟨(Nat.le_of_ble_eq_true rfl), (Nat.le_of_ble_eq_true rfl)⟩ (by omega) h0 rfl rfl rfl (Nat.le_of_ble_eq_true rfl) ⟨(Nat.le_of_ble_eq_true rfl), (Nat.le_of_ble_eq_true rfl)⟩ dc_T_contour_2 (fun E9 g9 h9 => zx_passi C hT ⟨(Nat.le_of_ble_eq_true rfl), (Nat.le_of_ble_eq_true rfl)⟩ ⟨h9.2.1, h9.1, h9.2.2⟩) (fun k1 g1 h1 => ?_)
  obtain ⟨⟨t, ⟨ht, rfl, hth⟩, rfl⟩, hg1⟩ := h1
  rw [hg1]
  have hc9 := hcn t ht
  refine zj_get (k := 0) C (by omega) (hts t ht).1 rfl (by decide) fw_U fl_T_81 rfl rfl dc_T_contour_5 ?_
  refine zj_astore_n C dc_T_contour_8 rfl (by decide) rfl ?_
  refine zj_iload_n C dc_T_contour_9 rfl 3 rfl ?_
  refine zj_if_lt C dc_T_contour_10 rfl (fun a1 => ?_) (fun a1 => ?_)
  · skip
    refine zj_iconst (v := -1) C dc_T_contour_21 (by decide) ?_
    exact zx_iret C ⟨(Nat.le_of_ble_eq_true rfl), (Nat.le_of_ble_eq_true rfl)⟩ dc_T_contour_22 ⟨t, ⟨ht, rfl, hth⟩, Or.inl ⟨fun k hk e => by subst e; exact nI_pos (by omega) a1, rfl⟩, rfl⟩
  · skip
    refine zj_iload_n C dc_T_contour_13 rfl 3 rfl ?_
    refine zj_aload_n C dc_T_contour_14 rfl 0 rfl ?_
    refine zj_Vi C (ct_N_steps _ hst z ad N g (2 + 8 * t + 1) 20 _ _ _ (by omega) (hts t ht).2.1 (by decide) (by omega)) gv_T_117 rfl rfl rfl hd_N_steps ⟨(Nat.le_of_ble_eq_true rfl), (Nat.le_of_ble_eq_true rfl)⟩ (by omega) (hts t ht).2.1.1 rfl rfl rfl (Nat.le_of_ble_eq_true rfl) ⟨(Nat.le_of_ble_eq_true rfl), (Nat.le_of_ble_eq_true rfl)⟩ dc_T_contour_15 (fun r1 g9 h1 => ?_)
    obtain ⟨rfl, hg9⟩ := h1
    rw [hg9]
    refine zj_icmp_lt C dc_T_contour_18 rfl (fun a2 => ?_) (fun a2 => ?_)
    · obtain ⟨k, hk, rfl⟩ := nI_of a1
      have a2 := (nI_ltI hk (by omega)).mp a2
      refine zj_aload_n C dc_T_contour_23 rfl 0 rfl ?_
      refine zj_iload_n C dc_T_contour_24 rfl 3 rfl ?_
      refine zj_Vi C (ct_N_stepBehind _ hst z ad N g (2 + 8 * t + 1) 20 _ _ _ (by omega) (hts t ht).2.1 (by decide) k (by omega)) gv_T_121 rfl rfl rfl hd_N_stepBehind ⟨(Nat.le_of_ble_eq_true rfl), (Nat.le_of_ble_eq_true rfl)⟩ (by omega) (hts t ht).2.1.1 rfl rfl rfl (Nat.le_of_ble_eq_true rfl) ⟨(Nat.le_of_ble_eq_true rfl), (Nat.le_of_ble_eq_true rfl)⟩ dc_T_contour_25 (fun r1 g9 h1 => ?_)
      obtain ⟨rfl, hg9⟩ := h1
      rw [hg9]
      refine zj_istore C dc_T_contour_28 (by decide) rfl ?_
      refine zj_iload C dc_T_contour_30 0 rfl ?_
      refine zj_if_ne C dc_T_contour_32 rfl (fun a3 => ?_) (fun a3 => ?_)
      · skip
        refine zj_iload C dc_T_contour_38 0 rfl ?_
        refine zj_if_le C dc_T_contour_40 rfl (fun a4 => ?_) (fun a4 => ?_)
        · skip
          refine zj_bipush (v := 100) C dc_T_contour_48 (by decide) ?_
          exact zx_iret C ⟨(Nat.le_of_ble_eq_true rfl), (Nat.le_of_ble_eq_true rfl)⟩ dc_T_contour_50 ⟨t, ⟨ht, rfl, hth⟩, Or.inr ⟨k, by omega, rfl, by rw [if_neg a3, if_neg (Int32.not_lt.mpr a4)]⟩, rfl⟩
        · skip
          refine zj_bipush (v := 117) C dc_T_contour_43 (by decide) ?_
          refine zj_goto C dc_T_contour_45 rfl ?_
          exact zx_iret C ⟨(Nat.le_of_ble_eq_true rfl), (Nat.le_of_ble_eq_true rfl)⟩ dc_T_contour_50 ⟨t, ⟨ht, rfl, hth⟩, Or.inr ⟨k, by omega, rfl, by rw [if_neg a3, if_pos (Int32.not_le.mp a4)]⟩, rfl⟩
      · skip
        refine zj_bipush (v := 115) C dc_T_contour_35 (by decide) ?_
        exact zx_iret C ⟨(Nat.le_of_ble_eq_true rfl), (Nat.le_of_ble_eq_true rfl)⟩ dc_T_contour_37 ⟨t, ⟨ht, rfl, hth⟩, Or.inr ⟨k, by omega, rfl, by rw [if_pos a3]⟩, rfl⟩
    · skip
      refine zj_iconst (v := -1) C dc_T_contour_21 (by decide) ?_
      exact zx_iret C ⟨(Nat.le_of_ble_eq_true rfl), (Nat.le_of_ble_eq_true rfl)⟩ dc_T_contour_22 ⟨t, ⟨ht, rfl, hth⟩, Or.inl ⟨fun k hk e => by subst e; exact a2 ((nI_ltI (by omega) (by omega)).mpr (by omega)), rfl⟩, rfl⟩
set_option maxHeartbeats 4000000 in
set_option maxRecDepth 100000 in
theorem ct_T_ask (l : Launch) (hst : l.stackTraces = false) (z : zv_T) (ad : Nat → Nat) (N : Nat) (g : Nat → va_E) (ts : Nat → zu_S) (qc : Nat) (qp qq : Nat → Int32) (hN : 108 ≤ N) (hs : zs_A z ad g ts) (hq : zs_N z ad g 66 8 qc qp qq) (x y : Int32) (hqc : qc ≤ 8) : zx_i l mn_T_ask ws_T_ask rm_T_ask z ad N g [.ref (ad 0), .int x, .int y] 2 12 (fun r g1 => zp_no x y ∧ qc < 8 ∧ r = nI (qc + 1) ∧ zs_N z ad g1 66 8 (qc + 1) (upd qp qc x) (upd qq qc y) ∧ ∀ j, j < 66 ∨ 69 ≤ j → g1 j = g j) (fun E g1 => g1 = g ∧ ((E = "java/lang/IllegalArgumentException" ∧ ¬ zp_no x y) ∨ (E = "java/lang/IllegalStateException" ∧ zp_no x y ∧ qc = 8))) := by
  obtain ⟨h0, ⟨f, hA, hf⟩, hts⟩ := hs
  have hq9 := hq
  obtain ⟨hq0, hq1, hq2⟩ := hq
  refine zx_ofi hst pn_T_ask rfl (Nat.le_of_ble_eq_true rfl) (fun X hX C hT => ?_)
  subst hX
  show zj_J X 0 0 _ ad N g 0 [(0, .ref (ad 0)), (1, .int x), (2, .int y)] []
  refine zj_iload_n C dc_T_ask_0 rfl 1 rfl ?_
  refine zj_iload_n C dc_T_ask_1 rfl 2 rfl ?_
  refine zx_Sv C (ct_T_refuseUnlessNote _ hst z ad N g x y) gv_T_70 rfl rfl rfl hd_T_refuseUnlessNote ⟨(Nat.le_of_ble_eq_true rfl), (Nat.le_of_ble_eq_true rfl)⟩ rfl rfl (Nat.le_of_ble_eq_true rfl) ⟨(Nat.le_of_ble_eq_true rfl), (Nat.le_of_ble_eq_true rfl)⟩ dc_T_ask_2 (fun E9 g9 h9 => zx_passi C hT ⟨(Nat.le_of_ble_eq_true rfl), (Nat.le_of_ble_eq_true rfl)⟩ ⟨h9.2.1, Or.inl ⟨h9.1, h9.2.2⟩⟩) (fun g1 h1 => ?_)
  obtain ⟨hno, hg1⟩ := h1
  rw [hg1]
  refine zj_aload_n C dc_T_ask_5 rfl 0 rfl ?_
  refine zj_get (k := 1) C (by omega) h0 rfl (by decide) fw_T fl_T_21 rfl rfl dc_T_ask_6 ?_
  refine zj_get (k := 2) C (by omega) hq0 rfl (by decide) fw_N fl_T_84 rfl rfl dc_T_ask_9 ?_
  refine zj_bipush (v := 8) C dc_T_ask_12 (by decide) ?_
  refine zj_icmp_lt C dc_T_ask_14 rfl (fun a1 => ?_) (fun a1 => ?_)
  · have a1 := (nI_ltI (b := 8) (by omega) (by omega)).mp a1
    refine zj_aload_n C dc_T_ask_25 rfl 0 rfl ?_
    refine zj_get (k := 1) C (by omega) h0 rfl (by decide) fw_T fl_T_21 rfl rfl dc_T_ask_26 ?_
    refine zj_iload_n C dc_T_ask_29 rfl 1 rfl ?_
    refine zj_iload_n C dc_T_ask_30 rfl 2 rfl ?_
    refine zj_Vi C (ct_N_append _ hst z ad N g 66 8 qc qp qq (by omega) hq9 (by decide) x y a1) gv_T_87 rfl rfl rfl hd_N_append ⟨(Nat.le_of_ble_eq_true rfl), (Nat.le_of_ble_eq_true rfl)⟩ (by omega) hq0 rfl rfl rfl (Nat.le_of_ble_eq_true rfl) ⟨(Nat.le_of_ble_eq_true rfl), (Nat.le_of_ble_eq_true rfl)⟩ dc_T_ask_31 (fun r1 g1 h1 => ?_)
    obtain ⟨rfl, rfl⟩ := h1
    exact zx_iret C ⟨(Nat.le_of_ble_eq_true rfl), (Nat.le_of_ble_eq_true rfl)⟩ dc_T_ask_34 ⟨hno, a1, rfl, ⟨va_up_self _ _ _, by (repeat rw [va_up_ne _ _ (by omega)]); exact va_up_self _ _ _, by (repeat rw [va_up_ne _ _ (by omega)]); exact va_up_self _ _ _⟩, fun j hj => by (repeat rw [va_up_ne _ _ (by omega)])⟩
  · have a1 := (zn_nlt (b := 8) (by omega) (by omega)).mp a1
    exact zx_throwi (names := xt_ns) C hT xt_fit_IllegalStateException xt_nf cl_T_57 ini_IllegalStateException xt_at_IllegalStateException xt_bd_IllegalStateException ins_IllegalStateException xt_ok_IllegalStateException dc_T_ask_17 dc_T_ask_20 dc_T_ask_21 dc_T_ask_24 ⟨(Nat.le_of_ble_eq_true rfl), (Nat.le_of_ble_eq_true rfl), (Nat.le_of_ble_eq_true rfl), (Nat.le_of_ble_eq_true rfl)⟩ ⟨(Nat.le_of_ble_eq_true rfl), (Nat.le_of_ble_eq_true rfl)⟩ ⟨rfl, Or.inr ⟨rfl, hno, by omega⟩⟩
set_option maxHeartbeats 4000000 in
set_option maxRecDepth 100000 in
theorem ct_T_forget (l : Launch) (hst : l.stackTraces = false) (z : zv_T) (ad : Nat → Nat) (N : Nat) (g : Nat → va_E) (ts : Nat → zu_S) (qc : Nat) (qp qq : Nat → Int32) (hN : 108 ≤ N) (hs : zs_A z ad g ts) (hq : zs_N z ad g 66 8 qc qp qq) : zm_v l mn_T_forget ws_T_forget rm_T_forget z ad N g [.ref (ad 0)] (fun g1 => zs_N z ad g1 66 8 0 qp qq ∧ ∀ j, j ≠ 66 → g1 j = g j) := by
  obtain ⟨h0, ⟨f, hA, hf⟩, hts⟩ := hs
  have hq9 := hq
  obtain ⟨hq0, hq1, hq2⟩ := hq
  refine zm_ofv hst pn_T_forget rfl (Nat.le_of_ble_eq_true rfl) (fun X hX C => ?_)
  subst hX
  show zj_J X 0 0 _ ad N g 0 [(0, .ref (ad 0))] []
  refine zj_aload_n C dc_T_forget_0 rfl 0 rfl ?_
  refine zj_get (k := 1) C (by omega) h0 rfl (by decide) fw_T fl_T_21 rfl rfl dc_T_forget_1 ?_
  refine zj_Vv C (ct_N_clear _ hst z ad N g 66 8 qc qp qq (by omega) hq9 (by decide)) gv_T_125 rfl rfl rfl hd_N_clear ⟨(Nat.le_of_ble_eq_true rfl), (Nat.le_of_ble_eq_true rfl)⟩ (by omega) hq0 rfl rfl rfl (Nat.le_of_ble_eq_true rfl) ⟨(Nat.le_of_ble_eq_true rfl), (Nat.le_of_ble_eq_true rfl)⟩ dc_T_forget_4 (fun g1 h1 => ?_)
  subst h1
  exact zj_vret C dc_T_forget_7 ⟨⟨va_up_self _ _ _, by (repeat rw [va_up_ne _ _ (by omega)]); exact hq1, by (repeat rw [va_up_ne _ _ (by omega)]); exact hq2⟩, fun j hj => va_up_ne _ _ hj⟩
end ZP2
