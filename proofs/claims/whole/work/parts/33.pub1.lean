section ZP1
def zp_ts (ts : Nat → zu_S) (t : Nat) (s : zu_S) : Nat → zu_S := fun u => if u = t then s else ts u
theorem zs_A_put {z : zv_T} {ad : Nat → Nat} {g g1 : Nat → va_E} {ts : Nat → zu_S} {t : Nat} {s : zu_S} (h : zs_A z ad g ts) (ht : t < 8) (hv : zs_V z ad g1 (2 + 8 * t) s) (hf : ∀ j, j < 2 + 8 * t ∨ 2 + 8 * t + 8 ≤ j → g1 j = g j) : zs_A z ad g1 (zp_ts ts t s) := by
  obtain ⟨h0, ⟨f, hA, hff⟩, hts⟩ := h
  refine ⟨(hf 0 (by omega)).trans h0, ⟨f, (hf 1 (by omega)).trans hA, hff⟩, fun u hu => ?_⟩
  unfold zp_ts
  by_cases c : u = t
  · rw [if_pos c, c]; exact hv
  · rw [if_neg c]
    exact zs_V_fr (hts u hu) (fun j h1 h2 => hf j (by omega))
theorem zb_inj {a b : Bool} : zb_i a = zb_i b ↔ a = b := by cases a <;> cases b <;> decide
theorem zp_sw3 (w : Int32) : w = nI 0 ∨ w = nI 1 ∨ w = nI 2 ∨ (w.toInt < 0 ∨ 2 < w.toInt) := by
  by_cases h : w.toInt < 0
  · exact Or.inr (Or.inr (Or.inr (Or.inl h)))
  · have h1 : ¬ w < 0 := fun h2 => h (by rw [Int32.lt_iff_toInt_lt] at h2; exact h2)
    obtain ⟨j, hj, rfl⟩ := nI_of h1
    rw [nI_toInt hj]
    rcases (by omega : j = 0 ∨ j = 1 ∨ j = 2 ∨ 2 < j) with c | c | c | c
    · exact Or.inl (by rw [c])
    · exact Or.inr (Or.inl (by rw [c]))
    · exact Or.inr (Or.inr (Or.inl (by rw [c])))
    · exact Or.inr (Or.inr (Or.inr (Or.inr (by omega))))
theorem zp_sw3n {w : Int32} (h : w.toInt < 0 ∨ 2 < w.toInt) : ∀ k, k < 3 → ¬ w = nI k := by
  intro k hk e
  subst e
  rw [nI_toInt (by omega)] at h
  omega
set_option maxHeartbeats 4000000 in
set_option maxRecDepth 100000 in
theorem ct_T_tune (l : Launch) (hst : l.stackTraces = false) (z : zv_T) (ad : Nat → Nat) (N : Nat) (g : Nat → va_E) (ts : Nat → zu_S) (id : Int32) (hN : 108 ≤ N) (hs : zs_A z ad g ts) : zx_v l mn_T_tune ws_T_tune rm_T_tune z ad N g [.ref (ad 0), .int id] 1 6 (fun g1 => ∃ t, t < 8 ∧ id = nI t ∧ zu_th (ts t) = false ∧ zs_A z ad g1 (zp_ts ts t (true, false, 0, 0, zu_p (ts t), zu_q (ts t), zu_pr (ts t), zu_rp (ts t), zu_rq (ts t))) ∧ ∀ j, 66 ≤ j → g1 j = g j) (fun E g1 => g1 = g ∧ ((E = "java/lang/IndexOutOfBoundsException" ∧ ∀ t, t < 8 → ¬ id = nI t) ∨ (E = "java/lang/IllegalStateException" ∧ ∃ t, t < 8 ∧ id = nI t ∧ zu_th (ts t) = true))) := by
  have hA9 := hs
  obtain ⟨h0, ⟨f, hA, hf⟩, hts⟩ := hs
  refine zx_ofv hst pn_T_tune rfl (Nat.le_of_ble_eq_true rfl) (fun X hX C hT => ?_)
  subst hX
  show zj_J X 0 0 _ ad N g 0 [(0, .ref (ad 0)), (1, .int id)] []
  refine zj_iload_n C dc_T_tune_0 rfl 1 rfl ?_
  refine zj_if_lt C dc_T_tune_1 rfl (fun a1 => ?_) (fun a1 => ?_)
  · skip
    exact zx_throwv (names := xt_ns) C hT xt_fit_IndexOutOfBoundsException xt_nf cl_T_50 ini_IndexOutOfBoundsException xt_at_IndexOutOfBoundsException xt_bd_IndexOutOfBoundsException ins_IndexOutOfBoundsException xt_ok_IndexOutOfBoundsException dc_T_tune_10 dc_T_tune_13 dc_T_tune_14 dc_T_tune_17 ⟨(Nat.le_of_ble_eq_true rfl), (Nat.le_of_ble_eq_true rfl), (Nat.le_of_ble_eq_true rfl), (Nat.le_of_ble_eq_true rfl)⟩ ⟨(Nat.le_of_ble_eq_true rfl), (Nat.le_of_ble_eq_true rfl)⟩ ⟨rfl, Or.inl ⟨rfl, fun t ht e => by subst e; exact nI_pos (by omega) a1⟩⟩
  · skip
    refine zj_iload_n C dc_T_tune_4 rfl 1 rfl ?_
    refine zj_bipush (v := 8) C dc_T_tune_5 (by decide) ?_
    refine zj_icmp_lt C dc_T_tune_7 rfl (fun a2 => ?_) (fun a2 => ?_)
    · obtain ⟨t, ht, rfl⟩ := zp_id a1 (fun h => absurd a2 (Int32.not_lt.mpr h))
      refine zj_aload_n C dc_T_tune_18 rfl 0 rfl ?_
      refine zj_get (k := 0) C (by omega) h0 rfl (by decide) fw_T fl_T_11 rfl rfl dc_T_tune_19 ?_
      refine zj_iload_n C dc_T_tune_22 rfl 1 rfl ?_
      refine zj_uald C (by omega) hA rfl ht (by decide) dc_T_tune_23 ?_
      refine zj_topv (congrArg va_rf (hf t ht)) ?_
      refine zj_get (k := 3) C (by omega) (hts t ht).1 rfl (by decide) fw_U fl_T_53 rfl rfl dc_T_tune_24 ?_
      refine zj_if_eq C dc_T_tune_27 rfl (fun a3 => ?_) (fun a3 => ?_)
      · have a3 := zb_i0 a3
        refine zj_aload_n C dc_T_tune_38 rfl 0 rfl ?_
        refine zj_get (k := 0) C (by omega) h0 rfl (by decide) fw_T fl_T_11 rfl rfl dc_T_tune_39 ?_
        refine zj_iload_n C dc_T_tune_42 rfl 1 rfl ?_
        refine zj_uald C (by omega) hA rfl ht (by decide) dc_T_tune_43 ?_
        refine zj_topv (congrArg va_rf (hf t ht)) ?_
        refine zj_Vv C (ct_U_begin _ hst z ad N g (2 + 8 * t) _ _ _ _ _ _ _ _ _ (by omega) (hts t ht)) gv_T_60 rfl rfl rfl hd_U_begin ⟨(Nat.le_of_ble_eq_true rfl), (Nat.le_of_ble_eq_true rfl)⟩ (by omega) (hts t ht).1 rfl rfl rfl (Nat.le_of_ble_eq_true rfl) ⟨(Nat.le_of_ble_eq_true rfl), (Nat.le_of_ble_eq_true rfl)⟩ dc_T_tune_44 (fun g1 h1 => ?_)
        obtain ⟨b1, b2⟩ := h1
        exact zx_vret C ⟨(Nat.le_of_ble_eq_true rfl), (Nat.le_of_ble_eq_true rfl)⟩ dc_T_tune_47 ⟨t, ht, rfl, a3, zs_A_put hA9 ht b1 (fun j hj => b2 j (by omega) (by omega)), fun j hj => b2 j (by omega) (by omega)⟩
      · have a3 := zb_i1 a3
        exact zx_throwv (names := xt_ns) C hT xt_fit_IllegalStateException xt_nf cl_T_57 ini_IllegalStateException xt_at_IllegalStateException xt_bd_IllegalStateException ins_IllegalStateException xt_ok_IllegalStateException dc_T_tune_30 dc_T_tune_33 dc_T_tune_34 dc_T_tune_37 ⟨(Nat.le_of_ble_eq_true rfl), (Nat.le_of_ble_eq_true rfl), (Nat.le_of_ble_eq_true rfl), (Nat.le_of_ble_eq_true rfl)⟩ ⟨(Nat.le_of_ble_eq_true rfl), (Nat.le_of_ble_eq_true rfl)⟩ ⟨rfl, Or.inr ⟨rfl, t, ht, rfl, a3⟩⟩
    · skip
      exact zx_throwv (names := xt_ns) C hT xt_fit_IndexOutOfBoundsException xt_nf cl_T_50 ini_IndexOutOfBoundsException xt_at_IndexOutOfBoundsException xt_bd_IndexOutOfBoundsException ins_IndexOutOfBoundsException xt_ok_IndexOutOfBoundsException dc_T_tune_10 dc_T_tune_13 dc_T_tune_14 dc_T_tune_17 ⟨(Nat.le_of_ble_eq_true rfl), (Nat.le_of_ble_eq_true rfl), (Nat.le_of_ble_eq_true rfl), (Nat.le_of_ble_eq_true rfl)⟩ ⟨(Nat.le_of_ble_eq_true rfl), (Nat.le_of_ble_eq_true rfl)⟩ ⟨rfl, Or.inl ⟨rfl, fun t ht e => by subst e; exact a2 ((nI_ltI (b := 8) (by omega) (by omega)).mpr ht)⟩⟩
set_option maxHeartbeats 4000000 in
set_option maxRecDepth 100000 in
theorem ct_T_drop (l : Launch) (hst : l.stackTraces = false) (z : zv_T) (ad : Nat → Nat) (N : Nat) (g : Nat → va_E) (ts : Nat → zu_S) (id : Int32) (hN : 108 ≤ N) (hs : zs_A z ad g ts) : zx_v l mn_T_drop ws_T_drop rm_T_drop z ad N g [.ref (ad 0), .int id] 1 6 (fun g1 => ∃ t, zp_is ts id t ∧ zs_A z ad g1 (zp_ts ts t (false, false, (ts t).2.2)) ∧ ∀ j, 66 ≤ j → g1 j = g j) (fun E g1 => g1 = g ∧ E = "java/lang/IndexOutOfBoundsException" ∧ ∀ t, ¬ zp_is ts id t) := by
  have hA9 := hs
  obtain ⟨h0, ⟨f, hA, hf⟩, hts⟩ := hs
  refine zx_ofv hst pn_T_drop rfl (Nat.le_of_ble_eq_true rfl) (fun X hX C hT => ?_)
  subst hX
  show zj_J X 0 0 _ ad N g 0 [(0, .ref (ad 0)), (1, .int id)] []
  refine zj_aload_n C dc_T_drop_0 rfl 0 rfl ?_
  refine zj_iload_n C dc_T_drop_1 rfl 1 rfl ?_
  refine zx_Vr C (ct_T_existing _ hst z ad N g ts _ hN hA9) gv_T_63 rfl rfl rfl hd_T_existing ⟨(Nat.le_of_ble_eq_true rfl), (Nat.le_of_ble_eq_true rfl)⟩ (by omega) h0 rfl rfl rfl (Nat.le_of_ble_eq_true rfl) ⟨(Nat.le_of_ble_eq_true rfl), (Nat.le_of_ble_eq_true rfl)⟩ dc_T_drop_2 (fun E9 g9 h9 => zx_passv C hT ⟨(Nat.le_of_ble_eq_true rfl), (Nat.le_of_ble_eq_true rfl)⟩ ⟨h9.2.1, h9.1, h9.2.2⟩) (fun k1 g1 h1 => ?_)
  obtain ⟨⟨t, ⟨ht, rfl, hth⟩, rfl⟩, hg1⟩ := h1
  rw [hg1]
  refine zj_Vv C (ct_U_end _ hst z ad N g (2 + 8 * t) _ _ _ _ _ _ _ _ _ (by omega) (hts t ht)) gv_T_67 rfl rfl rfl hd_U_end ⟨(Nat.le_of_ble_eq_true rfl), (Nat.le_of_ble_eq_true rfl)⟩ (by omega) (hts t ht).1 rfl rfl rfl (Nat.le_of_ble_eq_true rfl) ⟨(Nat.le_of_ble_eq_true rfl), (Nat.le_of_ble_eq_true rfl)⟩ dc_T_drop_5 (fun g1 h1 => ?_)
  obtain ⟨b1, b2⟩ := h1
  exact zx_vret C ⟨(Nat.le_of_ble_eq_true rfl), (Nat.le_of_ble_eq_true rfl)⟩ dc_T_drop_8 ⟨t, ⟨ht, rfl, hth⟩, zs_A_put hA9 ht b1 (fun j hj => b2 j (by omega)), fun j hj => b2 j (by omega)⟩
set_option maxHeartbeats 4000000 in
set_option maxRecDepth 100000 in
theorem ct_T_note (l : Launch) (hst : l.stackTraces = false) (z : zv_T) (ad : Nat → Nat) (N : Nat) (g : Nat → va_E) (ts : Nat → zu_S) (id : Int32) (hN : 108 ≤ N) (hs : zs_A z ad g ts) (x y : Int32) (hcn : ∀ t, t < 8 → zu_cn (ts t) ≤ 20) (hlr : ∀ t, t < 8 → zu_lr (ts t) ≤ 8) : zx_i l mn_T_note ws_T_note rm_T_note z ad N g [.ref (ad 0), .int id, .int x, .int y] 3 18 (fun r g1 => ∃ t, zp_is ts id t ∧ zp_no x y ∧ zu_sh (ts t) = false ∧ zu_lr (ts t) = 0 ∧ zu_cn (ts t) < 20 ∧ r = nI (zu_cn (ts t) + 1) ∧ zs_A z ad g1 (zp_ts ts t ((ts t).1, (ts t).2.1, zu_lr (ts t), zu_cn (ts t) + 1, upd (zu_p (ts t)) (zu_cn (ts t)) x, upd (zu_q (ts t)) (zu_cn (ts t)) y, (ts t).2.2.2.2.2.2)) ∧ ∀ j, 66 ≤ j → g1 j = g j) (fun E g1 => g1 = g ∧ ((E = "java/lang/IndexOutOfBoundsException" ∧ ∀ t, ¬ zp_is ts id t) ∨ (E = "java/lang/IllegalArgumentException" ∧ (∃ t, zp_is ts id t) ∧ ¬ zp_no x y) ∨ (E = "java/lang/IllegalStateException" ∧ (∃ t, zp_is ts id t ∧ (zu_sh (ts t) = true ∨ 0 < zu_lr (ts t) ∨ 20 ≤ zu_cn (ts t))) ∧ zp_no x y))) := by
  have hA9 := hs
  obtain ⟨h0, ⟨f, hA, hf⟩, hts⟩ := hs
  refine zx_ofi hst pn_T_note rfl (Nat.le_of_ble_eq_true rfl) (fun X hX C hT => ?_)
  subst hX
  show zj_J X 0 0 _ ad N g 0 [(0, .ref (ad 0)), (1, .int id), (2, .int x), (3, .int y)] []
  refine zj_aload_n C dc_T_note_0 rfl 0 rfl ?_
  refine zj_iload_n C dc_T_note_1 rfl 1 rfl ?_
  refine zx_Vr C (ct_T_existing _ hst z ad N g ts _ hN hA9) gv_T_63 rfl rfl rfl hd_T_existing ⟨(Nat.le_of_ble_eq_true rfl), (Nat.le_of_ble_eq_true rfl)⟩ (by omega) h0 rfl rfl rfl (Nat.le_of_ble_eq_true rfl) ⟨(Nat.le_of_ble_eq_true rfl), (Nat.le_of_ble_eq_true rfl)⟩ dc_T_note_2 (fun E9 g9 h9 => zx_passi C hT ⟨(Nat.le_of_ble_eq_true rfl), (Nat.le_of_ble_eq_true rfl)⟩ ⟨h9.2.1, Or.inl ⟨h9.1, h9.2.2⟩⟩) (fun k1 g1 h1 => ?_)
  obtain ⟨⟨t, ⟨ht, rfl, hth⟩, rfl⟩, hg1⟩ := h1
  rw [hg1]
  refine zj_astore C dc_T_note_5 (by decide) rfl ?_
  refine zj_iload_n C dc_T_note_7 rfl 3 rfl ?_
  refine zj_iload_n C dc_T_note_8 rfl 4 rfl ?_
  refine zx_Sv C (ct_T_refuseUnlessNote _ hst z ad N g x y) gv_T_70 rfl rfl rfl hd_T_refuseUnlessNote ⟨(Nat.le_of_ble_eq_true rfl), (Nat.le_of_ble_eq_true rfl)⟩ rfl rfl (Nat.le_of_ble_eq_true rfl) ⟨(Nat.le_of_ble_eq_true rfl), (Nat.le_of_ble_eq_true rfl)⟩ dc_T_note_9 (fun E9 g9 h9 => zx_passi C hT ⟨(Nat.le_of_ble_eq_true rfl), (Nat.le_of_ble_eq_true rfl)⟩ ⟨h9.2.1, Or.inr (Or.inl ⟨h9.1, ⟨t, ht, rfl, hth⟩, h9.2.2⟩)⟩) (fun g1 h1 => ?_)
  obtain ⟨hno, hg1⟩ := h1
  rw [hg1]
  have hc9 := hcn t ht
  have hl9 := hlr t ht
  refine zj_aload C dc_T_note_12 0 rfl ?_
  refine zj_get (k := 4) C (by omega) (hts t ht).1 rfl (by decide) fw_U fl_T_74 rfl rfl dc_T_note_14 ?_
  refine zj_if_ne C dc_T_note_17 rfl (fun a1 => ?_) (fun a1 => ?_)
  · have a1 := zb_i1 a1
    exact zx_throwi (names := xt_ns) C hT xt_fit_IllegalStateException xt_nf cl_T_57 ini_IllegalStateException xt_at_IllegalStateException xt_bd_IllegalStateException ins_IllegalStateException xt_ok_IllegalStateException dc_T_note_41 dc_T_note_44 dc_T_note_45 dc_T_note_48 ⟨(Nat.le_of_ble_eq_true rfl), (Nat.le_of_ble_eq_true rfl), (Nat.le_of_ble_eq_true rfl), (Nat.le_of_ble_eq_true rfl)⟩ ⟨(Nat.le_of_ble_eq_true rfl), (Nat.le_of_ble_eq_true rfl)⟩ ⟨rfl, Or.inr (Or.inr ⟨rfl, ⟨t, ⟨ht, rfl, hth⟩, Or.inl a1⟩, hno⟩)⟩
  · have a1 := zb_i0 a1
    refine zj_aload C dc_T_note_20 0 rfl ?_
    refine zj_get (k := 5) C (by omega) (hts t ht).1 rfl (by decide) fw_U fl_T_77 rfl rfl dc_T_note_22 ?_
    refine zj_if_gt C dc_T_note_25 rfl (fun a2 => ?_) (fun a2 => ?_)
    · have a2 := (zn_lt0 (by omega)).mp a2
      exact zx_throwi (names := xt_ns) C hT xt_fit_IllegalStateException xt_nf cl_T_57 ini_IllegalStateException xt_at_IllegalStateException xt_bd_IllegalStateException ins_IllegalStateException xt_ok_IllegalStateException dc_T_note_41 dc_T_note_44 dc_T_note_45 dc_T_note_48 ⟨(Nat.le_of_ble_eq_true rfl), (Nat.le_of_ble_eq_true rfl), (Nat.le_of_ble_eq_true rfl), (Nat.le_of_ble_eq_true rfl)⟩ ⟨(Nat.le_of_ble_eq_true rfl), (Nat.le_of_ble_eq_true rfl)⟩ ⟨rfl, Or.inr (Or.inr ⟨rfl, ⟨t, ⟨ht, rfl, hth⟩, Or.inr (Or.inl a2)⟩, hno⟩)⟩
    · have a2 : zu_lr (ts t) = 0 := Nat.eq_zero_of_not_pos (fun e => a2 ((zn_lt0 (by omega)).mpr e))
      refine zj_aload C dc_T_note_28 0 rfl ?_
      refine zj_get (k := 0) C (by omega) (hts t ht).1 rfl (by decide) fw_U fl_T_81 rfl rfl dc_T_note_30 ?_
      refine zj_get (k := 2) C (by omega) (hts t ht).2.1.1 rfl (by decide) fw_N fl_T_84 rfl rfl dc_T_note_33 ?_
      refine zj_bipush (v := 20) C dc_T_note_36 (by decide) ?_
      refine zj_icmp_lt C dc_T_note_38 rfl (fun a3 => ?_) (fun a3 => ?_)
      · have a3 := (nI_ltI (b := 20) (by omega) (by omega)).mp a3
        refine zj_aload C dc_T_note_49 0 rfl ?_
        refine zj_get (k := 0) C (by omega) (hts t ht).1 rfl (by decide) fw_U fl_T_81 rfl rfl dc_T_note_51 ?_
        refine zj_iload_n C dc_T_note_54 rfl 3 rfl ?_
        refine zj_iload_n C dc_T_note_55 rfl 4 rfl ?_
        refine zj_Vi C (ct_N_append _ hst z ad N g (2 + 8 * t + 1) 20 _ _ _ (by omega) (hts t ht).2.1 (by decide) x y a3) gv_T_87 rfl rfl rfl hd_N_append ⟨(Nat.le_of_ble_eq_true rfl), (Nat.le_of_ble_eq_true rfl)⟩ (by omega) (hts t ht).2.1.1 rfl rfl rfl (Nat.le_of_ble_eq_true rfl) ⟨(Nat.le_of_ble_eq_true rfl), (Nat.le_of_ble_eq_true rfl)⟩ dc_T_note_56 (fun r1 g1 h1 => ?_)
        obtain ⟨rfl, rfl⟩ := h1
        exact zx_iret C ⟨(Nat.le_of_ble_eq_true rfl), (Nat.le_of_ble_eq_true rfl)⟩ dc_T_note_59 ⟨t, ⟨ht, rfl, hth⟩, hno, a1, a2, a3, rfl, zs_A_put hA9 ht ⟨(by (repeat rw [va_up_ne _ _ (by omega)]); exact (hts t ht).1), ⟨va_up_self _ _ _, (by (repeat rw [va_up_ne _ _ (by omega)]); exact va_up_self _ _ _), (by (repeat rw [va_up_ne _ _ (by omega)]); exact va_up_self _ _ _)⟩, (by (repeat rw [va_up_ne _ _ (by omega)]); exact (hts t ht).2.2.1), (by (repeat rw [va_up_ne _ _ (by omega)]); exact (hts t ht).2.2.2.1), (by (repeat rw [va_up_ne _ _ (by omega)]); exact (hts t ht).2.2.2.2.1), (by (repeat rw [va_up_ne _ _ (by omega)]); exact (hts t ht).2.2.2.2.2)⟩ (fun j hj => by (repeat rw [va_up_ne _ _ (by omega)])), fun j hj => by (repeat rw [va_up_ne _ _ (by omega)])⟩
      · have a3 := (zn_nlt (b := 20) (by omega) (by omega)).mp a3
        exact zx_throwi (names := xt_ns) C hT xt_fit_IllegalStateException xt_nf cl_T_57 ini_IllegalStateException xt_at_IllegalStateException xt_bd_IllegalStateException ins_IllegalStateException xt_ok_IllegalStateException dc_T_note_41 dc_T_note_44 dc_T_note_45 dc_T_note_48 ⟨(Nat.le_of_ble_eq_true rfl), (Nat.le_of_ble_eq_true rfl), (Nat.le_of_ble_eq_true rfl), (Nat.le_of_ble_eq_true rfl)⟩ ⟨(Nat.le_of_ble_eq_true rfl), (Nat.le_of_ble_eq_true rfl)⟩ ⟨rfl, Or.inr (Or.inr ⟨rfl, ⟨t, ⟨ht, rfl, hth⟩, Or.inr (Or.inr a3)⟩, hno⟩)⟩
set_option maxHeartbeats 4000000 in
set_option maxRecDepth 100000 in
theorem ct_T_show (l : Launch) (hst : l.stackTraces = false) (z : zv_T) (ad : Nat → Nat) (N : Nat) (g : Nat → va_E) (ts : Nat → zu_S) (id : Int32) (hN : 108 ≤ N) (hs : zs_A z ad g ts) (on : Bool) (hcn : ∀ t, t < 8 → zu_cn (ts t) ≤ 20) : zx_v l mn_T_show ws_T_show rm_T_show z ad N g [.ref (ad 0), .int id, .int (zb_i on)] 2 12 (fun g1 => ∃ t, zp_is ts id t ∧ ¬ zu_sh (ts t) = on ∧ 2 ≤ zu_cn (ts t) ∧ zs_A z ad g1 (zp_ts ts t ((ts t).1, on, (ts t).2.2)) ∧ ∀ j, 66 ≤ j → g1 j = g j) (fun E g1 => g1 = g ∧ ((E = "java/lang/IndexOutOfBoundsException" ∧ ∀ t, ¬ zp_is ts id t) ∨ (E = "java/lang/IllegalStateException" ∧ ∃ t, zp_is ts id t ∧ (zu_sh (ts t) = on ∨ zu_cn (ts t) < 2)))) := by
  have hA9 := hs
  obtain ⟨h0, ⟨f, hA, hf⟩, hts⟩ := hs
  refine zx_ofv hst pn_T_show rfl (Nat.le_of_ble_eq_true rfl) (fun X hX C hT => ?_)
  subst hX
  show zj_J X 0 0 _ ad N g 0 [(0, .ref (ad 0)), (1, .int id), (2, .int (zb_i on))] []
  refine zj_aload_n C dc_T_show_0 rfl 0 rfl ?_
  refine zj_iload_n C dc_T_show_1 rfl 1 rfl ?_
  refine zx_Vr C (ct_T_existing _ hst z ad N g ts _ hN hA9) gv_T_63 rfl rfl rfl hd_T_existing ⟨(Nat.le_of_ble_eq_true rfl), (Nat.le_of_ble_eq_true rfl)⟩ (by omega) h0 rfl rfl rfl (Nat.le_of_ble_eq_true rfl) ⟨(Nat.le_of_ble_eq_true rfl), (Nat.le_of_ble_eq_true rfl)⟩ dc_T_show_2 (fun E9 g9 h9 => zx_passv C hT ⟨(Nat.le_of_ble_eq_true rfl), (Nat.le_of_ble_eq_true rfl)⟩ ⟨h9.2.1, Or.inl ⟨h9.1, h9.2.2⟩⟩) (fun k1 g1 h1 => ?_)
  obtain ⟨⟨t, ⟨ht, rfl, hth⟩, rfl⟩, hg1⟩ := h1
  rw [hg1]
  have hc9 := hcn t ht
  refine zj_astore_n C dc_T_show_5 rfl (by decide) rfl ?_
  refine zj_aload_n C dc_T_show_6 rfl 0 rfl ?_
  refine zj_get (k := 4) C (by omega) (hts t ht).1 rfl (by decide) fw_U fl_T_74 rfl rfl dc_T_show_7 ?_
  refine zj_iload_n C dc_T_show_10 rfl 3 rfl ?_
  refine zj_icmp_eq C dc_T_show_11 rfl (fun a1 => ?_) (fun a1 => ?_)
  · have a1 := zb_inj.mp a1
    exact zx_throwv (names := xt_ns) C hT xt_fit_IllegalStateException xt_nf cl_T_57 ini_IllegalStateException xt_at_IllegalStateException xt_bd_IllegalStateException ins_IllegalStateException xt_ok_IllegalStateException dc_T_show_25 dc_T_show_28 dc_T_show_29 dc_T_show_32 ⟨(Nat.le_of_ble_eq_true rfl), (Nat.le_of_ble_eq_true rfl), (Nat.le_of_ble_eq_true rfl), (Nat.le_of_ble_eq_true rfl)⟩ ⟨(Nat.le_of_ble_eq_true rfl), (Nat.le_of_ble_eq_true rfl)⟩ ⟨rfl, Or.inr ⟨rfl, t, ⟨ht, rfl, hth⟩, Or.inl a1⟩⟩
  · have a1 := fun e => a1 (zb_inj.mpr e)
    refine zj_aload_n C dc_T_show_14 rfl 0 rfl ?_
    refine zj_get (k := 0) C (by omega) (hts t ht).1 rfl (by decide) fw_U fl_T_81 rfl rfl dc_T_show_15 ?_
    refine zj_get (k := 2) C (by omega) (hts t ht).2.1.1 rfl (by decide) fw_N fl_T_84 rfl rfl dc_T_show_18 ?_
    refine zj_iconst (v := 2) C dc_T_show_21 (by decide) ?_
    refine zj_icmp_ge C dc_T_show_22 rfl (fun a2 => ?_) (fun a2 => ?_)
    · have a2 := (nI_leI (a := 2) (by omega) (by omega)).mp a2
      refine zj_aload_n C dc_T_show_33 rfl 0 rfl ?_
      refine zj_iload_n C dc_T_show_34 rfl 3 rfl ?_
      refine zj_put (k := 4) C (by omega) (hts t ht).1 rfl (by decide) fw_U fl_T_74 rfl fy_U fk_U fn_U rfl (by cases on <;> rfl) (by cases on <;> rfl) (Nat.le_of_ble_eq_true rfl) rfl dc_T_show_35 ?_
      exact zx_vret C ⟨(Nat.le_of_ble_eq_true rfl), (Nat.le_of_ble_eq_true rfl)⟩ dc_T_show_38 ⟨t, ⟨ht, rfl, hth⟩, a1, a2, zs_A_put hA9 ht ⟨va_up_self _ _ _, zs_N_fr (hts t ht).2.1 (fun j h1 h2 => va_up_ne _ _ (by omega)), (by (repeat rw [va_up_ne _ _ (by omega)]); exact (hts t ht).2.2.1), zs_N_fr (hts t ht).2.2.2 (fun j h1 h2 => va_up_ne _ _ (by omega))⟩ (fun j hj => va_up_ne _ _ (by omega)), fun j hj => va_up_ne _ _ (by omega)⟩
    · have a2 := (zn_nle (a := 2) (by omega) (by omega)).mp a2
      exact zx_throwv (names := xt_ns) C hT xt_fit_IllegalStateException xt_nf cl_T_57 ini_IllegalStateException xt_at_IllegalStateException xt_bd_IllegalStateException ins_IllegalStateException xt_ok_IllegalStateException dc_T_show_25 dc_T_show_28 dc_T_show_29 dc_T_show_32 ⟨(Nat.le_of_ble_eq_true rfl), (Nat.le_of_ble_eq_true rfl), (Nat.le_of_ble_eq_true rfl), (Nat.le_of_ble_eq_true rfl)⟩ ⟨(Nat.le_of_ble_eq_true rfl), (Nat.le_of_ble_eq_true rfl)⟩ ⟨rfl, Or.inr ⟨rfl, t, ⟨ht, rfl, hth⟩, Or.inr a2⟩⟩
set_option maxHeartbeats 4000000 in
set_option maxRecDepth 100000 in
theorem ct_T_correct (l : Launch) (hst : l.stackTraces = false) (z : zv_T) (ad : Nat → Nat) (N : Nat) (g : Nat → va_E) (ts : Nat → zu_S) (id : Int32) (hN : 108 ≤ N) (hs : zs_A z ad g ts) (pl x y : Int32) (hcn : ∀ t, t < 8 → zu_cn (ts t) ≤ 20) (hlr : ∀ t, t < 8 → zu_lr (ts t) ≤ 8) : zx_i l mn_T_correct ws_T_correct rm_T_correct z ad N g [.ref (ad 0), .int id, .int pl, .int x, .int y] 4 24 (fun r g1 => ∃ t k, zp_is ts id t ∧ k < zu_cn (ts t) ∧ pl = nI k ∧ zp_no x y ∧ zu_lr (ts t) < 8 ∧ r = nI (zu_lr (ts t) + 1) ∧ zs_A z ad g1 (zp_ts ts t ((ts t).1, (ts t).2.1, zu_lr (ts t) + 1, zu_cn (ts t), upd (zu_p (ts t)) k x, upd (zu_q (ts t)) k y, upd (zu_pr (ts t)) (zu_lr (ts t)) (nI k), upd (zu_rp (ts t)) (zu_lr (ts t)) (zu_p (ts t) k), upd (zu_rq (ts t)) (zu_lr (ts t)) (zu_q (ts t) k))) ∧ ∀ j, 66 ≤ j → g1 j = g j) (fun E g1 => g1 = g ∧ ((E = "java/lang/IndexOutOfBoundsException" ∧ ((∀ t, ¬ zp_is ts id t) ∨ ∃ t, zp_is ts id t ∧ ∀ k, k < zu_cn (ts t) → ¬ pl = nI k)) ∨ (E = "java/lang/IllegalArgumentException" ∧ (∃ t k, zp_is ts id t ∧ k < zu_cn (ts t) ∧ pl = nI k) ∧ ¬ zp_no x y) ∨ (E = "java/lang/IllegalStateException" ∧ ∃ t k, zp_is ts id t ∧ k < zu_cn (ts t) ∧ pl = nI k ∧ zp_no x y ∧ zu_lr (ts t) = 8))) := by
  have hA9 := hs
  obtain ⟨h0, ⟨f, hA, hf⟩, hts⟩ := hs
  refine zx_ofi hst pn_T_correct rfl (Nat.le_of_ble_eq_true rfl) (fun X hX C hT => ?_)
  subst hX
  show zj_J X 0 0 _ ad N g 0 [(0, .ref (ad 0)), (1, .int id), (2, .int pl), (3, .int x), (4, .int y)] []
  refine zj_aload_n C dc_T_correct_0 rfl 0 rfl ?_
  refine zj_iload_n C dc_T_correct_1 rfl 1 rfl ?_
  refine zx_Vr C (ct_T_existing _ hst z ad N g ts _ hN hA9) gv_T_63 rfl rfl rfl hd_T_existing ⟨(Nat.le_of_ble_eq_true rfl), (Nat.le_of_ble_eq_true rfl)⟩ (by omega) h0 rfl rfl rfl (Nat.le_of_ble_eq_true rfl) ⟨(Nat.le_of_ble_eq_true rfl), (Nat.le_of_ble_eq_true rfl)⟩ dc_T_correct_2 (fun E9 g9 h9 => zx_passi C hT ⟨(Nat.le_of_ble_eq_true rfl), (Nat.le_of_ble_eq_true rfl)⟩ ⟨h9.2.1, Or.inl ⟨h9.1, Or.inl h9.2.2⟩⟩) (fun k1 g1 h1 => ?_)
  obtain ⟨⟨t, ⟨ht, rfl, hth⟩, rfl⟩, hg1⟩ := h1
  rw [hg1]
  have hc9 := hcn t ht
  have hl9 := hlr t ht
  refine zj_astore C dc_T_correct_5 (by decide) rfl ?_
  refine zj_aload C dc_T_correct_7 0 rfl ?_
  refine zj_iload_n C dc_T_correct_9 rfl 3 rfl ?_
  refine zx_Sv C (ct_T_refuseUnlessPlace _ hst z ad N g (2 + 8 * t) (ts t) (by omega) (hts t ht) pl hc9) gv_T_91 rfl rfl rfl hd_T_refuseUnlessPlace ⟨(Nat.le_of_ble_eq_true rfl), (Nat.le_of_ble_eq_true rfl)⟩ rfl rfl (Nat.le_of_ble_eq_true rfl) ⟨(Nat.le_of_ble_eq_true rfl), (Nat.le_of_ble_eq_true rfl)⟩ dc_T_correct_10 (fun E9 g9 h9 => zx_passi C hT ⟨(Nat.le_of_ble_eq_true rfl), (Nat.le_of_ble_eq_true rfl)⟩ ⟨h9.2.1, Or.inl ⟨h9.1, Or.inr ⟨t, ⟨ht, rfl, hth⟩, h9.2.2⟩⟩⟩) (fun g1 h1 => ?_)
  obtain ⟨⟨k, hk, rfl⟩, hg2⟩ := h1
  rw [hg2]
  refine zj_iload_n C dc_T_correct_13 rfl 4 rfl ?_
  refine zj_iload C dc_T_correct_14 5 rfl ?_
  refine zx_Sv C (ct_T_refuseUnlessNote _ hst z ad N g x y) gv_T_70 rfl rfl rfl hd_T_refuseUnlessNote ⟨(Nat.le_of_ble_eq_true rfl), (Nat.le_of_ble_eq_true rfl)⟩ rfl rfl (Nat.le_of_ble_eq_true rfl) ⟨(Nat.le_of_ble_eq_true rfl), (Nat.le_of_ble_eq_true rfl)⟩ dc_T_correct_16 (fun E9 g9 h9 => zx_passi C hT ⟨(Nat.le_of_ble_eq_true rfl), (Nat.le_of_ble_eq_true rfl)⟩ ⟨h9.2.1, Or.inr (Or.inl ⟨h9.1, ⟨t, k, ⟨ht, rfl, hth⟩, hk, rfl⟩, h9.2.2⟩)⟩) (fun g1 h1 => ?_)
  obtain ⟨hno, hg3⟩ := h1
  rw [hg3]
  refine zj_aload C dc_T_correct_19 0 rfl ?_
  refine zj_get (k := 5) C (by omega) (hts t ht).1 rfl (by decide) fw_U fl_T_77 rfl rfl dc_T_correct_21 ?_
  refine zj_iconst (v := 1) C dc_T_correct_24 (by decide) ?_
  refine zj_iadd C dc_T_correct_25 ?_
  refine zj_topi (nI_1 _) ?_
  refine zj_bipush (v := 9) C dc_T_correct_26 (by decide) ?_
  refine zj_icmp_lt C dc_T_correct_28 rfl (fun a1 => ?_) (fun a1 => ?_)
  · have a1 := (nI_ltI (b := 9) (by omega) (by omega)).mp a1
    refine zj_aload C dc_T_correct_39 0 rfl ?_
    refine zj_iload_n C dc_T_correct_41 rfl 3 rfl ?_
    refine zj_iload_n C dc_T_correct_42 rfl 4 rfl ?_
    refine zj_iload C dc_T_correct_43 5 rfl ?_
    refine zj_Vi C (ct_U_replace _ hst z ad N g (2 + 8 * t) _ _ _ _ _ _ _ _ _ (by omega) (hts t ht) k x y (by omega) (by omega)) gv_T_95 rfl rfl rfl hd_U_replace ⟨(Nat.le_of_ble_eq_true rfl), (Nat.le_of_ble_eq_true rfl)⟩ (by omega) (hts t ht).1 rfl rfl rfl (Nat.le_of_ble_eq_true rfl) ⟨(Nat.le_of_ble_eq_true rfl), (Nat.le_of_ble_eq_true rfl)⟩ dc_T_correct_45 (fun r1 g1 h1 => ?_)
    obtain ⟨rfl, b1, b2⟩ := h1
    exact zx_iret C ⟨(Nat.le_of_ble_eq_true rfl), (Nat.le_of_ble_eq_true rfl)⟩ dc_T_correct_48 ⟨t, k, ⟨ht, rfl, hth⟩, hk, rfl, hno, by omega, rfl, zs_A_put hA9 ht b1 (fun j hj => b2 j (by omega)), fun j hj => b2 j (by omega)⟩
  · have a1 := (zn_nlt (b := 9) (by omega) (by omega)).mp a1
    exact zx_throwi (names := xt_ns) C hT xt_fit_IllegalStateException xt_nf cl_T_57 ini_IllegalStateException xt_at_IllegalStateException xt_bd_IllegalStateException ins_IllegalStateException xt_ok_IllegalStateException dc_T_correct_31 dc_T_correct_34 dc_T_correct_35 dc_T_correct_38 ⟨(Nat.le_of_ble_eq_true rfl), (Nat.le_of_ble_eq_true rfl), (Nat.le_of_ble_eq_true rfl), (Nat.le_of_ble_eq_true rfl)⟩ ⟨(Nat.le_of_ble_eq_true rfl), (Nat.le_of_ble_eq_true rfl)⟩ ⟨rfl, Or.inr (Or.inr ⟨rfl, t, k, ⟨ht, rfl, hth⟩, hk, rfl, hno, by omega⟩)⟩
set_option maxHeartbeats 4000000 in
set_option maxRecDepth 100000 in
theorem ct_T_restore (l : Launch) (hst : l.stackTraces = false) (z : zv_T) (ad : Nat → Nat) (N : Nat) (g : Nat → va_E) (ts : Nat → zu_S) (id : Int32) (hN : 108 ≤ N) (hs : zs_A z ad g ts) (rd : Int32) (hlr : ∀ t, t < 8 → zu_lr (ts t) ≤ 8) (hpl : ∀ t, t < 8 → ∀ j, j < zu_lr (ts t) → ∃ k, k < 20 ∧ zu_pr (ts t) j = nI k) : zx_v l mn_T_restore ws_T_restore rm_T_restore z ad N g [.ref (ad 0), .int id, .int rd] 2 12 (fun g1 => ∃ t r, zp_is ts id t ∧ r ≤ zu_lr (ts t) ∧ rd = nI r ∧ zs_A z ad g1 (zp_ts ts t ((ts t).1, (ts t).2.1, r, zu_cn (ts t), zp_bk (zu_p (ts t)) (zu_pr (ts t)) (zu_rp (ts t)) (zu_lr (ts t)) (zu_lr (ts t) - r), zp_bk (zu_q (ts t)) (zu_pr (ts t)) (zu_rq (ts t)) (zu_lr (ts t)) (zu_lr (ts t) - r), (ts t).2.2.2.2.2.2)) ∧ ∀ j, 66 ≤ j → g1 j = g j) (fun E g1 => g1 = g ∧ E = "java/lang/IndexOutOfBoundsException" ∧ ((∀ t, ¬ zp_is ts id t) ∨ ∃ t, zp_is ts id t ∧ ∀ k, k ≤ zu_lr (ts t) → ¬ rd = nI k)) := by
  have hA9 := hs
  obtain ⟨h0, ⟨f, hA, hf⟩, hts⟩ := hs
  refine zx_ofv hst pn_T_restore rfl (Nat.le_of_ble_eq_true rfl) (fun X hX C hT => ?_)
  subst hX
  show zj_J X 0 0 _ ad N g 0 [(0, .ref (ad 0)), (1, .int id), (2, .int rd)] []
  refine zj_aload_n C dc_T_restore_0 rfl 0 rfl ?_
  refine zj_iload_n C dc_T_restore_1 rfl 1 rfl ?_
  refine zx_Vr C (ct_T_existing _ hst z ad N g ts _ hN hA9) gv_T_63 rfl rfl rfl hd_T_existing ⟨(Nat.le_of_ble_eq_true rfl), (Nat.le_of_ble_eq_true rfl)⟩ (by omega) h0 rfl rfl rfl (Nat.le_of_ble_eq_true rfl) ⟨(Nat.le_of_ble_eq_true rfl), (Nat.le_of_ble_eq_true rfl)⟩ dc_T_restore_2 (fun E9 g9 h9 => zx_passv C hT ⟨(Nat.le_of_ble_eq_true rfl), (Nat.le_of_ble_eq_true rfl)⟩ ⟨h9.2.1, h9.1, Or.inl h9.2.2⟩) (fun k1 g1 h1 => ?_)
  obtain ⟨⟨t, ⟨ht, rfl, hth⟩, rfl⟩, hg1⟩ := h1
  rw [hg1]
  refine zj_astore_n C dc_T_restore_5 rfl (by decide) rfl ?_
  refine zj_aload_n C dc_T_restore_6 rfl 0 rfl ?_
  refine zj_iload_n C dc_T_restore_7 rfl 3 rfl ?_
  refine zx_Sv C (ct_T_refuseUnlessReading _ hst z ad N g (2 + 8 * t) (ts t) (by omega) (hts t ht) rd (hlr t ht)) gv_T_99 rfl rfl rfl hd_T_refuseUnlessReading ⟨(Nat.le_of_ble_eq_true rfl), (Nat.le_of_ble_eq_true rfl)⟩ rfl rfl (Nat.le_of_ble_eq_true rfl) ⟨(Nat.le_of_ble_eq_true rfl), (Nat.le_of_ble_eq_true rfl)⟩ dc_T_restore_8 (fun E9 g9 h9 => zx_passv C hT ⟨(Nat.le_of_ble_eq_true rfl), (Nat.le_of_ble_eq_true rfl)⟩ ⟨h9.2.1, h9.1, Or.inr ⟨t, ⟨ht, rfl, hth⟩, h9.2.2⟩⟩) (fun g1 h1 => ?_)
  obtain ⟨⟨r, hr, rfl⟩, hg2⟩ := h1
  rw [hg2]
  refine zj_aload_n C dc_T_restore_11 rfl 0 rfl ?_
  refine zj_iload_n C dc_T_restore_12 rfl 3 rfl ?_
  refine zj_Vv C (ct_U_goBack _ hst z ad N g (2 + 8 * t) _ _ _ _ _ _ _ _ _ (by omega) (hts t ht) r hr (hlr t ht) (hpl t ht)) gv_T_102 rfl rfl rfl hd_U_goBack ⟨(Nat.le_of_ble_eq_true rfl), (Nat.le_of_ble_eq_true rfl)⟩ (by omega) (hts t ht).1 rfl rfl rfl (Nat.le_of_ble_eq_true rfl) ⟨(Nat.le_of_ble_eq_true rfl), (Nat.le_of_ble_eq_true rfl)⟩ dc_T_restore_13 (fun g1 h1 => ?_)
  obtain ⟨b1, b2⟩ := h1
  exact zx_vret C ⟨(Nat.le_of_ble_eq_true rfl), (Nat.le_of_ble_eq_true rfl)⟩ dc_T_restore_16 ⟨t, r, ⟨ht, rfl, hth⟩, hr, rfl, zs_A_put hA9 ht b1 (fun j hj => b2 j (by omega)), fun j hj => b2 j (by omega)⟩
set_option maxHeartbeats 4000000 in
set_option maxRecDepth 100000 in
theorem ct_T_about (l : Launch) (hst : l.stackTraces = false) (z : zv_T) (ad : Nat → Nat) (N : Nat) (g : Nat → va_E) (ts : Nat → zu_S) (id : Int32) (hN : 108 ≤ N) (hs : zs_A z ad g ts) (w : Int32) : zx_i l mn_T_about ws_T_about rm_T_about z ad N g [.ref (ad 0), .int id, .int w] 2 12 (fun r g1 => ∃ t, zp_is ts id t ∧ ((w = nI 0 ∧ r = nI (zu_cn (ts t))) ∨ (w = nI 1 ∧ r = zb_i (zu_sh (ts t))) ∨ (w = nI 2 ∧ r = nI (zu_lr (ts t) + 1))) ∧ g1 = g) (fun E g1 => g1 = g ∧ ((E = "java/lang/IndexOutOfBoundsException" ∧ ∀ t, ¬ zp_is ts id t) ∨ (E = "java/lang/IllegalArgumentException" ∧ (∃ t, zp_is ts id t) ∧ ∀ k, k < 3 → ¬ w = nI k))) := by
  have hA9 := hs
  obtain ⟨h0, ⟨f, hA, hf⟩, hts⟩ := hs
  refine zx_ofi hst pn_T_about rfl (Nat.le_of_ble_eq_true rfl) (fun X hX C hT => ?_)
  subst hX
  show zj_J X 0 0 _ ad N g 0 [(0, .ref (ad 0)), (1, .int id), (2, .int w)] []
  refine zj_aload_n C dc_T_about_0 rfl 0 rfl ?_
  refine zj_iload_n C dc_T_about_1 rfl 1 rfl ?_
  refine zx_Vr C (ct_T_existing _ hst z ad N g ts _ hN hA9) gv_T_63 rfl rfl rfl hd_T_existing ⟨(Nat.le_of_ble_eq_true rfl), (Nat.le_of_ble_eq_true rfl)⟩ (by omega) h0 rfl rfl rfl (Nat.le_of_ble_eq_true rfl) ⟨(Nat.le_of_ble_eq_true rfl), (Nat.le_of_ble_eq_true rfl)⟩ dc_T_about_2 (fun E9 g9 h9 => zx_passi C hT ⟨(Nat.le_of_ble_eq_true rfl), (Nat.le_of_ble_eq_true rfl)⟩ ⟨h9.2.1, Or.inl ⟨h9.1, h9.2.2⟩⟩) (fun k1 g1 h1 => ?_)
  obtain ⟨⟨t, ⟨ht, rfl, hth⟩, rfl⟩, hg1⟩ := h1
  rw [hg1]
  refine zj_astore_n C dc_T_about_5 rfl (by decide) rfl ?_
  refine zj_iload_n C dc_T_about_6 rfl 3 rfl ?_
  rcases zp_sw3 w with rfl | rfl | rfl | hw
  · refine zj_tableIn C dc_T_about_7 (by decide) (by decide) rfl rfl ?_
    refine zj_aload_n C dc_T_about_32 rfl 0 rfl ?_
    refine zj_get (k := 0) C (by omega) (hts t ht).1 rfl (by decide) fw_U fl_T_81 rfl rfl dc_T_about_33 ?_
    refine zj_get (k := 2) C (by omega) (hts t ht).2.1.1 rfl (by decide) fw_N fl_T_84 rfl rfl dc_T_about_36 ?_
    exact zx_iret C ⟨(Nat.le_of_ble_eq_true rfl), (Nat.le_of_ble_eq_true rfl)⟩ dc_T_about_39 ⟨t, ⟨ht, rfl, hth⟩, Or.inl ⟨rfl, rfl⟩, rfl⟩
  · refine zj_tableIn C dc_T_about_7 (by decide) (by decide) rfl rfl ?_
    refine zj_aload_n C dc_T_about_40 rfl 0 rfl ?_
    refine zj_get (k := 4) C (by omega) (hts t ht).1 rfl (by decide) fw_U fl_T_74 rfl rfl dc_T_about_41 ?_
    refine zj_if_eq C dc_T_about_44 rfl (fun a1 => ?_) (fun a1 => ?_)
    · have a1 := zb_i0 a1
      refine zj_iconst (v := 0) C dc_T_about_51 (by decide) ?_
      exact zx_iret C ⟨(Nat.le_of_ble_eq_true rfl), (Nat.le_of_ble_eq_true rfl)⟩ dc_T_about_52 ⟨t, ⟨ht, rfl, hth⟩, Or.inr (Or.inl ⟨rfl, by rw [a1]; rfl⟩), rfl⟩
    · have a1 := zb_i1 a1
      refine zj_iconst (v := 1) C dc_T_about_47 (by decide) ?_
      refine zj_goto C dc_T_about_48 rfl ?_
      exact zx_iret C ⟨(Nat.le_of_ble_eq_true rfl), (Nat.le_of_ble_eq_true rfl)⟩ dc_T_about_52 ⟨t, ⟨ht, rfl, hth⟩, Or.inr (Or.inl ⟨rfl, by rw [a1]; rfl⟩), rfl⟩
  · refine zj_tableIn C dc_T_about_7 (by decide) (by decide) rfl rfl ?_
    refine zj_aload_n C dc_T_about_53 rfl 0 rfl ?_
    refine zj_get (k := 5) C (by omega) (hts t ht).1 rfl (by decide) fw_U fl_T_77 rfl rfl dc_T_about_54 ?_
    refine zj_iconst (v := 1) C dc_T_about_57 (by decide) ?_
    refine zj_iadd C dc_T_about_58 ?_
    refine zj_topi (nI_1 _) ?_
    exact zx_iret C ⟨(Nat.le_of_ble_eq_true rfl), (Nat.le_of_ble_eq_true rfl)⟩ dc_T_about_59 ⟨t, ⟨ht, rfl, hth⟩, Or.inr (Or.inr ⟨rfl, rfl⟩), rfl⟩
  · refine zj_tableOut C dc_T_about_7 hw rfl ?_
    exact zx_throwi (names := xt_ns) C hT xt_fit_IllegalArgumentException xt_nf cl_T_114 ini_IllegalArgumentException xt_at_IllegalArgumentException xt_bd_IllegalArgumentException ins_IllegalArgumentException xt_ok_IllegalArgumentException dc_T_about_60 dc_T_about_63 dc_T_about_64 dc_T_about_67 ⟨(Nat.le_of_ble_eq_true rfl), (Nat.le_of_ble_eq_true rfl), (Nat.le_of_ble_eq_true rfl), (Nat.le_of_ble_eq_true rfl)⟩ ⟨(Nat.le_of_ble_eq_true rfl), (Nat.le_of_ble_eq_true rfl)⟩ ⟨rfl, Or.inr ⟨rfl, ⟨t, ht, rfl, hth⟩, zp_sw3n hw⟩⟩
end ZP1
