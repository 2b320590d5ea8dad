section ZP4
theorem zp_sw6 (w : Int32) : w = nI 0 ∨ w = nI 1 ∨ w = nI 2 ∨ w = nI 3 ∨ w = nI 4 ∨ w = nI 5 ∨ (w.toInt < 0 ∨ 5 < w.toInt) := by
  by_cases h : w.toInt < 0
  · exact Or.inr (Or.inr (Or.inr (Or.inr (Or.inr (Or.inr (Or.inl h))))))
  · have h1 : ¬ w < 0 := fun h2 => h (by rw [Int32.lt_iff_toInt_lt] at h2; exact h2)
    obtain ⟨j, hj, rfl⟩ := nI_of h1
    rw [nI_toInt hj]
    rcases (by omega : j = 0 ∨ j = 1 ∨ j = 2 ∨ j = 3 ∨ j = 4 ∨ j = 5 ∨ 5 < j) with c | c | c | c | c | c | c
    · exact Or.inl (by rw [c])
    · exact Or.inr (Or.inl (by rw [c]))
    · exact Or.inr (Or.inr (Or.inl (by rw [c])))
    · exact Or.inr (Or.inr (Or.inr (Or.inl (by rw [c]))))
    · exact Or.inr (Or.inr (Or.inr (Or.inr (Or.inl (by rw [c])))))
    · exact Or.inr (Or.inr (Or.inr (Or.inr (Or.inr (Or.inl (by rw [c]))))))
    · exact Or.inr (Or.inr (Or.inr (Or.inr (Or.inr (Or.inr (Or.inr (by omega)))))))
theorem zp_sw6n {w : Int32} (h : w.toInt < 0 ∨ 5 < w.toInt) : ∀ k, k < 6 → ¬ w = nI k := by
  intro k hk e
  subst e
  rw [nI_toInt (by omega)] at h
  omega
/-- how many of what was found are kept -/
abbrev zq_kp (F : List zq_I) : Nat := if 30 < F.length then 30 else F.length
/-- what match tells of a passage -/
def zq_mv (as : Nat) (x : zq_I) (w r : Int32) : Prop := (w = nI 0 ∧ r = nI x.1) ∨ (w = nI 1 ∧ r = nI x.2.1) ∨ (w = nI 2 ∧ r = nI x.2.2.1) ∨ (w = nI 3 ∧ r = x.2.2.2.1) ∨ (w = nI 4 ∧ r = nI (zp_lt (x.2.2.2.2 * x.2.2.2.2) (as * x.2.2.1))) ∨ (w = nI 5 ∧ r = nI (zp_lt (as * x.2.2.1) (x.2.2.2.2 * x.2.2.2.2)))
theorem zq_at_mem {F : List zq_I} {a : Nat} (h : a < F.length) : zq_at F a ∈ F := by
  unfold zq_at
  rw [List.getD_eq_getElem?_getD, List.getElem?_eq_getElem h]
  exact List.getElem_mem h
theorem zp_w3 {w : Int32} (b1 : ¬ w < 0) (b2 : w ≤ 2) : w = nI 0 ∨ w = nI 1 ∨ w = nI 2 := by
  rcases zp_sw3 w with h | h | h | h | h
  · exact Or.inl h
  · exact Or.inr (Or.inl h)
  · exact Or.inr (Or.inr h)
  · exact absurd (Int32.lt_iff_toInt_lt.mpr h) b1
  · exact absurd (Int32.lt_iff_toInt_lt.mpr (show (2 : Int32).toInt < w.toInt from h)) (Int32.not_lt.mpr b2)
theorem zp_ei_len (T : Nat → Nat → Nat) (fr : Nat) : ∀ n st, (zp_ei T fr st n).length ≤ n := by
  intro n
  induction n with
  | zero => intro st; exact Nat.le_refl _
  | succ n ih =>
    intro st
    rw [zp_eiS, List.length_append]
    have := ih (st + 1)
    split <;> simp <;> omega
theorem zp_eo_len (T : Nat → Nat → Nat) (S le : Nat) : ∀ n fr, (zp_eo T S le fr n).length ≤ n * (S + 1) := by
  intro n
  induction n with
  | zero => intro fr; exact Nat.zero_le _
  | succ n ih =>
    intro fr
    show (zp_ei T fr le (S + 1 - fr - le) ++ zp_eo T S le (fr + 1) n).length ≤ _
    rw [List.length_append, Nat.succ_mul, Nat.add_comm (n * (S + 1))]
    exact Nat.add_le_add (Nat.le_trans (zp_ei_len T fr _ _) (by omega)) (ih _)
theorem zp_eo_len2 (T : Nat → Nat → Nat) (le : Nat) {c : Nat} (hc : c ≤ 20) : (zp_eo T (c - 1) le 0 (c - 1)).length < 2 ^ 30 := by
  have h1 := zp_eo_len T (c - 1) le (c - 1) 0
  have h2 : (c - 1) * (c - 1 + 1) ≤ 20 * 20 := Nat.mul_le_mul (by omega) (by omega)
  omega
set_option maxHeartbeats 4000000 in
set_option maxRecDepth 100000 in
theorem ct_T_match (l : Launch) (hst : l.stackTraces = false) (z : zv_T) (ad : Nat → Nat) (N : Nat) (g : Nat → va_E) (ts : Nat → zu_S) (F : List zq_I) (as : Nat) (i w : Int32) (hN : 108 ≤ N) (hA' : zs_A z ad g ts) (hF : zq_F z ad g as F) (hok : zq_ok F) (has : F.length = 0 ∨ (0 < as ∧ as ≤ 8)) (hFl : F.length < 2 ^ 30) : zx_i l mn_T_match ws_T_match rm_T_match z ad N g [.ref (ad 0), .int i, .int w] 1 6 (fun r g1 => ∃ j s, j < zq_kp F ∧ i = nI j ∧ zr_ok (zq_ld F) F.length (zq_kp F) s ∧ zq_mv as (zq_at F (s j)) w r ∧ g1 = g) (fun E g1 => g1 = g ∧ ((E = "java/lang/IndexOutOfBoundsException" ∧ ∀ j, j < zq_kp F → ¬ i = nI j) ∨ (E = "java/lang/IllegalArgumentException" ∧ (∃ j, j < zq_kp F ∧ i = nI j) ∧ ∀ k, k < 6 → ¬ w = nI k))) := by
  obtain ⟨pi, it, s, hsF, hr, -, hit⟩ := hF
  obtain ⟨f, hA, hf⟩ := hsF.2.1
  have hkp : zq_kp F ≤ 30 := by unfold zq_kp; split <;> omega
  have hkp2 : zq_kp F ≤ F.length := by unfold zq_kp; split <;> omega
  refine zx_ofi hst pn_T_match rfl (Nat.le_of_ble_eq_true rfl) (fun X hX C hT => ?_)
  subst hX
  show zj_J X 0 0 _ ad N g 0 [(0, .ref (ad 0)), (1, .int i), (2, .int w)] []
  refine zj_iload_n C dc_T_match_0 rfl 1 rfl ?_
  refine zj_if_lt C dc_T_match_1 rfl (fun a1 => ?_) (fun a1 => ?_)
  · skip
    exact zx_throwi (names := xt_ns) C hT xt_fit_IndexOutOfBoundsException xt_nf cl_T_50 ini_IndexOutOfBoundsException xt_at_IndexOutOfBoundsException xt_bd_IndexOutOfBoundsException ins_IndexOutOfBoundsException xt_ok_IndexOutOfBoundsException dc_T_match_15 dc_T_match_18 dc_T_match_19 dc_T_match_22 ⟨(Nat.le_of_ble_eq_true rfl), (Nat.le_of_ble_eq_true rfl), (Nat.le_of_ble_eq_true rfl), (Nat.le_of_ble_eq_true rfl)⟩ ⟨(Nat.le_of_ble_eq_true rfl), (Nat.le_of_ble_eq_true rfl)⟩ ⟨rfl, Or.inl ⟨rfl, fun j hj e => by subst e; exact nI_pos (by omega) a1⟩⟩
  · skip
    refine zj_iload_n C dc_T_match_4 rfl 1 rfl ?_
    refine zj_aload_n C dc_T_match_5 rfl 0 rfl ?_
    refine zj_get (k := 2) C (by omega) hA'.1 rfl (by decide) fw_T fl_T_28 rfl rfl dc_T_match_6 ?_
    refine zj_get (k := 3) C (by omega) hsF.1 rfl (by decide) fw_F fl_T_137 rfl rfl dc_T_match_9 ?_
    refine zj_icmp_lt C dc_T_match_12 rfl (fun a2 => ?_) (fun a2 => ?_)
    · obtain ⟨j, hj9, rfl⟩ := nI_of a1
      have hj : j < zq_kp F := (nI_ltI hj9 (by omega)).mp a2
      have hpi := hsF.2.2.1 j (by omega)
      obtain ⟨hx1, hx2, hx3, hx4, hx5, hx6⟩ := hok _ (zq_at_mem (hr.1 j hj))
      have hP2 : g (pi j) = zs_P (zq_it (zq_at F (s j))) := (hsF.2.2.2.2 (pi j) hpi.1 hpi.2).trans (by rw [hit j hj])
      have hP : g (pi j) = ze_o 3 [.int (nI (zq_at F (s j)).1), .int (nI (zq_at F (s j)).2.1), .int (nI (zq_at F (s j)).2.2.1), .int (zq_at F (s j)).2.2.2.1, .int (nI (zq_at F (s j)).2.2.2.2)] := hP2
      refine zj_aload_n C dc_T_match_23 rfl 0 rfl ?_
      refine zj_get (k := 2) C (by omega) hA'.1 rfl (by decide) fw_T fl_T_28 rfl rfl dc_T_match_24 ?_
      refine zj_get (k := 0) C (by omega) hsF.1 rfl (by decide) fw_F fl_T_140 rfl rfl dc_T_match_27 ?_
      refine zj_iload_n C dc_T_match_30 rfl 1 rfl ?_
      refine zj_pald C (by omega) hA rfl (by omega) (by decide) dc_T_match_31 ?_
      refine zj_topv (congrArg va_rf (hf j (by omega))) ?_
      refine zj_astore_n C dc_T_match_32 rfl (by decide) rfl ?_
      refine zj_iload_n C dc_T_match_33 rfl 3 rfl ?_
      rcases zp_sw6 w with rfl | rfl | rfl | rfl | rfl | rfl | hw
      · refine zj_tableIn C dc_T_match_34 (by decide) (by decide) rfl rfl ?_
        refine zj_aload_n C dc_T_match_72 rfl 0 rfl ?_
        refine zj_get (k := 0) C (by omega) hP rfl (by decide) fw_P fl_T_144 rfl rfl dc_T_match_73 ?_
        exact zx_iret C ⟨(Nat.le_of_ble_eq_true rfl), (Nat.le_of_ble_eq_true rfl)⟩ dc_T_match_76 ⟨j, s, hj, rfl, hr, Or.inl ⟨rfl, rfl⟩, rfl⟩
      · refine zj_tableIn C dc_T_match_34 (by decide) (by decide) rfl rfl ?_
        refine zj_aload_n C dc_T_match_77 rfl 0 rfl ?_
        refine zj_get (k := 1) C (by omega) hP rfl (by decide) fw_P fl_T_149 rfl rfl dc_T_match_78 ?_
        exact zx_iret C ⟨(Nat.le_of_ble_eq_true rfl), (Nat.le_of_ble_eq_true rfl)⟩ dc_T_match_81 ⟨j, s, hj, rfl, hr, Or.inr (Or.inl ⟨rfl, rfl⟩), rfl⟩
      · refine zj_tableIn C dc_T_match_34 (by decide) (by decide) rfl rfl ?_
        refine zj_aload_n C dc_T_match_82 rfl 0 rfl ?_
        refine zj_get (k := 2) C (by omega) hP rfl (by decide) fw_P fl_T_152 rfl rfl dc_T_match_83 ?_
        exact zx_iret C ⟨(Nat.le_of_ble_eq_true rfl), (Nat.le_of_ble_eq_true rfl)⟩ dc_T_match_86 ⟨j, s, hj, rfl, hr, Or.inr (Or.inr (Or.inl ⟨rfl, rfl⟩)), rfl⟩
      · refine zj_tableIn C dc_T_match_34 (by decide) (by decide) rfl rfl ?_
        refine zj_aload_n C dc_T_match_87 rfl 0 rfl ?_
        refine zj_get (k := 3) C (by omega) hP rfl (by decide) fw_P fl_T_155 rfl rfl dc_T_match_88 ?_
        exact zx_iret C ⟨(Nat.le_of_ble_eq_true rfl), (Nat.le_of_ble_eq_true rfl)⟩ dc_T_match_91 ⟨j, s, hj, rfl, hr, Or.inr (Or.inr (Or.inr (Or.inl ⟨rfl, rfl⟩))), rfl⟩
      · refine zj_tableIn C dc_T_match_34 (by decide) (by decide) rfl rfl ?_
        refine zj_aload_n C dc_T_match_92 rfl 1 rfl ?_
        refine zj_get (k := 2) C (by omega) hA'.1 rfl (by decide) fw_T fl_T_28 rfl rfl dc_T_match_93 ?_
        refine zj_aload_n C dc_T_match_96 rfl 0 rfl ?_
        refine zj_Vi C (ct_F_upperOfScore _ hst z ad N g as _ _ pi it (by omega) hsF (pi j) _ _ _ _ _ (by omega) hP2 hx3 hx4 hx1 hx2 (has.resolve_left (by omega)).1 (has.resolve_left (by omega)).2) gv_T_158 rfl rfl rfl hd_F_upperOfScore ⟨(Nat.le_of_ble_eq_true rfl), (Nat.le_of_ble_eq_true rfl)⟩ (by omega) hsF.1 rfl rfl rfl (Nat.le_of_ble_eq_true rfl) ⟨(Nat.le_of_ble_eq_true rfl), (Nat.le_of_ble_eq_true rfl)⟩ dc_T_match_97 (fun r1 g9 h1 => ?_)
        obtain ⟨rfl, hg9⟩ := h1
        rw [hg9]
        exact zx_iret C ⟨(Nat.le_of_ble_eq_true rfl), (Nat.le_of_ble_eq_true rfl)⟩ dc_T_match_100 ⟨j, s, hj, rfl, hr, Or.inr (Or.inr (Or.inr (Or.inr (Or.inl ⟨rfl, rfl⟩)))), rfl⟩
      · refine zj_tableIn C dc_T_match_34 (by decide) (by decide) rfl rfl ?_
        refine zj_aload_n C dc_T_match_101 rfl 1 rfl ?_
        refine zj_get (k := 2) C (by omega) hA'.1 rfl (by decide) fw_T fl_T_28 rfl rfl dc_T_match_102 ?_
        refine zj_aload_n C dc_T_match_105 rfl 0 rfl ?_
        refine zj_Vi C (ct_F_lowerOfScore _ hst z ad N g as _ _ pi it (by omega) hsF (pi j) _ _ _ _ _ (by omega) hP2 hx3 hx4 hx1 hx2 (has.resolve_left (by omega)).1 (has.resolve_left (by omega)).2) gv_T_162 rfl rfl rfl hd_F_lowerOfScore ⟨(Nat.le_of_ble_eq_true rfl), (Nat.le_of_ble_eq_true rfl)⟩ (by omega) hsF.1 rfl rfl rfl (Nat.le_of_ble_eq_true rfl) ⟨(Nat.le_of_ble_eq_true rfl), (Nat.le_of_ble_eq_true rfl)⟩ dc_T_match_106 (fun r1 g9 h1 => ?_)
        obtain ⟨rfl, hg9⟩ := h1
        rw [hg9]
        exact zx_iret C ⟨(Nat.le_of_ble_eq_true rfl), (Nat.le_of_ble_eq_true rfl)⟩ dc_T_match_109 ⟨j, s, hj, rfl, hr, Or.inr (Or.inr (Or.inr (Or.inr (Or.inr ⟨rfl, rfl⟩)))), rfl⟩
      · refine zj_tableOut C dc_T_match_34 hw rfl ?_
        exact zx_throwi (names := xt_ns) C hT xt_fit_IllegalArgumentException xt_nf cl_T_114 ini_IllegalArgumentException xt_at_IllegalArgumentException xt_bd_IllegalArgumentException ins_IllegalArgumentException xt_ok_IllegalArgumentException dc_T_match_110 dc_T_match_113 dc_T_match_114 dc_T_match_117 ⟨(Nat.le_of_ble_eq_true rfl), (Nat.le_of_ble_eq_true rfl), (Nat.le_of_ble_eq_true rfl), (Nat.le_of_ble_eq_true rfl)⟩ ⟨(Nat.le_of_ble_eq_true rfl), (Nat.le_of_ble_eq_true rfl)⟩ ⟨rfl, Or.inr ⟨rfl, ⟨j, hj, rfl⟩, zp_sw6n hw⟩⟩
    · skip
      exact zx_throwi (names := xt_ns) C hT xt_fit_IndexOutOfBoundsException xt_nf cl_T_50 ini_IndexOutOfBoundsException xt_at_IndexOutOfBoundsException xt_bd_IndexOutOfBoundsException ins_IndexOutOfBoundsException xt_ok_IndexOutOfBoundsException dc_T_match_15 dc_T_match_18 dc_T_match_19 dc_T_match_22 ⟨(Nat.le_of_ble_eq_true rfl), (Nat.le_of_ble_eq_true rfl), (Nat.le_of_ble_eq_true rfl), (Nat.le_of_ble_eq_true rfl)⟩ ⟨(Nat.le_of_ble_eq_true rfl), (Nat.le_of_ble_eq_true rfl)⟩ ⟨rfl, Or.inl ⟨rfl, fun j hj e => by subst e; exact a2 ((nI_ltI (b := zq_kp F) (by omega) (by omega)).mpr hj)⟩⟩
set_option maxHeartbeats 4000000 in
set_option maxRecDepth 100000 in
theorem ct_T_repeats (l : Launch) (hst : l.stackTraces = false) (z : zv_T) (ad : Nat → Nat) (N : Nat) (g : Nat → va_E) (ts : Nat → zu_S) (id : Int32) (hN : 108 ≤ N) (hs : zs_A z ad g ts) (x : Int32) (hcn : ∀ t, t < 8 → zu_cn (ts t) ≤ 20) (a1 a2 a3 : Int32) (cm : Nat → Int32) (hW : zs_W z ad g a1 a2 a3 cm) : zx_i l mn_T_repeats ws_T_repeats rm_T_repeats z ad N g [.ref (ad 0), .int id, .int x] 2 12 (fun r g1 => ∃ t le, zp_is ts id t ∧ 1 ≤ le ∧ le ≤ 19 ∧ x = nI le ∧ r = nI (zp_eo (zp_T (zu_p (ts t)) (zu_cn (ts t) - 1)) (zu_cn (ts t) - 1) le 0 (zu_cn (ts t) - 1)).length ∧ (∃ b1 b2 b3 cm2, zs_W z ad g1 b1 b2 b3 cm2) ∧ ∀ j, j ≠ 105 → j ≠ 106 → g1 j = g j) (fun E g1 => g1 = g ∧ ((E = "java/lang/IndexOutOfBoundsException" ∧ ∀ t, ¬ zp_is ts id t) ∨ (E = "java/lang/IllegalArgumentException" ∧ (∃ t, zp_is ts id t) ∧ ¬ zp_le19 x))) := by
  have hA9 := hs
  obtain ⟨h0, ⟨f, hA, hf⟩, hts⟩ := hs
  refine zx_ofi hst pn_T_repeats rfl (Nat.le_of_ble_eq_true rfl) (fun X hX C hT => ?_)
  subst hX
  show zj_J X 0 0 _ ad N g 0 [(0, .ref (ad 0)), (1, .int id), (2, .int x)] []
  refine zj_aload_n C dc_T_repeats_0 rfl 0 rfl ?_
  refine zj_iload_n C dc_T_repeats_1 rfl 1 rfl ?_
  refine zx_Vr C (ct_T_existing _ hst z ad N g ts _ hN hA9) gv_T_63 rfl rfl rfl hd_T_existing ⟨(Nat.le_of_ble_eq_true rfl), (Nat.le_of_ble_eq_true rfl)⟩ (by omega) h0 rfl rfl rfl (Nat.le_of_ble_eq_true rfl) ⟨(Nat.le_of_ble_eq_true rfl), (Nat.le_of_ble_eq_true rfl)⟩ dc_T_repeats_2 (fun E9 g9 h9 => zx_passi C hT ⟨(Nat.le_of_ble_eq_true rfl), (Nat.le_of_ble_eq_true rfl)⟩ ⟨h9.2.1, Or.inl ⟨h9.1, h9.2.2⟩⟩) (fun k1 g1 h1 => ?_)
  obtain ⟨⟨t, ⟨ht, rfl, hth⟩, rfl⟩, hg1⟩ := h1
  rw [hg1]
  have hc9 := hcn t ht
  refine zj_astore_n C dc_T_repeats_5 rfl (by decide) rfl ?_
  refine zj_iload_n C dc_T_repeats_6 rfl 3 rfl ?_
  refine zx_Sv C (ct_T_refuseUnlessLeast _ hst z ad N g x) gv_T_165 rfl rfl rfl hd_T_refuseUnlessLeast ⟨(Nat.le_of_ble_eq_true rfl), (Nat.le_of_ble_eq_true rfl)⟩ rfl rfl (Nat.le_of_ble_eq_true rfl) ⟨(Nat.le_of_ble_eq_true rfl), (Nat.le_of_ble_eq_true rfl)⟩ dc_T_repeats_7 (fun E9 g9 h9 => zx_passi C hT ⟨(Nat.le_of_ble_eq_true rfl), (Nat.le_of_ble_eq_true rfl)⟩ ⟨h9.2.1, Or.inr ⟨h9.1, ⟨t, ht, rfl, hth⟩, h9.2.2⟩⟩) (fun g1 h1 => ?_)
  obtain ⟨⟨le, hle1, hle2, rfl⟩, hg2⟩ := h1
  rw [hg2]
  have hlen := zp_eo_len2 (zp_T (zu_p (ts t)) (zu_cn (ts t) - 1)) le hc9
  refine zj_aload_n C dc_T_repeats_10 rfl 1 rfl ?_
  refine zj_get (k := 4) C (by omega) h0 rfl (by decide) fw_T fl_T_42 rfl rfl dc_T_repeats_11 ?_
  refine zj_aload_n C dc_T_repeats_14 rfl 0 rfl ?_
  refine zj_get (k := 0) C (by omega) (hts t ht).1 rfl (by decide) fw_U fl_T_81 rfl rfl dc_T_repeats_15 ?_
  refine zj_iload_n C dc_T_repeats_18 rfl 3 rfl ?_
  refine zj_iconst (v := -1) C dc_T_repeats_19 (by decide) ?_
  refine zj_Vi C (ct_W_walk _ hst z ad N g (2 + 8 * t + 1) (zu_cn (ts t)) _ _ (hts t ht).2.1 (by omega) hc9 (by omega) a1 a2 a3 cm hW le _ hle1 hle2) gv_T_168 rfl rfl rfl hd_W_walk ⟨(Nat.le_of_ble_eq_true rfl), (Nat.le_of_ble_eq_true rfl)⟩ (by omega) hW.1 rfl rfl rfl (Nat.le_of_ble_eq_true rfl) ⟨(Nat.le_of_ble_eq_true rfl), (Nat.le_of_ble_eq_true rfl)⟩ dc_T_repeats_20 (fun r1 g1 h1 => ?_)
  obtain ⟨h1, hfr⟩ := h1
  rcases h1 with ⟨j, y, h1, h2, -⟩ | ⟨-, rfl, cm2, h3⟩
  · exact absurd h2 (zn_m1n (by have := (List.getElem?_eq_some_iff.mp h1).1; omega))
  exact zx_iret C ⟨(Nat.le_of_ble_eq_true rfl), (Nat.le_of_ble_eq_true rfl)⟩ dc_T_repeats_23 ⟨t, le, ⟨ht, rfl, hth⟩, hle1, hle2, rfl, rfl, ⟨_, _, _, _, h3⟩, hfr⟩
set_option maxHeartbeats 4000000 in
set_option maxRecDepth 100000 in
theorem ct_T_repeat (l : Launch) (hst : l.stackTraces = false) (z : zv_T) (ad : Nat → Nat) (N : Nat) (g : Nat → va_E) (ts : Nat → zu_S) (id : Int32) (hN : 108 ≤ N) (hs : zs_A z ad g ts) (x : Int32) (hcn : ∀ t, t < 8 → zu_cn (ts t) ≤ 20) (a1 a2 a3 : Int32) (cm : Nat → Int32) (hW : zs_W z ad g a1 a2 a3 cm) (i w : Int32) : zx_i l mn_T_repeat ws_T_repeat rm_T_repeat z ad N g [.ref (ad 0), .int id, .int x, .int i, .int w] 3 18 (fun r g1 => ∃ t le, zp_is ts id t ∧ 1 ≤ le ∧ le ≤ 19 ∧ x = nI le ∧ (w = nI 0 ∨ w = nI 1 ∨ w = nI 2) ∧ ((∃ k y, (zp_eo (zp_T (zu_p (ts t)) (zu_cn (ts t) - 1)) (zu_cn (ts t) - 1) le 0 (zu_cn (ts t) - 1))[k]? = some y ∧ i = nI k ∧ ((w = nI 0 ∧ r = nI y.1) ∨ (w = nI 1 ∧ r = nI y.2.1) ∨ (w = nI 2 ∧ r = nI y.2.2))) ∨ ((∀ k, k < (zp_eo (zp_T (zu_p (ts t)) (zu_cn (ts t) - 1)) (zu_cn (ts t) - 1) le 0 (zu_cn (ts t) - 1)).length → ¬ i = nI k) ∧ r = -1)) ∧ (∃ b1 b2 b3 cm2, zs_W z ad g1 b1 b2 b3 cm2) ∧ ∀ j, j ≠ 105 → j ≠ 106 → g1 j = g j) (fun E g1 => g1 = g ∧ ((E = "java/lang/IndexOutOfBoundsException" ∧ ∀ t, ¬ zp_is ts id t) ∨ (E = "java/lang/IllegalArgumentException" ∧ (∃ t, zp_is ts id t) ∧ (¬ zp_le19 x ∨ ¬ (w = nI 0 ∨ w = nI 1 ∨ w = nI 2))))) := by
  have hA9 := hs
  obtain ⟨h0, ⟨f, hA, hf⟩, hts⟩ := hs
  refine zx_ofi hst pn_T_repeat rfl (Nat.le_of_ble_eq_true rfl) (fun X hX C hT => ?_)
  subst hX
  show zj_J X 0 0 _ ad N g 0 [(0, .ref (ad 0)), (1, .int id), (2, .int x), (3, .int i), (4, .int w)] []
  refine zj_aload_n C dc_T_repeat_0 rfl 0 rfl ?_
  refine zj_iload_n C dc_T_repeat_1 rfl 1 rfl ?_
  refine zx_Vr C (ct_T_existing _ hst z ad N g ts _ hN hA9) gv_T_63 rfl rfl rfl hd_T_existing ⟨(Nat.le_of_ble_eq_true rfl), (Nat.le_of_ble_eq_true rfl)⟩ (by omega) h0 rfl rfl rfl (Nat.le_of_ble_eq_true rfl) ⟨(Nat.le_of_ble_eq_true rfl), (Nat.le_of_ble_eq_true rfl)⟩ dc_T_repeat_2 (fun E9 g9 h9 => zx_passi C hT ⟨(Nat.le_of_ble_eq_true rfl), (Nat.le_of_ble_eq_true rfl)⟩ ⟨h9.2.1, Or.inl ⟨h9.1, h9.2.2⟩⟩) (fun k1 g1 h1 => ?_)
  obtain ⟨⟨t, ⟨ht, rfl, hth⟩, rfl⟩, hg1⟩ := h1
  rw [hg1]
  have hc9 := hcn t ht
  refine zj_astore C dc_T_repeat_5 (by decide) rfl ?_
  refine zj_iload_n C dc_T_repeat_7 rfl 3 rfl ?_
  refine zx_Sv C (ct_T_refuseUnlessLeast _ hst z ad N g x) gv_T_165 rfl rfl rfl hd_T_refuseUnlessLeast ⟨(Nat.le_of_ble_eq_true rfl), (Nat.le_of_ble_eq_true rfl)⟩ rfl rfl (Nat.le_of_ble_eq_true rfl) ⟨(Nat.le_of_ble_eq_true rfl), (Nat.le_of_ble_eq_true rfl)⟩ dc_T_repeat_8 (fun E9 g9 h9 => zx_passi C hT ⟨(Nat.le_of_ble_eq_true rfl), (Nat.le_of_ble_eq_true rfl)⟩ ⟨h9.2.1, Or.inr ⟨h9.1, ⟨t, ht, rfl, hth⟩, Or.inl h9.2.2⟩⟩) (fun g1 h1 => ?_)
  obtain ⟨⟨le, hle1, hle2, rfl⟩, hg2⟩ := h1
  rw [hg2]
  have hlen := zp_eo_len2 (zp_T (zu_p (ts t)) (zu_cn (ts t) - 1)) le hc9
  refine zj_iload C dc_T_repeat_11 5 rfl ?_
  refine zj_if_lt C dc_T_repeat_13 rfl (fun b1 => ?_) (fun b1 => ?_)
  · skip
    exact zx_throwi (names := xt_ns) C hT xt_fit_IllegalArgumentException xt_nf cl_T_114 ini_IllegalArgumentException xt_at_IllegalArgumentException xt_bd_IllegalArgumentException ins_IllegalArgumentException xt_ok_IllegalArgumentException dc_T_repeat_22 dc_T_repeat_25 dc_T_repeat_26 dc_T_repeat_29 ⟨(Nat.le_of_ble_eq_true rfl), (Nat.le_of_ble_eq_true rfl), (Nat.le_of_ble_eq_true rfl), (Nat.le_of_ble_eq_true rfl)⟩ ⟨(Nat.le_of_ble_eq_true rfl), (Nat.le_of_ble_eq_true rfl)⟩ ⟨rfl, Or.inr ⟨rfl, ⟨t, ht, rfl, hth⟩, Or.inr (by rintro (rfl | rfl | rfl) <;> exact absurd b1 (by decide))⟩⟩
  · skip
    refine zj_iload C dc_T_repeat_16 5 rfl ?_
    refine zj_iconst (v := 2) C dc_T_repeat_18 (by decide) ?_
    refine zj_icmp_le C dc_T_repeat_19 rfl (fun b2 => ?_) (fun b2 => ?_)
    · have hw3 := zp_w3 b1 b2
      refine zj_iload_n C dc_T_repeat_30 rfl 4 rfl ?_
      refine zj_if_lt C dc_T_repeat_31 rfl (fun b3 => ?_) (fun b3 => ?_)
      · skip
        refine zj_iconst (v := -1) C dc_T_repeat_52 (by decide) ?_
        exact zx_iret C ⟨(Nat.le_of_ble_eq_true rfl), (Nat.le_of_ble_eq_true rfl)⟩ dc_T_repeat_53 ⟨t, le, ⟨ht, rfl, hth⟩, hle1, hle2, rfl, hw3, Or.inr ⟨fun k hk e => by subst e; exact nI_pos (by omega) b3, rfl⟩, ⟨_, _, _, _, hW⟩, fun j _ _ => rfl⟩
      · obtain ⟨k, hk9, rfl⟩ := nI_of b3
        refine zj_aload_n C dc_T_repeat_34 rfl 1 rfl ?_
        refine zj_get (k := 4) C (by omega) h0 rfl (by decide) fw_T fl_T_42 rfl rfl dc_T_repeat_35 ?_
        refine zj_aload C dc_T_repeat_38 0 rfl ?_
        refine zj_get (k := 0) C (by omega) (hts t ht).1 rfl (by decide) fw_U fl_T_81 rfl rfl dc_T_repeat_40 ?_
        refine zj_iload_n C dc_T_repeat_43 rfl 3 rfl ?_
        refine zj_iload_n C dc_T_repeat_44 rfl 4 rfl ?_
        refine zj_Vi C (ct_W_walk _ hst z ad N g (2 + 8 * t + 1) (zu_cn (ts t)) _ _ (hts t ht).2.1 (by omega) hc9 (by omega) a1 a2 a3 cm hW le (nI k) hle1 hle2) gv_T_168 rfl rfl rfl hd_W_walk ⟨(Nat.le_of_ble_eq_true rfl), (Nat.le_of_ble_eq_true rfl)⟩ (by omega) hW.1 rfl rfl rfl (Nat.le_of_ble_eq_true rfl) ⟨(Nat.le_of_ble_eq_true rfl), (Nat.le_of_ble_eq_true rfl)⟩ dc_T_repeat_45 (fun r1 g1 h1 => ?_)
        obtain ⟨h1, hfr⟩ := h1
        rcases h1 with ⟨j, y, h1, h2, rfl, cm2, h3⟩ | ⟨h1, rfl, cm2, h3⟩
        · have hjl := (List.getElem?_eq_some_iff.mp h1).1
          obtain rfl := (nI_eq (by omega) hk9).mp h2
          refine zj_iload_n C dc_T_repeat_48 rfl 4 rfl ?_
          refine zj_icmp_gt C dc_T_repeat_49 rfl (fun _ => ?_) (fun h => absurd h (not_not_intro ((nI_ltI (by omega) (by omega)).mpr (by omega))))
          refine zj_iload C dc_T_repeat_54 5 rfl ?_
          have hw4 : w = nI 0 ∨ w = nI 1 ∨ w = nI 2 := hw3
          rcases hw4 with rfl | rfl | rfl
          · refine zj_lookup C dc_T_repeat_56 rfl rfl rfl ?_
            refine zj_aload_n C dc_T_repeat_84 rfl 1 rfl ?_
            refine zj_get (k := 4) C (by omega) ((hfr 0 (by omega) (by omega)).trans h0) rfl (by decide) fw_T fl_T_42 rfl rfl dc_T_repeat_85 ?_
            refine zj_get (k := 1) C (by omega) h3.1 rfl (by decide) fw_W fl_T_172 rfl rfl dc_T_repeat_88 ?_
            exact zx_iret C ⟨(Nat.le_of_ble_eq_true rfl), (Nat.le_of_ble_eq_true rfl)⟩ dc_T_repeat_91 ⟨t, le, ⟨ht, rfl, hth⟩, hle1, hle2, rfl, hw3, Or.inl ⟨_, _, h1, rfl, Or.inl ⟨rfl, rfl⟩⟩, ⟨_, _, _, _, h3⟩, hfr⟩
          · refine zj_lookup C dc_T_repeat_56 rfl rfl rfl ?_
            refine zj_aload_n C dc_T_repeat_92 rfl 1 rfl ?_
            refine zj_get (k := 4) C (by omega) ((hfr 0 (by omega) (by omega)).trans h0) rfl (by decide) fw_T fl_T_42 rfl rfl dc_T_repeat_93 ?_
            refine zj_get (k := 2) C (by omega) h3.1 rfl (by decide) fw_W fl_T_175 rfl rfl dc_T_repeat_96 ?_
            exact zx_iret C ⟨(Nat.le_of_ble_eq_true rfl), (Nat.le_of_ble_eq_true rfl)⟩ dc_T_repeat_99 ⟨t, le, ⟨ht, rfl, hth⟩, hle1, hle2, rfl, hw3, Or.inl ⟨_, _, h1, rfl, Or.inr (Or.inl ⟨rfl, rfl⟩)⟩, ⟨_, _, _, _, h3⟩, hfr⟩
          · refine zj_lookup C dc_T_repeat_56 rfl rfl rfl ?_
            refine zj_aload_n C dc_T_repeat_100 rfl 1 rfl ?_
            refine zj_get (k := 4) C (by omega) ((hfr 0 (by omega) (by omega)).trans h0) rfl (by decide) fw_T fl_T_42 rfl rfl dc_T_repeat_101 ?_
            refine zj_get (k := 3) C (by omega) h3.1 rfl (by decide) fw_W fl_T_178 rfl rfl dc_T_repeat_104 ?_
            exact zx_iret C ⟨(Nat.le_of_ble_eq_true rfl), (Nat.le_of_ble_eq_true rfl)⟩ dc_T_repeat_107 ⟨t, le, ⟨ht, rfl, hth⟩, hle1, hle2, rfl, hw3, Or.inl ⟨_, _, h1, rfl, Or.inr (Or.inr ⟨rfl, rfl⟩)⟩, ⟨_, _, _, _, h3⟩, hfr⟩
        · have hkl : (zp_eo (zp_T (zu_p (ts t)) (zu_cn (ts t) - 1)) (zu_cn (ts t) - 1) le 0 (zu_cn (ts t) - 1)).length ≤ k := Nat.le_of_not_lt (fun e => h1 k e rfl)
          refine zj_iload_n C dc_T_repeat_48 rfl 4 rfl ?_
          refine zj_icmp_gt C dc_T_repeat_49 rfl (fun h => absurd h ((zn_nlt (by omega) (by omega)).mpr (by omega))) (fun _ => ?_)
          refine zj_iconst (v := -1) C dc_T_repeat_52 (by decide) ?_
          exact zx_iret C ⟨(Nat.le_of_ble_eq_true rfl), (Nat.le_of_ble_eq_true rfl)⟩ dc_T_repeat_53 ⟨t, le, ⟨ht, rfl, hth⟩, hle1, hle2, rfl, hw3, Or.inr ⟨fun k2 hk2 e => h1 k2 hk2 e.symm, rfl⟩, ⟨_, _, _, _, h3⟩, hfr⟩
    · skip
      exact zx_throwi (names := xt_ns) C hT xt_fit_IllegalArgumentException xt_nf cl_T_114 ini_IllegalArgumentException xt_at_IllegalArgumentException xt_bd_IllegalArgumentException ins_IllegalArgumentException xt_ok_IllegalArgumentException dc_T_repeat_22 dc_T_repeat_25 dc_T_repeat_26 dc_T_repeat_29 ⟨(Nat.le_of_ble_eq_true rfl), (Nat.le_of_ble_eq_true rfl), (Nat.le_of_ble_eq_true rfl), (Nat.le_of_ble_eq_true rfl)⟩ ⟨(Nat.le_of_ble_eq_true rfl), (Nat.le_of_ble_eq_true rfl)⟩ ⟨rfl, Or.inr ⟨rfl, ⟨t, ht, rfl, hth⟩, Or.inr (by rintro (rfl | rfl | rfl) <;> exact b2 (by decide))⟩⟩
/-- the first of a .. lim - 1 with e, or none -/
def zp_fst (e : Nat → Bool) (a lim : Nat) (r : Int32) : Prop := (∃ k, a ≤ k ∧ k < lim ∧ e k = true ∧ (∀ j, a ≤ j → j < k → e j = false) ∧ r = nI k) ∨ ((∀ j, a ≤ j → j < lim → e j = false) ∧ r = -1)
def zp_ec (ts : Nat → zu_S) (t o len : Nat) : Nat → Bool := (fun pl => zp_all (fun k => decide (zu_p (ts o) (k + 1) - zu_p (ts o) k = zu_p (ts t) (pl + k + 1) - zu_p (ts t) (pl + k))) (len - 1) && zp_all (fun k => decide (zu_q (ts o) k = zu_q (ts t) (pl + k))) len)
theorem zp_ln_t {x : Int32} (h1 : ¬ x < 2) (h2 : x ≤ 20) : ∃ len : Nat, 2 ≤ len ∧ len ≤ 20 ∧ x = nI len := by
  have h0 : ¬ x < 0 := fun h => h1 (Int32.lt_trans h (by decide))
  obtain ⟨a, ha, rfl⟩ := nI_of h0
  exact ⟨a, (zn_nlt (b := 2) ha (by omega)).mp h1, (nI_leI (b := 20) ha (by omega)).mp h2, rfl⟩
set_option maxHeartbeats 4000000 in
set_option maxRecDepth 100000 in
theorem ct_T_canon (l : Launch) (hst : l.stackTraces = false) (z : zv_T) (ad : Nat → Nat) (N : Nat) (g : Nat → va_E) (ts : Nat → zu_S) (id : Int32) (hN : 108 ≤ N) (hs : zs_A z ad g ts) (other x : Int32) (hcn : ∀ t, t < 8 → zu_cn (ts t) ≤ 20) : zx_i l mn_T_canon ws_T_canon rm_T_canon z ad N g [.ref (ad 0), .int id, .int other, .int x] 3 18 (fun r g1 => ∃ t o len, zp_is ts id t ∧ zp_is ts other o ∧ 2 ≤ len ∧ len ≤ 20 ∧ x = nI len ∧ ((zu_cn (ts o) < len ∧ r = -1) ∨ (len ≤ zu_cn (ts o) ∧ zp_fst (zp_ec ts t o len) (if t = o then 1 else 0) (zu_cn (ts t) + 1 - len) r)) ∧ g1 = g) (fun E g1 => g1 = g ∧ ((E = "java/lang/IndexOutOfBoundsException" ∧ ((∀ t, ¬ zp_is ts id t) ∨ ∀ o, ¬ zp_is ts other o)) ∨ (E = "java/lang/IllegalArgumentException" ∧ (∃ t, zp_is ts id t) ∧ (∃ o, zp_is ts other o) ∧ ∀ len, 2 ≤ len → len ≤ 20 → ¬ x = nI len))) := by
  have hA9 := hs
  obtain ⟨h0, ⟨f, hA, hf⟩, hts⟩ := hs
  refine zx_ofi hst pn_T_canon rfl (Nat.le_of_ble_eq_true rfl) (fun X hX C hT => ?_)
  subst hX
  show zj_J X 0 0 _ ad N g 0 [(0, .ref (ad 0)), (1, .int id), (2, .int other), (3, .int x)] []
  have loop : ∀ (n : Nat) (pl t o len : Nat), (zu_cn (ts t) + 1 - len) - pl = n → pl ≤ 21 → t < 8 → o < 8 → id = nI t → other = nI o → zu_th (ts t) = true → zu_th (ts o) = true → 2 ≤ len → len ≤ 20 → x = nI len → len ≤ zu_cn (ts o) → (if t = o then 1 else 0) ≤ pl → (∀ j, (if t = o then 1 else 0) ≤ j → j < pl → zp_ec ts t o len j = false) → zj_J X (0 + 1 + 1) (0 + 6 + 6) (zx_Qi X 3 18 ad N (fun r g1 => ∃ t o len, zp_is ts id t ∧ zp_is ts other o ∧ 2 ≤ len ∧ len ≤ 20 ∧ x = nI len ∧ ((zu_cn (ts o) < len ∧ r = -1) ∨ (len ≤ zu_cn (ts o) ∧ zp_fst (zp_ec ts t o len) (if t = o then 1 else 0) (zu_cn (ts t) + 1 - len) r)) ∧ g1 = g) (fun E g1 => g1 = g ∧ ((E = "java/lang/IndexOutOfBoundsException" ∧ ((∀ t, ¬ zp_is ts id t) ∨ ∀ o, ¬ zp_is ts other o)) ∨ (E = "java/lang/IllegalArgumentException" ∧ (∃ t, zp_is ts id t) ∧ (∃ o, zp_is ts other o) ∧ ∀ len, 2 ≤ len → len ≤ 20 → ¬ x = nI len)))) ad N g 62 [(6, .int (nI pl)), (5, .ref (ad (2 + 8 * o + 1))), (4, .ref (ad (2 + 8 * t + 1))), (0, .ref (ad 0)), (1, .int id), (2, .int other), (3, .int (nI len))] [] := by
    intro n
    induction n with
    | zero =>
      intro pl t o len e1 e2 ht ho hid hio hth hoh hl1 hl2 hx hlo hA0 hno
      have hc9 := hcn t ht
      have hco := hcn o ho
      refine zj_iload C dc_T_canon_62 0 rfl ?_
      refine zj_iload_n C dc_T_canon_64 rfl 6 rfl ?_
      refine zj_iadd C dc_T_canon_65 ?_
      refine zj_topi (nI_add _ _) ?_
      refine zj_aload C dc_T_canon_66 2 rfl ?_
      refine zj_get (k := 2) C (by omega) (hts t ht).2.1.1 rfl (by decide) fw_N fl_T_84 rfl rfl dc_T_canon_68 ?_
      refine zj_icmp_gt C dc_T_canon_71 rfl (fun _ => ?_) (fun h => absurd h (not_not_intro ((nI_ltI (by omega) (by omega)).mpr (by omega))))
      refine zj_iconst (v := -1) C dc_T_canon_109 (by decide) ?_
      exact zx_iret C ⟨(Nat.le_of_ble_eq_true rfl), (Nat.le_of_ble_eq_true rfl)⟩ dc_T_canon_110 ⟨t, o, len, ⟨ht, hid, hth⟩, ⟨ho, hio, hoh⟩, hl1, hl2, hx, Or.inr ⟨hlo, Or.inr ⟨fun j h1 h2 => hno j h1 (by omega), rfl⟩⟩, rfl⟩
    | succ n ih =>
      intro pl t o len e1 e2 ht ho hid hio hth hoh hl1 hl2 hx hlo hA0 hno
      have hc9 := hcn t ht
      have hco := hcn o ho
      refine zj_iload C dc_T_canon_62 0 rfl ?_
      refine zj_iload_n C dc_T_canon_64 rfl 6 rfl ?_
      refine zj_iadd C dc_T_canon_65 ?_
      refine zj_topi (nI_add _ _) ?_
      refine zj_aload C dc_T_canon_66 2 rfl ?_
      refine zj_get (k := 2) C (by omega) (hts t ht).2.1.1 rfl (by decide) fw_N fl_T_84 rfl rfl dc_T_canon_68 ?_
      refine zj_icmp_gt C dc_T_canon_71 rfl (fun h => absurd h (((zn_nlt (by omega) (by omega)).mpr (by omega)))) (fun _ => ?_)
      refine zj_aload C dc_T_canon_74 1 rfl ?_
      refine zj_iload_n C dc_T_canon_76 rfl 6 rfl ?_
      refine zj_aload C dc_T_canon_77 2 rfl ?_
      refine zj_iload C dc_T_canon_79 0 rfl ?_
      refine zj_Si C (ct_T_sameSteps _ hst z ad N g (2 + 8 * o + 1) 20 _ (2 + 8 * t + 1) _ pl _ _ _ _ (by omega) (by omega) (hts o ho).2.1 (hts t ht).2.1 (by decide) len (by omega) (by omega) (by omega)) gv_T_181 rfl rfl rfl hd_T_sameSteps ⟨(Nat.le_of_ble_eq_true rfl), (Nat.le_of_ble_eq_true rfl)⟩ rfl rfl (Nat.le_of_ble_eq_true rfl) ⟨(Nat.le_of_ble_eq_true rfl), (Nat.le_of_ble_eq_true rfl)⟩ dc_T_canon_81 (fun r1 g9 h1 => ?_)
      obtain ⟨rfl, hg9⟩ := h1
      rw [hg9]
      refine zj_if_eq C dc_T_canon_84 rfl (fun c1 => ?_) (fun c1 => ?_)
      · have c1 := zb_i0 c1
        have c3 : zp_ec ts t o len pl = false := by unfold zp_ec; show (zp_all _ (len - 1) && zp_all _ len) = _; rw [c1]; rfl
        refine zj_iinc C dc_T_canon_103 0 rfl (zn_inc pl) (by decide) rfl ?_
        refine zj_goto C dc_T_canon_106 rfl ?_
        refine zj_loc (L' := [(6, .int (nI (pl + 1))), (5, .ref (ad (2 + 8 * o + 1))), (4, .ref (ad (2 + 8 * t + 1))), (0, .ref (ad 0)), (1, .int id), (2, .int other), (3, .int (nI len))]) [0, 1, 2, 3, 4, 5, 6] rfl ?_
        exact ih (pl + 1) t o len (by omega) (by omega) ht ho hid hio hth hoh hl1 hl2 hx hlo (by omega) (fun j h1 h2 => if c9 : j = pl then by rw [c9]; exact c3 else hno j h1 (by omega))
      · have c1 := zb_i1 c1
        refine zj_aload C dc_T_canon_87 1 rfl ?_
        refine zj_iload_n C dc_T_canon_89 rfl 6 rfl ?_
        refine zj_aload C dc_T_canon_90 2 rfl ?_
        refine zj_iload C dc_T_canon_92 0 rfl ?_
        refine zj_Si C (ct_T_sameLengths _ hst z ad N g (2 + 8 * o + 1) 20 _ (2 + 8 * t + 1) _ pl _ _ _ _ (by omega) (by omega) (hts o ho).2.1 (hts t ht).2.1 (by decide) len (by omega) (by omega)) gv_T_185 rfl rfl rfl hd_T_sameLengths ⟨(Nat.le_of_ble_eq_true rfl), (Nat.le_of_ble_eq_true rfl)⟩ rfl rfl (Nat.le_of_ble_eq_true rfl) ⟨(Nat.le_of_ble_eq_true rfl), (Nat.le_of_ble_eq_true rfl)⟩ dc_T_canon_94 (fun r1 g9 h1 => ?_)
        obtain ⟨rfl, hg9⟩ := h1
        rw [hg9]
        refine zj_if_eq C dc_T_canon_97 rfl (fun c2 => ?_) (fun c2 => ?_)
        · have c2 := zb_i0 c2
          have c3 : zp_ec ts t o len pl = false := by unfold zp_ec; show (zp_all _ (len - 1) && zp_all _ len) = _; rw [c2, Bool.and_false]
          refine zj_iinc C dc_T_canon_103 0 rfl (zn_inc pl) (by decide) rfl ?_
          refine zj_goto C dc_T_canon_106 rfl ?_
          refine zj_loc (L' := [(6, .int (nI (pl + 1))), (5, .ref (ad (2 + 8 * o + 1))), (4, .ref (ad (2 + 8 * t + 1))), (0, .ref (ad 0)), (1, .int id), (2, .int other), (3, .int (nI len))]) [0, 1, 2, 3, 4, 5, 6] rfl ?_
          exact ih (pl + 1) t o len (by omega) (by omega) ht ho hid hio hth hoh hl1 hl2 hx hlo (by omega) (fun j h1 h2 => if c9 : j = pl then by rw [c9]; exact c3 else hno j h1 (by omega))
        · have c2 := zb_i1 c2
          have c3 : zp_ec ts t o len pl = true := by unfold zp_ec; show (zp_all _ (len - 1) && zp_all _ len) = _; rw [c1, c2]; rfl
          refine zj_iload C dc_T_canon_100 0 rfl ?_
          exact zx_iret C ⟨(Nat.le_of_ble_eq_true rfl), (Nat.le_of_ble_eq_true rfl)⟩ dc_T_canon_102 ⟨t, o, len, ⟨ht, hid, hth⟩, ⟨ho, hio, hoh⟩, hl1, hl2, hx, Or.inr ⟨hlo, Or.inl ⟨pl, hA0, by omega, c3, hno, rfl⟩⟩, rfl⟩
  refine zj_aload_n C dc_T_canon_0 rfl 0 rfl ?_
  refine zj_iload_n C dc_T_canon_1 rfl 1 rfl ?_
  refine zx_Vr C (ct_T_existing _ hst z ad N g ts _ hN hA9) gv_T_63 rfl rfl rfl hd_T_existing ⟨(Nat.le_of_ble_eq_true rfl), (Nat.le_of_ble_eq_true rfl)⟩ (by omega) h0 rfl rfl rfl (Nat.le_of_ble_eq_true rfl) ⟨(Nat.le_of_ble_eq_true rfl), (Nat.le_of_ble_eq_true rfl)⟩ dc_T_canon_2 (fun E9 g9 h9 => zx_passi C hT ⟨(Nat.le_of_ble_eq_true rfl), (Nat.le_of_ble_eq_true rfl)⟩ ⟨h9.2.1, Or.inl ⟨h9.1, Or.inl h9.2.2⟩⟩) (fun k1 g1 h1 => ?_)
  obtain ⟨⟨t, ⟨ht, hid, hth⟩, rfl⟩, hg1⟩ := h1
  rw [hg1]
  have hc9 := hcn t ht
  refine zj_get (k := 0) C (by omega) (hts t ht).1 rfl (by decide) fw_U fl_T_81 rfl rfl dc_T_canon_5 ?_
  refine zj_astore C dc_T_canon_8 (by decide) rfl ?_
  refine zj_aload_n C dc_T_canon_10 rfl 1 rfl ?_
  refine zj_iload_n C dc_T_canon_11 rfl 3 rfl ?_
  refine zx_Vr C (ct_T_existing _ hst z ad N g ts _ hN hA9) gv_T_63 rfl rfl rfl hd_T_existing ⟨(Nat.le_of_ble_eq_true rfl), (Nat.le_of_ble_eq_true rfl)⟩ (by omega) h0 rfl rfl rfl (Nat.le_of_ble_eq_true rfl) ⟨(Nat.le_of_ble_eq_true rfl), (Nat.le_of_ble_eq_true rfl)⟩ dc_T_canon_12 (fun E9 g9 h9 => zx_passi C hT ⟨(Nat.le_of_ble_eq_true rfl), (Nat.le_of_ble_eq_true rfl)⟩ ⟨h9.2.1, Or.inl ⟨h9.1, Or.inr h9.2.2⟩⟩) (fun k1 g1 h1 => ?_)
  obtain ⟨⟨o, ⟨ho, hio, hoh⟩, rfl⟩, hg2⟩ := h1
  rw [hg2]
  have hco := hcn o ho
  refine zj_get (k := 0) C (by omega) (hts o ho).1 rfl (by decide) fw_U fl_T_81 rfl rfl dc_T_canon_15 ?_
  refine zj_astore C dc_T_canon_18 (by decide) rfl ?_
  refine zj_iload_n C dc_T_canon_20 rfl 5 rfl ?_
  refine zj_iconst (v := 2) C dc_T_canon_21 (by decide) ?_
  refine zj_icmp_lt C dc_T_canon_22 rfl (fun b1 => ?_) (fun b1 => ?_)
  · skip
    exact zx_throwi (names := xt_ns) C hT xt_fit_IllegalArgumentException xt_nf cl_T_114 ini_IllegalArgumentException xt_at_IllegalArgumentException xt_bd_IllegalArgumentException ins_IllegalArgumentException xt_ok_IllegalArgumentException dc_T_canon_31 dc_T_canon_34 dc_T_canon_35 dc_T_canon_38 ⟨(Nat.le_of_ble_eq_true rfl), (Nat.le_of_ble_eq_true rfl), (Nat.le_of_ble_eq_true rfl), (Nat.le_of_ble_eq_true rfl)⟩ ⟨(Nat.le_of_ble_eq_true rfl), (Nat.le_of_ble_eq_true rfl)⟩ ⟨rfl, Or.inr ⟨rfl, ⟨t, ht, hid, hth⟩, ⟨o, ho, hio, hoh⟩, fun len h1 h2 e => by subst e; exact absurd ((nI_ltI (b := 2) (by omega) (by omega)).mp b1) (by omega)⟩⟩
  · skip
    refine zj_iload_n C dc_T_canon_25 rfl 5 rfl ?_
    refine zj_bipush (v := 20) C dc_T_canon_26 (by decide) ?_
    refine zj_icmp_le C dc_T_canon_28 rfl (fun b2 => ?_) (fun b2 => ?_)
    · obtain ⟨len, hl1, hl2, hx⟩ := zp_ln_t b1 b2
      subst hx
      have hx : nI len = nI len := rfl
      refine zj_aload C dc_T_canon_39 0 rfl ?_
      refine zj_get (k := 2) C (by omega) (hts o ho).2.1.1 rfl (by decide) fw_N fl_T_84 rfl rfl dc_T_canon_41 ?_
      refine zj_iload_n C dc_T_canon_44 rfl 5 rfl ?_
      refine zj_icmp_ge C dc_T_canon_45 rfl (fun b3 => ?_) (fun b3 => ?_)
      · have hlo := (nI_leI (by omega) (by omega)).mp b3
        refine zj_iload_n C dc_T_canon_50 rfl 3 rfl ?_
        refine zj_iload_n C dc_T_canon_51 rfl 4 rfl ?_
        refine zj_icmp_ne C dc_T_canon_52 rfl (fun b4 => ?_) (fun b4 => ?_)
        · have c0 : ¬ t = o := fun e => b4 (by rw [hid, hio, e])
          refine zj_iconst (v := 0) C dc_T_canon_59 (by decide) ?_
          refine zj_istore C dc_T_canon_60 (by decide) rfl ?_
          refine zj_loc (L' := [(6, .int (nI 0)), (5, .ref (ad (2 + 8 * o + 1))), (4, .ref (ad (2 + 8 * t + 1))), (0, .ref (ad 0)), (1, .int id), (2, .int other), (3, .int (nI len))]) [0, 1, 2, 3, 4, 5, 6] rfl ?_
          exact loop _ 0 t o len rfl (by omega) ht ho hid hio hth hoh hl1 hl2 hx hlo (by first | exact Nat.le_of_eq (if_pos c0) | exact Nat.le_of_eq (if_neg c0)) (fun j h1 h2 => absurd h2 (by first | rw [if_pos c0] at h1; omega | omega))
        · have c0 : t = o := (nI_eq (by omega) (by omega)).mp (hid.symm.trans (b4.trans hio))
          refine zj_iconst (v := 1) C dc_T_canon_55 (by decide) ?_
          refine zj_goto C dc_T_canon_56 rfl ?_
          refine zj_istore C dc_T_canon_60 (by decide) rfl ?_
          refine zj_loc (L' := [(6, .int (nI 1)), (5, .ref (ad (2 + 8 * o + 1))), (4, .ref (ad (2 + 8 * t + 1))), (0, .ref (ad 0)), (1, .int id), (2, .int other), (3, .int (nI len))]) [0, 1, 2, 3, 4, 5, 6] rfl ?_
          exact loop _ 1 t o len rfl (by omega) ht ho hid hio hth hoh hl1 hl2 hx hlo (by first | exact Nat.le_of_eq (if_pos c0) | exact Nat.le_of_eq (if_neg c0)) (fun j h1 h2 => absurd h2 (by first | rw [if_pos c0] at h1; omega | omega))
      · have hlo := (zn_nle (by omega) (by omega)).mp b3
        refine zj_iconst (v := -1) C dc_T_canon_48 (by decide) ?_
        exact zx_iret C ⟨(Nat.le_of_ble_eq_true rfl), (Nat.le_of_ble_eq_true rfl)⟩ dc_T_canon_49 ⟨t, o, len, ⟨ht, hid, hth⟩, ⟨ho, hio, hoh⟩, hl1, hl2, hx, Or.inl ⟨hlo, rfl⟩, rfl⟩
    · skip
      exact zx_throwi (names := xt_ns) C hT xt_fit_IllegalArgumentException xt_nf cl_T_114 ini_IllegalArgumentException xt_at_IllegalArgumentException xt_bd_IllegalArgumentException ins_IllegalArgumentException xt_ok_IllegalArgumentException dc_T_canon_31 dc_T_canon_34 dc_T_canon_35 dc_T_canon_38 ⟨(Nat.le_of_ble_eq_true rfl), (Nat.le_of_ble_eq_true rfl), (Nat.le_of_ble_eq_true rfl), (Nat.le_of_ble_eq_true rfl)⟩ ⟨(Nat.le_of_ble_eq_true rfl), (Nat.le_of_ble_eq_true rfl)⟩ ⟨rfl, Or.inr ⟨rfl, ⟨t, ht, hid, hth⟩, ⟨o, ho, hio, hoh⟩, fun len h1 h2 e => by subst e; exact b2 ((nI_leI (b := 20) (by omega) (by omega)).mpr h2)⟩⟩
end ZP4
