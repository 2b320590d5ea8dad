section ZO3
/-- a row of the distances from a place on, by the spans -/
def zq_row (qc lo c : Nat) (qp p : Nat → Int32) (pl : Nat) (f : Nat → Int32) : Prop := ∀ s, 2 ≤ s → s ≤ lo → pl + s ≤ c → f s = zi_I (zp_w (zp_dp (zp_sm qp p pl) (qc - 1) (s - 1)))
def zq_nr (qc kk : Nat) (qp p : Nat → Int32) (pl s : Nat) : Bool := decide ((zp_dp (zp_sm qp p pl) (qc - 1) (s - 1)).1 ≤ kk ∧ (s = 2 ∨ (¬ (zp_dp (zp_sm qp p pl) (qc - 1) (s - 1 - 1)).1 ≤ kk ∧ ¬ (zp_dp (zp_sm qp p (pl + 1)) (qc - 1) (s - 1 - 1)).1 ≤ kk)))
theorem zq_le (same : Nat → Nat → Bool) {qc j kk : Nat} (hqc : qc ≤ 8) (hj : j ≤ 30) (hk : kk ≤ 4) : zi_I (zp_w (zp_dp same (qc - 1) j)) ≤ nI (kk * 16) ↔ (zp_dp same (qc - 1) j).1 ≤ kk := by
  have h1 := zp_w_lo same (qc - 1) j (by omega)
  have h2 := zp_dp_up same (qc - 1) j
  have h3 := zp_w_near same (qc - 1) j kk (by omega)
  have h4 : zp_w (zp_dp same (qc - 1) j) ≤ 1000 := by unfold zp_w; omega
  rw [zi_n, zi_le (by omega) (by omega) (by omega) (by omega), ← h3]
  have e : ((kk * 16 : Nat) : Int) = 16 * (kk : Int) := by omega
  rw [e]
theorem zq_nr_ok {qc kk lo c pl s : Nat} {qp p hr bh : Nat → Int32} (hqc8 : qc ≤ 8) (hkk : kk ≤ 4) (hs : 2 ≤ s) (hs2 : s ≤ lo) (hs3 : pl + s ≤ c) (hlo : lo ≤ 12) (h1 : zq_row qc lo c qp p pl hr) (h2 : zq_row qc lo c qp p (pl + 1) bh) : (if hr s ≤ nI (kk * 16) ∧ (s = 2 ∨ (¬ hr (s - 1) ≤ nI (kk * 16) ∧ ¬ bh (s - 1) ≤ nI (kk * 16))) then (1 : Int32) else 0) = zb_i (zq_nr qc kk qp p pl s) := by
  have key : (hr s ≤ nI (kk * 16) ∧ (s = 2 ∨ (¬ hr (s - 1) ≤ nI (kk * 16) ∧ ¬ bh (s - 1) ≤ nI (kk * 16)))) ↔ zq_nr qc kk qp p pl s = true := by
    unfold zq_nr
    rw [decide_eq_true_iff, h1 s hs hs2 hs3, zq_le _ hqc8 (by omega) hkk]
    by_cases c2 : s = 2
    · simp [c2]
    · rw [h1 (s - 1) (by omega) (by omega) (by omega), h2 (s - 1) (by omega) (by omega) (by omega), zq_le _ hqc8 (by omega) hkk, zq_le _ hqc8 (by omega) hkk]
  by_cases c3 : zq_nr qc kk qp p pl s = true
  · rw [if_pos (key.mpr c3), c3]; rfl
  · rw [if_neg (fun h => c3 (key.mp h)), Bool.eq_false_iff.mpr c3]; rfl
/-- those that are near, from a place on -/
def zq_nl (c qc kk t : Nat) (p qp : Nat → Int32) : Nat → List zq_I := fun pl => zq_nn (zq_nr qc kk qp p pl) (fun s => (t, pl, s, p pl - qp 0, (zp_dp (zp_sm qp p pl) (qc - 1) (s - 1)).2 + 1)) 2 ((if qc + kk < c - pl then qc + kk else c - pl) + 1 - 2)
theorem zs_R_fr {z : zv_T} {ad : Nat → Nat} {g g2 : Nat → va_E} {hh ee mo lo : Nat} {wt hr bh : Nat → Int32} (h : zs_R z ad g hh ee mo lo wt hr bh) (hf : ∀ j, 101 ≤ j → j ≤ 104 → g2 j = g j) : zs_R z ad g2 hh ee mo lo wt hr bh := by
  obtain ⟨h1, h2, h3, h4, h5⟩ := h
  exact ⟨(hf 101 (by omega) (by omega)).trans h1, (hf 102 (by omega) (by omega)).trans h2, (hf hh (by omega) (by omega)).trans h3, (hf ee (by omega) (by omega)).trans h4, h5⟩
theorem zq_F_fr {z : zv_T} {ad : Nat → Nat} {g g2 : Nat → va_E} {as : Nat} {F : List zq_I} (h : zq_F z ad g as F) (hf : ∀ j, 69 ≤ j → j ≤ 100 → g2 j = g j) : zq_F z ad g2 as F := by
  obtain ⟨pi, it, s, ⟨h1, ⟨f, h2, h3⟩, h4, h5, h6⟩, h7⟩ := h
  exact ⟨pi, it, s, ⟨(hf 69 (by omega) (by omega)).trans h1, ⟨f, (hf 70 (by omega) (by omega)).trans h2, h3⟩, h4, h5, fun m m1 m2 => (hf m (by omega) (by omega)).trans (h6 m m1 m2)⟩, h7⟩
set_option maxHeartbeats 4000000 in
set_option maxRecDepth 100000 in
theorem ct_T_searchNear (l : Launch) (hst : l.stackTraces = false) (z : zv_T) (ad : Nat → Nat) (N : Nat) (g : Nat → va_E) (ts : Nat → zu_S) (t qc : Nat) (qp qq : Nat → Int32) (F : List zq_I) (hN : 108 ≤ N) (hA' : zs_A z ad g ts) (hq : zs_N z ad g 66 8 qc qp qq) (hF : zq_F z ad g qc F) (ht : t < 8) (kk hh ee mo lo : Nat) (wt hr bh : Nat → Int32) (hR : zs_R z ad g hh ee mo lo wt hr bh) (hkk : kk ≤ 4) (hqc : 2 ≤ qc) (hqc8 : qc ≤ 8) (hcn : zu_cn (ts t) ≤ 20) (hok : zq_ok (F ++ zq_cc (zq_nl (zu_cn (ts t)) qc kk t (zu_p (ts t)) qp) 0 (zu_cn (ts t) - 1))) (hFl : (F ++ zq_cc (zq_nl (zu_cn (ts t)) qc kk t (zu_p (ts t)) qp) 0 (zu_cn (ts t) - 1)).length < 2 ^ 30) : zm_v l mn_T_searchNear ws_T_searchNear rm_T_searchNear z ad N g [.ref (ad 0), .int (nI t), .int (nI kk)] (fun g1 => zq_F z ad g1 qc (F ++ zq_cc (zq_nl (zu_cn (ts t)) qc kk t (zu_p (ts t)) qp) 0 (zu_cn (ts t) - 1)) ∧ (∃ hh ee mo lo wt hr bh, zs_R z ad g1 hh ee mo lo wt hr bh) ∧ ∀ j, j < 69 ∨ 105 ≤ j → g1 j = g j) := by
  have hA9 := hA'
  have hq9 := hq
  obtain ⟨h0, ⟨f, hA, hf⟩, hts⟩ := hA'
  obtain ⟨hq0, hq1, hq2⟩ := hq
  refine zm_ofv hst pn_T_searchNear rfl (Nat.le_of_ble_eq_true rfl) (fun X hX C => ?_)
  subst hX
  show zj_J X 0 0 _ ad N g 0 [(0, .ref (ad 0)), (1, .int (nI t)), (2, .int (nI kk))] []
  have inner : ∀ (n : Nat) (s pl hh ee : Nat) (g2 : Nat → va_E) (F2 Fr : List zq_I) (wt hr bh : Nat → Int32), qc + kk + 1 - s = n → 2 ≤ s → s ≤ 13 → pl < 20 → zq_F z ad g2 qc F2 → zs_R z ad g2 hh ee (kk * 16) (qc + kk) wt hr bh → zq_row qc (qc + kk) (zu_cn (ts t)) qp (zu_p (ts t)) pl hr → zq_row qc (qc + kk) (zu_cn (ts t)) qp (zu_p (ts t)) (pl + 1) bh → (∀ j, j < 69 ∨ 105 ≤ j → g2 j = g j) → (F ++ zq_cc (zq_nl (zu_cn (ts t)) qc kk t (zu_p (ts t)) qp) 0 (zu_cn (ts t) - 1)) = F2 ++ (zq_nn (zq_nr qc kk qp (zu_p (ts t)) pl) (fun s => ((t, pl, s, (zu_p (ts t)) pl - qp 0, (zp_dp (zp_sm qp (zu_p (ts t)) pl) (qc - 1) (s - 1)).2 + 1) : zq_I)) s ((if qc + kk < zu_cn (ts t) - pl then qc + kk else zu_cn (ts t) - pl) + 1 - s) ++ Fr) → (∀ (s : Nat) (g2 : Nat → va_E) (F2 : List zq_I), zq_F z ad g2 qc F2 → zs_R z ad g2 hh ee (kk * 16) (qc + kk) wt hr bh → (∀ j, j < 69 ∨ 105 ≤ j → g2 j = g j) → (F ++ zq_cc (zq_nl (zu_cn (ts t)) qc kk t (zu_p (ts t)) qp) 0 (zu_cn (ts t) - 1)) = F2 ++ Fr → zj_J X 0 0 (zj_Qv X 0 0 ad N (fun g1 => zq_F z ad g1 qc (F ++ zq_cc (zq_nl (zu_cn (ts t)) qc kk t (zu_p (ts t)) qp) 0 (zu_cn (ts t) - 1)) ∧ (∃ hh ee mo lo wt hr bh, zs_R z ad g1 hh ee mo lo wt hr bh) ∧ ∀ j, j < 69 ∨ 105 ≤ j → g1 j = g j)) ad N g2 116 [(5, .int (nI s)), (4, .int (nI pl)), (3, .ref (ad (2 + 8 * t + 1))), (0, .ref (ad 0)), (1, .int (nI t)), (2, .int (nI kk))] []) → zj_J X 0 0 (zj_Qv X 0 0 ad N (fun g1 => zq_F z ad g1 qc (F ++ zq_cc (zq_nl (zu_cn (ts t)) qc kk t (zu_p (ts t)) qp) 0 (zu_cn (ts t) - 1)) ∧ (∃ hh ee mo lo wt hr bh, zs_R z ad g1 hh ee mo lo wt hr bh) ∧ ∀ j, j < 69 ∨ 105 ≤ j → g1 j = g j)) ad N g2 54 [(5, .int (nI s)), (4, .int (nI pl)), (3, .ref (ad (2 + 8 * t + 1))), (0, .ref (ad 0)), (1, .int (nI t)), (2, .int (nI kk))] [] := by
    intro n
    induction n with
    | zero =>
      intro s pl hh ee g2 F2 Fr wt hr bh e1 e2 e3 e4 hF2 hR2 hw1 hw2 hfr hE K
      have hx1 : (if qc + kk < zu_cn (ts t) - pl then qc + kk else zu_cn (ts t) - pl) ≤ qc + kk := by split <;> omega
      have hx2 : (if qc + kk < zu_cn (ts t) - pl then qc + kk else zu_cn (ts t) - pl) ≤ zu_cn (ts t) - pl := by split <;> omega
      have hx3 : (if qc + kk < zu_cn (ts t) - pl then qc + kk else zu_cn (ts t) - pl) = qc + kk ∨ (if qc + kk < zu_cn (ts t) - pl then qc + kk else zu_cn (ts t) - pl) = zu_cn (ts t) - pl := by split <;> simp
      refine zj_iload C dc_T_searchNear_54 0 rfl ?_
      refine zj_aload_n C dc_T_searchNear_56 rfl 3 rfl ?_
      refine zj_get (k := 3) C (by omega) ((hfr 0 (by omega)).trans h0) rfl (by decide) fw_T fl_T_35 rfl rfl dc_T_searchNear_57 ?_
      refine zj_get (k := 4) C (by omega) hR2.1 rfl (by decide) fw_R fl_T_231 rfl rfl dc_T_searchNear_60 ?_
      refine zj_icmp_gt C dc_T_searchNear_63 rfl (fun _ => ?_) (fun h => absurd h (not_not_intro ((nI_ltI (by omega) (by omega)).mpr (by omega))))
      refine zj_loc [0, 1, 2, 3, 4, 5] rfl ?_
      exact K s g2 F2 hF2 hR2 hfr (by rw [hE, show (if qc + kk < zu_cn (ts t) - pl then qc + kk else zu_cn (ts t) - pl) + 1 - s = 0 by omega]; rfl)
    | succ n ih =>
      intro s pl hh ee g2 F2 Fr wt hr bh e1 e2 e3 e4 hF2 hR2 hw1 hw2 hfr hE K
      have hx1 : (if qc + kk < zu_cn (ts t) - pl then qc + kk else zu_cn (ts t) - pl) ≤ qc + kk := by split <;> omega
      have hx2 : (if qc + kk < zu_cn (ts t) - pl then qc + kk else zu_cn (ts t) - pl) ≤ zu_cn (ts t) - pl := by split <;> omega
      have hx3 : (if qc + kk < zu_cn (ts t) - pl then qc + kk else zu_cn (ts t) - pl) = qc + kk ∨ (if qc + kk < zu_cn (ts t) - pl then qc + kk else zu_cn (ts t) - pl) = zu_cn (ts t) - pl := by split <;> simp
      refine zj_iload C dc_T_searchNear_54 0 rfl ?_
      refine zj_aload_n C dc_T_searchNear_56 rfl 3 rfl ?_
      refine zj_get (k := 3) C (by omega) ((hfr 0 (by omega)).trans h0) rfl (by decide) fw_T fl_T_35 rfl rfl dc_T_searchNear_57 ?_
      refine zj_get (k := 4) C (by omega) hR2.1 rfl (by decide) fw_R fl_T_231 rfl rfl dc_T_searchNear_60 ?_
      refine zj_icmp_gt C dc_T_searchNear_63 rfl (fun h => absurd h (((zn_nlt (by omega) (by omega)).mpr (by omega)))) (fun _ => ?_)
      refine zj_iload C dc_T_searchNear_66 1 rfl ?_
      refine zj_iload C dc_T_searchNear_68 0 rfl ?_
      refine zj_iadd C dc_T_searchNear_70 ?_
      refine zj_topi (nI_add _ _) ?_
      refine zj_aload_n C dc_T_searchNear_71 rfl 2 rfl ?_
      refine zj_get (k := 2) C (by omega) ((hfr (2 + 8 * t + 1) (by omega)).trans (hts t ht).2.1.1) rfl (by decide) fw_N fl_T_84 rfl rfl dc_T_searchNear_72 ?_
      refine zj_icmp_gt C dc_T_searchNear_75 rfl (fun h75 => ?_) (fun h75 => ?_)
      · have h75 := (nI_ltI (by omega) (by omega)).mp h75
        refine zj_loc [0, 1, 2, 3, 4, 5] rfl ?_
        exact K s g2 F2 hF2 hR2 hfr (by rw [hE, show (if qc + kk < zu_cn (ts t) - pl then qc + kk else zu_cn (ts t) - pl) + 1 - s = 0 by omega]; rfl)
      · have h75 := (zn_nlt (by omega) (by omega)).mp h75
        have hE2 := hE
        rw [show (if qc + kk < zu_cn (ts t) - pl then qc + kk else zu_cn (ts t) - pl) + 1 - s = ((if qc + kk < zu_cn (ts t) - pl then qc + kk else zu_cn (ts t) - pl) + 1 - (s + 1)) + 1 by omega, zq_nnS] at hE2
        refine zj_aload_n C dc_T_searchNear_78 rfl 3 rfl ?_
        refine zj_get (k := 3) C (by omega) ((hfr 0 (by omega)).trans h0) rfl (by decide) fw_T fl_T_35 rfl rfl dc_T_searchNear_79 ?_
        refine zj_iload C dc_T_searchNear_82 0 rfl ?_
        refine zj_Vi C (ct_R_holds _ hst z ad N g2 (by omega) hh ee (kk * 16) (qc + kk) wt hr bh hR2 s (by omega) (by omega)) gv_T_234 rfl rfl rfl hd_R_holds ⟨(Nat.le_of_ble_eq_true rfl), (Nat.le_of_ble_eq_true rfl)⟩ (by omega) hR2.1 rfl rfl rfl (Nat.le_of_ble_eq_true rfl) ⟨(Nat.le_of_ble_eq_true rfl), (Nat.le_of_ble_eq_true rfl)⟩ dc_T_searchNear_84 (fun r1 g9 h1 => ?_)
        obtain ⟨rfl, hg9⟩ := h1
        rw [hg9, zq_nr_ok hqc8 hkk (by omega) (by omega) h75 (by omega) hw1 hw2]
        refine zj_if_eq C dc_T_searchNear_87 rfl (fun h87 => ?_) (fun h87 => ?_)
        · have h87 := zb_i0 h87
          rw [if_neg (by rw [h87]; exact Bool.false_ne_true)] at hE2
          refine zj_iinc C dc_T_searchNear_110 0 rfl (zn_inc s) (by decide) rfl ?_
          refine zj_goto C dc_T_searchNear_113 rfl ?_
          refine zj_loc (L' := [(5, .int (nI (s + 1))), (4, .int (nI pl)), (3, .ref (ad (2 + 8 * t + 1))), (0, .ref (ad 0)), (1, .int (nI t)), (2, .int (nI kk))]) [0, 1, 2, 3, 4, 5] rfl ?_
          exact ih (s + 1) pl hh ee g2 F2 Fr wt hr bh (by omega) (by omega) (by omega) e4 hF2 hR2 hw1 hw2 hfr hE2 K
        · have h87 := zb_i1 h87
          rw [if_pos h87] at hE2
          have hE3 : (F ++ zq_cc (zq_nl (zu_cn (ts t)) qc kk t (zu_p (ts t)) qp) 0 (zu_cn (ts t) - 1)) = (F2 ++ [(fun s => ((t, pl, s, (zu_p (ts t)) pl - qp 0, (zp_dp (zp_sm qp (zu_p (ts t)) pl) (qc - 1) (s - 1)).2 + 1) : zq_I)) s]) ++ (zq_nn (zq_nr qc kk qp (zu_p (ts t)) pl) (fun s => ((t, pl, s, (zu_p (ts t)) pl - qp 0, (zp_dp (zp_sm qp (zu_p (ts t)) pl) (qc - 1) (s - 1)).2 + 1) : zq_I)) (s + 1) ((if qc + kk < zu_cn (ts t) - pl then qc + kk else zu_cn (ts t) - pl) + 1 - (s + 1)) ++ Fr) := by rw [hE2]; simp only [List.append_assoc]
          have hxa := zp_w_lo (zp_sm qp (zu_p (ts t)) pl) (qc - 1) (s - 1) (by omega)
          have hxb := zp_dp_up (zp_sm qp (zu_p (ts t)) pl) (qc - 1) (s - 1)
          have hxc := zp_w_stay (zp_sm qp (zu_p (ts t)) pl) (qc - 1) (s - 1) (by omega)
          refine zj_aload_n C dc_T_searchNear_90 rfl 3 rfl ?_
          refine zj_iload_n C dc_T_searchNear_91 rfl 4 rfl ?_
          refine zj_iload C dc_T_searchNear_92 1 rfl ?_
          refine zj_iload C dc_T_searchNear_94 0 rfl ?_
          refine zj_aload_n C dc_T_searchNear_96 rfl 3 rfl ?_
          refine zj_get (k := 3) C (by omega) ((hfr 0 (by omega)).trans h0) rfl (by decide) fw_T fl_T_35 rfl rfl dc_T_searchNear_97 ?_
          refine zj_iload C dc_T_searchNear_100 0 rfl ?_
          refine zj_Vi C (ct_R_staying _ hst z ad N g2 (by omega) hh ee (kk * 16) (qc + kk) wt hr bh hR2 s (by omega) (by omega) _ (hw1 s (by omega) (by omega) h75) (by omega) (by unfold zp_w; omega)) gv_T_238 rfl rfl rfl hd_R_staying ⟨(Nat.le_of_ble_eq_true rfl), (Nat.le_of_ble_eq_true rfl)⟩ (by omega) hR2.1 rfl rfl rfl (Nat.le_of_ble_eq_true rfl) ⟨(Nat.le_of_ble_eq_true rfl), (Nat.le_of_ble_eq_true rfl)⟩ dc_T_searchNear_102 (fun r1 g9 h1 => ?_)
          obtain ⟨rfl, hg9⟩ := h1
          rw [hg9, hxc, ← zi_n]
          refine zj_iconst (v := 1) C dc_T_searchNear_105 (by decide) ?_
          refine zj_iadd C dc_T_searchNear_106 ?_
          refine zj_topi (nI_1 _) ?_
          refine zj_Vv C (ct_T_offer _ hst z ad N g2 ts t qc qp qq F2 hN (zs_A_fr hA9 (fun j hj => hfr j (by omega))) (zs_N_fr hq9 (fun j h1 h2 => hfr j (by omega))) hF2 ht pl s _ e4 (by rw [hE3] at hok; exact zq_pre hok) (by have h9 := congrArg List.length hE; simp only [List.length_append] at h9 hFl; omega)) gv_T_205 rfl rfl rfl hd_T_offer ⟨(Nat.le_of_ble_eq_true rfl), (Nat.le_of_ble_eq_true rfl)⟩ (by omega) ((hfr 0 (by omega)).trans h0) rfl rfl rfl (Nat.le_of_ble_eq_true rfl) ⟨(Nat.le_of_ble_eq_true rfl), (Nat.le_of_ble_eq_true rfl)⟩ dc_T_searchNear_107 (fun g3 h1 => ?_)
          obtain ⟨b1, b2⟩ := h1
          refine zj_iinc C dc_T_searchNear_110 0 rfl (zn_inc s) (by decide) rfl ?_
          refine zj_goto C dc_T_searchNear_113 rfl ?_
          refine zj_loc (L' := [(5, .int (nI (s + 1))), (4, .int (nI pl)), (3, .ref (ad (2 + 8 * t + 1))), (0, .ref (ad 0)), (1, .int (nI t)), (2, .int (nI kk))]) [0, 1, 2, 3, 4, 5] rfl ?_
          exact ih (s + 1) pl hh ee g3 (F2 ++ [(fun s => ((t, pl, s, (zu_p (ts t)) pl - qp 0, (zp_dp (zp_sm qp (zu_p (ts t)) pl) (qc - 1) (s - 1)).2 + 1) : zq_I)) s]) Fr wt hr bh (by omega) (by omega) (by omega) e4 b1 (zs_R_fr hR2 (fun j h1 h2 => b2 j (by omega))) hw1 hw2 (fun j hj => (b2 j (by omega)).trans (hfr j hj)) hE3 K
  have outer : ∀ (n : Nat) (pl hh ee : Nat) (g2 : Nat → va_E) (F2 : List zq_I) (wt hr bh : Nat → Int32), zu_cn (ts t) - 1 - pl = n → pl ≤ 20 → zq_F z ad g2 qc F2 → zs_R z ad g2 hh ee (kk * 16) (qc + kk) wt hr bh → zq_row qc (qc + kk) (zu_cn (ts t)) qp (zu_p (ts t)) pl bh → (∀ j, j < 69 ∨ 105 ≤ j → g2 j = g j) → (F ++ zq_cc (zq_nl (zu_cn (ts t)) qc kk t (zu_p (ts t)) qp) 0 (zu_cn (ts t) - 1)) = F2 ++ zq_cc (zq_nl (zu_cn (ts t)) qc kk t (zu_p (ts t)) qp) pl (zu_cn (ts t) - 1 - pl) → zj_J X 0 0 (zj_Qv X 0 0 ad N (fun g1 => zq_F z ad g1 qc (F ++ zq_cc (zq_nl (zu_cn (ts t)) qc kk t (zu_p (ts t)) qp) 0 (zu_cn (ts t) - 1)) ∧ (∃ hh ee mo lo wt hr bh, zs_R z ad g1 hh ee mo lo wt hr bh) ∧ ∀ j, j < 69 ∨ 105 ≤ j → g1 j = g j)) ad N g2 26 [(4, .int (nI pl)), (3, .ref (ad (2 + 8 * t + 1))), (0, .ref (ad 0)), (1, .int (nI t)), (2, .int (nI kk))] [] := by
    intro n
    induction n with
    | zero =>
      intro pl hh ee g2 F2 wt hr bh e1 e2 hF2 hR2 hrow hfr hE
      refine zj_iload C dc_T_searchNear_26 0 rfl ?_
      refine zj_iconst (v := 2) C dc_T_searchNear_28 (by decide) ?_
      refine zj_iadd C dc_T_searchNear_29 ?_
      refine zj_topi (show nI pl + nI 2 = nI (pl + 2) from nI_add _ _) ?_
      refine zj_aload_n C dc_T_searchNear_30 rfl 1 rfl ?_
      refine zj_get (k := 2) C (by omega) ((hfr (2 + 8 * t + 1) (by omega)).trans (hts t ht).2.1.1) rfl (by decide) fw_N fl_T_84 rfl rfl dc_T_searchNear_31 ?_
      refine zj_icmp_gt C dc_T_searchNear_34 rfl (fun _ => ?_) (fun h => absurd h (not_not_intro ((nI_ltI (by omega) (by omega)).mpr (by omega))))
      exact zj_vret C dc_T_searchNear_122 ⟨by rw [hE, show zu_cn (ts t) - 1 - pl = 0 by omega]; show zq_F z ad g2 qc (F2 ++ []); rw [List.append_nil]; exact hF2, ⟨_, _, _, _, _, _, _, hR2⟩, hfr⟩
    | succ n ih =>
      intro pl hh ee g2 F2 wt hr bh e1 e2 hF2 hR2 hrow hfr hE
      refine zj_iload C dc_T_searchNear_26 0 rfl ?_
      refine zj_iconst (v := 2) C dc_T_searchNear_28 (by decide) ?_
      refine zj_iadd C dc_T_searchNear_29 ?_
      refine zj_topi (show nI pl + nI 2 = nI (pl + 2) from nI_add _ _) ?_
      refine zj_aload_n C dc_T_searchNear_30 rfl 1 rfl ?_
      refine zj_get (k := 2) C (by omega) ((hfr (2 + 8 * t + 1) (by omega)).trans (hts t ht).2.1.1) rfl (by decide) fw_N fl_T_84 rfl rfl dc_T_searchNear_31 ?_
      refine zj_icmp_gt C dc_T_searchNear_34 rfl (fun h => absurd h (((zn_nlt (by omega) (by omega)).mpr (by omega)))) (fun _ => ?_)
      refine zj_aload_n C dc_T_searchNear_37 rfl 2 rfl ?_
      refine zj_get (k := 3) C (by omega) ((hfr 0 (by omega)).trans h0) rfl (by decide) fw_T fl_T_35 rfl rfl dc_T_searchNear_38 ?_
      refine zj_aload_n C dc_T_searchNear_41 rfl 2 rfl ?_
      refine zj_get (k := 1) C (by omega) ((hfr 0 (by omega)).trans h0) rfl (by decide) fw_T fl_T_21 rfl rfl dc_T_searchNear_42 ?_
      refine zj_aload_n C dc_T_searchNear_45 rfl 1 rfl ?_
      refine zj_iload C dc_T_searchNear_46 0 rfl ?_
      refine zj_Vv C (ct_R_goOn _ hst z ad N g2 qc qp qq (zs_N_fr hq9 (fun j h1 h2 => hfr j (by omega))) hqc hqc8 (by omega) hh ee (kk * 16) (qc + kk) wt hr bh hR2 (2 + 8 * t + 1) (zu_cn (ts t)) (zu_p (ts t)) (zu_q (ts t)) (zs_N_fr (hts t ht).2.1 (fun j h1 h2 => hfr j (by omega))) (by omega) hcn pl (by omega) (by omega)) gv_T_228 rfl rfl rfl hd_R_goOn ⟨(Nat.le_of_ble_eq_true rfl), (Nat.le_of_ble_eq_true rfl)⟩ (by omega) hR2.1 rfl rfl rfl (Nat.le_of_ble_eq_true rfl) ⟨(Nat.le_of_ble_eq_true rfl), (Nat.le_of_ble_eq_true rfl)⟩ dc_T_searchNear_48 (fun g3 h1 => ?_)
      have hhe := hR2.2.2.2.2
      obtain ⟨w3, b3, hR3, hrow3, hf3⟩ := h1
      have hfr3 : ∀ j, j < 69 ∨ 105 ≤ j → g3 j = g j := fun j hj => (hf3 j (by omega) (by omega) (by omega)).trans (hfr j hj)
      have hF3 := zq_F_fr hF2 (fun j h1 h2 => hf3 j (by omega) (by omega) (by omega))
      have hE2 : (F ++ zq_cc (zq_nl (zu_cn (ts t)) qc kk t (zu_p (ts t)) qp) 0 (zu_cn (ts t) - 1)) = F2 ++ (zq_nn (zq_nr qc kk qp (zu_p (ts t)) pl) (fun s => ((t, pl, s, (zu_p (ts t)) pl - qp 0, (zp_dp (zp_sm qp (zu_p (ts t)) pl) (qc - 1) (s - 1)).2 + 1) : zq_I)) 2 ((if qc + kk < zu_cn (ts t) - pl then qc + kk else zu_cn (ts t) - pl) + 1 - 2) ++ zq_cc (zq_nl (zu_cn (ts t)) qc kk t (zu_p (ts t)) qp) (pl + 1) (zu_cn (ts t) - 1 - (pl + 1))) := by rw [hE, show zu_cn (ts t) - 1 - pl = (zu_cn (ts t) - 1 - (pl + 1)) + 1 by omega, zq_ccS]; rfl
      refine zj_iconst (v := 2) C dc_T_searchNear_51 (by decide) ?_
      refine zj_istore C dc_T_searchNear_52 (by decide) rfl ?_
      refine zj_loc (L' := [(5, .int (nI 2)), (4, .int (nI pl)), (3, .ref (ad (2 + 8 * t + 1))), (0, .ref (ad 0)), (1, .int (nI t)), (2, .int (nI kk))]) [0, 1, 2, 3, 4, 5] rfl ?_
      refine inner (qc + kk + 1 - 2) 2 pl ee hh g3 F2 _ w3 bh b3 rfl (by omega) (by omega) (by omega) hF3 hR3 hrow hrow3 hfr3 hE2 (fun s g2 F2 hF2 hR2 hfr hE => ?_)
      refine zj_iinc C dc_T_searchNear_116 1 rfl (zn_inc pl) (by decide) rfl ?_
      refine zj_goto C dc_T_searchNear_119 rfl ?_
      refine zj_loc (L' := [(4, .int (nI (pl + 1))), (3, .ref (ad (2 + 8 * t + 1))), (0, .ref (ad 0)), (1, .int (nI t)), (2, .int (nI kk))]) [0, 2, 3, 4, 5] rfl ?_
      exact ih (pl + 1) ee hh g2 F2 _ _ _ (by omega) (by omega) hF2 hR2 hrow3 hfr hE
  refine zj_aload_n C dc_T_searchNear_0 rfl 0 rfl ?_
  refine zj_get (k := 0) C (by omega) h0 rfl (by decide) fw_T fl_T_11 rfl rfl dc_T_searchNear_1 ?_
  refine zj_iload_n C dc_T_searchNear_4 rfl 1 rfl ?_
  refine zj_uald C (by omega) hA rfl ht (by decide) dc_T_searchNear_5 ?_
  refine zj_topv (congrArg va_rf (hf t ht)) ?_
  refine zj_get (k := 0) C (by omega) (hts t ht).1 rfl (by decide) fw_U fl_T_81 rfl rfl dc_T_searchNear_6 ?_
  refine zj_astore_n C dc_T_searchNear_9 rfl (by decide) rfl ?_
  refine zj_aload_n C dc_T_searchNear_10 rfl 1 rfl ?_
  refine zj_get (k := 3) C (by omega) h0 rfl (by decide) fw_T fl_T_35 rfl rfl dc_T_searchNear_11 ?_
  refine zj_aload_n C dc_T_searchNear_14 rfl 1 rfl ?_
  refine zj_get (k := 1) C (by omega) h0 rfl (by decide) fw_T fl_T_21 rfl rfl dc_T_searchNear_15 ?_
  refine zj_aload_n C dc_T_searchNear_18 rfl 0 rfl ?_
  refine zj_iload_n C dc_T_searchNear_19 rfl 3 rfl ?_
  refine zj_Vv C (ct_R_begin _ hst z ad N g qc qp qq ⟨hq0, hq1, hq2⟩ hqc hqc8 (by omega) hh ee mo lo wt hr bh hR (2 + 8 * t + 1) (zu_cn (ts t)) (zu_p (ts t)) (zu_q (ts t)) (hts t ht).2.1 (by omega) hcn kk hkk) gv_T_225 rfl rfl rfl hd_R_begin ⟨(Nat.le_of_ble_eq_true rfl), (Nat.le_of_ble_eq_true rfl)⟩ (by omega) hR.1 rfl rfl rfl (Nat.le_of_ble_eq_true rfl) ⟨(Nat.le_of_ble_eq_true rfl), (Nat.le_of_ble_eq_true rfl)⟩ dc_T_searchNear_20 (fun g2 h1 => ?_)
  have hhe := hR.2.2.2.2
  obtain ⟨w2, b2, hR2, hrow, hfr2⟩ := h1
  have hfr : ∀ j, j < 69 ∨ 105 ≤ j → g2 j = g j := fun j hj => hfr2 j (by omega) (by omega) (by omega)
  have hF2 := zq_F_fr hF (fun j h1 h2 => hfr2 j (by omega) (by omega) (by omega))
  refine zj_iconst (v := 0) C dc_T_searchNear_23 (by decide) ?_
  refine zj_istore C dc_T_searchNear_24 (by decide) rfl ?_
  refine zj_loc (L' := [(4, .int (nI 0)), (3, .ref (ad (2 + 8 * t + 1))), (0, .ref (ad 0)), (1, .int (nI t)), (2, .int (nI kk))]) [0, 1, 2, 3, 4] rfl ?_
  exact outer (zu_cn (ts t) - 1) 0 hh ee g2 F w2 hr b2 rfl (by omega) hF2 hR2 (fun s h1 h2 h3 => hrow s h1 h2 h3) hfr rfl
end ZO3
