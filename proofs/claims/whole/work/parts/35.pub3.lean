section ZP3
def zq_tl (kd kk qc : Nat) (qp qq : Nat → Int32) (t : Nat) (s : zu_S) : List zq_I := match kd with
  | 4 => zq_cc (zq_ol (zu_cn s) qc kk t (zu_p s) qp) 0 (zu_cn s + 1 - qc)
  | 5 => zq_cc (zq_nl (zu_cn s) qc kk t (zu_p s) qp) 0 (zu_cn s - 1)
  | k => zq_nn (zp_fit k qc qp qq (zu_p s) (zu_q s)) (fun pl => (t, pl, qc, zu_p s pl - qp 0, qc)) 0 (zu_cn s + 1 - qc)
def zq_al (ts : Nat → zu_S) (kd kk qc : Nat) (qp qq : Nat → Int32) : Nat → Nat → List zq_I
  | _, 0 => []
  | t, n + 1 => (if zu_sh (ts t) then zq_tl kd kk qc qp qq t (ts t) else []) ++ zq_al ts kd kk qc qp qq (t + 1) n
theorem zq_alS (ts : Nat → zu_S) (kd kk qc : Nat) (qp qq : Nat → Int32) (t n : Nat) : zq_al ts kd kk qc qp qq t (n + 1) = (if zu_sh (ts t) then zq_tl kd kk qc qp qq t (ts t) else []) ++ zq_al ts kd kk qc qp qq (t + 1) n := rfl
theorem zq_nn_mem {fit : Nat → Bool} {mk : Nat → zq_I} {x : zq_I} : ∀ {n pl : Nat}, x ∈ zq_nn fit mk pl n → ∃ k, pl ≤ k ∧ k < pl + n ∧ fit k = true ∧ x = mk k := by
  intro n
  induction n with
  | zero => intro pl h; cases h
  | succ n ih =>
    intro pl h
    rw [zq_nnS] at h
    rcases List.mem_append.mp h with h | h
    · split at h
      · rename_i hf
        exact ⟨pl, Nat.le_refl _, by omega, hf, List.mem_singleton.mp h⟩
      · cases h
    · obtain ⟨k, h1, h2, h3⟩ := ih h
      exact ⟨k, by omega, by omega, h3⟩
theorem zq_nn_len {fit : Nat → Bool} {mk : Nat → zq_I} : ∀ {n pl : Nat}, (zq_nn fit mk pl n).length ≤ n := by
  intro n
  induction n with
  | zero => intro pl; exact Nat.le_refl _
  | succ n ih =>
    intro pl
    rw [zq_nnS, List.length_append]
    have := ih (pl := pl + 1)
    split <;> simp <;> omega
theorem zq_cc_mem {f : Nat → List zq_I} {x : zq_I} : ∀ {n pl : Nat}, x ∈ zq_cc f pl n → ∃ k, pl ≤ k ∧ k < pl + n ∧ x ∈ f k := by
  intro n
  induction n with
  | zero => intro pl h; cases h
  | succ n ih =>
    intro pl h
    rw [zq_ccS] at h
    rcases List.mem_append.mp h with h | h
    · exact ⟨pl, Nat.le_refl _, by omega, h⟩
    · obtain ⟨k, h1, h2, h3⟩ := ih h
      exact ⟨k, by omega, by omega, h3⟩
theorem zq_cc_len {f : Nat → List zq_I} {m : Nat} (h : ∀ k, (f k).length ≤ m) : ∀ {n pl : Nat}, (zq_cc f pl n).length ≤ n * m := by
  intro n
  induction n with
  | zero => intro pl; exact Nat.zero_le _
  | succ n ih =>
    intro pl
    rw [zq_ccS, List.length_append, Nat.succ_mul]
    have := ih (pl := pl + 1)
    have := h pl
    omega
theorem zq_tl_ok {kd kk qc t : Nat} {qp qq : Nat → Int32} {s : zu_S} (ht : t < 8) (hqc : 2 ≤ qc) (hqc8 : qc ≤ 8) (hkk : kk ≤ 4) (hcn : zu_cn s ≤ 20) : zq_ok (zq_tl kd kk qc qp qq t s) := by
  intro x hx
  unfold zq_tl at hx
  split at hx
  · obtain ⟨k, h1, h2, h3⟩ := zq_cc_mem hx
    obtain ⟨e, h4, h5, -, rfl⟩ := zq_nn_mem h3
    exact ⟨by show 0 < e - k + 1; omega, by show e - k + 1 ≤ 20; omega, by show 0 < qc; omega, hqc8, ht, by show k < 20; omega⟩
  · obtain ⟨k, h1, h2, h3⟩ := zq_cc_mem hx
    obtain ⟨e, h4, h5, -, rfl⟩ := zq_nn_mem h3
    have h6 := zp_dp_le (zp_sm qp (zu_p s) k) (qc - 1) (e - 1)
    have h7 : (if qc + kk < zu_cn s - k then qc + kk else zu_cn s - k) ≤ 20 := by split <;> omega
    exact ⟨by show 0 < e; omega, by show e ≤ 20; omega, by show 0 < _ + 1; omega, by show _ + 1 ≤ 8; omega, ht, by show k < 20; omega⟩
  · obtain ⟨e, h4, h5, -, rfl⟩ := zq_nn_mem hx
    exact ⟨by show 0 < qc; omega, by show qc ≤ 20; omega, by show 0 < qc; omega, hqc8, ht, by show e < 20; omega⟩
theorem zq_tl_len {kd kk qc t : Nat} {qp qq : Nat → Int32} {s : zu_S} (hqc : 2 ≤ qc) (hqc8 : qc ≤ 8) (hkk : kk ≤ 4) (hcn : zu_cn s ≤ 20) : (zq_tl kd kk qc qp qq t s).length ≤ 400 := by
  unfold zq_tl
  split
  · refine Nat.le_trans (zq_cc_len (m := 20) (fun k => Nat.le_trans zq_nn_len (by omega))) ?_
    have : zu_cn s + 1 - qc ≤ 20 := by omega
    exact Nat.mul_le_mul this (Nat.le_refl 20)
  · refine Nat.le_trans (zq_cc_len (m := 20) (fun k => Nat.le_trans zq_nn_len (by split <;> omega))) ?_
    have : zu_cn s - 1 ≤ 20 := by omega
    exact Nat.mul_le_mul this (Nat.le_refl 20)
  · exact Nat.le_trans zq_nn_len (by omega)
theorem zq_al_ok {ts : Nat → zu_S} {kd kk qc : Nat} {qp qq : Nat → Int32} (hqc : 2 ≤ qc) (hqc8 : qc ≤ 8) (hkk : kk ≤ 4) (hcn : ∀ t, t < 8 → zu_cn (ts t) ≤ 20) : ∀ {n t : Nat}, t + n ≤ 8 → zq_ok (zq_al ts kd kk qc qp qq t n) ∧ (zq_al ts kd kk qc qp qq t n).length ≤ n * 400 := by
  intro n
  induction n with
  | zero => intro t _; exact ⟨fun x hx => (by cases hx), Nat.zero_le _⟩
  | succ n ih =>
    intro t h
    obtain ⟨h1, h2⟩ := ih (t := t + 1) (by omega)
    have h3 := zq_tl_len (kd := kd) (t := t) (qp := qp) (qq := qq) hqc hqc8 hkk (hcn t (by omega))
    rw [zq_alS]
    constructor
    · intro x hx
      rcases List.mem_append.mp hx with hx | hx
      · split at hx
        · exact zq_tl_ok (by omega) hqc hqc8 hkk (hcn t (by omega)) x hx
        · cases hx
      · exact h1 x hx
    · rw [List.length_append, Nat.succ_mul, Nat.add_comm (n * 400)]
      split
      · exact Nat.add_le_add h3 h2
      · exact Nat.add_le_add (Nat.zero_le _) h2
theorem zq_r0 (s : Nat → Nat) : zr_ok (zq_ld []) 0 0 s := zr_0 _ _ _
theorem zq_f0 (s : Nat → Nat) : zr_full 0 0 s := fun a ha => absurd ha (by omega)
set_option maxHeartbeats 4000000 in
set_option maxRecDepth 100000 in
theorem ct_T_searchTune (l : Launch) (hst : l.stackTraces = false) (z : zv_T) (ad : Nat → Nat) (N : Nat) (g : Nat → va_E) (ts : Nat → zu_S) (t qc : Nat) (qp qq : Nat → Int32) (F : List zq_I) (hN : 108 ≤ N) (hA' : zs_A z ad g ts) (hq : zs_N z ad g 66 8 qc qp qq) (hF : zq_F z ad g qc F) (ht : t < 8) (kd kk : Nat) (hh ee mo lo : Nat) (wt hr bh : Nat → Int32) (hR : zs_R z ad g hh ee mo lo wt hr bh) (hkd : kd ≤ 5) (hkk : kk ≤ 4) (hqc : 2 ≤ qc) (hqc8 : qc ≤ 8) (hcn : zu_cn (ts t) ≤ 20) (hok : zq_ok (F ++ (zq_tl kd kk qc qp qq t (ts t)))) (hFl : (F ++ (zq_tl kd kk qc qp qq t (ts t))).length < 2 ^ 30) : zm_v l mn_T_searchTune ws_T_searchTune rm_T_searchTune z ad N g [.ref (ad 0), .int (nI t), .int (nI kd), .int (nI kk)] (fun g1 => zq_F z ad g1 qc (F ++ (zq_tl kd kk qc qp qq t (ts t))) ∧ (∃ hh ee mo lo wt hr bh, zs_R z ad g1 hh ee mo lo wt hr bh) ∧ ∀ j, j < 69 ∨ 105 ≤ j → g1 j = g j) := by
  refine zm_ofv hst pn_T_searchTune rfl (Nat.le_of_ble_eq_true rfl) (fun X hX C => ?_)
  subst hX
  show zj_J X 0 0 _ ad N g 0 [(0, .ref (ad 0)), (1, .int (nI t)), (2, .int (nI kd)), (3, .int (nI kk))] []
  refine zj_iload_n C dc_T_searchTune_0 rfl 2 rfl ?_
  have hk6 : kd = 0 ∨ kd = 1 ∨ kd = 2 ∨ kd = 3 ∨ kd = 4 ∨ kd = 5 := by omega
  rcases hk6 with rfl | rfl | rfl | rfl | rfl | rfl
  · refine zj_lookup C dc_T_searchTune_1 rfl rfl rfl ?_
    refine zj_aload_n C dc_T_searchTune_46 rfl 0 rfl ?_
    refine zj_iload_n C dc_T_searchTune_47 rfl 1 rfl ?_
    refine zj_iload_n C dc_T_searchTune_48 rfl 2 rfl ?_
    refine zj_Vv C (ct_T_searchNoteByNote _ hst z ad N g ts t qc qp qq F hN hA' hq hF ht _ (by decide) hqc hqc8 hcn hok hFl) gv_T_198 rfl rfl rfl hd_T_searchNoteByNote ⟨(Nat.le_of_ble_eq_true rfl), (Nat.le_of_ble_eq_true rfl)⟩ (by omega) hA'.1 rfl rfl rfl (Nat.le_of_ble_eq_true rfl) ⟨(Nat.le_of_ble_eq_true rfl), (Nat.le_of_ble_eq_true rfl)⟩ dc_T_searchTune_49 (fun g1 h1 => ?_)
    obtain ⟨b1, b2⟩ := h1
    have b3 : ∃ hh ee mo lo wt hr bh, zs_R z ad g1 hh ee mo lo wt hr bh := ⟨_, _, _, _, _, _, _, zs_R_fr hR (fun j h1 h2 => b2 j (by omega))⟩
    exact zj_vret C dc_T_searchTune_52 ⟨b1, b3, fun j hj => b2 j (by omega)⟩
  · refine zj_lookup C dc_T_searchTune_1 rfl rfl rfl ?_
    refine zj_aload_n C dc_T_searchTune_46 rfl 0 rfl ?_
    refine zj_iload_n C dc_T_searchTune_47 rfl 1 rfl ?_
    refine zj_iload_n C dc_T_searchTune_48 rfl 2 rfl ?_
    refine zj_Vv C (ct_T_searchNoteByNote _ hst z ad N g ts t qc qp qq F hN hA' hq hF ht _ (by decide) hqc hqc8 hcn hok hFl) gv_T_198 rfl rfl rfl hd_T_searchNoteByNote ⟨(Nat.le_of_ble_eq_true rfl), (Nat.le_of_ble_eq_true rfl)⟩ (by omega) hA'.1 rfl rfl rfl (Nat.le_of_ble_eq_true rfl) ⟨(Nat.le_of_ble_eq_true rfl), (Nat.le_of_ble_eq_true rfl)⟩ dc_T_searchTune_49 (fun g1 h1 => ?_)
    obtain ⟨b1, b2⟩ := h1
    have b3 : ∃ hh ee mo lo wt hr bh, zs_R z ad g1 hh ee mo lo wt hr bh := ⟨_, _, _, _, _, _, _, zs_R_fr hR (fun j h1 h2 => b2 j (by omega))⟩
    exact zj_vret C dc_T_searchTune_52 ⟨b1, b3, fun j hj => b2 j (by omega)⟩
  · refine zj_lookup C dc_T_searchTune_1 rfl rfl rfl ?_
    refine zj_aload_n C dc_T_searchTune_46 rfl 0 rfl ?_
    refine zj_iload_n C dc_T_searchTune_47 rfl 1 rfl ?_
    refine zj_iload_n C dc_T_searchTune_48 rfl 2 rfl ?_
    refine zj_Vv C (ct_T_searchNoteByNote _ hst z ad N g ts t qc qp qq F hN hA' hq hF ht _ (by decide) hqc hqc8 hcn hok hFl) gv_T_198 rfl rfl rfl hd_T_searchNoteByNote ⟨(Nat.le_of_ble_eq_true rfl), (Nat.le_of_ble_eq_true rfl)⟩ (by omega) hA'.1 rfl rfl rfl (Nat.le_of_ble_eq_true rfl) ⟨(Nat.le_of_ble_eq_true rfl), (Nat.le_of_ble_eq_true rfl)⟩ dc_T_searchTune_49 (fun g1 h1 => ?_)
    obtain ⟨b1, b2⟩ := h1
    have b3 : ∃ hh ee mo lo wt hr bh, zs_R z ad g1 hh ee mo lo wt hr bh := ⟨_, _, _, _, _, _, _, zs_R_fr hR (fun j h1 h2 => b2 j (by omega))⟩
    exact zj_vret C dc_T_searchTune_52 ⟨b1, b3, fun j hj => b2 j (by omega)⟩
  · refine zj_lookup C dc_T_searchTune_1 rfl rfl rfl ?_
    refine zj_aload_n C dc_T_searchTune_46 rfl 0 rfl ?_
    refine zj_iload_n C dc_T_searchTune_47 rfl 1 rfl ?_
    refine zj_iload_n C dc_T_searchTune_48 rfl 2 rfl ?_
    refine zj_Vv C (ct_T_searchNoteByNote _ hst z ad N g ts t qc qp qq F hN hA' hq hF ht _ (by decide) hqc hqc8 hcn hok hFl) gv_T_198 rfl rfl rfl hd_T_searchNoteByNote ⟨(Nat.le_of_ble_eq_true rfl), (Nat.le_of_ble_eq_true rfl)⟩ (by omega) hA'.1 rfl rfl rfl (Nat.le_of_ble_eq_true rfl) ⟨(Nat.le_of_ble_eq_true rfl), (Nat.le_of_ble_eq_true rfl)⟩ dc_T_searchTune_49 (fun g1 h1 => ?_)
    obtain ⟨b1, b2⟩ := h1
    have b3 : ∃ hh ee mo lo wt hr bh, zs_R z ad g1 hh ee mo lo wt hr bh := ⟨_, _, _, _, _, _, _, zs_R_fr hR (fun j h1 h2 => b2 j (by omega))⟩
    exact zj_vret C dc_T_searchTune_52 ⟨b1, b3, fun j hj => b2 j (by omega)⟩
  · refine zj_lookup C dc_T_searchTune_1 rfl rfl rfl ?_
    refine zj_aload_n C dc_T_searchTune_28 rfl 0 rfl ?_
    refine zj_iload_n C dc_T_searchTune_29 rfl 1 rfl ?_
    refine zj_iload_n C dc_T_searchTune_30 rfl 3 rfl ?_
    refine zj_Vv C (ct_T_searchOutline _ hst z ad N g ts t qc qp qq F hN hA' hq hF ht kk hkk hqc hqc8 hcn hok hFl) gv_T_192 rfl rfl rfl hd_T_searchOutline ⟨(Nat.le_of_ble_eq_true rfl), (Nat.le_of_ble_eq_true rfl)⟩ (by omega) hA'.1 rfl rfl rfl (Nat.le_of_ble_eq_true rfl) ⟨(Nat.le_of_ble_eq_true rfl), (Nat.le_of_ble_eq_true rfl)⟩ dc_T_searchTune_31 (fun g1 h1 => ?_)
    obtain ⟨b1, b2⟩ := h1
    have b3 : ∃ hh ee mo lo wt hr bh, zs_R z ad g1 hh ee mo lo wt hr bh := ⟨_, _, _, _, _, _, _, zs_R_fr hR (fun j h1 h2 => b2 j (by omega))⟩
    refine zj_goto C dc_T_searchTune_34 rfl ?_
    exact zj_vret C dc_T_searchTune_52 ⟨b1, b3, fun j hj => b2 j (by omega)⟩
  · refine zj_lookup C dc_T_searchTune_1 rfl rfl rfl ?_
    refine zj_aload_n C dc_T_searchTune_37 rfl 0 rfl ?_
    refine zj_iload_n C dc_T_searchTune_38 rfl 1 rfl ?_
    refine zj_iload_n C dc_T_searchTune_39 rfl 3 rfl ?_
    refine zj_Vv C (ct_T_searchNear _ hst z ad N g ts t qc qp qq F hN hA' hq hF ht kk hh ee mo lo wt hr bh hR hkk hqc hqc8 hcn hok hFl) gv_T_195 rfl rfl rfl hd_T_searchNear ⟨(Nat.le_of_ble_eq_true rfl), (Nat.le_of_ble_eq_true rfl)⟩ (by omega) hA'.1 rfl rfl rfl (Nat.le_of_ble_eq_true rfl) ⟨(Nat.le_of_ble_eq_true rfl), (Nat.le_of_ble_eq_true rfl)⟩ dc_T_searchTune_40 (fun g1 h1 => ?_)
    obtain ⟨b1, b3, b2⟩ := h1
    refine zj_goto C dc_T_searchTune_43 rfl ?_
    exact zj_vret C dc_T_searchTune_52 ⟨b1, b3, fun j hj => b2 j (by omega)⟩
/-- a kind and a number of notes or changes that a search may have -/
def zp_kk (x y : Int32) : Prop := ∃ kd kk : Nat, kd ≤ 5 ∧ kk ≤ 4 ∧ x = nI kd ∧ y = nI kk
theorem zp_kk_f {x y : Int32} (h : x < 0 ∨ (5 : Int32) < x ∨ y < 0 ∨ (4 : Int32) < y) : ¬ zp_kk x y := by
  rintro ⟨a, b, h1, h2, rfl, rfl⟩
  rcases h with h | h | h | h
  · exact nI_pos (by omega) h
  · have := (nI_ltI (a := 5) (by omega) (by omega)).mp h; omega
  · exact nI_pos (by omega) h
  · have := (nI_ltI (a := 4) (by omega) (by omega)).mp h; omega
theorem zp_kk_t {x y : Int32} (h1 : ¬ x < 0) (h2 : ¬ (5 : Int32) < x) (h3 : ¬ y < 0) (h4 : y ≤ 4) : ∃ kd kk : Nat, kd ≤ 5 ∧ kk ≤ 4 ∧ x = nI kd ∧ y = nI kk := by
  obtain ⟨a, ha, rfl⟩ := nI_of h1
  obtain ⟨b, hb, rfl⟩ := nI_of h3
  exact ⟨a, b, (zn_nlt (a := 5) (by omega) ha).mp h2, (nI_leI (b := 4) hb (by omega)).mp h4, rfl, rfl⟩
set_option maxHeartbeats 4000000 in
set_option maxRecDepth 100000 in
theorem ct_T_search (l : Launch) (hst : l.stackTraces = false) (z : zv_T) (ad : Nat → Nat) (N : Nat) (g : Nat → va_E) (ts : Nat → zu_S) (qc as0 : Nat) (qp qq : Nat → Int32) (F0 : List zq_I) (x y : Int32) (hN : 108 ≤ N) (hA' : zs_A z ad g ts) (hq : zs_N z ad g 66 8 qc qp qq) (hF : zq_F z ad g as0 F0) (hh ee mo lo : Nat) (wt hr bh : Nat → Int32) (hR : zs_R z ad g hh ee mo lo wt hr bh) (hqc8 : qc ≤ 8) (hcn : ∀ t, t < 8 → zu_cn (ts t) ≤ 20) : zx_i l mn_T_search ws_T_search rm_T_search z ad N g [.ref (ad 0), .int x, .int y] 1 6 (fun r g1 => ∃ kd kk, kd ≤ 5 ∧ kk ≤ 4 ∧ x = nI kd ∧ y = nI kk ∧ 2 ≤ qc ∧ r = nI (zq_al ts kd kk qc qp qq 0 8).length ∧ zq_F z ad g1 qc (zq_al ts kd kk qc qp qq 0 8) ∧ (∃ hh ee mo lo wt hr bh, zs_R z ad g1 hh ee mo lo wt hr bh) ∧ ∀ j, j < 69 ∨ 105 ≤ j → g1 j = g j) (fun E g1 => g1 = g ∧ ((E = "java/lang/IllegalArgumentException" ∧ ¬ zp_kk x y) ∨ (E = "java/lang/IllegalStateException" ∧ zp_kk x y ∧ qc < 2))) := by
  obtain ⟨f, hA, hf⟩ := hA'.2.1
  have hts := hA'.2.2
  have hF9 := hF
  obtain ⟨pi, it, s, hsF, -, -, -⟩ := hF
  refine zx_ofi hst pn_T_search rfl (Nat.le_of_ble_eq_true rfl) (fun X hX C hT => ?_)
  subst hX
  show zj_J X 0 0 _ ad N g 0 [(0, .ref (ad 0)), (1, .int x), (2, .int y)] []
  have loop : ∀ (n : Nat) (t kd kk : Nat) (g2 : Nat → va_E) (F2 : List zq_I), 8 - t = n → t ≤ 8 → kd ≤ 5 → kk ≤ 4 → 2 ≤ qc → x = nI kd → y = nI kk → zq_F z ad g2 qc F2 → (∃ hh ee mo lo wt hr bh, zs_R z ad g2 hh ee mo lo wt hr bh) → (∀ j, j < 69 ∨ 105 ≤ j → g2 j = g j) → (zq_al ts kd kk qc qp qq 0 8) = F2 ++ zq_al ts kd kk qc qp qq t (8 - t) → zj_J X 0 0 (zx_Qi X 1 6 ad N (fun r g1 => ∃ kd kk, kd ≤ 5 ∧ kk ≤ 4 ∧ x = nI kd ∧ y = nI kk ∧ 2 ≤ qc ∧ r = nI (zq_al ts kd kk qc qp qq 0 8).length ∧ zq_F z ad g1 qc (zq_al ts kd kk qc qp qq 0 8) ∧ (∃ hh ee mo lo wt hr bh, zs_R z ad g1 hh ee mo lo wt hr bh) ∧ ∀ j, j < 69 ∨ 105 ≤ j → g1 j = g j) (fun E g1 => g1 = g ∧ ((E = "java/lang/IllegalArgumentException" ∧ ¬ zp_kk x y) ∨ (E = "java/lang/IllegalStateException" ∧ zp_kk x y ∧ qc < 2)))) ad N g2 61 [(3, .int (nI t)), (0, .ref (ad 0)), (1, .int (nI kd)), (2, .int (nI kk))] [] := by
    intro n
    induction n with
    | zero =>
      intro t kd kk g2 F2 e1 e2 hkd hkk hqc hx hy hF2 hR2 hfr hE
      obtain ⟨hh2, ee2, mo2, lo2, wt2, hr2, bh2, hR2⟩ := hR2
      obtain ⟨pi2, it2, s2, hsF2, hz2⟩ := hF2
      have hF2 : zq_F z ad g2 qc F2 := ⟨pi2, it2, s2, hsF2, hz2⟩
      refine zj_iload_n C dc_T_search_61 rfl 0 rfl ?_
      refine zj_bipush (v := 8) C dc_T_search_62 (by decide) ?_
      refine zj_icmp_ge C dc_T_search_64 rfl (fun _ => ?_) (fun h => absurd h (not_not_intro ((nI_leI (a := 8) (by omega) (by omega)).mpr (by omega))))
      refine zj_aload_n C dc_T_search_92 rfl 1 rfl ?_
      refine zj_get (k := 2) C (by omega) ((hfr 0 (by omega)).trans hA'.1) rfl (by decide) fw_T fl_T_28 rfl rfl dc_T_search_93 ?_
      refine zj_get (k := 2) C (by omega) hsF2.1 rfl (by decide) fw_F fl_T_134 rfl rfl dc_T_search_96 ?_
      exact zx_iret C ⟨(Nat.le_of_ble_eq_true rfl), (Nat.le_of_ble_eq_true rfl)⟩ dc_T_search_99 ⟨kd, kk, hkd, hkk, hx, hy, hqc, by rw [hE, show 8 - t = 0 by omega]; show _ = nI (F2 ++ []).length; rw [List.append_nil], by rw [hE, show 8 - t = 0 by omega]; show zq_F z ad g2 qc (F2 ++ []); rw [List.append_nil]; exact hF2, ⟨_, _, _, _, _, _, _, hR2⟩, hfr⟩
    | succ n ih =>
      intro t kd kk g2 F2 e1 e2 hkd hkk hqc hx hy hF2 hR2 hfr hE
      obtain ⟨hh2, ee2, mo2, lo2, wt2, hr2, bh2, hR2⟩ := hR2
      obtain ⟨pi2, it2, s2, hsF2, hz2⟩ := hF2
      have hF2 : zq_F z ad g2 qc F2 := ⟨pi2, it2, s2, hsF2, hz2⟩
      refine zj_iload_n C dc_T_search_61 rfl 0 rfl ?_
      refine zj_bipush (v := 8) C dc_T_search_62 (by decide) ?_
      refine zj_icmp_ge C dc_T_search_64 rfl (fun h => absurd h (((zn_nle (a := 8) (by omega) (by omega)).mpr (by omega)))) (fun _ => ?_)
      refine zj_aload_n C dc_T_search_67 rfl 1 rfl ?_
      refine zj_get (k := 0) C (by omega) ((hfr 0 (by omega)).trans hA'.1) rfl (by decide) fw_T fl_T_11 rfl rfl dc_T_search_68 ?_
      refine zj_iload_n C dc_T_search_71 rfl 0 rfl ?_
      refine zj_uald C (by omega) ((hfr 1 (by omega)).trans hA) rfl (by omega) (by decide) dc_T_search_72 ?_
      refine zj_topv (congrArg va_rf (hf t (by omega))) ?_
      refine zj_get (k := 4) C (by omega) ((hfr (2 + 8 * t) (by omega)).trans (hts t (by omega)).1) rfl (by decide) fw_U fl_T_74 rfl rfl dc_T_search_73 ?_
      refine zj_if_eq C dc_T_search_76 rfl (fun a6 => ?_) (fun a6 => ?_)
      · have a6 := zb_i0 a6
        rw [show 8 - t = (8 - (t + 1)) + 1 by omega, zq_alS ts kd kk qc qp qq t (8 - (t + 1)), if_neg (by rw [a6]; exact Bool.false_ne_true), List.nil_append] at hE
        refine zj_iinc C dc_T_search_86 0 rfl (zn_inc t) (by decide) rfl ?_
        refine zj_goto C dc_T_search_89 rfl ?_
        refine zj_loc (L' := [(3, .int (nI (t + 1))), (0, .ref (ad 0)), (1, .int (nI kd)), (2, .int (nI kk))]) [0, 1, 2, 3] rfl ?_
        exact ih (t + 1) kd kk g2 F2 (by omega) (by omega) hkd hkk hqc hx hy hF2 ⟨_, _, _, _, _, _, _, hR2⟩ hfr hE
      · have a6 := zb_i1 a6
        rw [show 8 - t = (8 - (t + 1)) + 1 by omega, zq_alS ts kd kk qc qp qq t (8 - (t + 1)), if_pos a6] at hE
        have hE3 : (zq_al ts kd kk qc qp qq 0 8) = (F2 ++ zq_tl kd kk qc qp qq t (ts t)) ++ zq_al ts kd kk qc qp qq (t + 1) (8 - (t + 1)) := by rw [hE, List.append_assoc]
        refine zj_aload_n C dc_T_search_79 rfl 1 rfl ?_
        refine zj_iload_n C dc_T_search_80 rfl 0 rfl ?_
        refine zj_iload_n C dc_T_search_81 rfl 2 rfl ?_
        refine zj_iload_n C dc_T_search_82 rfl 3 rfl ?_
        refine zj_Vv C (ct_T_searchTune _ hst z ad N g2 ts t qc qp qq F2 hN (zs_A_fr hA' (fun j hj => hfr j (by omega))) (zs_N_fr hq (fun j h1 h2 => hfr j (by omega))) hF2 (by omega) kd kk hh2 ee2 mo2 lo2 wt2 hr2 bh2 hR2 hkd hkk hqc hqc8 (hcn t (by omega)) (by have h9 := (zq_al_ok (ts := ts) (kd := kd) (qp := qp) (qq := qq) hqc hqc8 hkk hcn (n := 8) (t := 0) (by omega)).1; rw [hE3] at h9; exact zq_pre h9) (by have h9 := (zq_al_ok (ts := ts) (kd := kd) (qp := qp) (qq := qq) hqc hqc8 hkk hcn (n := 8) (t := 0) (by omega)).2; rw [hE3, List.length_append] at h9; omega)) gv_T_130 rfl rfl rfl hd_T_searchTune ⟨(Nat.le_of_ble_eq_true rfl), (Nat.le_of_ble_eq_true rfl)⟩ (by omega) ((hfr 0 (by omega)).trans hA'.1) rfl rfl rfl (Nat.le_of_ble_eq_true rfl) ⟨(Nat.le_of_ble_eq_true rfl), (Nat.le_of_ble_eq_true rfl)⟩ dc_T_search_83 (fun g3 h1 => ?_)
        obtain ⟨b1, b3, b2⟩ := h1
        refine zj_iinc C dc_T_search_86 0 rfl (zn_inc t) (by decide) rfl ?_
        refine zj_goto C dc_T_search_89 rfl ?_
        refine zj_loc (L' := [(3, .int (nI (t + 1))), (0, .ref (ad 0)), (1, .int (nI kd)), (2, .int (nI kk))]) [0, 1, 2, 3] rfl ?_
        exact ih (t + 1) kd kk g3 _ (by omega) (by omega) hkd hkk hqc hx hy b1 b3 (fun j hj => (b2 j hj).trans (hfr j hj)) hE3
  refine zj_iload_n C dc_T_search_0 rfl 1 rfl ?_
  refine zj_if_lt C dc_T_search_1 rfl (fun a1 => ?_) (fun a1 => ?_)
  · skip
    exact zx_throwi (names := xt_ns) C hT xt_fit_IllegalArgumentException xt_nf cl_T_114 ini_IllegalArgumentException xt_at_IllegalArgumentException xt_bd_IllegalArgumentException ins_IllegalArgumentException xt_ok_IllegalArgumentException dc_T_search_18 dc_T_search_21 dc_T_search_22 dc_T_search_25 ⟨(Nat.le_of_ble_eq_true rfl), (Nat.le_of_ble_eq_true rfl), (Nat.le_of_ble_eq_true rfl), (Nat.le_of_ble_eq_true rfl)⟩ ⟨(Nat.le_of_ble_eq_true rfl), (Nat.le_of_ble_eq_true rfl)⟩ ⟨rfl, Or.inl ⟨rfl, zp_kk_f (Or.inl a1)⟩⟩
  · skip
    refine zj_iload_n C dc_T_search_4 rfl 1 rfl ?_
    refine zj_iconst (v := 5) C dc_T_search_5 (by decide) ?_
    refine zj_icmp_gt C dc_T_search_6 rfl (fun a2 => ?_) (fun a2 => ?_)
    · skip
      exact zx_throwi (names := xt_ns) C hT xt_fit_IllegalArgumentException xt_nf cl_T_114 ini_IllegalArgumentException xt_at_IllegalArgumentException xt_bd_IllegalArgumentException ins_IllegalArgumentException xt_ok_IllegalArgumentException dc_T_search_18 dc_T_search_21 dc_T_search_22 dc_T_search_25 ⟨(Nat.le_of_ble_eq_true rfl), (Nat.le_of_ble_eq_true rfl), (Nat.le_of_ble_eq_true rfl), (Nat.le_of_ble_eq_true rfl)⟩ ⟨(Nat.le_of_ble_eq_true rfl), (Nat.le_of_ble_eq_true rfl)⟩ ⟨rfl, Or.inl ⟨rfl, zp_kk_f (Or.inr (Or.inl a2))⟩⟩
    · skip
      refine zj_iload_n C dc_T_search_9 rfl 2 rfl ?_
      refine zj_if_lt C dc_T_search_10 rfl (fun a3 => ?_) (fun a3 => ?_)
      · skip
        exact zx_throwi (names := xt_ns) C hT xt_fit_IllegalArgumentException xt_nf cl_T_114 ini_IllegalArgumentException xt_at_IllegalArgumentException xt_bd_IllegalArgumentException ins_IllegalArgumentException xt_ok_IllegalArgumentException dc_T_search_18 dc_T_search_21 dc_T_search_22 dc_T_search_25 ⟨(Nat.le_of_ble_eq_true rfl), (Nat.le_of_ble_eq_true rfl), (Nat.le_of_ble_eq_true rfl), (Nat.le_of_ble_eq_true rfl)⟩ ⟨(Nat.le_of_ble_eq_true rfl), (Nat.le_of_ble_eq_true rfl)⟩ ⟨rfl, Or.inl ⟨rfl, zp_kk_f (Or.inr (Or.inr (Or.inl a3)))⟩⟩
      · skip
        refine zj_iload_n C dc_T_search_13 rfl 2 rfl ?_
        refine zj_iconst (v := 4) C dc_T_search_14 (by decide) ?_
        refine zj_icmp_le C dc_T_search_15 rfl (fun a4 => ?_) (fun a4 => ?_)
        · obtain ⟨kd, kk, hkd, hkk, rfl, rfl⟩ := zp_kk_t a1 a2 a3 a4
          refine zj_aload_n C dc_T_search_26 rfl 0 rfl ?_
          refine zj_get (k := 1) C (by omega) hA'.1 rfl (by decide) fw_T fl_T_21 rfl rfl dc_T_search_27 ?_
          refine zj_get (k := 2) C (by omega) hq.1 rfl (by decide) fw_N fl_T_84 rfl rfl dc_T_search_30 ?_
          refine zj_iconst (v := 2) C dc_T_search_33 (by decide) ?_
          refine zj_icmp_ge C dc_T_search_34 rfl (fun a5 => ?_) (fun a5 => ?_)
          · have hqc := (nI_leI (a := 2) (by omega) (by omega)).mp a5
            refine zj_aload_n C dc_T_search_45 rfl 0 rfl ?_
            refine zj_get (k := 2) C (by omega) hA'.1 rfl (by decide) fw_T fl_T_28 rfl rfl dc_T_search_46 ?_
            refine zj_aload_n C dc_T_search_49 rfl 0 rfl ?_
            refine zj_get (k := 1) C (by omega) hA'.1 rfl (by decide) fw_T fl_T_21 rfl rfl dc_T_search_50 ?_
            refine zj_get (k := 2) C (by omega) hq.1 rfl (by decide) fw_N fl_T_84 rfl rfl dc_T_search_53 ?_
            refine zj_Vv C (ct_F_begin _ hst z ad N g as0 _ _ pi it (by omega) hsF qc) gv_T_128 rfl rfl rfl hd_F_begin ⟨(Nat.le_of_ble_eq_true rfl), (Nat.le_of_ble_eq_true rfl)⟩ (by omega) hsF.1 rfl rfl rfl (Nat.le_of_ble_eq_true rfl) ⟨(Nat.le_of_ble_eq_true rfl), (Nat.le_of_ble_eq_true rfl)⟩ dc_T_search_56 (fun g2 h1 => ?_)
            subst h1
            refine zj_iconst (v := 0) C dc_T_search_59 (by decide) ?_
            refine zj_istore_n C dc_T_search_60 rfl (by decide) rfl ?_
            refine zj_loc (L' := [(3, .int (nI 0)), (0, .ref (ad 0)), (1, .int (nI kd)), (2, .int (nI kk))]) [0, 1, 2, 3] rfl ?_
            exact loop 8 0 kd kk _ [] rfl (by omega) hkd hkk hqc rfl rfl ⟨pi, it, s, ⟨va_up_self _ _ _, (by obtain ⟨f9, h8, h9⟩ := hsF.2.1; exact ⟨f9, (va_up_ne _ _ (by omega)).trans h8, h9⟩), hsF.2.2.1, hsF.2.2.2.1, fun m h1 h2 => (va_up_ne _ _ (by omega)).trans (hsF.2.2.2.2 m h1 h2)⟩, zq_r0 s, fun _ => zq_f0 s, fun j hj => absurd hj (Nat.not_lt_zero j)⟩ ⟨_, _, _, _, _, _, _, zs_R_fr hR (fun j h1 h2 => va_up_ne _ _ (by omega))⟩ (fun j hj => va_up_ne _ _ (by omega)) rfl
          · have hqc := (zn_nle (a := 2) (by omega) (by omega)).mp a5
            exact zx_throwi (names := xt_ns) C hT xt_fit_IllegalStateException xt_nf cl_T_57 ini_IllegalStateException xt_at_IllegalStateException xt_bd_IllegalStateException ins_IllegalStateException xt_ok_IllegalStateException dc_T_search_37 dc_T_search_40 dc_T_search_41 dc_T_search_44 ⟨(Nat.le_of_ble_eq_true rfl), (Nat.le_of_ble_eq_true rfl), (Nat.le_of_ble_eq_true rfl), (Nat.le_of_ble_eq_true rfl)⟩ ⟨(Nat.le_of_ble_eq_true rfl), (Nat.le_of_ble_eq_true rfl)⟩ ⟨rfl, Or.inr ⟨rfl, ⟨kd, kk, hkd, hkk, rfl, rfl⟩, hqc⟩⟩
        · skip
          exact zx_throwi (names := xt_ns) C hT xt_fit_IllegalArgumentException xt_nf cl_T_114 ini_IllegalArgumentException xt_at_IllegalArgumentException xt_bd_IllegalArgumentException ins_IllegalArgumentException xt_ok_IllegalArgumentException dc_T_search_18 dc_T_search_21 dc_T_search_22 dc_T_search_25 ⟨(Nat.le_of_ble_eq_true rfl), (Nat.le_of_ble_eq_true rfl), (Nat.le_of_ble_eq_true rfl), (Nat.le_of_ble_eq_true rfl)⟩ ⟨(Nat.le_of_ble_eq_true rfl), (Nat.le_of_ble_eq_true rfl)⟩ ⟨rfl, Or.inl ⟨rfl, zp_kk_f (Or.inr (Or.inr (Or.inr (Int32.not_le.mp a4))))⟩⟩
end ZP3
