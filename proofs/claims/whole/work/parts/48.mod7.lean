section ZMU
/-- a span of more than one note is near what was asked -/
def zm_nr (qc k : Nat) (qp p : Nat → Int32) (pl sp : Nat) : Bool := decide (1 < sp) && decide ((zp_dp (zp_sm qp p pl) (qc - 1) (sp - 1)).1 ≤ k)
theorem zm_nrf1 {qc k : Nat} {qp p : Nat → Int32} {pl sp : Nat} (h : sp ≤ 1) : zm_nr qc k qp p pl sp = false := by
  unfold zm_nr
  rw [decide_eq_false (show ¬ 1 < sp by omega)]
  rfl
theorem zm_nrf2 {qc k : Nat} {qp p : Nat → Int32} {pl sp : Nat} (h : k < (zp_dp (zp_sm qp p pl) (qc - 1) (sp - 1)).1) : zm_nr qc k qp p pl sp = false := by
  unfold zm_nr
  rw [decide_eq_false (show ¬ (zp_dp (zp_sm qp p pl) (qc - 1) (sp - 1)).1 ≤ k by omega)]
  exact Bool.and_false _
theorem zm_nrt {qc k : Nat} {qp p : Nat → Int32} {pl sp : Nat} (h1 : 1 < sp) (h : (zp_dp (zp_sm qp p pl) (qc - 1) (sp - 1)).1 ≤ k) : zm_nr qc k qp p pl sp = true := by
  unfold zm_nr
  rw [decide_eq_true h1, decide_eq_true h]
  rfl
theorem zm_nr1 {qc k : Nat} {qp p : Nat → Int32} {pl sp : Nat} (h : zm_nr qc k qp p pl sp = true) : 1 < sp := by
  unfold zm_nr at h
  exact of_decide_eq_true (Bool.and_eq_true_iff.mp h).1
theorem zm_fe {a a2 : Nat → Nat → Int32} {r t R : Nat} (h : a2 r = a r) : zm_f a2 r t R = zm_f a r t R := by
  unfold zm_f
  rw [h]
/-- how many notes of the query a span holds; 0: it isn't found -/
def zm_pt (kd k qc : Nat) (qp qq p q : Nat → Int32) (pl sp : Nat) : Nat :=
  if kd < 4 then (if sp = qc ∧ zp_all (zm_e kd qp qq p q pl) (qc - 1) = true then qc else 0)
  else if kd = 4 then (if zo_M (fun i j => decide (p (pl + j) - qp i = p pl - qp 0)) k (qc - 1) (sp - 1) = true then qc else 0)
  else if zm_nr qc k qp p pl sp = true ∧ zm_nr qc k qp p (pl + 1) (sp - 1) = false ∧ zm_nr qc k qp p pl (sp - 1) = false then (zp_dp (zp_sm qp p pl) (qc - 1) (sp - 1)).2 + 1 else 0
set_option maxHeartbeats 4000000 in
set_option maxRecDepth 100000 in
theorem ct_M_near (l : Launch) (hst : l.stackTraces = false) (z : zv_T) (ad : Nat → Nat) (N : Nat) (g : Nat → va_E) (c as fo kp : Int32) (a : Nat → Nat → Int32) (hN : 126 ≤ N) (hM0 : zs_M z ad g c as fo kp a) (qc t R : Nat) (has : as = nI qc) (hqc : 2 ≤ qc) (hqc8 : qc ≤ 8) (ht : t < 8) (hR : a 3 t = nI R) (hR1 : 1 ≤ R) (hR9 : R ≤ 9) (pl sp k : Nat) (hsp : 1 ≤ sp) (hpl : pl + sp ≤ 20) (hk : k ≤ 4) : zm_i l mn_M_near ws_M_near rm_M_near z ad N g [.ref (ad 108), .int (nI t), .int (nI pl), .int (nI sp), .int (nI k)] (fun r g1 => ∃ a1, r = zb_i (zm_nr qc k (a 6) (zm_f a 4 t R) pl sp) ∧ zm_M z ad g g1 c (nI qc) fo kp a1 ∧ ∀ r, r ≠ 14 → r ≠ 15 → a1 r = a r) := by
  have hM : zm_M z ad g g c as fo kp a := ⟨hM0, fun _ _ => rfl⟩
  subst has
  have hdb := zp_dp_b (zp_sm (a 6) (zm_f a 4 t R) pl) (i := qc - 1) (j := sp - 1) (by omega) (by omega)
  refine zm_ofz hst pn_M_near rfl (Nat.le_of_ble_eq_true rfl) (fun X hX C => ?_)
  subst hX
  show zj_J X 0 0 _ ad N g 0 [(0, .ref (ad 108)), (1, .int (nI t)), (2, .int (nI pl)), (3, .int (nI sp)), (4, .int (nI k))] []
  refine zj_iload_n C dc_M_near_0 rfl 3 rfl ?_
  refine zj_iconst (v := 1) C dc_M_near_1 (by decide) ?_
  refine zj_icmp_le C dc_M_near_2 rfl (fun b1 => ?_) (fun b1 => ?_)
  · have b1 : sp ≤ 1 := (nI_leI (b := 1) (by omega) (by omega)).mp b1
    refine zj_iconst (v := 0) C dc_M_near_21 (by decide) ?_
    exact zj_zret C dc_M_near_22 rfl ⟨a, (show (0 : Int32) = zb_i (zm_nr qc k (a 6) (zm_f a 4 t R) pl sp) by rw [zm_nrf1 b1]; rfl), hM, fun _ _ _ => rfl⟩
  · have b1 : 1 < sp := (zn_nle (b := 1) (by omega) (by omega)).mp b1
    refine zj_aload_n C dc_M_near_5 rfl 0 rfl ?_
    refine zj_iload_n C dc_M_near_6 rfl 1 rfl ?_
    refine zj_iload_n C dc_M_near_7 rfl 2 rfl ?_
    refine zj_iload_n C dc_M_near_8 rfl 3 rfl ?_
    refine zj_Vi C (ct_M_distance _ hst z ad N _ _ _ _ _ _ hN hM.1 qc t R rfl hqc hqc8 ht hR hR1 hR9 pl sp hsp hpl) gv_M_98 rfl rfl rfl hd_M_distance ⟨(Nat.le_of_ble_eq_true rfl), (Nat.le_of_ble_eq_true rfl)⟩ (by omega) hM.1.1 rfl rfl rfl (Nat.le_of_ble_eq_true rfl) ⟨(Nat.le_of_ble_eq_true rfl), (Nat.le_of_ble_eq_true rfl)⟩ dc_M_near_9 (fun r1 g2 h1 => ?_)
    obtain ⟨a2, hv9, -, hM, hrw⟩ := h1
    rw [hv9]
    refine zj_iload C dc_M_near_12 4 rfl ?_
    refine zj_icmp_gt C dc_M_near_14 rfl (fun b2 => ?_) (fun b2 => ?_)
    · have b2 := (nI_ltI (by omega) (by omega)).mp b2
      refine zj_iconst (v := 0) C dc_M_near_21 (by decide) ?_
      exact zj_zret C dc_M_near_22 rfl ⟨a2, (show (0 : Int32) = zb_i (zm_nr qc k (a 6) (zm_f a 4 t R) pl sp) by rw [zm_nrf2 b2]; rfl), hM, hrw⟩
    · have b2 := (zn_nlt (by omega) (by omega)).mp b2
      refine zj_iconst (v := 1) C dc_M_near_17 (by decide) ?_
      refine zj_goto C dc_M_near_18 rfl ?_
      exact zj_zret C dc_M_near_22 rfl ⟨a2, (show (1 : Int32) = zb_i (zm_nr qc k (a 6) (zm_f a 4 t R) pl sp) by rw [zm_nrt b1 b2]; rfl), hM, hrw⟩
set_option maxHeartbeats 4000000 in
set_option maxRecDepth 100000 in
theorem ct_M_part0 (l : Launch) (hst : l.stackTraces = false) (z : zv_T) (ad : Nat → Nat) (N : Nat) (g : Nat → va_E) (c as fo kp : Int32) (a : Nat → Nat → Int32) (hN : 126 ≤ N) (hM0 : zs_M z ad g c as fo kp a) (qc t R : Nat) (has : as = nI qc) (hqc : 2 ≤ qc) (hqc8 : qc ≤ 8) (ht : t < 8) (hR : a 3 t = nI R) (hR1 : 1 ≤ R) (hR9 : R ≤ 9) (pl sp k : Nat) (hsp : 1 ≤ sp) (hpl : pl + sp ≤ 20) (hk : k ≤ 4) : zm_i l mn_M_part ws_M_part rm_M_part z ad N g [.ref (ad 108), .int (nI 0), .int (nI k), .int (nI t), .int (nI pl), .int (nI sp)] (fun r g1 => ∃ a1, r = nI (zm_pt 0 k qc (a 6) (a 7) (zm_f a 4 t R) (zm_f a 5 t R) pl sp) ∧ zm_M z ad g g1 c (nI qc) fo kp a1 ∧ ∀ r, r ≠ 14 → r ≠ 15 → r ≠ 16 → a1 r = a r) := by
  have hM : zm_M z ad g g c as fo kp a := ⟨hM0, fun _ _ => rfl⟩
  subst has
  refine zm_ofi hst pn_M_part rfl (Nat.le_of_ble_eq_true rfl) (fun X hX C => ?_)
  subst hX
  show zj_J X 0 0 _ ad N g 0 [(0, .ref (ad 108)), (1, .int (nI 0)), (2, .int (nI k)), (3, .int (nI t)), (4, .int (nI pl)), (5, .int (nI sp))] []
  refine zj_iload_n C dc_M_part_0 rfl 1 rfl ?_
  refine zj_iconst (v := 4) C dc_M_part_1 (by decide) ?_
  refine zj_icmp_ge C dc_M_part_2 rfl (fun h => absurd h (by decide)) (fun _ => ?_)
  refine zj_iload C dc_M_part_5 5 rfl ?_
  refine zj_aload_n C dc_M_part_7 rfl 0 rfl ?_
  refine zj_get (k := 7) C (by omega) hM.1.1 rfl (by decide) fw_M fl_M_89 rfl rfl dc_M_part_8 ?_
  refine zj_icmp_ne C dc_M_part_11 rfl (fun b1 => ?_) (fun b1 => ?_)
  · have b1 := (zn_ne (by omega) (by omega)).mp b1
    refine zj_iconst (v := 0) C dc_M_part_32 (by decide) ?_
    exact zj_iret C dc_M_part_33 ⟨a, (show (0 : Int32) = nI (zm_pt 0 k qc (a 6) (a 7) (zm_f a 4 t R) (zm_f a 5 t R) pl sp) by rw [show (zm_pt 0 k qc (a 6) (a 7) (zm_f a 4 t R) (zm_f a 5 t R) pl sp) = 0 by unfold zm_pt; rw [if_pos (by decide), if_neg (fun h => b1 h.1)]]; rfl), hM, fun _ _ _ _ => rfl⟩
  · have b1 := (nI_eq (by omega) (by omega)).mp b1
    refine zj_aload_n C dc_M_part_14 rfl 0 rfl ?_
    refine zj_iload_n C dc_M_part_15 rfl 1 rfl ?_
    refine zj_iload_n C dc_M_part_16 rfl 3 rfl ?_
    refine zj_iload C dc_M_part_17 4 rfl ?_
    refine zj_Vi C (ct_M_plain0 _ hst z ad N _ _ _ _ _ _ hN hM.1 qc t R rfl hqc hqc8 ht hR hR1 hR9 pl (by omega)) gv_M_101 rfl rfl rfl hd_M_plain ⟨(Nat.le_of_ble_eq_true rfl), (Nat.le_of_ble_eq_true rfl)⟩ (by omega) hM.1.1 rfl rfl rfl (Nat.le_of_ble_eq_true rfl) ⟨(Nat.le_of_ble_eq_true rfl), (Nat.le_of_ble_eq_true rfl)⟩ dc_M_part_19 (fun r1 g9 h1 => ?_)
    obtain ⟨hv9, hg9⟩ := h1
    rw [hg9, hv9]
    refine zj_if_eq C dc_M_part_22 rfl (fun b2 => ?_) (fun b2 => ?_)
    · have b2 := zb_i0 b2
      refine zj_iconst (v := 0) C dc_M_part_32 (by decide) ?_
      exact zj_iret C dc_M_part_33 ⟨a, (show (0 : Int32) = nI (zm_pt 0 k qc (a 6) (a 7) (zm_f a 4 t R) (zm_f a 5 t R) pl sp) by rw [show (zm_pt 0 k qc (a 6) (a 7) (zm_f a 4 t R) (zm_f a 5 t R) pl sp) = 0 by unfold zm_pt; rw [if_pos (by decide), if_neg (fun h => by have h2 := h.2; rw [b2] at h2; cases h2)]]; rfl), hM, fun _ _ _ _ => rfl⟩
    · have b2 := zb_i1 b2
      refine zj_aload_n C dc_M_part_25 rfl 0 rfl ?_
      refine zj_get (k := 7) C (by omega) hM.1.1 rfl (by decide) fw_M fl_M_89 rfl rfl dc_M_part_26 ?_
      refine zj_goto C dc_M_part_29 rfl ?_
      exact zj_iret C dc_M_part_33 ⟨a, congrArg nI (show qc = (zm_pt 0 k qc (a 6) (a 7) (zm_f a 4 t R) (zm_f a 5 t R) pl sp) by unfold zm_pt; rw [if_pos (by decide), if_pos ⟨b1, b2⟩]), hM, fun _ _ _ _ => rfl⟩
set_option maxHeartbeats 4000000 in
set_option maxRecDepth 100000 in
theorem ct_M_part1 (l : Launch) (hst : l.stackTraces = false) (z : zv_T) (ad : Nat → Nat) (N : Nat) (g : Nat → va_E) (c as fo kp : Int32) (a : Nat → Nat → Int32) (hN : 126 ≤ N) (hM0 : zs_M z ad g c as fo kp a) (qc t R : Nat) (has : as = nI qc) (hqc : 2 ≤ qc) (hqc8 : qc ≤ 8) (ht : t < 8) (hR : a 3 t = nI R) (hR1 : 1 ≤ R) (hR9 : R ≤ 9) (pl sp k : Nat) (hsp : 1 ≤ sp) (hpl : pl + sp ≤ 20) (hk : k ≤ 4) : zm_i l mn_M_part ws_M_part rm_M_part z ad N g [.ref (ad 108), .int (nI 1), .int (nI k), .int (nI t), .int (nI pl), .int (nI sp)] (fun r g1 => ∃ a1, r = nI (zm_pt 1 k qc (a 6) (a 7) (zm_f a 4 t R) (zm_f a 5 t R) pl sp) ∧ zm_M z ad g g1 c (nI qc) fo kp a1 ∧ ∀ r, r ≠ 14 → r ≠ 15 → r ≠ 16 → a1 r = a r) := by
  have hM : zm_M z ad g g c as fo kp a := ⟨hM0, fun _ _ => rfl⟩
  subst has
  refine zm_ofi hst pn_M_part rfl (Nat.le_of_ble_eq_true rfl) (fun X hX C => ?_)
  subst hX
  show zj_J X 0 0 _ ad N g 0 [(0, .ref (ad 108)), (1, .int (nI 1)), (2, .int (nI k)), (3, .int (nI t)), (4, .int (nI pl)), (5, .int (nI sp))] []
  refine zj_iload_n C dc_M_part_0 rfl 1 rfl ?_
  refine zj_iconst (v := 4) C dc_M_part_1 (by decide) ?_
  refine zj_icmp_ge C dc_M_part_2 rfl (fun h => absurd h (by decide)) (fun _ => ?_)
  refine zj_iload C dc_M_part_5 5 rfl ?_
  refine zj_aload_n C dc_M_part_7 rfl 0 rfl ?_
  refine zj_get (k := 7) C (by omega) hM.1.1 rfl (by decide) fw_M fl_M_89 rfl rfl dc_M_part_8 ?_
  refine zj_icmp_ne C dc_M_part_11 rfl (fun b1 => ?_) (fun b1 => ?_)
  · have b1 := (zn_ne (by omega) (by omega)).mp b1
    refine zj_iconst (v := 0) C dc_M_part_32 (by decide) ?_
    exact zj_iret C dc_M_part_33 ⟨a, (show (0 : Int32) = nI (zm_pt 1 k qc (a 6) (a 7) (zm_f a 4 t R) (zm_f a 5 t R) pl sp) by rw [show (zm_pt 1 k qc (a 6) (a 7) (zm_f a 4 t R) (zm_f a 5 t R) pl sp) = 0 by unfold zm_pt; rw [if_pos (by decide), if_neg (fun h => b1 h.1)]]; rfl), hM, fun _ _ _ _ => rfl⟩
  · have b1 := (nI_eq (by omega) (by omega)).mp b1
    refine zj_aload_n C dc_M_part_14 rfl 0 rfl ?_
    refine zj_iload_n C dc_M_part_15 rfl 1 rfl ?_
    refine zj_iload_n C dc_M_part_16 rfl 3 rfl ?_
    refine zj_iload C dc_M_part_17 4 rfl ?_
    refine zj_Vi C (ct_M_plain1 _ hst z ad N _ _ _ _ _ _ hN hM.1 qc t R rfl hqc hqc8 ht hR hR1 hR9 pl (by omega)) gv_M_101 rfl rfl rfl hd_M_plain ⟨(Nat.le_of_ble_eq_true rfl), (Nat.le_of_ble_eq_true rfl)⟩ (by omega) hM.1.1 rfl rfl rfl (Nat.le_of_ble_eq_true rfl) ⟨(Nat.le_of_ble_eq_true rfl), (Nat.le_of_ble_eq_true rfl)⟩ dc_M_part_19 (fun r1 g9 h1 => ?_)
    obtain ⟨hv9, hg9⟩ := h1
    rw [hg9, hv9]
    refine zj_if_eq C dc_M_part_22 rfl (fun b2 => ?_) (fun b2 => ?_)
    · have b2 := zb_i0 b2
      refine zj_iconst (v := 0) C dc_M_part_32 (by decide) ?_
      exact zj_iret C dc_M_part_33 ⟨a, (show (0 : Int32) = nI (zm_pt 1 k qc (a 6) (a 7) (zm_f a 4 t R) (zm_f a 5 t R) pl sp) by rw [show (zm_pt 1 k qc (a 6) (a 7) (zm_f a 4 t R) (zm_f a 5 t R) pl sp) = 0 by unfold zm_pt; rw [if_pos (by decide), if_neg (fun h => by have h2 := h.2; rw [b2] at h2; cases h2)]]; rfl), hM, fun _ _ _ _ => rfl⟩
    · have b2 := zb_i1 b2
      refine zj_aload_n C dc_M_part_25 rfl 0 rfl ?_
      refine zj_get (k := 7) C (by omega) hM.1.1 rfl (by decide) fw_M fl_M_89 rfl rfl dc_M_part_26 ?_
      refine zj_goto C dc_M_part_29 rfl ?_
      exact zj_iret C dc_M_part_33 ⟨a, congrArg nI (show qc = (zm_pt 1 k qc (a 6) (a 7) (zm_f a 4 t R) (zm_f a 5 t R) pl sp) by unfold zm_pt; rw [if_pos (by decide), if_pos ⟨b1, b2⟩]), hM, fun _ _ _ _ => rfl⟩
set_option maxHeartbeats 4000000 in
set_option maxRecDepth 100000 in
theorem ct_M_part2 (l : Launch) (hst : l.stackTraces = false) (z : zv_T) (ad : Nat → Nat) (N : Nat) (g : Nat → va_E) (c as fo kp : Int32) (a : Nat → Nat → Int32) (hN : 126 ≤ N) (hM0 : zs_M z ad g c as fo kp a) (qc t R : Nat) (has : as = nI qc) (hqc : 2 ≤ qc) (hqc8 : qc ≤ 8) (ht : t < 8) (hR : a 3 t = nI R) (hR1 : 1 ≤ R) (hR9 : R ≤ 9) (pl sp k : Nat) (hsp : 1 ≤ sp) (hpl : pl + sp ≤ 20) (hk : k ≤ 4) : zm_i l mn_M_part ws_M_part rm_M_part z ad N g [.ref (ad 108), .int (nI 2), .int (nI k), .int (nI t), .int (nI pl), .int (nI sp)] (fun r g1 => ∃ a1, r = nI (zm_pt 2 k qc (a 6) (a 7) (zm_f a 4 t R) (zm_f a 5 t R) pl sp) ∧ zm_M z ad g g1 c (nI qc) fo kp a1 ∧ ∀ r, r ≠ 14 → r ≠ 15 → r ≠ 16 → a1 r = a r) := by
  have hM : zm_M z ad g g c as fo kp a := ⟨hM0, fun _ _ => rfl⟩
  subst has
  refine zm_ofi hst pn_M_part rfl (Nat.le_of_ble_eq_true rfl) (fun X hX C => ?_)
  subst hX
  show zj_J X 0 0 _ ad N g 0 [(0, .ref (ad 108)), (1, .int (nI 2)), (2, .int (nI k)), (3, .int (nI t)), (4, .int (nI pl)), (5, .int (nI sp))] []
  refine zj_iload_n C dc_M_part_0 rfl 1 rfl ?_
  refine zj_iconst (v := 4) C dc_M_part_1 (by decide) ?_
  refine zj_icmp_ge C dc_M_part_2 rfl (fun h => absurd h (by decide)) (fun _ => ?_)
  refine zj_iload C dc_M_part_5 5 rfl ?_
  refine zj_aload_n C dc_M_part_7 rfl 0 rfl ?_
  refine zj_get (k := 7) C (by omega) hM.1.1 rfl (by decide) fw_M fl_M_89 rfl rfl dc_M_part_8 ?_
  refine zj_icmp_ne C dc_M_part_11 rfl (fun b1 => ?_) (fun b1 => ?_)
  · have b1 := (zn_ne (by omega) (by omega)).mp b1
    refine zj_iconst (v := 0) C dc_M_part_32 (by decide) ?_
    exact zj_iret C dc_M_part_33 ⟨a, (show (0 : Int32) = nI (zm_pt 2 k qc (a 6) (a 7) (zm_f a 4 t R) (zm_f a 5 t R) pl sp) by rw [show (zm_pt 2 k qc (a 6) (a 7) (zm_f a 4 t R) (zm_f a 5 t R) pl sp) = 0 by unfold zm_pt; rw [if_pos (by decide), if_neg (fun h => b1 h.1)]]; rfl), hM, fun _ _ _ _ => rfl⟩
  · have b1 := (nI_eq (by omega) (by omega)).mp b1
    refine zj_aload_n C dc_M_part_14 rfl 0 rfl ?_
    refine zj_iload_n C dc_M_part_15 rfl 1 rfl ?_
    refine zj_iload_n C dc_M_part_16 rfl 3 rfl ?_
    refine zj_iload C dc_M_part_17 4 rfl ?_
    refine zj_Vi C (ct_M_plain2 _ hst z ad N _ _ _ _ _ _ hN hM.1 qc t R rfl hqc hqc8 ht hR hR1 hR9 pl (by omega)) gv_M_101 rfl rfl rfl hd_M_plain ⟨(Nat.le_of_ble_eq_true rfl), (Nat.le_of_ble_eq_true rfl)⟩ (by omega) hM.1.1 rfl rfl rfl (Nat.le_of_ble_eq_true rfl) ⟨(Nat.le_of_ble_eq_true rfl), (Nat.le_of_ble_eq_true rfl)⟩ dc_M_part_19 (fun r1 g9 h1 => ?_)
    obtain ⟨hv9, hg9⟩ := h1
    rw [hg9, hv9]
    refine zj_if_eq C dc_M_part_22 rfl (fun b2 => ?_) (fun b2 => ?_)
    · have b2 := zb_i0 b2
      refine zj_iconst (v := 0) C dc_M_part_32 (by decide) ?_
      exact zj_iret C dc_M_part_33 ⟨a, (show (0 : Int32) = nI (zm_pt 2 k qc (a 6) (a 7) (zm_f a 4 t R) (zm_f a 5 t R) pl sp) by rw [show (zm_pt 2 k qc (a 6) (a 7) (zm_f a 4 t R) (zm_f a 5 t R) pl sp) = 0 by unfold zm_pt; rw [if_pos (by decide), if_neg (fun h => by have h2 := h.2; rw [b2] at h2; cases h2)]]; rfl), hM, fun _ _ _ _ => rfl⟩
    · have b2 := zb_i1 b2
      refine zj_aload_n C dc_M_part_25 rfl 0 rfl ?_
      refine zj_get (k := 7) C (by omega) hM.1.1 rfl (by decide) fw_M fl_M_89 rfl rfl dc_M_part_26 ?_
      refine zj_goto C dc_M_part_29 rfl ?_
      exact zj_iret C dc_M_part_33 ⟨a, congrArg nI (show qc = (zm_pt 2 k qc (a 6) (a 7) (zm_f a 4 t R) (zm_f a 5 t R) pl sp) by unfold zm_pt; rw [if_pos (by decide), if_pos ⟨b1, b2⟩]), hM, fun _ _ _ _ => rfl⟩
set_option maxHeartbeats 4000000 in
set_option maxRecDepth 100000 in
theorem ct_M_part3 (l : Launch) (hst : l.stackTraces = false) (z : zv_T) (ad : Nat → Nat) (N : Nat) (g : Nat → va_E) (c as fo kp : Int32) (a : Nat → Nat → Int32) (hN : 126 ≤ N) (hM0 : zs_M z ad g c as fo kp a) (qc t R : Nat) (has : as = nI qc) (hqc : 2 ≤ qc) (hqc8 : qc ≤ 8) (ht : t < 8) (hR : a 3 t = nI R) (hR1 : 1 ≤ R) (hR9 : R ≤ 9) (pl sp k : Nat) (hsp : 1 ≤ sp) (hpl : pl + sp ≤ 20) (hk : k ≤ 4) : zm_i l mn_M_part ws_M_part rm_M_part z ad N g [.ref (ad 108), .int (nI 3), .int (nI k), .int (nI t), .int (nI pl), .int (nI sp)] (fun r g1 => ∃ a1, r = nI (zm_pt 3 k qc (a 6) (a 7) (zm_f a 4 t R) (zm_f a 5 t R) pl sp) ∧ zm_M z ad g g1 c (nI qc) fo kp a1 ∧ ∀ r, r ≠ 14 → r ≠ 15 → r ≠ 16 → a1 r = a r) := by
  have hM : zm_M z ad g g c as fo kp a := ⟨hM0, fun _ _ => rfl⟩
  subst has
  refine zm_ofi hst pn_M_part rfl (Nat.le_of_ble_eq_true rfl) (fun X hX C => ?_)
  subst hX
  show zj_J X 0 0 _ ad N g 0 [(0, .ref (ad 108)), (1, .int (nI 3)), (2, .int (nI k)), (3, .int (nI t)), (4, .int (nI pl)), (5, .int (nI sp))] []
  refine zj_iload_n C dc_M_part_0 rfl 1 rfl ?_
  refine zj_iconst (v := 4) C dc_M_part_1 (by decide) ?_
  refine zj_icmp_ge C dc_M_part_2 rfl (fun h => absurd h (by decide)) (fun _ => ?_)
  refine zj_iload C dc_M_part_5 5 rfl ?_
  refine zj_aload_n C dc_M_part_7 rfl 0 rfl ?_
  refine zj_get (k := 7) C (by omega) hM.1.1 rfl (by decide) fw_M fl_M_89 rfl rfl dc_M_part_8 ?_
  refine zj_icmp_ne C dc_M_part_11 rfl (fun b1 => ?_) (fun b1 => ?_)
  · have b1 := (zn_ne (by omega) (by omega)).mp b1
    refine zj_iconst (v := 0) C dc_M_part_32 (by decide) ?_
    exact zj_iret C dc_M_part_33 ⟨a, (show (0 : Int32) = nI (zm_pt 3 k qc (a 6) (a 7) (zm_f a 4 t R) (zm_f a 5 t R) pl sp) by rw [show (zm_pt 3 k qc (a 6) (a 7) (zm_f a 4 t R) (zm_f a 5 t R) pl sp) = 0 by unfold zm_pt; rw [if_pos (by decide), if_neg (fun h => b1 h.1)]]; rfl), hM, fun _ _ _ _ => rfl⟩
  · have b1 := (nI_eq (by omega) (by omega)).mp b1
    refine zj_aload_n C dc_M_part_14 rfl 0 rfl ?_
    refine zj_iload_n C dc_M_part_15 rfl 1 rfl ?_
    refine zj_iload_n C dc_M_part_16 rfl 3 rfl ?_
    refine zj_iload C dc_M_part_17 4 rfl ?_
    refine zj_Vi C (ct_M_plain3 _ hst z ad N _ _ _ _ _ _ hN hM.1 qc t R rfl hqc hqc8 ht hR hR1 hR9 pl (by omega)) gv_M_101 rfl rfl rfl hd_M_plain ⟨(Nat.le_of_ble_eq_true rfl), (Nat.le_of_ble_eq_true rfl)⟩ (by omega) hM.1.1 rfl rfl rfl (Nat.le_of_ble_eq_true rfl) ⟨(Nat.le_of_ble_eq_true rfl), (Nat.le_of_ble_eq_true rfl)⟩ dc_M_part_19 (fun r1 g9 h1 => ?_)
    obtain ⟨hv9, hg9⟩ := h1
    rw [hg9, hv9]
    refine zj_if_eq C dc_M_part_22 rfl (fun b2 => ?_) (fun b2 => ?_)
    · have b2 := zb_i0 b2
      refine zj_iconst (v := 0) C dc_M_part_32 (by decide) ?_
      exact zj_iret C dc_M_part_33 ⟨a, (show (0 : Int32) = nI (zm_pt 3 k qc (a 6) (a 7) (zm_f a 4 t R) (zm_f a 5 t R) pl sp) by rw [show (zm_pt 3 k qc (a 6) (a 7) (zm_f a 4 t R) (zm_f a 5 t R) pl sp) = 0 by unfold zm_pt; rw [if_pos (by decide), if_neg (fun h => by have h2 := h.2; rw [b2] at h2; cases h2)]]; rfl), hM, fun _ _ _ _ => rfl⟩
    · have b2 := zb_i1 b2
      refine zj_aload_n C dc_M_part_25 rfl 0 rfl ?_
      refine zj_get (k := 7) C (by omega) hM.1.1 rfl (by decide) fw_M fl_M_89 rfl rfl dc_M_part_26 ?_
      refine zj_goto C dc_M_part_29 rfl ?_
      exact zj_iret C dc_M_part_33 ⟨a, congrArg nI (show qc = (zm_pt 3 k qc (a 6) (a 7) (zm_f a 4 t R) (zm_f a 5 t R) pl sp) by unfold zm_pt; rw [if_pos (by decide), if_pos ⟨b1, b2⟩]), hM, fun _ _ _ _ => rfl⟩
set_option maxHeartbeats 4000000 in
set_option maxRecDepth 100000 in
theorem ct_M_part4 (l : Launch) (hst : l.stackTraces = false) (z : zv_T) (ad : Nat → Nat) (N : Nat) (g : Nat → va_E) (c as fo kp : Int32) (a : Nat → Nat → Int32) (hN : 126 ≤ N) (hM0 : zs_M z ad g c as fo kp a) (qc t R : Nat) (has : as = nI qc) (hqc : 2 ≤ qc) (hqc8 : qc ≤ 8) (ht : t < 8) (hR : a 3 t = nI R) (hR1 : 1 ≤ R) (hR9 : R ≤ 9) (pl sp k : Nat) (hsp : 1 ≤ sp) (hpl : pl + sp ≤ 20) (hk : k ≤ 4) : zm_i l mn_M_part ws_M_part rm_M_part z ad N g [.ref (ad 108), .int (nI 4), .int (nI k), .int (nI t), .int (nI pl), .int (nI sp)] (fun r g1 => ∃ a1, r = nI (zm_pt 4 k qc (a 6) (a 7) (zm_f a 4 t R) (zm_f a 5 t R) pl sp) ∧ zm_M z ad g g1 c (nI qc) fo kp a1 ∧ ∀ r, r ≠ 14 → r ≠ 15 → r ≠ 16 → a1 r = a r) := by
  have hM : zm_M z ad g g c as fo kp a := ⟨hM0, fun _ _ => rfl⟩
  subst has
  refine zm_ofi hst pn_M_part rfl (Nat.le_of_ble_eq_true rfl) (fun X hX C => ?_)
  subst hX
  show zj_J X 0 0 _ ad N g 0 [(0, .ref (ad 108)), (1, .int (nI 4)), (2, .int (nI k)), (3, .int (nI t)), (4, .int (nI pl)), (5, .int (nI sp))] []
  refine zj_iload_n C dc_M_part_0 rfl 1 rfl ?_
  refine zj_iconst (v := 4) C dc_M_part_1 (by decide) ?_
  refine zj_icmp_ge C dc_M_part_2 rfl (fun _ => ?_) (fun h => absurd h (by decide))
  refine zj_iload_n C dc_M_part_34 rfl 1 rfl ?_
  refine zj_iconst (v := 4) C dc_M_part_35 (by decide) ?_
  refine zj_icmp_ne C dc_M_part_36 rfl (fun h => absurd h (by decide)) (fun _ => ?_)
  refine zj_aload_n C dc_M_part_39 rfl 0 rfl ?_
  refine zj_iload_n C dc_M_part_40 rfl 3 rfl ?_
  refine zj_iload C dc_M_part_41 4 rfl ?_
  refine zj_iload C dc_M_part_43 5 rfl ?_
  refine zj_iload_n C dc_M_part_45 rfl 2 rfl ?_
  refine zj_Vi C (ct_M_outlines _ hst z ad N _ _ _ _ _ _ hN hM.1 qc t R rfl hqc hqc8 ht hR hR1 hR9 pl sp k hsp hpl hk) gv_M_105 rfl rfl rfl hd_M_outlines ⟨(Nat.le_of_ble_eq_true rfl), (Nat.le_of_ble_eq_true rfl)⟩ (by omega) hM.1.1 rfl rfl rfl (Nat.le_of_ble_eq_true rfl) ⟨(Nat.le_of_ble_eq_true rfl), (Nat.le_of_ble_eq_true rfl)⟩ dc_M_part_46 (fun r1 g2 h1 => ?_)
  obtain ⟨a2, hv9, hM, hrw⟩ := h1
  rw [hv9]
  refine zj_if_eq C dc_M_part_49 rfl (fun b2 => ?_) (fun b2 => ?_)
  · have b2 := zb_i0 b2
    refine zj_iconst (v := 0) C dc_M_part_59 (by decide) ?_
    exact zj_iret C dc_M_part_60 ⟨a2, (show (0 : Int32) = nI (zm_pt 4 k qc (a 6) (a 7) (zm_f a 4 t R) (zm_f a 5 t R) pl sp) by rw [show (zm_pt 4 k qc (a 6) (a 7) (zm_f a 4 t R) (zm_f a 5 t R) pl sp) = 0 by unfold zm_pt; rw [if_neg (by decide), if_pos rfl, if_neg (fun h2 => by rw [b2] at h2; cases h2)]]; rfl), hM, fun r _ _ h => hrw r h⟩
  · have b2 := zb_i1 b2
    refine zj_aload_n C dc_M_part_52 rfl 0 rfl ?_
    refine zj_get (k := 7) C (by omega) hM.1.1 rfl (by decide) fw_M fl_M_89 rfl rfl dc_M_part_53 ?_
    refine zj_goto C dc_M_part_56 rfl ?_
    exact zj_iret C dc_M_part_60 ⟨a2, congrArg nI (show qc = (zm_pt 4 k qc (a 6) (a 7) (zm_f a 4 t R) (zm_f a 5 t R) pl sp) by unfold zm_pt; rw [if_neg (by decide), if_pos rfl, if_pos b2]), hM, fun r _ _ h => hrw r h⟩
set_option maxHeartbeats 4000000 in
set_option maxRecDepth 100000 in
theorem ct_M_part5 (l : Launch) (hst : l.stackTraces = false) (z : zv_T) (ad : Nat → Nat) (N : Nat) (g : Nat → va_E) (c as fo kp : Int32) (a : Nat → Nat → Int32) (hN : 126 ≤ N) (hM0 : zs_M z ad g c as fo kp a) (qc t R : Nat) (has : as = nI qc) (hqc : 2 ≤ qc) (hqc8 : qc ≤ 8) (ht : t < 8) (hR : a 3 t = nI R) (hR1 : 1 ≤ R) (hR9 : R ≤ 9) (pl sp k : Nat) (hsp : 1 ≤ sp) (hpl : pl + sp ≤ 20) (hk : k ≤ 4) : zm_i l mn_M_part ws_M_part rm_M_part z ad N g [.ref (ad 108), .int (nI 5), .int (nI k), .int (nI t), .int (nI pl), .int (nI sp)] (fun r g1 => ∃ a1, r = nI (zm_pt 5 k qc (a 6) (a 7) (zm_f a 4 t R) (zm_f a 5 t R) pl sp) ∧ zm_M z ad g g1 c (nI qc) fo kp a1 ∧ ∀ r, r ≠ 14 → r ≠ 15 → r ≠ 16 → a1 r = a r) := by
  have hM : zm_M z ad g g c as fo kp a := ⟨hM0, fun _ _ => rfl⟩
  subst has
  refine zm_ofi hst pn_M_part rfl (Nat.le_of_ble_eq_true rfl) (fun X hX C => ?_)
  subst hX
  show zj_J X 0 0 _ ad N g 0 [(0, .ref (ad 108)), (1, .int (nI 5)), (2, .int (nI k)), (3, .int (nI t)), (4, .int (nI pl)), (5, .int (nI sp))] []
  refine zj_iload_n C dc_M_part_0 rfl 1 rfl ?_
  refine zj_iconst (v := 4) C dc_M_part_1 (by decide) ?_
  refine zj_icmp_ge C dc_M_part_2 rfl (fun _ => ?_) (fun h => absurd h (by decide))
  refine zj_iload_n C dc_M_part_34 rfl 1 rfl ?_
  refine zj_iconst (v := 4) C dc_M_part_35 (by decide) ?_
  refine zj_icmp_ne C dc_M_part_36 rfl (fun _ => ?_) (fun h => absurd h (by decide))
  refine zj_aload_n C dc_M_part_61 rfl 0 rfl ?_
  refine zj_iload_n C dc_M_part_62 rfl 3 rfl ?_
  refine zj_iload C dc_M_part_63 4 rfl ?_
  refine zj_iload C dc_M_part_65 5 rfl ?_
  refine zj_iload_n C dc_M_part_67 rfl 2 rfl ?_
  refine zj_Vi C (ct_M_near _ hst z ad N _ _ _ _ _ _ hN hM.1 qc t R rfl hqc hqc8 ht hR hR1 hR9 (pl) (sp) k hsp (by omega) hk) gv_M_109 rfl rfl rfl hd_M_near ⟨(Nat.le_of_ble_eq_true rfl), (Nat.le_of_ble_eq_true rfl)⟩ (by omega) hM.1.1 rfl rfl rfl (Nat.le_of_ble_eq_true rfl) ⟨(Nat.le_of_ble_eq_true rfl), (Nat.le_of_ble_eq_true rfl)⟩ dc_M_part_68 (fun r1 g2 h1 => ?_)
  obtain ⟨a2, hv1, hM, hrw⟩ := h1
  rw [hv1]
  refine zj_if_eq C dc_M_part_71 rfl (fun n1 => ?_) (fun n1 => ?_)
  · have n1 := zb_i0 n1
    refine zj_iconst (v := 0) C dc_M_part_106 (by decide) ?_
    exact zj_iret C dc_M_part_107 ⟨a2, (show (0 : Int32) = nI (zm_pt 5 k qc (a 6) (a 7) (zm_f a 4 t R) (zm_f a 5 t R) pl sp) by rw [show (zm_pt 5 k qc (a 6) (a 7) (zm_f a 4 t R) (zm_f a 5 t R) pl sp) = 0 by unfold zm_pt; rw [if_neg (by decide), if_neg (by decide), if_neg (fun h => by have h2 := h.1; rw [n1] at h2; cases h2)]]; rfl), hM, (fun r h1 h2 _ => hrw r h1 h2)⟩
  · have n1 := zb_i1 n1
    have hsp1 := zm_nr1 n1
    refine zj_aload_n C dc_M_part_74 rfl 0 rfl ?_
    refine zj_iload_n C dc_M_part_75 rfl 3 rfl ?_
    refine zj_iload C dc_M_part_76 4 rfl ?_
    refine zj_iconst (v := 1) C dc_M_part_78 (by decide) ?_
    refine zj_iadd C dc_M_part_79 ?_
    refine zj_topi (nI_1 _) ?_
    refine zj_iload C dc_M_part_80 5 rfl ?_
    refine zj_iconst (v := 1) C dc_M_part_82 (by decide) ?_
    refine zj_isub C dc_M_part_83 ?_
    refine zj_topi (zn_m1 hsp) ?_
    refine zj_iload_n C dc_M_part_84 rfl 2 rfl ?_
    refine zj_Vi C (ct_M_near _ hst z ad N _ _ _ _ _ _ hN hM.1 qc t R rfl hqc hqc8 ht ((congrFun (hrw 3 (by decide) (by decide)) _).trans hR) hR1 hR9 (pl + 1) (sp - 1) k (by omega) (by omega) hk) gv_M_109 rfl rfl rfl hd_M_near ⟨(Nat.le_of_ble_eq_true rfl), (Nat.le_of_ble_eq_true rfl)⟩ (by omega) hM.1.1 rfl rfl rfl (Nat.le_of_ble_eq_true rfl) ⟨(Nat.le_of_ble_eq_true rfl), (Nat.le_of_ble_eq_true rfl)⟩ dc_M_part_85 (fun r1 g3 h1 => ?_)
    obtain ⟨b2, hv2, hM2, hrw2⟩ := h1
    rw [hrw 6 (by decide) (by decide), zm_fe (hrw 4 (by decide) (by decide))] at hv2
    have hM := zm_T hM hM2
    have hrw : ∀ r, r ≠ 14 → r ≠ 15 → b2 r = a r := fun r h1 h2 => (hrw2 r h1 h2).trans (hrw r h1 h2)
    rw [hv2]
    refine zj_if_ne C dc_M_part_88 rfl (fun n2 => ?_) (fun n2 => ?_)
    · have n2 := zb_i1 n2
      refine zj_iconst (v := 0) C dc_M_part_106 (by decide) ?_
      exact zj_iret C dc_M_part_107 ⟨b2, (show (0 : Int32) = nI (zm_pt 5 k qc (a 6) (a 7) (zm_f a 4 t R) (zm_f a 5 t R) pl sp) by rw [show (zm_pt 5 k qc (a 6) (a 7) (zm_f a 4 t R) (zm_f a 5 t R) pl sp) = 0 by unfold zm_pt; rw [if_neg (by decide), if_neg (by decide), if_neg (fun h => by have h2 := h.2.1; rw [n2] at h2; cases h2)]]; rfl), hM, (fun r h1 h2 _ => hrw r h1 h2)⟩
    · have n2 := zb_i0 n2
      refine zj_aload_n C dc_M_part_91 rfl 0 rfl ?_
      refine zj_iload_n C dc_M_part_92 rfl 3 rfl ?_
      refine zj_iload C dc_M_part_93 4 rfl ?_
      refine zj_iload C dc_M_part_95 5 rfl ?_
      refine zj_iconst (v := 1) C dc_M_part_97 (by decide) ?_
      refine zj_isub C dc_M_part_98 ?_
      refine zj_topi (zn_m1 hsp) ?_
      refine zj_iload_n C dc_M_part_99 rfl 2 rfl ?_
      refine zj_Vi C (ct_M_near _ hst z ad N _ _ _ _ _ _ hN hM.1 qc t R rfl hqc hqc8 ht ((congrFun (hrw 3 (by decide) (by decide)) _).trans hR) hR1 hR9 (pl) (sp - 1) k (by omega) (by omega) hk) gv_M_109 rfl rfl rfl hd_M_near ⟨(Nat.le_of_ble_eq_true rfl), (Nat.le_of_ble_eq_true rfl)⟩ (by omega) hM.1.1 rfl rfl rfl (Nat.le_of_ble_eq_true rfl) ⟨(Nat.le_of_ble_eq_true rfl), (Nat.le_of_ble_eq_true rfl)⟩ dc_M_part_100 (fun r1 g4 h1 => ?_)
      obtain ⟨b3, hv3, hM2, hrw2⟩ := h1
      rw [hrw 6 (by decide) (by decide), zm_fe (hrw 4 (by decide) (by decide))] at hv3
      have hM := zm_T hM hM2
      have hrw : ∀ r, r ≠ 14 → r ≠ 15 → b3 r = a r := fun r h1 h2 => (hrw2 r h1 h2).trans (hrw r h1 h2)
      rw [hv3]
      refine zj_if_eq C dc_M_part_103 rfl (fun n3 => ?_) (fun n3 => ?_)
      · have n3 := zb_i0 n3
        refine zj_aload_n C dc_M_part_108 rfl 0 rfl ?_
        refine zj_iload_n C dc_M_part_109 rfl 3 rfl ?_
        refine zj_iload C dc_M_part_110 4 rfl ?_
        refine zj_iload C dc_M_part_112 5 rfl ?_
        refine zj_Vi C (ct_M_distance _ hst z ad N _ _ _ _ _ _ hN hM.1 qc t R rfl hqc hqc8 ht ((congrFun (hrw 3 (by decide) (by decide)) _).trans hR) hR1 hR9 pl sp hsp hpl) gv_M_98 rfl rfl rfl hd_M_distance ⟨(Nat.le_of_ble_eq_true rfl), (Nat.le_of_ble_eq_true rfl)⟩ (by omega) hM.1.1 rfl rfl rfl (Nat.le_of_ble_eq_true rfl) ⟨(Nat.le_of_ble_eq_true rfl), (Nat.le_of_ble_eq_true rfl)⟩ dc_M_part_114 (fun r1 g5 h1 => ?_)
        obtain ⟨b5, -, h15, hM2, hrw2⟩ := h1
        rw [hrw 6 (by decide) (by decide), zm_fe (hrw 4 (by decide) (by decide))] at h15
        have hM := zm_T hM hM2
        have hrw : ∀ r, r ≠ 14 → r ≠ 15 → b5 r = a r := fun r h1 h2 => (hrw2 r h1 h2).trans (hrw r h1 h2)
        refine zj_istore C dc_M_part_117 (by decide) rfl ?_
        refine zj_aload_n C dc_M_part_119 rfl 1 rfl ?_
        refine zj_get (k := 19) C (by omega) hM.1.1 rfl (by decide) fw_M fl_M_56 rfl rfl dc_M_part_120 ?_
        refine zj_bipush (v := 20) C dc_M_part_123 (by decide) ?_
        refine zj_aload_n C dc_M_part_125 rfl 1 rfl ?_
        refine zj_get (k := 7) C (by omega) hM.1.1 rfl (by decide) fw_M fl_M_89 rfl rfl dc_M_part_126 ?_
        refine zj_iconst (v := 1) C dc_M_part_129 (by decide) ?_
        refine zj_isub C dc_M_part_130 ?_
        refine zj_topi (zn_m1 (by omega)) ?_
        refine zj_imul C dc_M_part_131 ?_
        refine zj_topi (show (20 : Int32) * nI (qc - 1) = nI (20 * (qc - 1)) from pk_mul 20 _) ?_
        refine zj_iload C dc_M_part_132 6 rfl ?_
        refine zj_iadd C dc_M_part_134 ?_
        refine zj_topi (nI_add _ _) ?_
        refine zj_iconst (v := 1) C dc_M_part_135 (by decide) ?_
        refine zj_isub C dc_M_part_136 ?_
        refine zj_topi ((zn_m1 (by omega)).trans (congrArg nI (Nat.add_sub_assoc (by omega) _))) ?_
        refine zj_iald C (by omega) hM.1.2.2.2.2.2.2.2.2.2.2.2.2.2.2.2.2.1 rfl (by omega) (by decide) dc_M_part_137 ?_
        refine zj_topi (h15) ?_
        refine zj_iconst (v := 1) C dc_M_part_138 (by decide) ?_
        refine zj_iadd C dc_M_part_139 ?_
        refine zj_topi (nI_1 _) ?_
        exact zj_iret C dc_M_part_140 ⟨b5, congrArg nI (show _ = (zm_pt 5 k qc (a 6) (a 7) (zm_f a 4 t R) (zm_f a 5 t R) pl sp) from (by unfold zm_pt; rw [if_neg (by decide), if_neg (by decide), if_pos ⟨n1, n2, n3⟩])), hM, (fun r h1 h2 _ => hrw r h1 h2)⟩
      · have n3 := zb_i1 n3
        refine zj_iconst (v := 0) C dc_M_part_106 (by decide) ?_
        exact zj_iret C dc_M_part_107 ⟨b3, (show (0 : Int32) = nI (zm_pt 5 k qc (a 6) (a 7) (zm_f a 4 t R) (zm_f a 5 t R) pl sp) by rw [show (zm_pt 5 k qc (a 6) (a 7) (zm_f a 4 t R) (zm_f a 5 t R) pl sp) = 0 by unfold zm_pt; rw [if_neg (by decide), if_neg (by decide), if_neg (fun h => by have h2 := h.2.2; rw [n3] at h2; cases h2)]]; rfl), hM, (fun r h1 h2 _ => hrw r h1 h2)⟩
theorem ct_M_part (l : Launch) (hst : l.stackTraces = false) (z : zv_T) (ad : Nat → Nat) (N : Nat) (g : Nat → va_E) (c as fo kp : Int32) (a : Nat → Nat → Int32) (hN : 126 ≤ N) (hM0 : zs_M z ad g c as fo kp a) (qc t R : Nat) (has : as = nI qc) (hqc : 2 ≤ qc) (hqc8 : qc ≤ 8) (ht : t < 8) (hR : a 3 t = nI R) (hR1 : 1 ≤ R) (hR9 : R ≤ 9) (pl sp k : Nat) (hsp : 1 ≤ sp) (hpl : pl + sp ≤ 20) (hk : k ≤ 4) (kd : Nat) (hkd : kd ≤ 5) : zm_i l mn_M_part ws_M_part rm_M_part z ad N g [.ref (ad 108), .int (nI kd), .int (nI k), .int (nI t), .int (nI pl), .int (nI sp)] (fun r g1 => ∃ a1, r = nI (zm_pt kd k qc (a 6) (a 7) (zm_f a 4 t R) (zm_f a 5 t R) pl sp) ∧ zm_M z ad g g1 c (nI qc) fo kp a1 ∧ ∀ r, r ≠ 14 → r ≠ 15 → r ≠ 16 → a1 r = a r) := by
  have h : kd = 0 ∨ kd = 1 ∨ kd = 2 ∨ kd = 3 ∨ kd = 4 ∨ kd = 5 := by omega
  rcases h with rfl | rfl | rfl | rfl | rfl | rfl
  · exact ct_M_part0 l hst z ad N g c as fo kp a hN hM0 qc t R has hqc hqc8 ht hR hR1 hR9 pl sp k hsp hpl hk
  · exact ct_M_part1 l hst z ad N g c as fo kp a hN hM0 qc t R has hqc hqc8 ht hR hR1 hR9 pl sp k hsp hpl hk
  · exact ct_M_part2 l hst z ad N g c as fo kp a hN hM0 qc t R has hqc hqc8 ht hR hR1 hR9 pl sp k hsp hpl hk
  · exact ct_M_part3 l hst z ad N g c as fo kp a hN hM0 qc t R has hqc hqc8 ht hR hR1 hR9 pl sp k hsp hpl hk
  · exact ct_M_part4 l hst z ad N g c as fo kp a hN hM0 qc t R has hqc hqc8 ht hR hR1 hR9 pl sp k hsp hpl hk
  · exact ct_M_part5 l hst z ad N g c as fo kp a hN hM0 qc t R has hqc hqc8 ht hR hR1 hR9 pl sp k hsp hpl hk
set_option maxHeartbeats 4000000 in
set_option maxRecDepth 100000 in
theorem ct_M_leads (l : Launch) (hst : l.stackTraces = false) (z : zv_T) (ad : Nat → Nat) (N : Nat) (g : Nat → va_E) (c as fo kp : Int32) (a : Nat → Nat → Int32) (hN : 126 ≤ N) (hM0 : zs_M z ad g c as fo kp a) (x y sx sy px py : Nat) (hx : x < 1520) (hy : y < 1520) (h1 : a 10 x = nI sx) (h2 : a 10 y = nI sy) (h3 : a 11 x = nI px) (h4 : a 11 y = nI py) (b1 : sx ≤ 20) (b2 : sy ≤ 20) (b3 : px ≤ 8) (b4 : py ≤ 8) : zm_i l mn_M_leads ws_M_leads rm_M_leads z ad N g [.ref (ad 108), .int (nI x), .int (nI y)] (fun r g1 => r = zb_i (decide (py * py * sx < px * px * sy)) ∧ g1 = g) := by
  have hM : zm_M z ad g g c as fo kp a := ⟨hM0, fun _ _ => rfl⟩
  have hq1 : px * px * sy ≤ 8 * 8 * 20 := Nat.mul_le_mul (Nat.mul_le_mul b3 b3) b2
  have hq2 : py * py * sx ≤ 8 * 8 * 20 := Nat.mul_le_mul (Nat.mul_le_mul b4 b4) b1
  refine zm_ofz hst pn_M_leads rfl (Nat.le_of_ble_eq_true rfl) (fun X hX C => ?_)
  subst hX
  show zj_J X 0 0 _ ad N g 0 [(0, .ref (ad 108)), (1, .int (nI x)), (2, .int (nI y))] []
  refine zj_aload_n C dc_M_leads_0 rfl 0 rfl ?_
  refine zj_get (k := 14) C (by omega) hM.1.1 rfl (by decide) fw_M fl_M_44 rfl rfl dc_M_leads_1 ?_
  refine zj_iload_n C dc_M_leads_4 rfl 1 rfl ?_
  refine zj_iald C (by omega) hM.1.2.2.2.2.2.2.2.2.2.2.2.2.1 rfl (by omega) (by decide) dc_M_leads_5 ?_
  refine zj_topi (h3) ?_
  refine zj_aload_n C dc_M_leads_6 rfl 0 rfl ?_
  refine zj_get (k := 14) C (by omega) hM.1.1 rfl (by decide) fw_M fl_M_44 rfl rfl dc_M_leads_7 ?_
  refine zj_iload_n C dc_M_leads_10 rfl 1 rfl ?_
  refine zj_iald C (by omega) hM.1.2.2.2.2.2.2.2.2.2.2.2.2.1 rfl (by omega) (by decide) dc_M_leads_11 ?_
  refine zj_topi (h3) ?_
  refine zj_imul C dc_M_leads_12 ?_
  refine zj_topi (pk_mul _ _) ?_
  refine zj_aload_n C dc_M_leads_13 rfl 0 rfl ?_
  refine zj_get (k := 13) C (by omega) hM.1.1 rfl (by decide) fw_M fl_M_41 rfl rfl dc_M_leads_14 ?_
  refine zj_iload_n C dc_M_leads_17 rfl 2 rfl ?_
  refine zj_iald C (by omega) hM.1.2.2.2.2.2.2.2.2.2.2.2.1 rfl (by omega) (by decide) dc_M_leads_18 ?_
  refine zj_topi (h2) ?_
  refine zj_imul C dc_M_leads_19 ?_
  refine zj_topi (pk_mul _ _) ?_
  refine zj_istore_n C dc_M_leads_20 rfl (by decide) rfl ?_
  refine zj_aload_n C dc_M_leads_21 rfl 1 rfl ?_
  refine zj_get (k := 14) C (by omega) hM.1.1 rfl (by decide) fw_M fl_M_44 rfl rfl dc_M_leads_22 ?_
  refine zj_iload_n C dc_M_leads_25 rfl 3 rfl ?_
  refine zj_iald C (by omega) hM.1.2.2.2.2.2.2.2.2.2.2.2.2.1 rfl (by omega) (by decide) dc_M_leads_26 ?_
  refine zj_topi (h4) ?_
  refine zj_aload_n C dc_M_leads_27 rfl 1 rfl ?_
  refine zj_get (k := 14) C (by omega) hM.1.1 rfl (by decide) fw_M fl_M_44 rfl rfl dc_M_leads_28 ?_
  refine zj_iload_n C dc_M_leads_31 rfl 3 rfl ?_
  refine zj_iald C (by omega) hM.1.2.2.2.2.2.2.2.2.2.2.2.2.1 rfl (by omega) (by decide) dc_M_leads_32 ?_
  refine zj_topi (h4) ?_
  refine zj_imul C dc_M_leads_33 ?_
  refine zj_topi (pk_mul _ _) ?_
  refine zj_aload_n C dc_M_leads_34 rfl 1 rfl ?_
  refine zj_get (k := 13) C (by omega) hM.1.1 rfl (by decide) fw_M fl_M_41 rfl rfl dc_M_leads_35 ?_
  refine zj_iload_n C dc_M_leads_38 rfl 2 rfl ?_
  refine zj_iald C (by omega) hM.1.2.2.2.2.2.2.2.2.2.2.2.1 rfl (by omega) (by decide) dc_M_leads_39 ?_
  refine zj_topi (h1) ?_
  refine zj_imul C dc_M_leads_40 ?_
  refine zj_topi (pk_mul _ _) ?_
  refine zj_istore C dc_M_leads_41 (by decide) rfl ?_
  refine zj_iload_n C dc_M_leads_43 rfl 1 rfl ?_
  refine zj_iload C dc_M_leads_44 0 rfl ?_
  refine zj_icmp_le C dc_M_leads_46 rfl (fun c1 => ?_) (fun c1 => ?_)
  · have c1 := (nI_leI (by omega) (by omega)).mp c1
    refine zj_iconst (v := 0) C dc_M_leads_53 (by decide) ?_
    exact zj_zret C dc_M_leads_54 rfl ⟨(show (0 : Int32) = zb_i (decide _) by rw [decide_eq_false (by omega)]; rfl), rfl⟩
  · have c1 := (zn_nle (by omega) (by omega)).mp c1
    refine zj_iconst (v := 1) C dc_M_leads_49 (by decide) ?_
    refine zj_goto C dc_M_leads_50 rfl ?_
    exact zj_zret C dc_M_leads_54 rfl ⟨(show (1 : Int32) = zb_i (decide _) by rw [decide_eq_true c1]; rfl), rfl⟩
set_option maxHeartbeats 4000000 in
set_option maxRecDepth 100000 in
theorem ct_M_divisor (l : Launch) (hst : l.stackTraces = false) (z : zv_T) (ad : Nat → Nat) (N : Nat) (g : Nat → va_E) (a b : Nat) (ha : 0 < a) (hb0 : 0 < b) (ha2 : a < 2 ^ 31) (hb : b < 2 ^ 31) : zm_i l mn_M_divisor ws_M_divisor rm_M_divisor z ad N g [.int (nI a), .int (nI b)] (fun r g1 => r = nI (Nat.gcd a b) ∧ g1 = g) := by
  refine zm_ofi hst pn_M_divisor rfl (Nat.le_of_ble_eq_true rfl) (fun X hX C => ?_)
  subst hX
  show zj_J X 0 0 _ ad N g 0 [(0, .int (nI a)), (1, .int (nI b))] []
  have loop : ∀ (n : Nat) (k : Nat), k = n → 0 < k → k < 2 ^ 31 → (∀ e, k < e → ¬ (a % e = 0 ∧ b % e = 0)) → zj_J X 0 0 (zj_Qi X 0 0 ad N (fun r g1 => r = nI (Nat.gcd a b) ∧ g1 = g)) ad N g 11 [(2, .int (nI k)), (0, .int (nI a)), (1, .int (nI b))] [] := by
    intro n
    induction n with
    | zero =>
      intro k e1 e2 e3 e4
      exact absurd e1 (by omega)
    | succ n ih =>
      intro k e1 e2 e3 e4
      refine zj_iload_n C dc_M_divisor_11 rfl 1 rfl ?_
      refine zj_iload_n C dc_M_divisor_12 rfl 0 rfl ?_
      refine zj_irem C dc_M_divisor_13 (nI_ne0 e2 (by omega)) ?_
      refine zj_if_ne C dc_M_divisor_14 rfl (fun h10 => ?_) (fun h10 => ?_)
      · skip
        refine zj_iinc C dc_M_divisor_23 0 rfl (show nI k + Int32.ofInt (-1) = nI (k - 1) from by rw [← zn_m1 (by omega)]; show nI k + -1 = _; grind) (by decide) rfl ?_
        refine zj_goto C dc_M_divisor_26 rfl ?_
        refine zj_loc (L' := [(2, .int (nI (k - 1))), (0, .int (nI a)), (1, .int (nI b))]) [0, 1, 2] rfl ?_
        have hk1 : ¬ k = 1 := fun e9 => by subst e9; first | exact h10 ((zn_rem0 ha2 e2 (by omega)).mpr (Nat.mod_one a)) | exact h16 ((zn_rem0 hb e2 (by omega)).mpr (Nat.mod_one b))
        exact ih (k - 1) (by omega) (Nat.pos_of_ne_zero (fun e9 => hk1 (by omega))) (by omega) (fun e he h => if c : e = k then (by subst c; first | exact h10 ((zn_rem0 ha2 e2 (by omega)).mpr h.1) | exact h16 ((zn_rem0 hb e2 (by omega)).mpr h.2)) else e4 e (by omega) h)
      · skip
        refine zj_iload_n C dc_M_divisor_17 rfl 2 rfl ?_
        refine zj_iload_n C dc_M_divisor_18 rfl 0 rfl ?_
        refine zj_irem C dc_M_divisor_19 (nI_ne0 e2 (by omega)) ?_
        refine zj_if_eq C dc_M_divisor_20 rfl (fun h16 => ?_) (fun h16 => ?_)
        · skip
          refine zj_iload_n C dc_M_divisor_29 rfl 0 rfl ?_
          exact zj_iret C dc_M_divisor_30 ⟨by rw [← zp_gcd1 ha ((zn_rem0 ha2 e2 (by omega)).mp h10) ((zn_rem0 hb e2 (by omega)).mp h16) e4], rfl⟩
        · skip
          refine zj_iinc C dc_M_divisor_23 0 rfl (show nI k + Int32.ofInt (-1) = nI (k - 1) from by rw [← zn_m1 (by omega)]; show nI k + -1 = _; grind) (by decide) rfl ?_
          refine zj_goto C dc_M_divisor_26 rfl ?_
          refine zj_loc (L' := [(2, .int (nI (k - 1))), (0, .int (nI a)), (1, .int (nI b))]) [0, 1, 2] rfl ?_
          have hk1 : ¬ k = 1 := fun e9 => by subst e9; first | exact h10 ((zn_rem0 ha2 e2 (by omega)).mpr (Nat.mod_one a)) | exact h16 ((zn_rem0 hb e2 (by omega)).mpr (Nat.mod_one b))
          exact ih (k - 1) (by omega) (Nat.pos_of_ne_zero (fun e9 => hk1 (by omega))) (by omega) (fun e he h => if c : e = k then (by subst c; first | exact h10 ((zn_rem0 ha2 e2 (by omega)).mpr h.1) | exact h16 ((zn_rem0 hb e2 (by omega)).mpr h.2)) else e4 e (by omega) h)
  refine zj_iload_n C dc_M_divisor_0 rfl 0 rfl ?_
  refine zj_iload_n C dc_M_divisor_1 rfl 1 rfl ?_
  refine zj_icmp_ge C dc_M_divisor_2 rfl (fun c0 => ?_) (fun c0 => ?_)
  · have c0 := (nI_leI (by omega) (by omega)).mp c0
    refine zj_iload_n C dc_M_divisor_9 rfl 1 rfl ?_
    refine zj_istore_n C dc_M_divisor_10 rfl (by decide) rfl ?_
    refine zj_loc (L' := [(2, .int (nI b)), (0, .int (nI a)), (1, .int (nI b))]) [0, 1, 2] rfl ?_
    exact loop b b rfl hb0 hb (fun e he h => by have := Nat.mod_eq_of_lt he; omega)
  · have c0 := (zn_nle (by omega) (by omega)).mp c0
    refine zj_iload_n C dc_M_divisor_5 rfl 0 rfl ?_
    refine zj_goto C dc_M_divisor_6 rfl ?_
    refine zj_istore_n C dc_M_divisor_10 rfl (by decide) rfl ?_
    refine zj_loc (L' := [(2, .int (nI a)), (0, .int (nI a)), (1, .int (nI b))]) [0, 1, 2] rfl ?_
    exact loop a a rfl ha ha2 (fun e he h => by have := Nat.mod_eq_of_lt he; omega)
end ZMU
