section ZMP
theorem zn_lm1 {k n : Nat} (hk : k < 2 ^ 30) (hn : n < 2 ^ 30) : nI k < nI n - 1 ↔ k + 1 < n := by
  cases n with
  | zero =>
    have h1 : ¬ nI k < nI 0 - 1 := fun h => nI_pos (n := k) (by omega) (Int32.lt_trans h (by decide))
    exact ⟨fun h => absurd h h1, fun h => by omega⟩
  | succ n => rw [nI_pred, nI_ltI (by omega) (by omega)]; omega
theorem zm_sgp {v : Int32} : zm_sg v ≤ 0 ↔ ¬ 0 < v := by
  unfold zm_sg
  by_cases h : 0 < v
  · rw [if_pos h]; exact ⟨fun h1 => absurd h1 (by decide), fun h1 => absurd h h1⟩
  · rw [if_neg h]
    by_cases h2 : v < 0
    · rw [if_pos h2]; exact ⟨fun _ => h, fun _ => by decide⟩
    · rw [if_neg h2]; exact ⟨fun _ => h, fun _ => by decide⟩
theorem zm_sgn {v : Int32} : 0 ≤ zm_sg v ↔ ¬ v < 0 := by
  unfold zm_sg
  by_cases h : 0 < v
  · rw [if_pos h]; exact ⟨fun _ h1 => absurd (Int32.lt_trans h h1) (by decide), fun _ => by decide⟩
  · rw [if_neg h]
    by_cases h2 : v < 0
    · rw [if_pos h2]; exact ⟨fun h1 => absurd h1 (by decide), fun h1 => absurd h2 h1⟩
    · rw [if_neg h2]; exact ⟨fun _ => h2, fun _ => by decide⟩
theorem zm_ch {v : Int32} (h1 : ¬ 0 < v) (h2 : ¬ v < 0) : v = 0 := by
  apply Int32.toInt_inj.mp
  rw [Int32.lt_iff_toInt_lt] at h1 h2
  have e : (0 : Int32).toInt = 0 := rfl
  omega
theorem zm_nb (on : Bool) : vp_nar .boolean (zb_i on) = zb_i on := by cases on <;> rfl
/-- a row into which the notes of a reading are put, one of them replaced -/
def zm_cp (f : Nat → Int32) (base src pl : Nat) (x : Int32) (n : Nat) : Nat → Int32 := fun j => if base ≤ j ∧ j < base + n then (if j - base = pl then x else f (src + (j - base))) else f j
theorem zm_cp0 (f : Nat → Int32) (base src pl : Nat) (x : Int32) : zm_cp f base src pl x 0 = f := by
  funext j
  unfold zm_cp
  rw [if_neg (by omega)]
theorem zm_cp_lo {f : Nat → Int32} {base src pl : Nat} {x : Int32} {n j : Nat} (h : j < base) : zm_cp f base src pl x n j = f j := by unfold zm_cp; rw [if_neg (by omega)]
theorem zm_cpS {f : Nat → Int32} {base src pl : Nat} {x v : Int32} {n : Nat} (h : v = if n = pl then x else f (src + n)) : upd (zm_cp f base src pl x n) (base + n) v = zm_cp f base src pl x (n + 1) := by
  funext j
  by_cases e : j = base + n
  · subst e
    rw [pk_us, h]
    unfold zm_cp
    rw [if_pos (show base ≤ base + n ∧ base + n < base + (n + 1) by omega), Nat.add_sub_cancel_left]
  · rw [pk_un e]
    unfold zm_cp
    by_cases e2 : base ≤ j ∧ j < base + n
    · rw [if_pos e2, if_pos (show base ≤ j ∧ j < base + (n + 1) by omega)]
    · rw [if_neg e2, if_neg (show ¬ (base ≤ j ∧ j < base + (n + 1)) by omega)]
theorem zm_nnf {b : Bool} {P : Prop} (h : b = false) (hb : (b = true ∧ ¬ P) ∨ (b = false ∧ P)) : P := by
  subst h
  rcases hb with ⟨h, -⟩ | ⟨-, h⟩
  · cases h
  · exact h
theorem zm_nnt {b : Bool} {P : Prop} (h : b = true) (hb : (b = true ∧ ¬ P) ∨ (b = false ∧ P)) : ¬ P := by
  subst h
  rcases hb with ⟨-, h⟩ | ⟨h, -⟩
  · exact h
  · cases h
set_option maxHeartbeats 4000000 in
set_option maxRecDepth 100000 in
theorem ct_M_tune (l : Launch) (hst : l.stackTraces = false) (z : zv_T) (ad : Nat → Nat) (N : Nat) (g : Nat → va_E) (c as fo kp : Int32) (a : Nat → Nat → Int32) (hN : 126 ≤ N) (hM0 : zs_M z ad g c as fo kp a) (th sh : Nat → Bool) (Cn Rn : Nat → Nat) (hA : zm_A a th sh Cn Rn) (id : Int32) : zm_v l mn_M_tune ws_M_tune rm_M_tune z ad N g [.ref (ad 108), .int id] (fun g1 => (∃ t, t < 8 ∧ id = nI t ∧ th t = false ∧ zm_M z ad g g1 0 as fo kp (va_up (va_up (va_up (va_up a 0 (upd (a 0) t 1)) 1 (upd (a 1) t 0)) 2 (upd (a 2) t 0)) 3 (upd (a 3) t 1))) ∨ ((∀ t, t < 8 → ¬ id = nI t) ∧ zm_M z ad g g1 1 as fo kp a) ∨ ((∃ t, t < 8 ∧ id = nI t ∧ th t = true) ∧ zm_M z ad g g1 2 as fo kp a)) := by
  have hM : zm_M z ad g g c as fo kp a := ⟨hM0, fun _ _ => rfl⟩
  refine zm_ofv hst pn_M_tune rfl (Nat.le_of_ble_eq_true rfl) (fun X hX C => ?_)
  subst hX
  show zj_J X 0 0 _ ad N g 0 [(0, .ref (ad 108)), (1, .int id)] []
  refine zj_aload_n C dc_M_tune_0 rfl 0 rfl ?_
  refine zj_iload_n C dc_M_tune_1 rfl 1 rfl ?_
  refine zj_if_lt C dc_M_tune_2 rfl (fun a1 => ?_) (fun a1 => ?_)
  · skip
    refine zj_iconst (v := 1) C dc_M_tune_11 (by decide) ?_
    refine zj_goto C dc_M_tune_12 rfl ?_
    refine zj_put (k := 0) C (by omega) hM.1.1 rfl (by decide) fw_M fl_M_62 rfl fy_M fk_M fn_M rfl rfl rfl (Nat.le_of_ble_eq_true rfl) rfl dc_M_tune_29 ?_
    refine zM_kc hM (fun g2 hM => ?_)
    refine zj_aload_n C dc_M_tune_32 rfl 0 rfl ?_
    refine zj_get (k := 0) C (by omega) hM.1.1 rfl (by decide) fw_M fl_M_62 rfl rfl dc_M_tune_33 ?_
    refine zj_if_le C dc_M_tune_36 rfl (fun h => absurd h (by decide)) (fun _ => ?_)
    exact zj_vret C dc_M_tune_39 (Or.inr (Or.inl ⟨zm_nid (Or.inl a1), hM⟩))
  · skip
    refine zj_iload_n C dc_M_tune_5 rfl 1 rfl ?_
    refine zj_bipush (v := 7) C dc_M_tune_6 (by decide) ?_
    refine zj_icmp_le C dc_M_tune_8 rfl (fun a2 => ?_) (fun a2 => ?_)
    · obtain ⟨t, ht, rfl⟩ := zm_id a1 (Int32.not_lt.mpr a2)
      refine zj_aload_n C dc_M_tune_15 rfl 0 rfl ?_
      refine zj_get (k := 1) C (by omega) hM.1.1 rfl (by decide) fw_M fl_M_7 rfl rfl dc_M_tune_16 ?_
      refine zj_iload_n C dc_M_tune_19 rfl 1 rfl ?_
      refine zj_zald C (by omega) hM.1.2.1 rfl ht (by decide) dc_M_tune_20 ?_
      refine zj_topi ((hA t ht).1) ?_
      refine zj_if_eq C dc_M_tune_21 rfl (fun a3 => ?_) (fun a3 => ?_)
      · have a3 := zb_i0 a3
        refine zj_iconst (v := 0) C dc_M_tune_28 (by decide) ?_
        refine zj_put (k := 0) C (by omega) hM.1.1 rfl (by decide) fw_M fl_M_62 rfl fy_M fk_M fn_M rfl rfl rfl (Nat.le_of_ble_eq_true rfl) rfl dc_M_tune_29 ?_
        refine zM_kc hM (fun g2 hM => ?_)
        refine zj_aload_n C dc_M_tune_32 rfl 0 rfl ?_
        refine zj_get (k := 0) C (by omega) hM.1.1 rfl (by decide) fw_M fl_M_62 rfl rfl dc_M_tune_33 ?_
        refine zj_if_le C dc_M_tune_36 rfl (fun _ => ?_) (fun h => absurd h (by decide))
        refine zj_aload_n C dc_M_tune_40 rfl 0 rfl ?_
        refine zj_get (k := 1) C (by omega) hM.1.1 rfl (by decide) fw_M fl_M_7 rfl rfl dc_M_tune_41 ?_
        refine zj_iload_n C dc_M_tune_44 rfl 1 rfl ?_
        refine zj_iconst (v := 1) C dc_M_tune_45 (by decide) ?_
        refine zj_zast C (by omega) hM.1.2.1 rfl ht (by decide) dc_M_tune_46 ?_
        refine zM_k0 hM (fun g2 hM => ?_)
        refine zj_aload_n C dc_M_tune_47 rfl 0 rfl ?_
        refine zj_get (k := 2) C (by omega) hM.1.1 rfl (by decide) fw_M fl_M_13 rfl rfl dc_M_tune_48 ?_
        refine zj_iload_n C dc_M_tune_51 rfl 1 rfl ?_
        refine zj_iconst (v := 0) C dc_M_tune_52 (by decide) ?_
        refine zj_zast C (by omega) hM.1.2.2.1 rfl ht (by decide) dc_M_tune_53 ?_
        refine zM_k1 hM (fun g2 hM => ?_)
        refine zj_aload_n C dc_M_tune_54 rfl 0 rfl ?_
        refine zj_get (k := 3) C (by omega) hM.1.1 rfl (by decide) fw_M fl_M_16 rfl rfl dc_M_tune_55 ?_
        refine zj_iload_n C dc_M_tune_58 rfl 1 rfl ?_
        refine zj_iconst (v := 0) C dc_M_tune_59 (by decide) ?_
        refine zj_iast C (by omega) hM.1.2.2.2.1 rfl ht (by decide) dc_M_tune_60 ?_
        refine zM_k2 hM (fun g2 hM => ?_)
        refine zj_aload_n C dc_M_tune_61 rfl 0 rfl ?_
        refine zj_get (k := 4) C (by omega) hM.1.1 rfl (by decide) fw_M fl_M_20 rfl rfl dc_M_tune_62 ?_
        refine zj_iload_n C dc_M_tune_65 rfl 1 rfl ?_
        refine zj_iconst (v := 1) C dc_M_tune_66 (by decide) ?_
        refine zj_iast C (by omega) hM.1.2.2.2.2.1 rfl ht (by decide) dc_M_tune_67 ?_
        refine zM_k3 hM (fun g2 hM => ?_)
        exact zj_vret C dc_M_tune_68 (Or.inl ⟨t, ht, rfl, a3, hM⟩)
      · have a3 := zb_i1 a3
        refine zj_iconst (v := 2) C dc_M_tune_24 (by decide) ?_
        refine zj_goto C dc_M_tune_25 rfl ?_
        refine zj_put (k := 0) C (by omega) hM.1.1 rfl (by decide) fw_M fl_M_62 rfl fy_M fk_M fn_M rfl rfl rfl (Nat.le_of_ble_eq_true rfl) rfl dc_M_tune_29 ?_
        refine zM_kc hM (fun g2 hM => ?_)
        refine zj_aload_n C dc_M_tune_32 rfl 0 rfl ?_
        refine zj_get (k := 0) C (by omega) hM.1.1 rfl (by decide) fw_M fl_M_62 rfl rfl dc_M_tune_33 ?_
        refine zj_if_le C dc_M_tune_36 rfl (fun h => absurd h (by decide)) (fun _ => ?_)
        exact zj_vret C dc_M_tune_39 (Or.inr (Or.inr ⟨⟨t, ht, rfl, a3⟩, hM⟩))
    · skip
      refine zj_iconst (v := 1) C dc_M_tune_11 (by decide) ?_
      refine zj_goto C dc_M_tune_12 rfl ?_
      refine zj_put (k := 0) C (by omega) hM.1.1 rfl (by decide) fw_M fl_M_62 rfl fy_M fk_M fn_M rfl rfl rfl (Nat.le_of_ble_eq_true rfl) rfl dc_M_tune_29 ?_
      refine zM_kc hM (fun g2 hM => ?_)
      refine zj_aload_n C dc_M_tune_32 rfl 0 rfl ?_
      refine zj_get (k := 0) C (by omega) hM.1.1 rfl (by decide) fw_M fl_M_62 rfl rfl dc_M_tune_33 ?_
      refine zj_if_le C dc_M_tune_36 rfl (fun h => absurd h (by decide)) (fun _ => ?_)
      exact zj_vret C dc_M_tune_39 (Or.inr (Or.inl ⟨zm_nid (Or.inr (Int32.not_le.mp a2)), hM⟩))
set_option maxHeartbeats 4000000 in
set_option maxRecDepth 100000 in
theorem ct_M_drop (l : Launch) (hst : l.stackTraces = false) (z : zv_T) (ad : Nat → Nat) (N : Nat) (g : Nat → va_E) (c as fo kp : Int32) (a : Nat → Nat → Int32) (hN : 126 ≤ N) (hM0 : zs_M z ad g c as fo kp a) (th sh : Nat → Bool) (Cn Rn : Nat → Nat) (hA : zm_A a th sh Cn Rn) (id : Int32) : zm_v l mn_M_drop ws_M_drop rm_M_drop z ad N g [.ref (ad 108), .int id] (fun g1 => (∃ t, zm_is th id t ∧ zm_M z ad g g1 0 as fo kp (va_up a 0 (upd (a 0) t 0))) ∨ ((∀ t, ¬ zm_is th id t) ∧ zm_M z ad g g1 1 as fo kp a)) := by
  have hM : zm_M z ad g g c as fo kp a := ⟨hM0, fun _ _ => rfl⟩
  refine zm_ofv hst pn_M_drop rfl (Nat.le_of_ble_eq_true rfl) (fun X hX C => ?_)
  subst hX
  show zj_J X 0 0 _ ad N g 0 [(0, .ref (ad 108)), (1, .int id)] []
  refine zj_aload_n C dc_M_drop_0 rfl 0 rfl ?_
  refine zj_aload_n C dc_M_drop_1 rfl 0 rfl ?_
  refine zj_iload_n C dc_M_drop_2 rfl 1 rfl ?_
  refine zj_Vi C (ct_M_noTune _ hst z ad N _ _ _ _ _ _ hN hM.1 th sh Cn Rn hA _) gv_M_74 rfl rfl rfl hd_M_noTune ⟨(Nat.le_of_ble_eq_true rfl), (Nat.le_of_ble_eq_true rfl)⟩ (by omega) hM.1.1 rfl rfl rfl (Nat.le_of_ble_eq_true rfl) ⟨(Nat.le_of_ble_eq_true rfl), (Nat.le_of_ble_eq_true rfl)⟩ dc_M_drop_3 (fun r1 g9 h1 => ?_)
  obtain ⟨⟨b9, rfl, hb9⟩, hg9⟩ := h1
  rw [hg9]
  refine zj_if_eq C dc_M_drop_6 rfl (fun n1 => ?_) (fun n1 => ?_)
  · obtain ⟨t, ht, hid, hth⟩ := zm_ntf (zb_i0 n1) hb9
    subst hid
    obtain ⟨hA0, hA1, hA2, hA3, hA4, hA5, hA6⟩ := hA t ht
    have hA6 := hA6 hth
    refine zj_iconst (v := 0) C dc_M_drop_13 (by decide) ?_
    refine zj_put (k := 0) C (by omega) hM.1.1 rfl (by decide) fw_M fl_M_62 rfl fy_M fk_M fn_M rfl rfl rfl (Nat.le_of_ble_eq_true rfl) rfl dc_M_drop_14 ?_
    refine zM_kc hM (fun g2 hM => ?_)
    refine zj_aload_n C dc_M_drop_17 rfl 0 rfl ?_
    refine zj_get (k := 0) C (by omega) hM.1.1 rfl (by decide) fw_M fl_M_62 rfl rfl dc_M_drop_18 ?_
    refine zj_if_ne C dc_M_drop_21 rfl (fun h => absurd h (by decide)) (fun _ => ?_)
    refine zj_aload_n C dc_M_drop_24 rfl 0 rfl ?_
    refine zj_get (k := 1) C (by omega) hM.1.1 rfl (by decide) fw_M fl_M_7 rfl rfl dc_M_drop_25 ?_
    refine zj_iload_n C dc_M_drop_28 rfl 1 rfl ?_
    refine zj_iconst (v := 0) C dc_M_drop_29 (by decide) ?_
    refine zj_zast C (by omega) hM.1.2.1 rfl ht (by decide) dc_M_drop_30 ?_
    refine zM_k0 hM (fun g2 hM => ?_)
    exact zj_vret C dc_M_drop_31 (Or.inl ⟨t, ⟨ht, rfl, hth⟩, hM⟩)
  · have hnt := zm_ntt (zb_i1 n1) hb9
    refine zj_iconst (v := 1) C dc_M_drop_9 (by decide) ?_
    refine zj_goto C dc_M_drop_10 rfl ?_
    refine zj_put (k := 0) C (by omega) hM.1.1 rfl (by decide) fw_M fl_M_62 rfl fy_M fk_M fn_M rfl rfl rfl (Nat.le_of_ble_eq_true rfl) rfl dc_M_drop_14 ?_
    refine zM_kc hM (fun g2 hM => ?_)
    refine zj_aload_n C dc_M_drop_17 rfl 0 rfl ?_
    refine zj_get (k := 0) C (by omega) hM.1.1 rfl (by decide) fw_M fl_M_62 rfl rfl dc_M_drop_18 ?_
    refine zj_if_ne C dc_M_drop_21 rfl (fun _ => ?_) (fun h => absurd h (by decide))
    exact zj_vret C dc_M_drop_31 (Or.inr ⟨hnt, hM⟩)
set_option maxHeartbeats 4000000 in
set_option maxRecDepth 100000 in
theorem ct_M_note (l : Launch) (hst : l.stackTraces = false) (z : zv_T) (ad : Nat → Nat) (N : Nat) (g : Nat → va_E) (c as fo kp : Int32) (a : Nat → Nat → Int32) (hN : 126 ≤ N) (hM0 : zs_M z ad g c as fo kp a) (th sh : Nat → Bool) (Cn Rn : Nat → Nat) (hA : zm_A a th sh Cn Rn) (id x y : Int32) : zm_i l mn_M_note ws_M_note rm_M_note z ad N g [.ref (ad 108), .int id, .int x, .int y] (fun r g1 => (∃ t, zm_is th id t ∧ zp_no x y ∧ sh t = false ∧ Rn t ≤ 1 ∧ Cn t < 20 ∧ r = nI (Cn t + 1) ∧ zm_M z ad g g1 0 as fo kp (va_up (va_up (va_up a 4 (upd (a 4) (180 * t + 20 * 0 + Cn t) x)) 5 (upd (a 5) (180 * t + 20 * 0 + Cn t) y)) 2 (upd (a 2) t (nI (Cn t + 1))))) ∨ ((∀ t, ¬ zm_is th id t) ∧ zm_M z ad g g1 1 as fo kp a) ∨ ((∃ t, zm_is th id t) ∧ ¬ zp_no x y ∧ zm_M z ad g g1 2 as fo kp a) ∨ ((∃ t, zm_is th id t ∧ (sh t = true ∨ 1 < Rn t ∨ Cn t = 20)) ∧ zp_no x y ∧ zm_M z ad g g1 3 as fo kp a)) := by
  have hM : zm_M z ad g g c as fo kp a := ⟨hM0, fun _ _ => rfl⟩
  refine zm_ofi hst pn_M_note rfl (Nat.le_of_ble_eq_true rfl) (fun X hX C => ?_)
  subst hX
  show zj_J X 0 0 _ ad N g 0 [(0, .ref (ad 108)), (1, .int id), (2, .int x), (3, .int y)] []
  refine zj_aload_n C dc_M_note_0 rfl 0 rfl ?_
  refine zj_aload_n C dc_M_note_1 rfl 0 rfl ?_
  refine zj_iload_n C dc_M_note_2 rfl 1 rfl ?_
  refine zj_Vi C (ct_M_noTune _ hst z ad N _ _ _ _ _ _ hN hM.1 th sh Cn Rn hA _) gv_M_74 rfl rfl rfl hd_M_noTune ⟨(Nat.le_of_ble_eq_true rfl), (Nat.le_of_ble_eq_true rfl)⟩ (by omega) hM.1.1 rfl rfl rfl (Nat.le_of_ble_eq_true rfl) ⟨(Nat.le_of_ble_eq_true rfl), (Nat.le_of_ble_eq_true rfl)⟩ dc_M_note_3 (fun r1 g9 h1 => ?_)
  obtain ⟨⟨b9, rfl, hb9⟩, hg9⟩ := h1
  rw [hg9]
  refine zj_if_eq C dc_M_note_6 rfl (fun n1 => ?_) (fun n1 => ?_)
  · obtain ⟨t, ht, hid, hth⟩ := zm_ntf (zb_i0 n1) hb9
    subst hid
    obtain ⟨hA0, hA1, hA2, hA3, hA4, hA5, hA6⟩ := hA t ht
    have hA6 := hA6 hth
    refine zj_iload_n C dc_M_note_13 rfl 2 rfl ?_
    refine zj_iload_n C dc_M_note_14 rfl 3 rfl ?_
    refine zj_Si C (ct_M_noNote _ hst z ad N _ x y) gv_M_78 rfl rfl rfl hd_M_noNote ⟨(Nat.le_of_ble_eq_true rfl), (Nat.le_of_ble_eq_true rfl)⟩ rfl rfl (Nat.le_of_ble_eq_true rfl) ⟨(Nat.le_of_ble_eq_true rfl), (Nat.le_of_ble_eq_true rfl)⟩ dc_M_note_15 (fun r1 g9 h1 => ?_)
    obtain ⟨⟨b8, rfl, hb8⟩, hg9⟩ := h1
    rw [hg9]
    refine zj_if_eq C dc_M_note_18 rfl (fun n2 => ?_) (fun n2 => ?_)
    · have hno := zm_nnf (zb_i0 n2) hb8
      refine zj_aload_n C dc_M_note_25 rfl 0 rfl ?_
      refine zj_get (k := 2) C (by omega) hM.1.1 rfl (by decide) fw_M fl_M_13 rfl rfl dc_M_note_26 ?_
      refine zj_iload_n C dc_M_note_29 rfl 1 rfl ?_
      refine zj_zald C (by omega) hM.1.2.2.1 rfl ht (by decide) dc_M_note_30 ?_
      refine zj_topi (hA1) ?_
      refine zj_if_ne C dc_M_note_31 rfl (fun a1 => ?_) (fun a1 => ?_)
      · have a1 := zb_i1 a1
        refine zj_iconst (v := 3) C dc_M_note_55 (by decide) ?_
        refine zj_goto C dc_M_note_56 rfl ?_
        refine zj_put (k := 0) C (by omega) hM.1.1 rfl (by decide) fw_M fl_M_62 rfl fy_M fk_M fn_M rfl rfl rfl (Nat.le_of_ble_eq_true rfl) rfl dc_M_note_60 ?_
        refine zM_kc hM (fun g2 hM => ?_)
        refine zj_aload_n C dc_M_note_63 rfl 0 rfl ?_
        refine zj_get (k := 0) C (by omega) hM.1.1 rfl (by decide) fw_M fl_M_62 rfl rfl dc_M_note_64 ?_
        refine zj_if_le C dc_M_note_67 rfl (fun h => absurd h (by decide)) (fun _ => ?_)
        refine zj_iconst (v := 0) C dc_M_note_70 (by decide) ?_
        exact zj_iret C dc_M_note_71 (Or.inr (Or.inr (Or.inr ⟨⟨t, ⟨ht, rfl, hth⟩, Or.inl a1⟩, hno, hM⟩)))
      · have a1 := zb_i0 a1
        refine zj_aload_n C dc_M_note_34 rfl 0 rfl ?_
        refine zj_get (k := 4) C (by omega) hM.1.1 rfl (by decide) fw_M fl_M_20 rfl rfl dc_M_note_35 ?_
        refine zj_iload_n C dc_M_note_38 rfl 1 rfl ?_
        refine zj_iald C (by omega) hM.1.2.2.2.2.1 rfl ht (by decide) dc_M_note_39 ?_
        refine zj_topi (hA3) ?_
        refine zj_iconst (v := 1) C dc_M_note_40 (by decide) ?_
        refine zj_icmp_gt C dc_M_note_41 rfl (fun a2 => ?_) (fun a2 => ?_)
        · have a2 := (nI_ltI (a := 1) (by omega) (by omega)).mp a2
          refine zj_iconst (v := 3) C dc_M_note_55 (by decide) ?_
          refine zj_goto C dc_M_note_56 rfl ?_
          refine zj_put (k := 0) C (by omega) hM.1.1 rfl (by decide) fw_M fl_M_62 rfl fy_M fk_M fn_M rfl rfl rfl (Nat.le_of_ble_eq_true rfl) rfl dc_M_note_60 ?_
          refine zM_kc hM (fun g2 hM => ?_)
          refine zj_aload_n C dc_M_note_63 rfl 0 rfl ?_
          refine zj_get (k := 0) C (by omega) hM.1.1 rfl (by decide) fw_M fl_M_62 rfl rfl dc_M_note_64 ?_
          refine zj_if_le C dc_M_note_67 rfl (fun h => absurd h (by decide)) (fun _ => ?_)
          refine zj_iconst (v := 0) C dc_M_note_70 (by decide) ?_
          exact zj_iret C dc_M_note_71 (Or.inr (Or.inr (Or.inr ⟨⟨t, ⟨ht, rfl, hth⟩, Or.inr (Or.inl a2)⟩, hno, hM⟩)))
        · have a2 := (zn_nlt (a := 1) (by omega) (by omega)).mp a2
          refine zj_aload_n C dc_M_note_44 rfl 0 rfl ?_
          refine zj_get (k := 3) C (by omega) hM.1.1 rfl (by decide) fw_M fl_M_16 rfl rfl dc_M_note_45 ?_
          refine zj_iload_n C dc_M_note_48 rfl 1 rfl ?_
          refine zj_iald C (by omega) hM.1.2.2.2.1 rfl ht (by decide) dc_M_note_49 ?_
          refine zj_topi (hA2) ?_
          refine zj_bipush (v := 20) C dc_M_note_50 (by decide) ?_
          refine zj_icmp_ne C dc_M_note_52 rfl (fun a3 => ?_) (fun a3 => ?_)
          · have a3 := (zn_ne (b := 20) (by omega) (by omega)).mp a3
            refine zj_iconst (v := 0) C dc_M_note_59 (by decide) ?_
            refine zj_put (k := 0) C (by omega) hM.1.1 rfl (by decide) fw_M fl_M_62 rfl fy_M fk_M fn_M rfl rfl rfl (Nat.le_of_ble_eq_true rfl) rfl dc_M_note_60 ?_
            refine zM_kc hM (fun g2 hM => ?_)
            refine zj_aload_n C dc_M_note_63 rfl 0 rfl ?_
            refine zj_get (k := 0) C (by omega) hM.1.1 rfl (by decide) fw_M fl_M_62 rfl rfl dc_M_note_64 ?_
            refine zj_if_le C dc_M_note_67 rfl (fun _ => ?_) (fun h => absurd h (by decide))
            refine zj_aload_n C dc_M_note_72 rfl 0 rfl ?_
            refine zj_get (k := 5) C (by omega) hM.1.1 rfl (by decide) fw_M fl_M_23 rfl rfl dc_M_note_73 ?_
            refine zj_aload_n C dc_M_note_76 rfl 0 rfl ?_
            refine zj_iload_n C dc_M_note_77 rfl 1 rfl ?_
            refine zj_iconst (v := 0) C dc_M_note_78 (by decide) ?_
            refine zj_topi (nI_0.symm) ?_
            refine zj_aload_n C dc_M_note_79 rfl 0 rfl ?_
            refine zj_get (k := 3) C (by omega) hM.1.1 rfl (by decide) fw_M fl_M_16 rfl rfl dc_M_note_80 ?_
            refine zj_iload_n C dc_M_note_83 rfl 1 rfl ?_
            refine zj_iald C (by omega) hM.1.2.2.2.1 rfl ht (by decide) dc_M_note_84 ?_
            refine zj_topi (hA2) ?_
            refine zj_Vi C (ct_M_spot _ hst z ad N _ _ _ _ _ _ hN hM.1 (t) (0) (Cn t)) gv_M_66 rfl rfl rfl hd_M_spot ⟨(Nat.le_of_ble_eq_true rfl), (Nat.le_of_ble_eq_true rfl)⟩ (by omega) hM.1.1 rfl rfl rfl (Nat.le_of_ble_eq_true rfl) ⟨(Nat.le_of_ble_eq_true rfl), (Nat.le_of_ble_eq_true rfl)⟩ dc_M_note_85 (fun r1 g9 h1 => ?_)
            obtain ⟨rfl, hg9⟩ := h1
            rw [hg9]
            refine zj_iload_n C dc_M_note_88 rfl 2 rfl ?_
            refine zj_iast C (by omega) hM.1.2.2.2.2.2.1 rfl (by omega) (by decide) dc_M_note_89 ?_
            refine zM_k4 hM (fun g2 hM => ?_)
            refine zj_aload_n C dc_M_note_90 rfl 0 rfl ?_
            refine zj_get (k := 6) C (by omega) hM.1.1 rfl (by decide) fw_M fl_M_26 rfl rfl dc_M_note_91 ?_
            refine zj_aload_n C dc_M_note_94 rfl 0 rfl ?_
            refine zj_iload_n C dc_M_note_95 rfl 1 rfl ?_
            refine zj_iconst (v := 0) C dc_M_note_96 (by decide) ?_
            refine zj_topi (nI_0.symm) ?_
            refine zj_aload_n C dc_M_note_97 rfl 0 rfl ?_
            refine zj_get (k := 3) C (by omega) hM.1.1 rfl (by decide) fw_M fl_M_16 rfl rfl dc_M_note_98 ?_
            refine zj_iload_n C dc_M_note_101 rfl 1 rfl ?_
            refine zj_iald C (by omega) hM.1.2.2.2.1 rfl ht (by decide) dc_M_note_102 ?_
            refine zj_topi ((congrFun (va_up_ne _ _ (by decide)) t).trans hA2) ?_
            refine zj_Vi C (ct_M_spot _ hst z ad N _ _ _ _ _ _ hN hM.1 (t) (0) (Cn t)) gv_M_66 rfl rfl rfl hd_M_spot ⟨(Nat.le_of_ble_eq_true rfl), (Nat.le_of_ble_eq_true rfl)⟩ (by omega) hM.1.1 rfl rfl rfl (Nat.le_of_ble_eq_true rfl) ⟨(Nat.le_of_ble_eq_true rfl), (Nat.le_of_ble_eq_true rfl)⟩ dc_M_note_103 (fun r1 g9 h1 => ?_)
            obtain ⟨rfl, hg9⟩ := h1
            rw [hg9]
            refine zj_iload_n C dc_M_note_106 rfl 3 rfl ?_
            refine zj_iast C (by omega) hM.1.2.2.2.2.2.2.1 rfl (by omega) (by decide) dc_M_note_107 ?_
            refine zM_k5 hM (fun g2 hM => ?_)
            refine zj_aload_n C dc_M_note_108 rfl 0 rfl ?_
            refine zj_get (k := 3) C (by omega) hM.1.1 rfl (by decide) fw_M fl_M_16 rfl rfl dc_M_note_109 ?_
            refine zj_iload_n C dc_M_note_112 rfl 1 rfl ?_
            refine zj_dup2 C dc_M_note_113 rfl rfl ?_
            refine zj_iald C (by omega) hM.1.2.2.2.1 rfl ht (by decide) dc_M_note_114 ?_
            refine zj_topi ((congrFun (va_up_ne _ _ (by decide)) t).trans ((congrFun (va_up_ne _ _ (by decide)) t).trans hA2)) ?_
            refine zj_iconst (v := 1) C dc_M_note_115 (by decide) ?_
            refine zj_iadd C dc_M_note_116 ?_
            refine zj_topi (nI_1 _) ?_
            refine zj_iast C (by omega) hM.1.2.2.2.1 rfl ht (by decide) dc_M_note_117 ?_
            refine zM_k2 hM (fun g2 hM => ?_)
            refine zj_aload_n C dc_M_note_118 rfl 0 rfl ?_
            refine zj_get (k := 3) C (by omega) hM.1.1 rfl (by decide) fw_M fl_M_16 rfl rfl dc_M_note_119 ?_
            refine zj_iload_n C dc_M_note_122 rfl 1 rfl ?_
            refine zj_iald C (by omega) hM.1.2.2.2.1 rfl ht (by decide) dc_M_note_123 ?_
            refine zj_topi ((congrFun (va_up_self _ _ _) t).trans pk_us) ?_
            exact zj_iret C dc_M_note_124 (Or.inl ⟨t, ⟨ht, rfl, hth⟩, hno, a1, a2, by omega, rfl, hM⟩)
          · have a3 := (nI_eq (b := 20) (by omega) (by omega)).mp a3
            refine zj_iconst (v := 3) C dc_M_note_55 (by decide) ?_
            refine zj_goto C dc_M_note_56 rfl ?_
            refine zj_put (k := 0) C (by omega) hM.1.1 rfl (by decide) fw_M fl_M_62 rfl fy_M fk_M fn_M rfl rfl rfl (Nat.le_of_ble_eq_true rfl) rfl dc_M_note_60 ?_
            refine zM_kc hM (fun g2 hM => ?_)
            refine zj_aload_n C dc_M_note_63 rfl 0 rfl ?_
            refine zj_get (k := 0) C (by omega) hM.1.1 rfl (by decide) fw_M fl_M_62 rfl rfl dc_M_note_64 ?_
            refine zj_if_le C dc_M_note_67 rfl (fun h => absurd h (by decide)) (fun _ => ?_)
            refine zj_iconst (v := 0) C dc_M_note_70 (by decide) ?_
            exact zj_iret C dc_M_note_71 (Or.inr (Or.inr (Or.inr ⟨⟨t, ⟨ht, rfl, hth⟩, Or.inr (Or.inr a3)⟩, hno, hM⟩)))
    · have hno := zm_nnt (zb_i1 n2) hb8
      refine zj_iconst (v := 2) C dc_M_note_21 (by decide) ?_
      refine zj_goto C dc_M_note_22 rfl ?_
      refine zj_put (k := 0) C (by omega) hM.1.1 rfl (by decide) fw_M fl_M_62 rfl fy_M fk_M fn_M rfl rfl rfl (Nat.le_of_ble_eq_true rfl) rfl dc_M_note_60 ?_
      refine zM_kc hM (fun g2 hM => ?_)
      refine zj_aload_n C dc_M_note_63 rfl 0 rfl ?_
      refine zj_get (k := 0) C (by omega) hM.1.1 rfl (by decide) fw_M fl_M_62 rfl rfl dc_M_note_64 ?_
      refine zj_if_le C dc_M_note_67 rfl (fun h => absurd h (by decide)) (fun _ => ?_)
      refine zj_iconst (v := 0) C dc_M_note_70 (by decide) ?_
      exact zj_iret C dc_M_note_71 (Or.inr (Or.inr (Or.inl ⟨⟨t, ht, rfl, hth⟩, hno, hM⟩)))
  · have hnt := zm_ntt (zb_i1 n1) hb9
    refine zj_iconst (v := 1) C dc_M_note_9 (by decide) ?_
    refine zj_goto C dc_M_note_10 rfl ?_
    refine zj_put (k := 0) C (by omega) hM.1.1 rfl (by decide) fw_M fl_M_62 rfl fy_M fk_M fn_M rfl rfl rfl (Nat.le_of_ble_eq_true rfl) rfl dc_M_note_60 ?_
    refine zM_kc hM (fun g2 hM => ?_)
    refine zj_aload_n C dc_M_note_63 rfl 0 rfl ?_
    refine zj_get (k := 0) C (by omega) hM.1.1 rfl (by decide) fw_M fl_M_62 rfl rfl dc_M_note_64 ?_
    refine zj_if_le C dc_M_note_67 rfl (fun h => absurd h (by decide)) (fun _ => ?_)
    refine zj_iconst (v := 0) C dc_M_note_70 (by decide) ?_
    exact zj_iret C dc_M_note_71 (Or.inr (Or.inl ⟨hnt, hM⟩))
set_option maxHeartbeats 4000000 in
set_option maxRecDepth 100000 in
theorem ct_M_show (l : Launch) (hst : l.stackTraces = false) (z : zv_T) (ad : Nat → Nat) (N : Nat) (g : Nat → va_E) (c as fo kp : Int32) (a : Nat → Nat → Int32) (hN : 126 ≤ N) (hM0 : zs_M z ad g c as fo kp a) (th sh : Nat → Bool) (Cn Rn : Nat → Nat) (hA : zm_A a th sh Cn Rn) (id : Int32) (on : Bool) : zm_v l mn_M_show ws_M_show rm_M_show z ad N g [.ref (ad 108), .int id, .int (zb_i on)] (fun g1 => (∃ t, zm_is th id t ∧ ¬ sh t = on ∧ 2 ≤ Cn t ∧ zm_M z ad g g1 0 as fo kp (va_up a 1 (upd (a 1) t (zb_i on)))) ∨ ((∀ t, ¬ zm_is th id t) ∧ zm_M z ad g g1 1 as fo kp a) ∨ ((∃ t, zm_is th id t ∧ (sh t = on ∨ Cn t < 2)) ∧ zm_M z ad g g1 2 as fo kp a)) := by
  have hM : zm_M z ad g g c as fo kp a := ⟨hM0, fun _ _ => rfl⟩
  refine zm_ofv hst pn_M_show rfl (Nat.le_of_ble_eq_true rfl) (fun X hX C => ?_)
  subst hX
  show zj_J X 0 0 _ ad N g 0 [(0, .ref (ad 108)), (1, .int id), (2, .int (zb_i on))] []
  refine zj_aload_n C dc_M_show_0 rfl 0 rfl ?_
  refine zj_aload_n C dc_M_show_1 rfl 0 rfl ?_
  refine zj_iload_n C dc_M_show_2 rfl 1 rfl ?_
  refine zj_Vi C (ct_M_noTune _ hst z ad N _ _ _ _ _ _ hN hM.1 th sh Cn Rn hA _) gv_M_74 rfl rfl rfl hd_M_noTune ⟨(Nat.le_of_ble_eq_true rfl), (Nat.le_of_ble_eq_true rfl)⟩ (by omega) hM.1.1 rfl rfl rfl (Nat.le_of_ble_eq_true rfl) ⟨(Nat.le_of_ble_eq_true rfl), (Nat.le_of_ble_eq_true rfl)⟩ dc_M_show_3 (fun r1 g9 h1 => ?_)
  obtain ⟨⟨b9, rfl, hb9⟩, hg9⟩ := h1
  rw [hg9]
  refine zj_if_eq C dc_M_show_6 rfl (fun n1 => ?_) (fun n1 => ?_)
  · obtain ⟨t, ht, hid, hth⟩ := zm_ntf (zb_i0 n1) hb9
    subst hid
    obtain ⟨hA0, hA1, hA2, hA3, hA4, hA5, hA6⟩ := hA t ht
    have hA6 := hA6 hth
    refine zj_aload_n C dc_M_show_13 rfl 0 rfl ?_
    refine zj_get (k := 2) C (by omega) hM.1.1 rfl (by decide) fw_M fl_M_13 rfl rfl dc_M_show_14 ?_
    refine zj_iload_n C dc_M_show_17 rfl 1 rfl ?_
    refine zj_zald C (by omega) hM.1.2.2.1 rfl ht (by decide) dc_M_show_18 ?_
    refine zj_topi (hA1) ?_
    refine zj_iload_n C dc_M_show_19 rfl 2 rfl ?_
    refine zj_icmp_eq C dc_M_show_20 rfl (fun a1 => ?_) (fun a1 => ?_)
    · have a1 := zb_inj.mp a1
      refine zj_iconst (v := 2) C dc_M_show_33 (by decide) ?_
      refine zj_goto C dc_M_show_34 rfl ?_
      refine zj_put (k := 0) C (by omega) hM.1.1 rfl (by decide) fw_M fl_M_62 rfl fy_M fk_M fn_M rfl rfl rfl (Nat.le_of_ble_eq_true rfl) rfl dc_M_show_38 ?_
      refine zM_kc hM (fun g2 hM => ?_)
      refine zj_aload_n C dc_M_show_41 rfl 0 rfl ?_
      refine zj_get (k := 0) C (by omega) hM.1.1 rfl (by decide) fw_M fl_M_62 rfl rfl dc_M_show_42 ?_
      refine zj_if_ne C dc_M_show_45 rfl (fun _ => ?_) (fun h => absurd h (by decide))
      exact zj_vret C dc_M_show_55 (Or.inr (Or.inr ⟨⟨t, ⟨ht, rfl, hth⟩, Or.inl a1⟩, hM⟩))
    · have a1 := fun e => a1 (zb_inj.mpr e)
      refine zj_aload_n C dc_M_show_23 rfl 0 rfl ?_
      refine zj_get (k := 3) C (by omega) hM.1.1 rfl (by decide) fw_M fl_M_16 rfl rfl dc_M_show_24 ?_
      refine zj_iload_n C dc_M_show_27 rfl 1 rfl ?_
      refine zj_iald C (by omega) hM.1.2.2.2.1 rfl ht (by decide) dc_M_show_28 ?_
      refine zj_topi (hA2) ?_
      refine zj_iconst (v := 2) C dc_M_show_29 (by decide) ?_
      refine zj_icmp_ge C dc_M_show_30 rfl (fun a2 => ?_) (fun a2 => ?_)
      · have a2 := (nI_leI (a := 2) (by omega) (by omega)).mp a2
        refine zj_iconst (v := 0) C dc_M_show_37 (by decide) ?_
        refine zj_put (k := 0) C (by omega) hM.1.1 rfl (by decide) fw_M fl_M_62 rfl fy_M fk_M fn_M rfl rfl rfl (Nat.le_of_ble_eq_true rfl) rfl dc_M_show_38 ?_
        refine zM_kc hM (fun g2 hM => ?_)
        refine zj_aload_n C dc_M_show_41 rfl 0 rfl ?_
        refine zj_get (k := 0) C (by omega) hM.1.1 rfl (by decide) fw_M fl_M_62 rfl rfl dc_M_show_42 ?_
        refine zj_if_ne C dc_M_show_45 rfl (fun h => absurd h (by decide)) (fun _ => ?_)
        refine zj_aload_n C dc_M_show_48 rfl 0 rfl ?_
        refine zj_get (k := 2) C (by omega) hM.1.1 rfl (by decide) fw_M fl_M_13 rfl rfl dc_M_show_49 ?_
        refine zj_iload_n C dc_M_show_52 rfl 1 rfl ?_
        refine zj_iload_n C dc_M_show_53 rfl 2 rfl ?_
        refine zj_zast C (by omega) hM.1.2.2.1 rfl ht (by decide) dc_M_show_54 ?_
        refine zM_k1 hM (fun g2 hM => ?_)
        rw [zm_nb] at hM
        exact zj_vret C dc_M_show_55 (Or.inl ⟨t, ⟨ht, rfl, hth⟩, a1, a2, hM⟩)
      · have a2 := (zn_nle (a := 2) (by omega) (by omega)).mp a2
        refine zj_iconst (v := 2) C dc_M_show_33 (by decide) ?_
        refine zj_goto C dc_M_show_34 rfl ?_
        refine zj_put (k := 0) C (by omega) hM.1.1 rfl (by decide) fw_M fl_M_62 rfl fy_M fk_M fn_M rfl rfl rfl (Nat.le_of_ble_eq_true rfl) rfl dc_M_show_38 ?_
        refine zM_kc hM (fun g2 hM => ?_)
        refine zj_aload_n C dc_M_show_41 rfl 0 rfl ?_
        refine zj_get (k := 0) C (by omega) hM.1.1 rfl (by decide) fw_M fl_M_62 rfl rfl dc_M_show_42 ?_
        refine zj_if_ne C dc_M_show_45 rfl (fun _ => ?_) (fun h => absurd h (by decide))
        exact zj_vret C dc_M_show_55 (Or.inr (Or.inr ⟨⟨t, ⟨ht, rfl, hth⟩, Or.inr a2⟩, hM⟩))
  · have hnt := zm_ntt (zb_i1 n1) hb9
    refine zj_iconst (v := 1) C dc_M_show_9 (by decide) ?_
    refine zj_goto C dc_M_show_10 rfl ?_
    refine zj_put (k := 0) C (by omega) hM.1.1 rfl (by decide) fw_M fl_M_62 rfl fy_M fk_M fn_M rfl rfl rfl (Nat.le_of_ble_eq_true rfl) rfl dc_M_show_38 ?_
    refine zM_kc hM (fun g2 hM => ?_)
    refine zj_aload_n C dc_M_show_41 rfl 0 rfl ?_
    refine zj_get (k := 0) C (by omega) hM.1.1 rfl (by decide) fw_M fl_M_62 rfl rfl dc_M_show_42 ?_
    refine zj_if_ne C dc_M_show_45 rfl (fun _ => ?_) (fun h => absurd h (by decide))
    exact zj_vret C dc_M_show_55 (Or.inr (Or.inl ⟨hnt, hM⟩))
set_option maxHeartbeats 4000000 in
set_option maxRecDepth 100000 in
theorem ct_M_restore (l : Launch) (hst : l.stackTraces = false) (z : zv_T) (ad : Nat → Nat) (N : Nat) (g : Nat → va_E) (c as fo kp : Int32) (a : Nat → Nat → Int32) (hN : 126 ≤ N) (hM0 : zs_M z ad g c as fo kp a) (th sh : Nat → Bool) (Cn Rn : Nat → Nat) (hA : zm_A a th sh Cn Rn) (id rd : Int32) : zm_v l mn_M_restore ws_M_restore rm_M_restore z ad N g [.ref (ad 108), .int id, .int rd] (fun g1 => (∃ t r, zm_is th id t ∧ r < Rn t ∧ rd = nI r ∧ zm_M z ad g g1 0 as fo kp (va_up a 3 (upd (a 3) t (nI (r + 1))))) ∨ (((∀ t, ¬ zm_is th id t) ∨ ∃ t, zm_is th id t ∧ ∀ r, r < Rn t → ¬ rd = nI r) ∧ zm_M z ad g g1 1 as fo kp a)) := by
  have hM : zm_M z ad g g c as fo kp a := ⟨hM0, fun _ _ => rfl⟩
  refine zm_ofv hst pn_M_restore rfl (Nat.le_of_ble_eq_true rfl) (fun X hX C => ?_)
  subst hX
  show zj_J X 0 0 _ ad N g 0 [(0, .ref (ad 108)), (1, .int id), (2, .int rd)] []
  refine zj_aload_n C dc_M_restore_0 rfl 0 rfl ?_
  refine zj_aload_n C dc_M_restore_1 rfl 0 rfl ?_
  refine zj_iload_n C dc_M_restore_2 rfl 1 rfl ?_
  refine zj_Vi C (ct_M_noTune _ hst z ad N _ _ _ _ _ _ hN hM.1 th sh Cn Rn hA _) gv_M_74 rfl rfl rfl hd_M_noTune ⟨(Nat.le_of_ble_eq_true rfl), (Nat.le_of_ble_eq_true rfl)⟩ (by omega) hM.1.1 rfl rfl rfl (Nat.le_of_ble_eq_true rfl) ⟨(Nat.le_of_ble_eq_true rfl), (Nat.le_of_ble_eq_true rfl)⟩ dc_M_restore_3 (fun r1 g9 h1 => ?_)
  obtain ⟨⟨b9, rfl, hb9⟩, hg9⟩ := h1
  rw [hg9]
  refine zj_if_eq C dc_M_restore_6 rfl (fun n1 => ?_) (fun n1 => ?_)
  · obtain ⟨t, ht, hid, hth⟩ := zm_ntf (zb_i0 n1) hb9
    subst hid
    obtain ⟨hA0, hA1, hA2, hA3, hA4, hA5, hA6⟩ := hA t ht
    have hA6 := hA6 hth
    refine zj_iload_n C dc_M_restore_13 rfl 2 rfl ?_
    refine zj_if_lt C dc_M_restore_14 rfl (fun a1 => ?_) (fun a1 => ?_)
    · skip
      refine zj_iconst (v := 1) C dc_M_restore_27 (by decide) ?_
      refine zj_goto C dc_M_restore_28 rfl ?_
      refine zj_put (k := 0) C (by omega) hM.1.1 rfl (by decide) fw_M fl_M_62 rfl fy_M fk_M fn_M rfl rfl rfl (Nat.le_of_ble_eq_true rfl) rfl dc_M_restore_32 ?_
      refine zM_kc hM (fun g2 hM => ?_)
      refine zj_aload_n C dc_M_restore_35 rfl 0 rfl ?_
      refine zj_get (k := 0) C (by omega) hM.1.1 rfl (by decide) fw_M fl_M_62 rfl rfl dc_M_restore_36 ?_
      refine zj_if_ne C dc_M_restore_39 rfl (fun _ => ?_) (fun h => absurd h (by decide))
      exact zj_vret C dc_M_restore_51 (Or.inr ⟨Or.inr ⟨t, ⟨ht, rfl, hth⟩, fun r hr e => by subst e; exact nI_pos (by omega) a1⟩, hM⟩)
    · obtain ⟨r, hr9, rfl⟩ := nI_of a1
      refine zj_iload_n C dc_M_restore_17 rfl 2 rfl ?_
      refine zj_aload_n C dc_M_restore_18 rfl 0 rfl ?_
      refine zj_get (k := 4) C (by omega) hM.1.1 rfl (by decide) fw_M fl_M_20 rfl rfl dc_M_restore_19 ?_
      refine zj_iload_n C dc_M_restore_22 rfl 1 rfl ?_
      refine zj_iald C (by omega) hM.1.2.2.2.2.1 rfl ht (by decide) dc_M_restore_23 ?_
      refine zj_topi (hA3) ?_
      refine zj_icmp_lt C dc_M_restore_24 rfl (fun a2 => ?_) (fun a2 => ?_)
      · have a2 := (nI_ltI (by omega) (by omega)).mp a2
        refine zj_iconst (v := 0) C dc_M_restore_31 (by decide) ?_
        refine zj_put (k := 0) C (by omega) hM.1.1 rfl (by decide) fw_M fl_M_62 rfl fy_M fk_M fn_M rfl rfl rfl (Nat.le_of_ble_eq_true rfl) rfl dc_M_restore_32 ?_
        refine zM_kc hM (fun g2 hM => ?_)
        refine zj_aload_n C dc_M_restore_35 rfl 0 rfl ?_
        refine zj_get (k := 0) C (by omega) hM.1.1 rfl (by decide) fw_M fl_M_62 rfl rfl dc_M_restore_36 ?_
        refine zj_if_ne C dc_M_restore_39 rfl (fun h => absurd h (by decide)) (fun _ => ?_)
        refine zj_aload_n C dc_M_restore_42 rfl 0 rfl ?_
        refine zj_get (k := 4) C (by omega) hM.1.1 rfl (by decide) fw_M fl_M_20 rfl rfl dc_M_restore_43 ?_
        refine zj_iload_n C dc_M_restore_46 rfl 1 rfl ?_
        refine zj_iload_n C dc_M_restore_47 rfl 2 rfl ?_
        refine zj_iconst (v := 1) C dc_M_restore_48 (by decide) ?_
        refine zj_iadd C dc_M_restore_49 ?_
        refine zj_topi (nI_1 _) ?_
        refine zj_iast C (by omega) hM.1.2.2.2.2.1 rfl ht (by decide) dc_M_restore_50 ?_
        refine zM_k3 hM (fun g2 hM => ?_)
        exact zj_vret C dc_M_restore_51 (Or.inl ⟨t, r, ⟨ht, rfl, hth⟩, a2, rfl, hM⟩)
      · have a2 := (zn_nlt (by omega) (by omega)).mp a2
        refine zj_iconst (v := 1) C dc_M_restore_27 (by decide) ?_
        refine zj_goto C dc_M_restore_28 rfl ?_
        refine zj_put (k := 0) C (by omega) hM.1.1 rfl (by decide) fw_M fl_M_62 rfl fy_M fk_M fn_M rfl rfl rfl (Nat.le_of_ble_eq_true rfl) rfl dc_M_restore_32 ?_
        refine zM_kc hM (fun g2 hM => ?_)
        refine zj_aload_n C dc_M_restore_35 rfl 0 rfl ?_
        refine zj_get (k := 0) C (by omega) hM.1.1 rfl (by decide) fw_M fl_M_62 rfl rfl dc_M_restore_36 ?_
        refine zj_if_ne C dc_M_restore_39 rfl (fun _ => ?_) (fun h => absurd h (by decide))
        exact zj_vret C dc_M_restore_51 (Or.inr ⟨Or.inr ⟨t, ⟨ht, rfl, hth⟩, fun q hq e => by have := (nI_eq (by omega) (by omega)).mp e; omega⟩, hM⟩)
  · have hnt := zm_ntt (zb_i1 n1) hb9
    refine zj_iconst (v := 1) C dc_M_restore_9 (by decide) ?_
    refine zj_goto C dc_M_restore_10 rfl ?_
    refine zj_put (k := 0) C (by omega) hM.1.1 rfl (by decide) fw_M fl_M_62 rfl fy_M fk_M fn_M rfl rfl rfl (Nat.le_of_ble_eq_true rfl) rfl dc_M_restore_32 ?_
    refine zM_kc hM (fun g2 hM => ?_)
    refine zj_aload_n C dc_M_restore_35 rfl 0 rfl ?_
    refine zj_get (k := 0) C (by omega) hM.1.1 rfl (by decide) fw_M fl_M_62 rfl rfl dc_M_restore_36 ?_
    refine zj_if_ne C dc_M_restore_39 rfl (fun _ => ?_) (fun h => absurd h (by decide))
    exact zj_vret C dc_M_restore_51 (Or.inr ⟨Or.inl hnt, hM⟩)
set_option maxHeartbeats 4000000 in
set_option maxRecDepth 100000 in
theorem ct_M_about (l : Launch) (hst : l.stackTraces = false) (z : zv_T) (ad : Nat → Nat) (N : Nat) (g : Nat → va_E) (c as fo kp : Int32) (a : Nat → Nat → Int32) (hN : 126 ≤ N) (hM0 : zs_M z ad g c as fo kp a) (th sh : Nat → Bool) (Cn Rn : Nat → Nat) (hA : zm_A a th sh Cn Rn) (id w : Int32) : zm_i l mn_M_about ws_M_about rm_M_about z ad N g [.ref (ad 108), .int id, .int w] (fun r g1 => ((∃ t, zm_is th id t ∧ ((w = nI 0 ∧ r = nI (Cn t)) ∨ (w = nI 1 ∧ r = zb_i (sh t)) ∨ (w = nI 2 ∧ r = nI (Rn t)))) ∧ zm_M z ad g g1 0 as fo kp a) ∨ ((∀ t, ¬ zm_is th id t) ∧ zm_M z ad g g1 1 as fo kp a) ∨ ((∃ t, zm_is th id t) ∧ (∀ k, k < 3 → ¬ w = nI k) ∧ zm_M z ad g g1 2 as fo kp a)) := by
  have hM : zm_M z ad g g c as fo kp a := ⟨hM0, fun _ _ => rfl⟩
  refine zm_ofi hst pn_M_about rfl (Nat.le_of_ble_eq_true rfl) (fun X hX C => ?_)
  subst hX
  show zj_J X 0 0 _ ad N g 0 [(0, .ref (ad 108)), (1, .int id), (2, .int w)] []
  refine zj_aload_n C dc_M_about_0 rfl 0 rfl ?_
  refine zj_aload_n C dc_M_about_1 rfl 0 rfl ?_
  refine zj_iload_n C dc_M_about_2 rfl 1 rfl ?_
  refine zj_Vi C (ct_M_noTune _ hst z ad N _ _ _ _ _ _ hN hM.1 th sh Cn Rn hA _) gv_M_74 rfl rfl rfl hd_M_noTune ⟨(Nat.le_of_ble_eq_true rfl), (Nat.le_of_ble_eq_true rfl)⟩ (by omega) hM.1.1 rfl rfl rfl (Nat.le_of_ble_eq_true rfl) ⟨(Nat.le_of_ble_eq_true rfl), (Nat.le_of_ble_eq_true rfl)⟩ dc_M_about_3 (fun r1 g9 h1 => ?_)
  obtain ⟨⟨b9, rfl, hb9⟩, hg9⟩ := h1
  rw [hg9]
  refine zj_if_eq C dc_M_about_6 rfl (fun n1 => ?_) (fun n1 => ?_)
  · obtain ⟨t, ht, hid, hth⟩ := zm_ntf (zb_i0 n1) hb9
    subst hid
    obtain ⟨hA0, hA1, hA2, hA3, hA4, hA5, hA6⟩ := hA t ht
    have hA6 := hA6 hth
    refine zj_iload_n C dc_M_about_13 rfl 2 rfl ?_
    refine zj_if_lt C dc_M_about_14 rfl (fun b1 => ?_) (fun b1 => ?_)
    · skip
      refine zj_iconst (v := 2) C dc_M_about_22 (by decide) ?_
      refine zj_goto C dc_M_about_23 rfl ?_
      refine zj_put (k := 0) C (by omega) hM.1.1 rfl (by decide) fw_M fl_M_62 rfl fy_M fk_M fn_M rfl rfl rfl (Nat.le_of_ble_eq_true rfl) rfl dc_M_about_27 ?_
      refine zM_kc hM (fun g2 hM => ?_)
      refine zj_aload_n C dc_M_about_30 rfl 0 rfl ?_
      refine zj_get (k := 0) C (by omega) hM.1.1 rfl (by decide) fw_M fl_M_62 rfl rfl dc_M_about_31 ?_
      refine zj_if_le C dc_M_about_34 rfl (fun h => absurd h (by decide)) (fun _ => ?_)
      refine zj_iconst (v := 0) C dc_M_about_37 (by decide) ?_
      exact zj_iret C dc_M_about_38 (Or.inr (Or.inr ⟨⟨t, ht, rfl, hth⟩, fun k hk e => by subst e; exact nI_pos (by omega) b1, hM⟩))
    · skip
      refine zj_iload_n C dc_M_about_17 rfl 2 rfl ?_
      refine zj_iconst (v := 2) C dc_M_about_18 (by decide) ?_
      refine zj_icmp_le C dc_M_about_19 rfl (fun b2 => ?_) (fun b2 => ?_)
      · skip
        refine zj_iconst (v := 0) C dc_M_about_26 (by decide) ?_
        refine zj_put (k := 0) C (by omega) hM.1.1 rfl (by decide) fw_M fl_M_62 rfl fy_M fk_M fn_M rfl rfl rfl (Nat.le_of_ble_eq_true rfl) rfl dc_M_about_27 ?_
        refine zM_kc hM (fun g2 hM => ?_)
        refine zj_aload_n C dc_M_about_30 rfl 0 rfl ?_
        refine zj_get (k := 0) C (by omega) hM.1.1 rfl (by decide) fw_M fl_M_62 rfl rfl dc_M_about_31 ?_
        refine zj_if_le C dc_M_about_34 rfl (fun _ => ?_) (fun h => absurd h (by decide))
        have hw4 : w = nI 0 ∨ w = nI 1 ∨ w = nI 2 := zp_w3 b1 b2
        rcases hw4 with rfl | rfl | rfl
        · skip
          refine zj_iload_n C dc_M_about_39 rfl 2 rfl ?_
          refine zj_if_ne C dc_M_about_40 rfl (fun h => absurd h (by decide)) (fun _ => ?_)
          refine zj_aload_n C dc_M_about_43 rfl 0 rfl ?_
          refine zj_get (k := 3) C (by omega) hM.1.1 rfl (by decide) fw_M fl_M_16 rfl rfl dc_M_about_44 ?_
          refine zj_iload_n C dc_M_about_47 rfl 1 rfl ?_
          refine zj_iald C (by omega) hM.1.2.2.2.1 rfl ht (by decide) dc_M_about_48 ?_
          refine zj_topi (hA2) ?_
          refine zj_goto C dc_M_about_49 rfl ?_
          exact zj_iret C dc_M_about_80 (Or.inl ⟨⟨t, ⟨ht, rfl, hth⟩, Or.inl ⟨rfl, rfl⟩⟩, hM⟩)
        · skip
          refine zj_iload_n C dc_M_about_39 rfl 2 rfl ?_
          refine zj_if_ne C dc_M_about_40 rfl (fun _ => ?_) (fun h => absurd h (by decide))
          refine zj_iload_n C dc_M_about_52 rfl 2 rfl ?_
          refine zj_iconst (v := 1) C dc_M_about_53 (by decide) ?_
          refine zj_icmp_ne C dc_M_about_54 rfl (fun h => absurd h (by decide)) (fun _ => ?_)
          refine zj_aload_n C dc_M_about_57 rfl 0 rfl ?_
          refine zj_get (k := 2) C (by omega) hM.1.1 rfl (by decide) fw_M fl_M_13 rfl rfl dc_M_about_58 ?_
          refine zj_iload_n C dc_M_about_61 rfl 1 rfl ?_
          refine zj_zald C (by omega) hM.1.2.2.1 rfl ht (by decide) dc_M_about_62 ?_
          refine zj_topi (hA1) ?_
          refine zj_if_eq C dc_M_about_63 rfl (fun a3 => ?_) (fun a3 => ?_)
          · have a3 := zb_i0 a3
            refine zj_iconst (v := 0) C dc_M_about_70 (by decide) ?_
            refine zj_goto C dc_M_about_71 rfl ?_
            exact zj_iret C dc_M_about_80 (Or.inl ⟨⟨t, ⟨ht, rfl, hth⟩, Or.inr (Or.inl ⟨rfl, by rw [a3]; rfl⟩)⟩, hM⟩)
          · have a3 := zb_i1 a3
            refine zj_iconst (v := 1) C dc_M_about_66 (by decide) ?_
            refine zj_goto C dc_M_about_67 rfl ?_
            exact zj_iret C dc_M_about_80 (Or.inl ⟨⟨t, ⟨ht, rfl, hth⟩, Or.inr (Or.inl ⟨rfl, by rw [a3]; rfl⟩)⟩, hM⟩)
        · skip
          refine zj_iload_n C dc_M_about_39 rfl 2 rfl ?_
          refine zj_if_ne C dc_M_about_40 rfl (fun _ => ?_) (fun h => absurd h (by decide))
          refine zj_iload_n C dc_M_about_52 rfl 2 rfl ?_
          refine zj_iconst (v := 1) C dc_M_about_53 (by decide) ?_
          refine zj_icmp_ne C dc_M_about_54 rfl (fun _ => ?_) (fun h => absurd h (by decide))
          refine zj_aload_n C dc_M_about_74 rfl 0 rfl ?_
          refine zj_get (k := 4) C (by omega) hM.1.1 rfl (by decide) fw_M fl_M_20 rfl rfl dc_M_about_75 ?_
          refine zj_iload_n C dc_M_about_78 rfl 1 rfl ?_
          refine zj_iald C (by omega) hM.1.2.2.2.2.1 rfl ht (by decide) dc_M_about_79 ?_
          refine zj_topi (hA3) ?_
          exact zj_iret C dc_M_about_80 (Or.inl ⟨⟨t, ⟨ht, rfl, hth⟩, Or.inr (Or.inr ⟨rfl, rfl⟩)⟩, hM⟩)
      · skip
        refine zj_iconst (v := 2) C dc_M_about_22 (by decide) ?_
        refine zj_goto C dc_M_about_23 rfl ?_
        refine zj_put (k := 0) C (by omega) hM.1.1 rfl (by decide) fw_M fl_M_62 rfl fy_M fk_M fn_M rfl rfl rfl (Nat.le_of_ble_eq_true rfl) rfl dc_M_about_27 ?_
        refine zM_kc hM (fun g2 hM => ?_)
        refine zj_aload_n C dc_M_about_30 rfl 0 rfl ?_
        refine zj_get (k := 0) C (by omega) hM.1.1 rfl (by decide) fw_M fl_M_62 rfl rfl dc_M_about_31 ?_
        refine zj_if_le C dc_M_about_34 rfl (fun h => absurd h (by decide)) (fun _ => ?_)
        refine zj_iconst (v := 0) C dc_M_about_37 (by decide) ?_
        exact zj_iret C dc_M_about_38 (Or.inr (Or.inr ⟨⟨t, ht, rfl, hth⟩, fun k hk e => by subst e; exact b2 ((nI_leI (b := 2) (by omega) (by omega)).mpr (by omega)), hM⟩))
  · have hnt := zm_ntt (zb_i1 n1) hb9
    refine zj_iconst (v := 1) C dc_M_about_9 (by decide) ?_
    refine zj_goto C dc_M_about_10 rfl ?_
    refine zj_put (k := 0) C (by omega) hM.1.1 rfl (by decide) fw_M fl_M_62 rfl fy_M fk_M fn_M rfl rfl rfl (Nat.le_of_ble_eq_true rfl) rfl dc_M_about_27 ?_
    refine zM_kc hM (fun g2 hM => ?_)
    refine zj_aload_n C dc_M_about_30 rfl 0 rfl ?_
    refine zj_get (k := 0) C (by omega) hM.1.1 rfl (by decide) fw_M fl_M_62 rfl rfl dc_M_about_31 ?_
    refine zj_if_le C dc_M_about_34 rfl (fun h => absurd h (by decide)) (fun _ => ?_)
    refine zj_iconst (v := 0) C dc_M_about_37 (by decide) ?_
    exact zj_iret C dc_M_about_38 (Or.inr (Or.inl ⟨hnt, hM⟩))
end ZMP
