section ZN
/-- a row of notes at the cells i, i + 1, i + 2 -/
def zs_N (z : zv_T) (ad : Nat → Nat) (g : Nat → va_E) (i most c : Nat) (p q : Nat → Int32) : Prop := g i = ze_o 2 [.ref (ad (i + 1)), .ref (ad (i + 2)), .int (nI c)] ∧ g (i + 1) = ze_i z most p ∧ g (i + 2) = ze_i z most q
theorem zn_inc (k : Nat) : nI k + Int32.ofInt 1 = nI (k + 1) := (nI_succ k).symm
/-- the places of a pitch, a bit each -/
def zp_bits (p : Nat → Int32) (x : Int32) : Nat → Int32
  | 0 => 0
  | k + 1 => if p k = x then zp_bits p x k ||| ((1 : Int32) <<< (nI k &&& 31)) else zp_bits p x k
set_option maxHeartbeats 4000000 in
set_option maxRecDepth 100000 in
theorem ct_N_clear (l : Launch) (hst : l.stackTraces = false) (z : zv_T) (ad : Nat → Nat) (N : Nat) (g : Nat → va_E) (i most c : Nat) (p q : Nat → Int32) (hN : i + 2 < N) (hs : zs_N z ad g i most c p q) (hm : most < 2 ^ 31) : zm_v l mn_N_clear ws_N_clear rm_N_clear z ad N g [.ref (ad i)] (fun g1 => g1 = va_up g i (ze_o 2 [.ref (ad (i + 1)), .ref (ad (i + 2)), .int 0])) := by
  obtain ⟨hs0, hs1, hs2⟩ := hs
  refine zm_ofv hst pn_N_clear rfl (Nat.le_of_ble_eq_true rfl) (fun X hX C => ?_)
  subst hX
  show zj_J X 0 0 _ ad N g 0 [(0, .ref (ad i))] []
  refine zj_aload_n C dc_N_clear_0 rfl 0 rfl ?_
  refine zj_iconst (v := 0) C dc_N_clear_1 (by decide) ?_
  refine zj_put (k := 2) C (by omega) hs0 rfl (by decide) fw_N fl_N_16 rfl fy_N fk_N fn_N rfl rfl rfl (Nat.le_of_ble_eq_true rfl) rfl dc_N_clear_2 ?_
  exact zj_vret C dc_N_clear_5 rfl
set_option maxHeartbeats 4000000 in
set_option maxRecDepth 100000 in
theorem ct_N_put (l : Launch) (hst : l.stackTraces = false) (z : zv_T) (ad : Nat → Nat) (N : Nat) (g : Nat → va_E) (i most c : Nat) (p q : Nat → Int32) (hN : i + 2 < N) (hs : zs_N z ad g i most c p q) (hm : most < 2 ^ 31) (k : Nat) (x y : Int32) (hk : k < most) : zm_v l mn_N_put ws_N_put rm_N_put z ad N g [.ref (ad i), .int (nI k), .int x, .int y] (fun g1 => g1 = va_up (va_up g (i + 1) (ze_i z most (upd p k x))) (i + 2) (ze_i z most (upd q k y))) := by
  obtain ⟨hs0, hs1, hs2⟩ := hs
  refine zm_ofv hst pn_N_put rfl (Nat.le_of_ble_eq_true rfl) (fun X hX C => ?_)
  subst hX
  show zj_J X 0 0 _ ad N g 0 [(0, .ref (ad i)), (1, .int (nI k)), (2, .int x), (3, .int y)] []
  refine zj_aload_n C dc_N_put_0 rfl 0 rfl ?_
  refine zj_get (k := 0) C (by omega) hs0 rfl (by decide) fw_N fl_N_7 rfl rfl dc_N_put_1 ?_
  refine zj_iload_n C dc_N_put_4 rfl 1 rfl ?_
  refine zj_iload_n C dc_N_put_5 rfl 2 rfl ?_
  refine zj_iast C (by omega) hs1 rfl hk hm dc_N_put_6 ?_
  refine zj_aload_n C dc_N_put_7 rfl 0 rfl ?_
  refine zj_get (k := 1) C (by omega) (by rw [va_up_ne _ _ (by omega)]; exact hs0) rfl (by decide) fw_N fl_N_13 rfl rfl dc_N_put_8 ?_
  refine zj_iload_n C dc_N_put_11 rfl 1 rfl ?_
  refine zj_iload_n C dc_N_put_12 rfl 3 rfl ?_
  refine zj_iast C (by omega) (by rw [va_up_ne _ _ (by omega)]; exact hs2) rfl hk hm dc_N_put_13 ?_
  exact zj_vret C dc_N_put_14 rfl
set_option maxHeartbeats 4000000 in
set_option maxRecDepth 100000 in
theorem ct_N_steps (l : Launch) (hst : l.stackTraces = false) (z : zv_T) (ad : Nat → Nat) (N : Nat) (g : Nat → va_E) (i most c : Nat) (p q : Nat → Int32) (hN : i + 2 < N) (hs : zs_N z ad g i most c p q) (hm : most < 2 ^ 31) (hc : c < 2 ^ 31) : zm_i l mn_N_steps ws_N_steps rm_N_steps z ad N g [.ref (ad i)] (fun r g1 => r = nI (c - 1) ∧ g1 = g) := by
  obtain ⟨hs0, hs1, hs2⟩ := hs
  refine zm_ofi hst pn_N_steps rfl (Nat.le_of_ble_eq_true rfl) (fun X hX C => ?_)
  subst hX
  show zj_J X 0 0 _ ad N g 0 [(0, .ref (ad i))] []
  refine zj_aload_n C dc_N_steps_0 rfl 0 rfl ?_
  refine zj_get (k := 2) C (by omega) hs0 rfl (by decide) fw_N fl_N_16 rfl rfl dc_N_steps_1 ?_
  refine zj_iconst (v := 1) C dc_N_steps_4 (by decide) ?_
  refine zj_isub C dc_N_steps_5 ?_
  refine zj_iconst (v := 0) C dc_N_steps_6 (by decide) ?_
  refine zj_mmax C ml_N_24 sm_Math_max ini_Math wk_Math_max ⟨(Nat.le_of_ble_eq_true rfl), (Nat.le_of_ble_eq_true rfl)⟩ ⟨(Nat.le_of_ble_eq_true rfl), (Nat.le_of_ble_eq_true rfl)⟩ dc_N_steps_7 ?_
  exact zj_iret C dc_N_steps_10 ⟨zn_max1 hc, rfl⟩
set_option maxHeartbeats 4000000 in
set_option maxRecDepth 100000 in
theorem ct_N_stepBehind (l : Launch) (hst : l.stackTraces = false) (z : zv_T) (ad : Nat → Nat) (N : Nat) (g : Nat → va_E) (i most c : Nat) (p q : Nat → Int32) (hN : i + 2 < N) (hs : zs_N z ad g i most c p q) (hm : most < 2 ^ 31) (k : Nat) (hk : k + 1 < most) : zm_i l mn_N_stepBehind ws_N_stepBehind rm_N_stepBehind z ad N g [.ref (ad i), .int (nI k)] (fun r g1 => r = p (k + 1) - p k ∧ g1 = g) := by
  obtain ⟨hs0, hs1, hs2⟩ := hs
  refine zm_ofi hst pn_N_stepBehind rfl (Nat.le_of_ble_eq_true rfl) (fun X hX C => ?_)
  subst hX
  show zj_J X 0 0 _ ad N g 0 [(0, .ref (ad i)), (1, .int (nI k))] []
  refine zj_aload_n C dc_N_stepBehind_0 rfl 0 rfl ?_
  refine zj_get (k := 0) C (by omega) hs0 rfl (by decide) fw_N fl_N_7 rfl rfl dc_N_stepBehind_1 ?_
  refine zj_iload_n C dc_N_stepBehind_4 rfl 1 rfl ?_
  refine zj_iconst (v := 1) C dc_N_stepBehind_5 (by decide) ?_
  refine zj_iadd C dc_N_stepBehind_6 ?_
  refine zj_iald C (by omega) hs1 (nI_1 k) hk hm dc_N_stepBehind_7 ?_
  refine zj_aload_n C dc_N_stepBehind_8 rfl 0 rfl ?_
  refine zj_get (k := 0) C (by omega) hs0 rfl (by decide) fw_N fl_N_7 rfl rfl dc_N_stepBehind_9 ?_
  refine zj_iload_n C dc_N_stepBehind_12 rfl 1 rfl ?_
  refine zj_iald C (by omega) hs1 rfl (by omega) hm dc_N_stepBehind_13 ?_
  refine zj_isub C dc_N_stepBehind_14 ?_
  exact zj_iret C dc_N_stepBehind_15 ⟨rfl, rfl⟩
set_option maxHeartbeats 4000000 in
set_option maxRecDepth 100000 in
theorem ct_N_append (l : Launch) (hst : l.stackTraces = false) (z : zv_T) (ad : Nat → Nat) (N : Nat) (g : Nat → va_E) (i most c : Nat) (p q : Nat → Int32) (hN : i + 2 < N) (hs : zs_N z ad g i most c p q) (hm : most < 2 ^ 31) (x y : Int32) (hc : c < most) : zm_i l mn_N_append ws_N_append rm_N_append z ad N g [.ref (ad i), .int x, .int y] (fun r g1 => r = nI (c + 1) ∧ g1 = va_up (va_up (va_up g (i + 1) (ze_i z most (upd p c x))) (i + 2) (ze_i z most (upd q c y))) i (ze_o 2 [.ref (ad (i + 1)), .ref (ad (i + 2)), .int (nI (c + 1))])) := by
  obtain ⟨hs0, hs1, hs2⟩ := hs
  refine zm_ofi hst pn_N_append rfl (Nat.le_of_ble_eq_true rfl) (fun X hX C => ?_)
  subst hX
  show zj_J X 0 0 _ ad N g 0 [(0, .ref (ad i)), (1, .int x), (2, .int y)] []
  refine zj_aload_n C dc_N_append_0 rfl 0 rfl ?_
  refine zj_aload_n C dc_N_append_1 rfl 0 rfl ?_
  refine zj_get (k := 2) C (by omega) hs0 rfl (by decide) fw_N fl_N_16 rfl rfl dc_N_append_2 ?_
  refine zj_iload_n C dc_N_append_5 rfl 1 rfl ?_
  refine zj_iload_n C dc_N_append_6 rfl 2 rfl ?_
  refine zj_Vv C (ct_N_put _ hst z ad N g i most c p q hN ⟨hs0, hs1, hs2⟩ hm c x y hc) gv_N_20 rfl rfl rfl hd_N_put ⟨(Nat.le_of_ble_eq_true rfl), (Nat.le_of_ble_eq_true rfl)⟩ (by omega) hs0 rfl rfl rfl (Nat.le_of_ble_eq_true rfl) ⟨(Nat.le_of_ble_eq_true rfl), (Nat.le_of_ble_eq_true rfl)⟩ dc_N_append_7 (fun g1 h1 => ?_)
  subst h1
  refine zj_aload_n C dc_N_append_10 rfl 0 rfl ?_
  refine zj_dup C dc_N_append_11 rfl ?_
  refine zj_get (k := 2) C (by omega) (by rw [va_up_ne _ _ (by omega), va_up_ne _ _ (by omega)]; exact hs0) rfl (by decide) fw_N fl_N_16 rfl rfl dc_N_append_12 ?_
  refine zj_iconst (v := 1) C dc_N_append_15 (by decide) ?_
  refine zj_iadd C dc_N_append_16 ?_
  refine zj_topi (nI_1 c) ?_
  refine zj_put (k := 2) C (by omega) (by rw [va_up_ne _ _ (by omega), va_up_ne _ _ (by omega)]; exact hs0) rfl (by decide) fw_N fl_N_16 rfl fy_N fk_N fn_N rfl rfl rfl (Nat.le_of_ble_eq_true rfl) rfl dc_N_append_17 ?_
  skip
  refine zj_aload_n C dc_N_append_20 rfl 0 rfl ?_
  refine zj_get (k := 2) C (by omega) (va_up_self _ _ _) rfl (by decide) fw_N fl_N_16 rfl rfl dc_N_append_21 ?_
  exact zj_iret C dc_N_append_24 ⟨rfl, rfl⟩
set_option maxHeartbeats 4000000 in
set_option maxRecDepth 100000 in
theorem ct_N_placesOfPitch (l : Launch) (hst : l.stackTraces = false) (z : zv_T) (ad : Nat → Nat) (N : Nat) (g : Nat → va_E) (i most c : Nat) (p q : Nat → Int32) (hN : i + 2 < N) (hs : zs_N z ad g i most c p q) (hm : most < 2 ^ 31) (x : Int32) (hc : c ≤ most) : zm_i l mn_N_placesOfPitch ws_N_placesOfPitch rm_N_placesOfPitch z ad N g [.ref (ad i), .int x] (fun r g1 => r = zp_bits p x c ∧ g1 = g) := by
  obtain ⟨hs0, hs1, hs2⟩ := hs
  refine zm_ofi hst pn_N_placesOfPitch rfl (Nat.le_of_ble_eq_true rfl) (fun X hX C => ?_)
  subst hX
  show zj_J X 0 0 _ ad N g 0 [(0, .ref (ad i)), (1, .int x)] []
  have loop : ∀ (n k : Nat), c - k = n → k ≤ c → zj_J X 0 0 (zj_Qi X 0 0 ad N (fun r g1 => r = zp_bits p x c ∧ g1 = g)) ad N g 4 [(3, .int (nI k)), (2, .int (zp_bits p x k)), (0, .ref (ad i)), (1, .int x)] [] := by
    intro n
    induction n with
    | zero =>
      intro k e1 e2
      refine zj_iload_n C dc_N_placesOfPitch_4 rfl 0 rfl ?_
      refine zj_aload_n C dc_N_placesOfPitch_5 rfl 2 rfl ?_
      refine zj_get (k := 2) C (by omega) hs0 rfl (by decide) fw_N fl_N_16 rfl rfl dc_N_placesOfPitch_6 ?_
      refine zj_icmp_ge C dc_N_placesOfPitch_9 rfl (fun _ => ?_) (fun h => absurd h (not_not_intro ((nI_leI (by omega) (by omega)).mpr (by omega))))
      refine zj_iload_n C dc_N_placesOfPitch_34 rfl 1 rfl ?_
      exact zj_iret C dc_N_placesOfPitch_35 ⟨by rw [show k = c by omega], rfl⟩
    | succ n ih =>
      intro k e1 e2
      refine zj_iload_n C dc_N_placesOfPitch_4 rfl 0 rfl ?_
      refine zj_aload_n C dc_N_placesOfPitch_5 rfl 2 rfl ?_
      refine zj_get (k := 2) C (by omega) hs0 rfl (by decide) fw_N fl_N_16 rfl rfl dc_N_placesOfPitch_6 ?_
      refine zj_icmp_ge C dc_N_placesOfPitch_9 rfl (fun h => absurd h ((zn_nle (by omega) (by omega)).mpr (by omega))) (fun _ => ?_)
      refine zj_aload_n C dc_N_placesOfPitch_12 rfl 2 rfl ?_
      refine zj_get (k := 0) C (by omega) hs0 rfl (by decide) fw_N fl_N_7 rfl rfl dc_N_placesOfPitch_13 ?_
      refine zj_iload_n C dc_N_placesOfPitch_16 rfl 0 rfl ?_
      refine zj_iald C (by omega) hs1 rfl (by omega) hm dc_N_placesOfPitch_17 ?_
      refine zj_iload_n C dc_N_placesOfPitch_18 rfl 3 rfl ?_
      refine zj_icmp_ne C dc_N_placesOfPitch_19 rfl (fun h19 => ?_) (fun h19 => ?_)
      · skip
        refine zj_iinc C dc_N_placesOfPitch_28 0 rfl (zn_inc k) (by decide) rfl ?_
        refine zj_goto C dc_N_placesOfPitch_31 rfl ?_
        refine zj_loc (L' := [(3, .int (nI (k + 1))), (2, .int (zp_bits p x (k + 1))), (0, .ref (ad i)), (1, .int x)]) [0, 1, 2, 3] (by show [_, _, _, _] = _; simp [zp_bits, h19]) ?_
        exact ih (k + 1) (by omega) (by omega)
      · skip
        refine zj_iload_n C dc_N_placesOfPitch_22 rfl 1 rfl ?_
        refine zj_iconst (v := 1) C dc_N_placesOfPitch_23 (by decide) ?_
        refine zj_iload_n C dc_N_placesOfPitch_24 rfl 0 rfl ?_
        refine zj_ishl C dc_N_placesOfPitch_25 ?_
        refine zj_ior C dc_N_placesOfPitch_26 ?_
        refine zj_istore_n C dc_N_placesOfPitch_27 rfl (by decide) rfl ?_
        refine zj_iinc C dc_N_placesOfPitch_28 1 rfl (zn_inc k) (by decide) rfl ?_
        refine zj_goto C dc_N_placesOfPitch_31 rfl ?_
        refine zj_loc (L' := [(3, .int (nI (k + 1))), (2, .int (zp_bits p x (k + 1))), (0, .ref (ad i)), (1, .int x)]) [0, 1, 2, 3] (by show [_, _, _, _] = _; simp [zp_bits, h19]) ?_
        exact ih (k + 1) (by omega) (by omega)
  refine zj_iconst (v := 0) C dc_N_placesOfPitch_0 (by decide) ?_
  refine zj_istore_n C dc_N_placesOfPitch_1 rfl (by decide) rfl ?_
  refine zj_iconst (v := 0) C dc_N_placesOfPitch_2 (by decide) ?_
  refine zj_istore_n C dc_N_placesOfPitch_3 rfl (by decide) rfl ?_
  refine zj_loc [0, 1, 2, 3] rfl ?_
  exact loop c 0 (by omega) (by omega)
end ZN
