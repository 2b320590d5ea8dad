section ZU
/-- a tune at the cells b .. b + 7 -/
def zs_U (z : zv_T) (ad : Nat → Nat) (g : Nat → va_E) (b : Nat) (th sh : Int32) (lr c : Nat) (p q pr rp rq : Nat → Int32) : Prop := g b = ze_o 5 [.ref (ad (b + 1)), .ref (ad (b + 4)), .ref (ad (b + 5)), .int th, .int sh, .int (nI lr)] ∧ zs_N z ad g (b + 1) 20 c p q ∧ g (b + 4) = ze_i z 8 pr ∧ zs_N z ad g (b + 5) 8 0 rp rq
/-- the first correction from r on that replaced place x -/
def zp_ra (pr : Nat → Int32) (x : Int32) (r : Nat) : Nat → Option Nat
  | 0 => none
  | n + 1 => if pr r = x then some r else zp_ra pr x (r + 1) n
theorem zp_ra_lt {pr : Nat → Int32} {x : Int32} : ∀ {n r j : Nat}, zp_ra pr x r n = some j → r ≤ j ∧ j < r + n := by
  intro n
  induction n with
  | zero => intro r j h; cases h
  | succ n ih =>
    intro r j h
    unfold zp_ra at h
    split at h
    · cases h; omega
    · have := ih h; omega
def zp_rv (o : Option Nat) : Int32 := match o with
  | none => -1
  | some j => nI j
/-- what a reading holds at a place: what the first later correction there replaced, or what is there now -/
def zp_in (now rep : Nat → Int32) (o : Option Nat) (k : Nat) : Int32 := match o with
  | none => now k
  | some j => rep j
set_option maxHeartbeats 4000000 in
set_option maxRecDepth 100000 in
theorem ct_U_begin (l : Launch) (hst : l.stackTraces = false) (z : zv_T) (ad : Nat → Nat) (N : Nat) (g : Nat → va_E) (b : Nat) (th sh : Int32) (lr c : Nat) (p q pr rp rq : Nat → Int32) (hN : b + 7 < N) (hs : zs_U z ad g b th sh lr c p q pr rp rq) : zm_v l mn_U_begin ws_U_begin rm_U_begin z ad N g [.ref (ad b)] (fun g1 => zs_U z ad g1 b 1 0 0 0 p q pr rp rq ∧ ∀ j, j ≠ b → j ≠ b + 1 → g1 j = g j) := by
  obtain ⟨hs0, ⟨hn0, hn1, hn2⟩, hs4, hr0, hr1, hr2⟩ := hs
  refine zm_ofv hst pn_U_begin rfl (Nat.le_of_ble_eq_true rfl) (fun X hX C => ?_)
  subst hX
  show zj_J X 0 0 _ ad N g 0 [(0, .ref (ad b))] []
  refine zj_aload_n C dc_U_begin_0 rfl 0 rfl ?_
  refine zj_get (k := 0) C (by omega) hs0 rfl (by decide) fw_U fl_U_14 rfl rfl dc_U_begin_1 ?_
  refine zj_Vv C (ct_N_clear _ hst z ad N g (b + 1) 20 c p q (by omega) ⟨hn0, hn1, hn2⟩ (by decide)) gv_U_27 rfl rfl rfl hd_N_clear ⟨(Nat.le_of_ble_eq_true rfl), (Nat.le_of_ble_eq_true rfl)⟩ (by omega) hn0 rfl rfl rfl (Nat.le_of_ble_eq_true rfl) ⟨(Nat.le_of_ble_eq_true rfl), (Nat.le_of_ble_eq_true rfl)⟩ dc_U_begin_4 (fun g1 h1 => ?_)
  subst h1
  refine zj_aload_n C dc_U_begin_7 rfl 0 rfl ?_
  refine zj_iconst (v := 1) C dc_U_begin_8 (by decide) ?_
  refine zj_put (k := 3) C (by omega) (by (repeat rw [va_up_ne _ _ (by omega)]); exact hs0) rfl (by decide) fw_U fl_U_30 rfl fy_U fk_U fn_U rfl rfl rfl (Nat.le_of_ble_eq_true rfl) rfl dc_U_begin_9 ?_
  refine zj_aload_n C dc_U_begin_12 rfl 0 rfl ?_
  refine zj_iconst (v := 0) C dc_U_begin_13 (by decide) ?_
  refine zj_put (k := 4) C (by omega) (by (repeat rw [va_up_ne _ _ (by omega)]); exact (va_up_self _ _ _)) rfl (by decide) fw_U fl_U_34 rfl fy_U fk_U fn_U rfl rfl rfl (Nat.le_of_ble_eq_true rfl) rfl dc_U_begin_14 ?_
  refine zj_aload_n C dc_U_begin_17 rfl 0 rfl ?_
  refine zj_iconst (v := 0) C dc_U_begin_18 (by decide) ?_
  refine zj_put (k := 5) C (by omega) (by (repeat rw [va_up_ne _ _ (by omega)]); exact (va_up_self _ _ _)) rfl (by decide) fw_U fl_U_37 rfl fy_U fk_U fn_U rfl rfl rfl (Nat.le_of_ble_eq_true rfl) rfl dc_U_begin_19 ?_
  exact zj_vret C dc_U_begin_22 ⟨⟨by (repeat rw [va_up_ne _ _ (by omega)]); exact va_up_self _ _ _, ⟨by (repeat rw [va_up_ne _ _ (by omega)]); exact va_up_self _ _ _, by (repeat rw [va_up_ne _ _ (by omega)]); exact hn1, by (repeat rw [va_up_ne _ _ (by omega)]); exact hn2⟩, by (repeat rw [va_up_ne _ _ (by omega)]); exact hs4, by (repeat rw [va_up_ne _ _ (by omega)]); exact hr0, by (repeat rw [va_up_ne _ _ (by omega)]); exact hr1, by (repeat rw [va_up_ne _ _ (by omega)]); exact hr2⟩, fun j h1 h2 => by (repeat rw [va_up_ne _ _ (by omega)])⟩
set_option maxHeartbeats 4000000 in
set_option maxRecDepth 100000 in
theorem ct_U_end (l : Launch) (hst : l.stackTraces = false) (z : zv_T) (ad : Nat → Nat) (N : Nat) (g : Nat → va_E) (b : Nat) (th sh : Int32) (lr c : Nat) (p q pr rp rq : Nat → Int32) (hN : b + 7 < N) (hs : zs_U z ad g b th sh lr c p q pr rp rq) : zm_v l mn_U_end ws_U_end rm_U_end z ad N g [.ref (ad b)] (fun g1 => zs_U z ad g1 b 0 0 lr c p q pr rp rq ∧ ∀ j, j ≠ b → g1 j = g j) := by
  obtain ⟨hs0, ⟨hn0, hn1, hn2⟩, hs4, hr0, hr1, hr2⟩ := hs
  refine zm_ofv hst pn_U_end rfl (Nat.le_of_ble_eq_true rfl) (fun X hX C => ?_)
  subst hX
  show zj_J X 0 0 _ ad N g 0 [(0, .ref (ad b))] []
  refine zj_aload_n C dc_U_end_0 rfl 0 rfl ?_
  refine zj_iconst (v := 0) C dc_U_end_1 (by decide) ?_
  refine zj_put (k := 3) C (by omega) hs0 rfl (by decide) fw_U fl_U_30 rfl fy_U fk_U fn_U rfl rfl rfl (Nat.le_of_ble_eq_true rfl) rfl dc_U_end_2 ?_
  refine zj_aload_n C dc_U_end_5 rfl 0 rfl ?_
  refine zj_iconst (v := 0) C dc_U_end_6 (by decide) ?_
  refine zj_put (k := 4) C (by omega) (by (repeat rw [va_up_ne _ _ (by omega)]); exact (va_up_self _ _ _)) rfl (by decide) fw_U fl_U_34 rfl fy_U fk_U fn_U rfl rfl rfl (Nat.le_of_ble_eq_true rfl) rfl dc_U_end_7 ?_
  exact zj_vret C dc_U_end_10 ⟨⟨by (repeat rw [va_up_ne _ _ (by omega)]); exact va_up_self _ _ _, ⟨by (repeat rw [va_up_ne _ _ (by omega)]); exact hn0, by (repeat rw [va_up_ne _ _ (by omega)]); exact hn1, by (repeat rw [va_up_ne _ _ (by omega)]); exact hn2⟩, by (repeat rw [va_up_ne _ _ (by omega)]); exact hs4, by (repeat rw [va_up_ne _ _ (by omega)]); exact hr0, by (repeat rw [va_up_ne _ _ (by omega)]); exact hr1, by (repeat rw [va_up_ne _ _ (by omega)]); exact hr2⟩, fun j h1 => by (repeat rw [va_up_ne _ _ (by omega)])⟩
set_option maxHeartbeats 4000000 in
set_option maxRecDepth 100000 in
theorem ct_U_replacedAfter (l : Launch) (hst : l.stackTraces = false) (z : zv_T) (ad : Nat → Nat) (N : Nat) (g : Nat → va_E) (b : Nat) (th sh : Int32) (lr c : Nat) (p q pr rp rq : Nat → Int32) (hN : b + 7 < N) (hs : zs_U z ad g b th sh lr c p q pr rp rq) (r : Nat) (x : Int32) (hr : r ≤ lr) (hlr : lr ≤ 8) : zm_i l mn_U_replacedAfter ws_U_replacedAfter rm_U_replacedAfter z ad N g [.ref (ad b), .int (nI r), .int x] (fun v g1 => v = zp_rv (zp_ra pr x r (lr - r)) ∧ g1 = g) := by
  obtain ⟨hs0, ⟨hn0, hn1, hn2⟩, hs4, hr0, hr1, hr2⟩ := hs
  refine zm_ofi hst pn_U_replacedAfter rfl (Nat.le_of_ble_eq_true rfl) (fun X hX C => ?_)
  subst hX
  show zj_J X 0 0 _ ad N g 0 [(0, .ref (ad b)), (1, .int (nI r)), (2, .int x)] []
  have loop : ∀ (n : Nat) (k : Nat), lr - k = n → r ≤ k → k ≤ lr → zp_ra pr x r (lr - r) = zp_ra pr x k (lr - k) → zj_J X 0 0 (zj_Qi X 0 0 ad N (fun v g1 => v = zp_rv (zp_ra pr x r (lr - r)) ∧ g1 = g)) ad N g 2 [(3, .int (nI k)), (0, .ref (ad b)), (1, .int (nI r)), (2, .int x)] [] := by
    intro n
    induction n with
    | zero =>
      intro k e1 e2 e3 e4
      refine zj_iload_n C dc_U_replacedAfter_2 rfl 0 rfl ?_
      refine zj_aload_n C dc_U_replacedAfter_3 rfl 1 rfl ?_
      refine zj_get (k := 5) C (by omega) hs0 rfl (by decide) fw_U fl_U_37 rfl rfl dc_U_replacedAfter_4 ?_
      refine zj_icmp_ge C dc_U_replacedAfter_7 rfl (fun _ => ?_) (fun h => absurd h (not_not_intro ((nI_leI (by omega) (by omega)).mpr (by omega))))
      refine zj_iconst (v := -1) C dc_U_replacedAfter_28 (by decide) ?_
      exact zj_iret C dc_U_replacedAfter_29 ⟨by rw [e4, show lr - k = 0 by omega]; rfl, rfl⟩
    | succ n ih =>
      intro k e1 e2 e3 e4
      refine zj_iload_n C dc_U_replacedAfter_2 rfl 0 rfl ?_
      refine zj_aload_n C dc_U_replacedAfter_3 rfl 1 rfl ?_
      refine zj_get (k := 5) C (by omega) hs0 rfl (by decide) fw_U fl_U_37 rfl rfl dc_U_replacedAfter_4 ?_
      refine zj_icmp_ge C dc_U_replacedAfter_7 rfl (fun h => absurd h ((zn_nle (by omega) (by omega)).mpr (by omega))) (fun _ => ?_)
      refine zj_aload_n C dc_U_replacedAfter_10 rfl 1 rfl ?_
      refine zj_get (k := 1) C (by omega) hs0 rfl (by decide) fw_U fl_U_20 rfl rfl dc_U_replacedAfter_11 ?_
      refine zj_iload_n C dc_U_replacedAfter_14 rfl 0 rfl ?_
      refine zj_iald C (by omega) hs4 rfl (by omega) (by decide) dc_U_replacedAfter_15 ?_
      refine zj_iload_n C dc_U_replacedAfter_16 rfl 3 rfl ?_
      refine zj_icmp_ne C dc_U_replacedAfter_17 rfl (fun h17 => ?_) (fun h17 => ?_)
      · skip
        refine zj_iinc C dc_U_replacedAfter_22 0 rfl (zn_inc k) (by decide) rfl ?_
        refine zj_goto C dc_U_replacedAfter_25 rfl ?_
        refine zj_loc (L' := [(3, .int (nI (k + 1))), (0, .ref (ad b)), (1, .int (nI r)), (2, .int x)]) [0, 1, 2, 3] rfl ?_
        exact ih (k + 1) (by omega) (by omega) (by omega) (by rw [e4, show lr - k = (lr - (k + 1)) + 1 by omega]; conv => lhs; unfold zp_ra; rw [if_neg h17])
      · skip
        refine zj_iload_n C dc_U_replacedAfter_20 rfl 0 rfl ?_
        exact zj_iret C dc_U_replacedAfter_21 ⟨by rw [e4, show lr - k = (lr - (k + 1)) + 1 by omega]; unfold zp_ra; rw [if_pos h17]; rfl, rfl⟩
  refine zj_iload_n C dc_U_replacedAfter_0 rfl 1 rfl ?_
  refine zj_istore_n C dc_U_replacedAfter_1 rfl (by decide) rfl ?_
  refine zj_loc [0, 1, 2, 3] rfl ?_
  exact loop (lr - r) r rfl (Nat.le_refl _) hr rfl
end ZU
