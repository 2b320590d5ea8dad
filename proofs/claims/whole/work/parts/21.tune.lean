section ZU
/-- a tune at the cells b .. b + 7 -/
def zs_U (z : zv_T) (ad : Nat → Nat) (g : Nat → va_E) (b : Nat) (th sh : Int32) (lr c : Nat) (p q pr rp rq : Nat → Int32) : Prop := g b = ze_o 5 [.ref (ad (b + 1)), .ref (ad (b + 4)), .ref (ad (b + 5)), .int th, .int sh, .int (nI lr)] ∧ zs_N z ad g (b + 1) 20 c p q ∧ g (b + 4) = ze_i z 8 pr ∧ zs_N z ad g (b + 5) 8 0 rp rq
/-- the first correction from r on that replaced place x -/
def zp_ra (pr : Nat → Int32) (x : Int32) (r : Nat) : Nat → Option Nat
  | 0 => none
  | n + 1 => if pr r = x then some r else zp_ra pr x (r + 1) n
theorem zp_ra_lt {pr : Nat → Int32} {x : Int32} : ∀ {n r j : Nat}, zp_ra pr x r n = some j → r ≤ j ∧ j < r + n := by
  intro n
  induction n with
  | zero => intro r j h; cases h
  | succ n ih =>
    intro r j h
    unfold zp_ra at h
    split at h
    · cases h; omega
    · have := ih h; omega
def zp_rv (o : Option Nat) : Int32 := match o with
  | none => -1
  | some j => nI j
/-- what a reading holds at a place: what the first later correction there replaced, or what is there now -/
def zp_in (now rep : Nat → Int32) (o : Option Nat) (k : Nat) : Int32 := match o with
  | none => now k
  | some j => rep j
set_option maxHeartbeats 4000000 in
set_option maxRecDepth 100000 in
theorem ct_U_begin (l : Launch) (hst : l.stackTraces = false) (z : zv_T) (ad : Nat → Nat) (N : Nat) (g : Nat → va_E) (b : Nat) (th sh : Int32) (lr c : Nat) (p q pr rp rq : Nat → Int32) (hN : b + 7 < N) (hs : zs_U z ad g b th sh lr c p q pr rp rq) : zm_v l mn_U_begin ws_U_begin rm_U_begin z ad N g [.ref (ad b)] (fun g1 => zs_U z ad g1 b 1 0 0 0 p q pr rp rq ∧ ∀ j, j ≠ b → j ≠ b + 1 → g1 j = g j) := by
  obtain ⟨hs0, ⟨hn0, hn1, hn2⟩, hs4, hr0, hr1, hr2⟩ := hs
  refine zm_ofv hst pn_U_begin rfl (Nat.le_of_ble_eq_true rfl) (fun X hX C => ?_)
  subst hX
  show zj_J X 0 0 _ ad N g 0 [(0, .ref (ad b))] []
  refine zj_aload_n C dc_U_begin_0 rfl 0 rfl ?_
  refine zj_get (k := 0) C (by omega) hs0 rfl (by decide) fw_U fl_U_14 rfl rfl dc_U_begin_1 ?_
  refine zj_Vv C (ct_N_clear _ hst z ad N g (b + 1) 20 c p q (by omega) ⟨hn0, hn1, hn2⟩ (by decide)) gv_U_27 rfl rfl rfl hd_N_clear ⟨(Nat.le_of_ble_eq_true rfl), (Nat.le_of_ble_eq_true rfl)⟩ (by omega) hn0 rfl rfl rfl (Nat.le_of_ble_eq_true rfl) ⟨(Nat.le_of_ble_eq_true rfl), (Nat.le_of_ble_eq_true rfl)⟩ dc_U_begin_4 (fun g1 h1 => ?_)
  subst h1
  refine zj_aload_n C dc_U_begin_7 rfl 0 rfl ?_
  refine zj_iconst (v := 1) C dc_U_begin_8 (by decide) ?_
  refine zj_put (k := 3) C (by omega) (by (repeat rw [va_up_ne _ _ (by omega)]); exact hs0) rfl (by decide) fw_U fl_U_30 rfl fy_U fk_U fn_U rfl rfl rfl (Nat.le_of_ble_eq_true rfl) rfl dc_U_begin_9 ?_
  refine zj_aload_n C dc_U_begin_12 rfl 0 rfl ?_
  refine zj_iconst (v := 0) C dc_U_begin_13 (by decide) ?_
  refine zj_put (k := 4) C (by omega) (by (repeat rw [va_up_ne _ _ (by omega)]); exact (va_up_self _ _ _)) rfl (by decide) fw_U fl_U_34 rfl fy_U fk_U fn_U rfl rfl rfl (Nat.le_of_ble_eq_true rfl) rfl dc_U_begin_14 ?_
  refine zj_aload_n C dc_U_begin_17 rfl 0 rfl ?_
  refine zj_iconst (v := 0) C dc_U_begin_18 (by decide) ?_
  refine zj_put (k := 5) C (by omega) (by (repeat rw [va_up_ne _ _ (by omega)]); exact (va_up_self _ _ _)) rfl (by decide) fw_U fl_U_37 rfl fy_U fk_U fn_U rfl rfl rfl (Nat.le_of_ble_eq_true rfl) rfl dc_U_begin_19 ?_
  exact zj_vret C dc_U_begin_22 ⟨⟨by (repeat rw [va_up_ne _ _ (by omega)]); exact va_up_self _ _ _, ⟨by (repeat rw [va_up_ne _ _ (by omega)]); exact va_up_self _ _ _, by (repeat rw [va_up_ne _ _ (by omega)]); exact hn1, by (repeat rw [va_up_ne _ _ (by omega)]); exact hn2⟩, by (repeat rw [va_up_ne _ _ (by omega)]); exact hs4, by (repeat rw [va_up_ne _ _ (by omega)]); exact hr0, by (repeat rw [va_up_ne _ _ (by omega)]); exact hr1, by (repeat rw [va_up_ne _ _ (by omega)]); exact hr2⟩, fun j h1 h2 => by (repeat rw [va_up_ne _ _ (by omega)])⟩
set_option maxHeartbeats 4000000 in
set_option maxRecDepth 100000 in
theorem ct_U_end (l : Launch) (hst : l.stackTraces = false) (z : zv_T) (ad : Nat → Nat) (N : Nat) (g : Nat → va_E) (b : Nat) (th sh : Int32) (lr c : Nat) (p q pr rp rq : Nat → Int32) (hN : b + 7 < N) (hs : zs_U z ad g b th sh lr c p q pr rp rq) : zm_v l mn_U_end ws_U_end rm_U_end z ad N g [.ref (ad b)] (fun g1 => zs_U z ad g1 b 0 0 lr c p q pr rp rq ∧ ∀ j, j ≠ b → g1 j = g j) := by
  obtain ⟨hs0, ⟨hn0, hn1, hn2⟩, hs4, hr0, hr1, hr2⟩ := hs
  refine zm_ofv hst pn_U_end rfl (Nat.le_of_ble_eq_true rfl) (fun X hX C => ?_)
  subst hX
  show zj_J X 0 0 _ ad N g 0 [(0, .ref (ad b))] []
  refine zj_aload_n C dc_U_end_0 rfl 0 rfl ?_
  refine zj_iconst (v := 0) C dc_U_end_1 (by decide) ?_
  refine zj_put (k := 3) C (by omega) hs0 rfl (by decide) fw_U fl_U_30 rfl fy_U fk_U fn_U rfl rfl rfl (Nat.le_of_ble_eq_true rfl) rfl dc_U_end_2 ?_
  refine zj_aload_n C dc_U_end_5 rfl 0 rfl ?_
  refine zj_iconst (v := 0) C dc_U_end_6 (by decide) ?_
  refine zj_put (k := 4) C (by omega) (by (repeat rw [va_up_ne _ _ (by omega)]); exact (va_up_self _ _ _)) rfl (by decide) fw_U fl_U_34 rfl fy_U fk_U fn_U rfl rfl rfl (Nat.le_of_ble_eq_true rfl) rfl dc_U_end_7 ?_
  exact zj_vret C dc_U_end_10 ⟨⟨by (repeat rw [va_up_ne _ _ (by omega)]); exact va_up_self _ _ _, ⟨by (repeat rw [va_up_ne _ _ (by omega)]); exact hn0, by (repeat rw [va_up_ne _ _ (by omega)]); exact hn1, by (repeat rw [va_up_ne _ _ (by omega)]); exact hn2⟩, by (repeat rw [va_up_ne _ _ (by omega)]); exact hs4, by (repeat rw [va_up_ne _ _ (by omega)]); exact hr0, by (repeat rw [va_up_ne _ _ (by omega)]); exact hr1, by (repeat rw [va_up_ne _ _ (by omega)]); exact hr2⟩, fun j h1 => by (repeat rw [va_up_ne _ _ (by omega)])⟩
set_option maxHeartbeats 4000000 in
set_option maxRecDepth 100000 in
theorem ct_U_replacedAfter (l : Launch) (hst : l.stackTraces = false) (z : zv_T) (ad : Nat → Nat) (N : Nat) (g : Nat → va_E) (b : Nat) (th sh : Int32) (lr c : Nat) (p q pr rp rq : Nat → Int32) (hN : b + 7 < N) (hs : zs_U z ad g b th sh lr c p q pr rp rq) (r : Nat) (x : Int32) (hr : r ≤ lr) (hlr : lr ≤ 8) : zm_i l mn_U_replacedAfter ws_U_replacedAfter rm_U_replacedAfter z ad N g [.ref (ad b), .int (nI r), .int x] (fun v g1 => v = zp_rv (zp_ra pr x r (lr - r)) ∧ g1 = g) := by
  obtain ⟨hs0, ⟨hn0, hn1, hn2⟩, hs4, hr0, hr1, hr2⟩ := hs
  refine zm_ofi hst pn_U_replacedAfter rfl (Nat.le_of_ble_eq_true rfl) (fun X hX C => ?_)
  subst hX
  show zj_J X 0 0 _ ad N g 0 [(0, .ref (ad b)), (1, .int (nI r)), (2, .int x)] []
  have loop : ∀ (n : Nat) (k : Nat), lr - k = n → r ≤ k → k ≤ lr → zp_ra pr x r (lr - r) = zp_ra pr x k (lr - k) → zj_J X 0 0 (zj_Qi X 0 0 ad N (fun v g1 => v = zp_rv (zp_ra pr x r (lr - r)) ∧ g1 = g)) ad N g 2 [(3, .int (nI k)), (0, .ref (ad b)), (1, .int (nI r)), (2, .int x)] [] := by
    intro n
    induction n with
    | zero =>
      intro k e1 e2 e3 e4
      refine zj_iload_n C dc_U_replacedAfter_2 rfl 0 rfl ?_
      refine zj_aload_n C dc_U_replacedAfter_3 rfl 1 rfl ?_
      refine zj_get (k := 5) C (by omega) hs0 rfl (by decide) fw_U fl_U_37 rfl rfl dc_U_replacedAfter_4 ?_
      refine zj_icmp_ge C dc_U_replacedAfter_7 rfl (fun _ => ?_) (fun h => absurd h (not_not_intro ((nI_leI (by omega) (by omega)).mpr (by omega))))
      refine zj_iconst (v := -1) C dc_U_replacedAfter_28 (by decide) ?_
      exact zj_iret C dc_U_replacedAfter_29 ⟨by rw [e4, show lr - k = 0 by omega]; rfl, rfl⟩
    | succ n ih =>
      intro k e1 e2 e3 e4
      refine zj_iload_n C dc_U_replacedAfter_2 rfl 0 rfl ?_
      refine zj_aload_n C dc_U_replacedAfter_3 rfl 1 rfl ?_
      refine zj_get (k := 5) C (by omega) hs0 rfl (by decide) fw_U fl_U_37 rfl rfl dc_U_replacedAfter_4 ?_
      refine zj_icmp_ge C dc_U_replacedAfter_7 rfl (fun h => absurd h ((zn_nle (by omega) (by omega)).mpr (by omega))) (fun _ => ?_)
      refine zj_aload_n C dc_U_replacedAfter_10 rfl 1 rfl ?_
      refine zj_get (k := 1) C (by omega) hs0 rfl (by decide) fw_U fl_U_20 rfl rfl dc_U_replacedAfter_11 ?_
      refine zj_iload_n C dc_U_replacedAfter_14 rfl 0 rfl ?_
      refine zj_iald C (by omega) hs4 rfl (by omega) (by decide) dc_U_replacedAfter_15 ?_
      refine zj_iload_n C dc_U_replacedAfter_16 rfl 3 rfl ?_
      refine zj_icmp_ne C dc_U_replacedAfter_17 rfl (fun h17 => ?_) (fun h17 => ?_)
      · skip
        refine zj_iinc C dc_U_replacedAfter_22 0 rfl (zn_inc k) (by decide) rfl ?_
        refine zj_goto C dc_U_replacedAfter_25 rfl ?_
        refine zj_loc (L' := [(3, .int (nI (k + 1))), (0, .ref (ad b)), (1, .int (nI r)), (2, .int x)]) [0, 1, 2, 3] rfl ?_
        exact ih (k + 1) (by omega) (by omega) (by omega) (by rw [e4, show lr - k = (lr - (k + 1)) + 1 by omega]; conv => lhs; unfold zp_ra; rw [if_neg h17])
      · skip
        refine zj_iload_n C dc_U_replacedAfter_20 rfl 0 rfl ?_
        exact zj_iret C dc_U_replacedAfter_21 ⟨by rw [e4, show lr - k = (lr - (k + 1)) + 1 by omega]; unfold zp_ra; rw [if_pos h17]; rfl, rfl⟩
  refine zj_iload_n C dc_U_replacedAfter_0 rfl 1 rfl ?_
  refine zj_istore_n C dc_U_replacedAfter_1 rfl (by decide) rfl ?_
  refine zj_loc [0, 1, 2, 3] rfl ?_
  exact loop (lr - r) r rfl (Nat.le_refl _) hr rfl
theorem zp_rv_some {o : Option Nat} (h : ¬ zp_rv o = -1) : ∃ j, o = some j := by
  cases o with
  | none => exact absurd rfl h
  | some j => exact ⟨j, rfl⟩
theorem zn_m1n {j : Nat} (h : j < 2 ^ 31) : ¬ nI j = -1 := by
  intro e
  have h1 := congrArg Int32.toInt e
  rw [nI_toInt h] at h1
  have h2 : (-1 : Int32).toInt = -1 := by decide
  omega
theorem zp_rv_none {o : Option Nat} (hl : ∀ j, o = some j → j < 2 ^ 31) (h : zp_rv o = -1) : o = none := by
  cases o with
  | none => rfl
  | some j => exact absurd h (zn_m1n (hl j rfl))
theorem zn_m1lt {m : Nat} (h : m < 2 ^ 31) : nI m - 1 < nI m := by
  cases m with
  | zero => decide
  | succ n => rw [nI_pred]; exact nI_lt (by omega) h
theorem zn_dec {m : Nat} (h : 0 < m) : nI m - 1 + Int32.ofInt (-1) = nI (m - 1) - 1 := by
  obtain ⟨n, rfl⟩ : ∃ n, m = n + 1 := ⟨m - 1, by omega⟩
  rw [nI_pred, Nat.add_sub_cancel]
  show nI n + -1 = nI n - 1
  grind
/-- corrections taken back: n of them, the last ones first -/
def zp_bk (f pr rep : Nat → Int32) (lr : Nat) : Nat → (Nat → Int32)
  | 0 => f
  | n + 1 => upd (zp_bk f pr rep lr n) (pr (lr - 1 - n)).toNatClampNeg (rep (lr - 1 - n))
theorem zp_bkS (f pr rep : Nat → Int32) (lr n : Nat) : zp_bk f pr rep lr (n + 1) = upd (zp_bk f pr rep lr n) (pr (lr - 1 - n)).toNatClampNeg (rep (lr - 1 - n)) := rfl
set_option maxHeartbeats 4000000 in
set_option maxRecDepth 100000 in
theorem ct_U_pitchIn (l : Launch) (hst : l.stackTraces = false) (z : zv_T) (ad : Nat → Nat) (N : Nat) (g : Nat → va_E) (b : Nat) (th sh : Int32) (lr c : Nat) (p q pr rp rq : Nat → Int32) (hN : b + 7 < N) (hs : zs_U z ad g b th sh lr c p q pr rp rq) (r k : Nat) (hr : r ≤ lr) (hlr : lr ≤ 8) (hk : k < 20) : zm_i l mn_U_pitchIn ws_U_pitchIn rm_U_pitchIn z ad N g [.ref (ad b), .int (nI r), .int (nI k)] (fun v g1 => v = zp_in p rp (zp_ra pr (nI k) r (lr - r)) k ∧ g1 = g) := by
  obtain ⟨hs0, ⟨hn0, hn1, hn2⟩, hs4, hr0, hr1, hr2⟩ := hs
  refine zm_ofi hst pn_U_pitchIn rfl (Nat.le_of_ble_eq_true rfl) (fun X hX C => ?_)
  subst hX
  show zj_J X 0 0 _ ad N g 0 [(0, .ref (ad b)), (1, .int (nI r)), (2, .int (nI k))] []
  refine zj_aload_n C dc_U_pitchIn_0 rfl 0 rfl ?_
  refine zj_iload_n C dc_U_pitchIn_1 rfl 1 rfl ?_
  refine zj_iload_n C dc_U_pitchIn_2 rfl 2 rfl ?_
  refine zj_Vi C (ct_U_replacedAfter _ hst z ad N g b th sh lr c p q pr rp rq hN ⟨hs0, ⟨hn0, hn1, hn2⟩, hs4, hr0, hr1, hr2⟩ r (nI k) hr hlr) gv_U_51 rfl rfl rfl hd_U_replacedAfter ⟨(Nat.le_of_ble_eq_true rfl), (Nat.le_of_ble_eq_true rfl)⟩ (by omega) hs0 rfl rfl rfl (Nat.le_of_ble_eq_true rfl) ⟨(Nat.le_of_ble_eq_true rfl), (Nat.le_of_ble_eq_true rfl)⟩ dc_U_pitchIn_3 (fun r1 g1 h1 => ?_)
  obtain ⟨rfl, rfl⟩ := h1
  have hlt : ∀ j, zp_ra pr (nI k) r (lr - r) = some j → j < 8 := fun j h => by have := zp_ra_lt h; omega
  generalize zp_ra pr (nI k) r (lr - r) = o at hlt ⊢
  refine zj_istore_n C dc_U_pitchIn_6 rfl (by decide) rfl ?_
  refine zj_iload_n C dc_U_pitchIn_7 rfl 0 rfl ?_
  refine zj_iconst (v := -1) C dc_U_pitchIn_8 (by decide) ?_
  refine zj_icmp_ne C dc_U_pitchIn_9 rfl (fun h9 => ?_) (fun h9 => ?_)
  · obtain ⟨j, rfl⟩ := zp_rv_some h9
    refine zj_aload_n C dc_U_pitchIn_24 rfl 1 rfl ?_
    refine zj_get (k := 2) C (by omega) hs0 rfl (by decide) fw_U fl_U_24 rfl rfl dc_U_pitchIn_25 ?_
    refine zj_get (k := 0) C (by omega) hr0 rfl (by decide) fw_N fl_U_41 rfl rfl dc_U_pitchIn_28 ?_
    refine zj_iload_n C dc_U_pitchIn_31 rfl 0 rfl ?_
    refine zj_iald C (by omega) hr1 rfl (hlt j rfl) (by decide) dc_U_pitchIn_32 ?_
    exact zj_iret C dc_U_pitchIn_33 ⟨rfl, rfl⟩
  · have h9 := zp_rv_none (fun j h => by have := hlt j h; omega) h9
    subst h9
    refine zj_aload_n C dc_U_pitchIn_12 rfl 1 rfl ?_
    refine zj_get (k := 0) C (by omega) hs0 rfl (by decide) fw_U fl_U_14 rfl rfl dc_U_pitchIn_13 ?_
    refine zj_get (k := 0) C (by omega) hn0 rfl (by decide) fw_N fl_U_41 rfl rfl dc_U_pitchIn_16 ?_
    refine zj_iload_n C dc_U_pitchIn_19 rfl 3 rfl ?_
    refine zj_iald C (by omega) hn1 rfl hk (by decide) dc_U_pitchIn_20 ?_
    refine zj_goto C dc_U_pitchIn_21 rfl ?_
    exact zj_iret C dc_U_pitchIn_33 ⟨rfl, rfl⟩
set_option maxHeartbeats 4000000 in
set_option maxRecDepth 100000 in
theorem ct_U_lengthIn (l : Launch) (hst : l.stackTraces = false) (z : zv_T) (ad : Nat → Nat) (N : Nat) (g : Nat → va_E) (b : Nat) (th sh : Int32) (lr c : Nat) (p q pr rp rq : Nat → Int32) (hN : b + 7 < N) (hs : zs_U z ad g b th sh lr c p q pr rp rq) (r k : Nat) (hr : r ≤ lr) (hlr : lr ≤ 8) (hk : k < 20) : zm_i l mn_U_lengthIn ws_U_lengthIn rm_U_lengthIn z ad N g [.ref (ad b), .int (nI r), .int (nI k)] (fun v g1 => v = zp_in q rq (zp_ra pr (nI k) r (lr - r)) k ∧ g1 = g) := by
  obtain ⟨hs0, ⟨hn0, hn1, hn2⟩, hs4, hr0, hr1, hr2⟩ := hs
  refine zm_ofi hst pn_U_lengthIn rfl (Nat.le_of_ble_eq_true rfl) (fun X hX C => ?_)
  subst hX
  show zj_J X 0 0 _ ad N g 0 [(0, .ref (ad b)), (1, .int (nI r)), (2, .int (nI k))] []
  refine zj_aload_n C dc_U_lengthIn_0 rfl 0 rfl ?_
  refine zj_iload_n C dc_U_lengthIn_1 rfl 1 rfl ?_
  refine zj_iload_n C dc_U_lengthIn_2 rfl 2 rfl ?_
  refine zj_Vi C (ct_U_replacedAfter _ hst z ad N g b th sh lr c p q pr rp rq hN ⟨hs0, ⟨hn0, hn1, hn2⟩, hs4, hr0, hr1, hr2⟩ r (nI k) hr hlr) gv_U_51 rfl rfl rfl hd_U_replacedAfter ⟨(Nat.le_of_ble_eq_true rfl), (Nat.le_of_ble_eq_true rfl)⟩ (by omega) hs0 rfl rfl rfl (Nat.le_of_ble_eq_true rfl) ⟨(Nat.le_of_ble_eq_true rfl), (Nat.le_of_ble_eq_true rfl)⟩ dc_U_lengthIn_3 (fun r1 g1 h1 => ?_)
  obtain ⟨rfl, rfl⟩ := h1
  have hlt : ∀ j, zp_ra pr (nI k) r (lr - r) = some j → j < 8 := fun j h => by have := zp_ra_lt h; omega
  generalize zp_ra pr (nI k) r (lr - r) = o at hlt ⊢
  refine zj_istore_n C dc_U_lengthIn_6 rfl (by decide) rfl ?_
  refine zj_iload_n C dc_U_lengthIn_7 rfl 0 rfl ?_
  refine zj_iconst (v := -1) C dc_U_lengthIn_8 (by decide) ?_
  refine zj_icmp_ne C dc_U_lengthIn_9 rfl (fun h9 => ?_) (fun h9 => ?_)
  · obtain ⟨j, rfl⟩ := zp_rv_some h9
    refine zj_aload_n C dc_U_lengthIn_24 rfl 1 rfl ?_
    refine zj_get (k := 2) C (by omega) hs0 rfl (by decide) fw_U fl_U_24 rfl rfl dc_U_lengthIn_25 ?_
    refine zj_get (k := 1) C (by omega) hr0 rfl (by decide) fw_N fl_U_44 rfl rfl dc_U_lengthIn_28 ?_
    refine zj_iload_n C dc_U_lengthIn_31 rfl 0 rfl ?_
    refine zj_iald C (by omega) hr2 rfl (hlt j rfl) (by decide) dc_U_lengthIn_32 ?_
    exact zj_iret C dc_U_lengthIn_33 ⟨rfl, rfl⟩
  · have h9 := zp_rv_none (fun j h => by have := hlt j h; omega) h9
    subst h9
    refine zj_aload_n C dc_U_lengthIn_12 rfl 1 rfl ?_
    refine zj_get (k := 0) C (by omega) hs0 rfl (by decide) fw_U fl_U_14 rfl rfl dc_U_lengthIn_13 ?_
    refine zj_get (k := 1) C (by omega) hn0 rfl (by decide) fw_N fl_U_44 rfl rfl dc_U_lengthIn_16 ?_
    refine zj_iload_n C dc_U_lengthIn_19 rfl 3 rfl ?_
    refine zj_iald C (by omega) hn2 rfl hk (by decide) dc_U_lengthIn_20 ?_
    refine zj_goto C dc_U_lengthIn_21 rfl ?_
    exact zj_iret C dc_U_lengthIn_33 ⟨rfl, rfl⟩
set_option maxHeartbeats 4000000 in
set_option maxRecDepth 100000 in
theorem ct_U_stepIn (l : Launch) (hst : l.stackTraces = false) (z : zv_T) (ad : Nat → Nat) (N : Nat) (g : Nat → va_E) (b : Nat) (th sh : Int32) (lr c : Nat) (p q pr rp rq : Nat → Int32) (hN : b + 7 < N) (hs : zs_U z ad g b th sh lr c p q pr rp rq) (r k : Nat) (hr : r ≤ lr) (hlr : lr ≤ 8) (hk : k < 20) (hc : c ≤ 20) : zm_i l mn_U_stepIn ws_U_stepIn rm_U_stepIn z ad N g [.ref (ad b), .int (nI r), .int (nI k)] (fun v g1 => v = (if k + 1 < c then zp_in p rp (zp_ra pr (nI (k + 1)) r (lr - r)) (k + 1) - zp_in p rp (zp_ra pr (nI (k)) r (lr - r)) (k) else 0) ∧ g1 = g) := by
  obtain ⟨hs0, ⟨hn0, hn1, hn2⟩, hs4, hr0, hr1, hr2⟩ := hs
  refine zm_ofi hst pn_U_stepIn rfl (Nat.le_of_ble_eq_true rfl) (fun X hX C => ?_)
  subst hX
  show zj_J X 0 0 _ ad N g 0 [(0, .ref (ad b)), (1, .int (nI r)), (2, .int (nI k))] []
  refine zj_iload_n C dc_U_stepIn_0 rfl 2 rfl ?_
  refine zj_iconst (v := 1) C dc_U_stepIn_1 (by decide) ?_
  refine zj_iadd C dc_U_stepIn_2 ?_
  refine zj_topi (nI_1 k) ?_
  refine zj_aload_n C dc_U_stepIn_3 rfl 0 rfl ?_
  refine zj_get (k := 0) C (by omega) hs0 rfl (by decide) fw_U fl_U_14 rfl rfl dc_U_stepIn_4 ?_
  refine zj_get (k := 2) C (by omega) hn0 rfl (by decide) fw_N fl_U_55 rfl rfl dc_U_stepIn_7 ?_
  refine zj_icmp_lt C dc_U_stepIn_10 rfl (fun h10 => ?_) (fun h10 => ?_)
  · have h10 := (nI_ltI (by omega) (by omega)).mp h10
    refine zj_aload_n C dc_U_stepIn_15 rfl 0 rfl ?_
    refine zj_iload_n C dc_U_stepIn_16 rfl 1 rfl ?_
    refine zj_iload_n C dc_U_stepIn_17 rfl 2 rfl ?_
    refine zj_iconst (v := 1) C dc_U_stepIn_18 (by decide) ?_
    refine zj_iadd C dc_U_stepIn_19 ?_
    refine zj_topi (nI_1 k) ?_
    refine zj_Vi C (ct_U_pitchIn _ hst z ad N g b th sh lr c p q pr rp rq hN ⟨hs0, ⟨hn0, hn1, hn2⟩, hs4, hr0, hr1, hr2⟩ r (k + 1) hr hlr (by omega)) gv_U_58 rfl rfl rfl hd_U_pitchIn ⟨(Nat.le_of_ble_eq_true rfl), (Nat.le_of_ble_eq_true rfl)⟩ (by omega) hs0 rfl rfl rfl (Nat.le_of_ble_eq_true rfl) ⟨(Nat.le_of_ble_eq_true rfl), (Nat.le_of_ble_eq_true rfl)⟩ dc_U_stepIn_20 (fun r1 g1 h1 => ?_)
    obtain ⟨rfl, rfl⟩ := h1
    refine zj_aload_n C dc_U_stepIn_23 rfl 0 rfl ?_
    refine zj_iload_n C dc_U_stepIn_24 rfl 1 rfl ?_
    refine zj_iload_n C dc_U_stepIn_25 rfl 2 rfl ?_
    refine zj_Vi C (ct_U_pitchIn _ hst z ad N _ b th sh lr c p q pr rp rq hN ⟨hs0, ⟨hn0, hn1, hn2⟩, hs4, hr0, hr1, hr2⟩ r k hr hlr (by omega)) gv_U_58 rfl rfl rfl hd_U_pitchIn ⟨(Nat.le_of_ble_eq_true rfl), (Nat.le_of_ble_eq_true rfl)⟩ (by omega) hs0 rfl rfl rfl (Nat.le_of_ble_eq_true rfl) ⟨(Nat.le_of_ble_eq_true rfl), (Nat.le_of_ble_eq_true rfl)⟩ dc_U_stepIn_26 (fun r2 g1 h1 => ?_)
    obtain ⟨rfl, rfl⟩ := h1
    refine zj_isub C dc_U_stepIn_29 ?_
    exact zj_iret C dc_U_stepIn_30 ⟨by rw [if_pos h10], rfl⟩
  · have h10 := (zn_nlt (by omega) (by omega)).mp h10
    refine zj_iconst (v := 0) C dc_U_stepIn_13 (by decide) ?_
    exact zj_iret C dc_U_stepIn_14 ⟨by rw [if_neg (by omega)], rfl⟩
set_option maxHeartbeats 4000000 in
set_option maxRecDepth 100000 in
theorem ct_U_replace (l : Launch) (hst : l.stackTraces = false) (z : zv_T) (ad : Nat → Nat) (N : Nat) (g : Nat → va_E) (b : Nat) (th sh : Int32) (lr c : Nat) (p q pr rp rq : Nat → Int32) (hN : b + 7 < N) (hs : zs_U z ad g b th sh lr c p q pr rp rq) (k : Nat) (x y : Int32) (hlr : lr < 8) (hk : k < 20) : zm_i l mn_U_replace ws_U_replace rm_U_replace z ad N g [.ref (ad b), .int (nI k), .int x, .int y] (fun v g1 => v = nI (lr + 1) ∧ zs_U z ad g1 b th sh (lr + 1) c (upd p k x) (upd q k y) (upd pr lr (nI k)) (upd rp lr (p k)) (upd rq lr (q k)) ∧ ∀ j, j < b ∨ b + 8 ≤ j → g1 j = g j) := by
  obtain ⟨hs0, ⟨hn0, hn1, hn2⟩, hs4, hr0, hr1, hr2⟩ := hs
  refine zm_ofi hst pn_U_replace rfl (Nat.le_of_ble_eq_true rfl) (fun X hX C => ?_)
  subst hX
  show zj_J X 0 0 _ ad N g 0 [(0, .ref (ad b)), (1, .int (nI k)), (2, .int x), (3, .int y)] []
  refine zj_aload_n C dc_U_replace_0 rfl 0 rfl ?_
  refine zj_get (k := 1) C (by omega) hs0 rfl (by decide) fw_U fl_U_20 rfl rfl dc_U_replace_1 ?_
  refine zj_aload_n C dc_U_replace_4 rfl 0 rfl ?_
  refine zj_get (k := 5) C (by omega) hs0 rfl (by decide) fw_U fl_U_37 rfl rfl dc_U_replace_5 ?_
  refine zj_iload_n C dc_U_replace_8 rfl 1 rfl ?_
  refine zj_iast C (by omega) hs4 rfl hlr (by decide) dc_U_replace_9 ?_
  refine zj_aload_n C dc_U_replace_10 rfl 0 rfl ?_
  refine zj_get (k := 2) C (by omega) (by (repeat rw [va_up_ne _ _ (by omega)]); exact hs0) rfl (by decide) fw_U fl_U_24 rfl rfl dc_U_replace_11 ?_
  refine zj_aload_n C dc_U_replace_14 rfl 0 rfl ?_
  refine zj_get (k := 5) C (by omega) (by (repeat rw [va_up_ne _ _ (by omega)]); exact hs0) rfl (by decide) fw_U fl_U_37 rfl rfl dc_U_replace_15 ?_
  refine zj_aload_n C dc_U_replace_18 rfl 0 rfl ?_
  refine zj_get (k := 0) C (by omega) (by (repeat rw [va_up_ne _ _ (by omega)]); exact hs0) rfl (by decide) fw_U fl_U_14 rfl rfl dc_U_replace_19 ?_
  refine zj_get (k := 0) C (by omega) (by (repeat rw [va_up_ne _ _ (by omega)]); exact hn0) rfl (by decide) fw_N fl_U_41 rfl rfl dc_U_replace_22 ?_
  refine zj_iload_n C dc_U_replace_25 rfl 1 rfl ?_
  refine zj_iald C (by omega) (by (repeat rw [va_up_ne _ _ (by omega)]); exact hn1) rfl hk (by decide) dc_U_replace_26 ?_
  refine zj_aload_n C dc_U_replace_27 rfl 0 rfl ?_
  refine zj_get (k := 0) C (by omega) (by (repeat rw [va_up_ne _ _ (by omega)]); exact hs0) rfl (by decide) fw_U fl_U_14 rfl rfl dc_U_replace_28 ?_
  refine zj_get (k := 1) C (by omega) (by (repeat rw [va_up_ne _ _ (by omega)]); exact hn0) rfl (by decide) fw_N fl_U_44 rfl rfl dc_U_replace_31 ?_
  refine zj_iload_n C dc_U_replace_34 rfl 1 rfl ?_
  refine zj_iald C (by omega) (by (repeat rw [va_up_ne _ _ (by omega)]); exact hn2) rfl hk (by decide) dc_U_replace_35 ?_
  refine zj_Vv C (ct_N_put _ hst z ad N _ (b + 5) 8 0 rp rq (by omega) ⟨(by (repeat rw [va_up_ne _ _ (by omega)]); exact hr0), (by (repeat rw [va_up_ne _ _ (by omega)]); exact hr1), (by (repeat rw [va_up_ne _ _ (by omega)]); exact hr2)⟩ (by decide) lr (p k) (q k) hlr) gv_U_47 rfl rfl rfl hd_N_put ⟨(Nat.le_of_ble_eq_true rfl), (Nat.le_of_ble_eq_true rfl)⟩ (by omega) (by (repeat rw [va_up_ne _ _ (by omega)]); exact hr0) rfl rfl rfl (Nat.le_of_ble_eq_true rfl) ⟨(Nat.le_of_ble_eq_true rfl), (Nat.le_of_ble_eq_true rfl)⟩ dc_U_replace_36 (fun g1 h1 => ?_)
  subst h1
  refine zj_aload_n C dc_U_replace_39 rfl 0 rfl ?_
  refine zj_get (k := 0) C (by omega) (by (repeat rw [va_up_ne _ _ (by omega)]); exact hs0) rfl (by decide) fw_U fl_U_14 rfl rfl dc_U_replace_40 ?_
  refine zj_iload_n C dc_U_replace_43 rfl 1 rfl ?_
  refine zj_iload_n C dc_U_replace_44 rfl 2 rfl ?_
  refine zj_iload_n C dc_U_replace_45 rfl 3 rfl ?_
  refine zj_Vv C (ct_N_put _ hst z ad N _ (b + 1) 20 c p q (by omega) ⟨(by (repeat rw [va_up_ne _ _ (by omega)]); exact hn0), (by (repeat rw [va_up_ne _ _ (by omega)]); exact hn1), (by (repeat rw [va_up_ne _ _ (by omega)]); exact hn2)⟩ (by decide) k x y hk) gv_U_47 rfl rfl rfl hd_N_put ⟨(Nat.le_of_ble_eq_true rfl), (Nat.le_of_ble_eq_true rfl)⟩ (by omega) (by (repeat rw [va_up_ne _ _ (by omega)]); exact hn0) rfl rfl rfl (Nat.le_of_ble_eq_true rfl) ⟨(Nat.le_of_ble_eq_true rfl), (Nat.le_of_ble_eq_true rfl)⟩ dc_U_replace_46 (fun g1 h1 => ?_)
  subst h1
  refine zj_aload_n C dc_U_replace_49 rfl 0 rfl ?_
  refine zj_dup C dc_U_replace_50 rfl ?_
  refine zj_get (k := 5) C (by omega) (by (repeat rw [va_up_ne _ _ (by omega)]); exact hs0) rfl (by decide) fw_U fl_U_37 rfl rfl dc_U_replace_51 ?_
  refine zj_iconst (v := 1) C dc_U_replace_54 (by decide) ?_
  refine zj_iadd C dc_U_replace_55 ?_
  refine zj_topi (nI_1 lr) ?_
  refine zj_put (k := 5) C (by omega) (by (repeat rw [va_up_ne _ _ (by omega)]); exact hs0) rfl (by decide) fw_U fl_U_37 rfl fy_U fk_U fn_U rfl rfl rfl (Nat.le_of_ble_eq_true rfl) rfl dc_U_replace_56 ?_
  refine zj_aload_n C dc_U_replace_59 rfl 0 rfl ?_
  refine zj_get (k := 5) C (by omega) (by (repeat rw [va_up_ne _ _ (by omega)]); exact (va_up_self _ _ _)) rfl (by decide) fw_U fl_U_37 rfl rfl dc_U_replace_60 ?_
  exact zj_iret C dc_U_replace_63 ⟨rfl, ⟨(by (repeat rw [va_up_ne _ _ (by omega)]); exact (va_up_self _ _ _)), ⟨(by (repeat rw [va_up_ne _ _ (by omega)]); exact hn0), (by (repeat rw [va_up_ne _ _ (by omega)]); exact (va_up_self _ _ _)), (by (repeat rw [va_up_ne _ _ (by omega)]); exact (va_up_self _ _ _))⟩, (by (repeat rw [va_up_ne _ _ (by omega)]); exact (va_up_self _ _ _)), (by (repeat rw [va_up_ne _ _ (by omega)]); exact hr0), (by (repeat rw [va_up_ne _ _ (by omega)]); exact (va_up_self _ _ _)), (by (repeat rw [va_up_ne _ _ (by omega)]); exact (va_up_self _ _ _))⟩, fun j hj => by (repeat rw [va_up_ne _ _ (by omega)])⟩
set_option maxHeartbeats 4000000 in
set_option maxRecDepth 100000 in
theorem ct_U_goBack (l : Launch) (hst : l.stackTraces = false) (z : zv_T) (ad : Nat → Nat) (N : Nat) (g : Nat → va_E) (b : Nat) (th sh : Int32) (lr c : Nat) (p q pr rp rq : Nat → Int32) (hN : b + 7 < N) (hs : zs_U z ad g b th sh lr c p q pr rp rq) (rd : Nat) (hrd : rd ≤ lr) (hlr : lr ≤ 8) (hpl : ∀ j, j < lr → ∃ k, k < 20 ∧ pr j = nI k) : zm_v l mn_U_goBack ws_U_goBack rm_U_goBack z ad N g [.ref (ad b), .int (nI rd)] (fun g1 => zs_U z ad g1 b th sh rd c (zp_bk p pr rp lr (lr - rd)) (zp_bk q pr rq lr (lr - rd)) pr rp rq ∧ ∀ j, j < b ∨ b + 8 ≤ j → g1 j = g j) := by
  obtain ⟨hs0, ⟨hn0, hn1, hn2⟩, hs4, hr0, hr1, hr2⟩ := hs
  refine zm_ofv hst pn_U_goBack rfl (Nat.le_of_ble_eq_true rfl) (fun X hX C => ?_)
  subst hX
  show zj_J X 0 0 _ ad N g 0 [(0, .ref (ad b)), (1, .int (nI rd))] []
  have loop : ∀ (n : Nat) (m : Nat) (g2 : Nat → va_E), m - rd = n → rd ≤ m → m ≤ lr → zs_U z ad g2 b th sh lr c (zp_bk p pr rp lr (lr - m)) (zp_bk q pr rq lr (lr - m)) pr rp rq → (∀ j, j < b ∨ b + 8 ≤ j → g2 j = g j) → zj_J X 0 0 (zj_Qv X 0 0 ad N (fun g1 => zs_U z ad g1 b th sh rd c (zp_bk p pr rp lr (lr - rd)) (zp_bk q pr rq lr (lr - rd)) pr rp rq ∧ ∀ j, j < b ∨ b + 8 ≤ j → g1 j = g j)) ad N g2 7 [(2, .int (nI m - 1)), (0, .ref (ad b)), (1, .int (nI rd))] [] := by
    intro n
    induction n with
    | zero =>
      intro m g2 e1 e2 e3 hs e5
      obtain ⟨hs0, ⟨hn0, hn1, hn2⟩, hs4, hr0, hr1, hr2⟩ := hs
      refine zj_iload_n C dc_U_goBack_7 rfl 0 rfl ?_
      refine zj_iload_n C dc_U_goBack_8 rfl 2 rfl ?_
      refine zj_icmp_lt C dc_U_goBack_9 rfl (fun _ => ?_) (fun h => absurd h (not_not_intro (by rw [show m = rd by omega]; exact zn_m1lt (by omega))))
      refine zj_aload_n C dc_U_goBack_49 rfl 1 rfl ?_
      refine zj_iload_n C dc_U_goBack_50 rfl 2 rfl ?_
      refine zj_put (k := 5) C (by omega) hs0 rfl (by decide) fw_U fl_U_37 rfl fy_U fk_U fn_U rfl rfl rfl (Nat.le_of_ble_eq_true rfl) rfl dc_U_goBack_51 ?_
      exact zj_vret C dc_U_goBack_54 ⟨⟨(by (repeat rw [va_up_ne _ _ (by omega)]); exact (va_up_self _ _ _)), ⟨(by (repeat rw [va_up_ne _ _ (by omega)]); exact hn0), by (repeat rw [va_up_ne _ _ (by omega)]); rw [show lr - rd = lr - m by omega]; exact hn1, by (repeat rw [va_up_ne _ _ (by omega)]); rw [show lr - rd = lr - m by omega]; exact hn2⟩, (by (repeat rw [va_up_ne _ _ (by omega)]); exact hs4), (by (repeat rw [va_up_ne _ _ (by omega)]); exact hr0), (by (repeat rw [va_up_ne _ _ (by omega)]); exact hr1), (by (repeat rw [va_up_ne _ _ (by omega)]); exact hr2)⟩, fun j hj => by (repeat rw [va_up_ne _ _ (by omega)]); exact e5 j hj⟩
    | succ n ih =>
      intro m g2 e1 e2 e3 hs e5
      obtain ⟨hs0, ⟨hn0, hn1, hn2⟩, hs4, hr0, hr1, hr2⟩ := hs
      refine zj_iload_n C dc_U_goBack_7 rfl 0 rfl ?_
      refine zj_iload_n C dc_U_goBack_8 rfl 2 rfl ?_
      refine zj_icmp_lt C dc_U_goBack_9 rfl (fun h => absurd h ((by rw [zn_m1 (by omega)]; exact (zn_nlt (by omega) (by omega)).mpr (by omega)))) (fun _ => ?_)
      refine zj_aload_n C dc_U_goBack_12 rfl 1 rfl ?_
      refine zj_get (k := 0) C (by omega) hs0 rfl (by decide) fw_U fl_U_14 rfl rfl dc_U_goBack_13 ?_
      refine zj_aload_n C dc_U_goBack_16 rfl 1 rfl ?_
      refine zj_get (k := 1) C (by omega) hs0 rfl (by decide) fw_U fl_U_20 rfl rfl dc_U_goBack_17 ?_
      refine zj_iload_n C dc_U_goBack_20 rfl 0 rfl ?_
      refine zj_iald C (by omega) hs4 (zn_m1 (by omega)) (by omega) (by decide) dc_U_goBack_21 ?_
      obtain ⟨kk, hk1, hk2⟩ := hpl (m - 1) (by omega)
      refine zj_topi hk2 ?_
      refine zj_aload_n C dc_U_goBack_22 rfl 1 rfl ?_
      refine zj_get (k := 2) C (by omega) hs0 rfl (by decide) fw_U fl_U_24 rfl rfl dc_U_goBack_23 ?_
      refine zj_get (k := 0) C (by omega) hr0 rfl (by decide) fw_N fl_U_41 rfl rfl dc_U_goBack_26 ?_
      refine zj_iload_n C dc_U_goBack_29 rfl 0 rfl ?_
      refine zj_iald C (by omega) hr1 (zn_m1 (by omega)) (by omega) (by decide) dc_U_goBack_30 ?_
      refine zj_aload_n C dc_U_goBack_31 rfl 1 rfl ?_
      refine zj_get (k := 2) C (by omega) hs0 rfl (by decide) fw_U fl_U_24 rfl rfl dc_U_goBack_32 ?_
      refine zj_get (k := 1) C (by omega) hr0 rfl (by decide) fw_N fl_U_44 rfl rfl dc_U_goBack_35 ?_
      refine zj_iload_n C dc_U_goBack_38 rfl 0 rfl ?_
      refine zj_iald C (by omega) hr2 (zn_m1 (by omega)) (by omega) (by decide) dc_U_goBack_39 ?_
      refine zj_Vv C (ct_N_put _ hst z ad N g2 (b + 1) 20 c _ _ (by omega) ⟨hn0, hn1, hn2⟩ (by decide) kk (rp (m - 1)) (rq (m - 1)) hk1) gv_U_47 rfl rfl rfl hd_N_put ⟨(Nat.le_of_ble_eq_true rfl), (Nat.le_of_ble_eq_true rfl)⟩ (by omega) hn0 rfl rfl rfl (Nat.le_of_ble_eq_true rfl) ⟨(Nat.le_of_ble_eq_true rfl), (Nat.le_of_ble_eq_true rfl)⟩ dc_U_goBack_40 (fun g1 h1 => ?_)
      subst h1
      refine zj_iinc C dc_U_goBack_43 0 rfl (zn_dec (by omega)) (by decide) rfl ?_
      refine zj_goto C dc_U_goBack_46 rfl ?_
      refine zj_loc (L' := [(2, .int (nI (m - 1) - 1)), (0, .ref (ad b)), (1, .int (nI rd))]) [0, 1, 2] rfl ?_
      exact ih (m - 1) _ (by omega) (by omega) (by omega) ⟨(by (repeat rw [va_up_ne _ _ (by omega)]); exact hs0), ⟨(by (repeat rw [va_up_ne _ _ (by omega)]); exact hn0), by rw [show lr - (m - 1) = lr - m + 1 by omega]; rw [zp_bkS, show lr - 1 - (lr - m) = m - 1 by omega, hk2, nI_clamp (by omega)]; (repeat rw [va_up_ne _ _ (by omega)]); exact va_up_self _ _ _, by rw [show lr - (m - 1) = lr - m + 1 by omega]; rw [zp_bkS, show lr - 1 - (lr - m) = m - 1 by omega, hk2, nI_clamp (by omega)]; (repeat rw [va_up_ne _ _ (by omega)]); exact va_up_self _ _ _⟩, (by (repeat rw [va_up_ne _ _ (by omega)]); exact hs4), (by (repeat rw [va_up_ne _ _ (by omega)]); exact hr0), (by (repeat rw [va_up_ne _ _ (by omega)]); exact hr1), (by (repeat rw [va_up_ne _ _ (by omega)]); exact hr2)⟩ (fun j hj => by (repeat rw [va_up_ne _ _ (by omega)]); exact e5 j hj)
  refine zj_aload_n C dc_U_goBack_0 rfl 0 rfl ?_
  refine zj_get (k := 5) C (by omega) hs0 rfl (by decide) fw_U fl_U_37 rfl rfl dc_U_goBack_1 ?_
  refine zj_iconst (v := 1) C dc_U_goBack_4 (by decide) ?_
  refine zj_isub C dc_U_goBack_5 ?_
  refine zj_istore_n C dc_U_goBack_6 rfl (by decide) rfl ?_
  refine zj_loc [0, 1, 2] rfl ?_
  exact loop (lr - rd) lr g rfl hrd (Nat.le_refl _) (by rw [Nat.sub_self]; exact ⟨hs0, ⟨hn0, hn1, hn2⟩, hs4, hr0, hr1, hr2⟩) (fun j hj => rfl)
end ZU
