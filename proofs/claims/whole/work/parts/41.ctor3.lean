section ZCV
/-- the model at the cells 108 .. 125: code, asked, found, kept, and its rows -/
def zs_M (z : zv_T) (ad : Nat → Nat) (g : Nat → va_E) (c as fo kp : Int32) (a : Nat → Nat → Int32) : Prop := g 108 = ze_o 7 [.int c, .ref (ad 109), .ref (ad 110), .ref (ad 111), .ref (ad 112), .ref (ad 113), .ref (ad 114), .int as, .ref (ad 115), .ref (ad 116), .int fo, .ref (ad 117), .ref (ad 118), .ref (ad 119), .ref (ad 120), .ref (ad 121), .int kp, .ref (ad 122), .ref (ad 123), .ref (ad 124), .ref (ad 125)] ∧ g 109 = ze_z z 8 (a 0) ∧ g 110 = ze_z z 8 (a 1) ∧ g 111 = ze_i z 8 (a 2) ∧ g 112 = ze_i z 8 (a 3) ∧ g 113 = ze_i z 1440 (a 4) ∧ g 114 = ze_i z 1440 (a 5) ∧ g 115 = ze_i z 8 (a 6) ∧ g 116 = ze_i z 8 (a 7) ∧ g 117 = ze_i z 1520 (a 8) ∧ g 118 = ze_i z 1520 (a 9) ∧ g 119 = ze_i z 1520 (a 10) ∧ g 120 = ze_i z 1520 (a 11) ∧ g 121 = ze_z z 1520 (a 12) ∧ g 122 = ze_i z 180 (a 13) ∧ g 123 = ze_i z 160 (a 14) ∧ g 124 = ze_i z 160 (a 15) ∧ g 125 = ze_z z 160 (a 16)
def rm_T_init : Room := { frames := 3, cells := 107, slots := 889, locals := 61 }
set_option maxHeartbeats 4000000 in
set_option maxRecDepth 100000 in
theorem ct_T_init (l : Launch) (hst : l.stackTraces = false) (z : zv_T) (ad : Nat → Nat) (g : Nat → va_E) (hg : g 0 = ze_o 6 [.null, .null, .null, .null, .null, .null]) : zm_d l mn_T_init ws_T_init rm_T_init z ad 1 g [.ref (ad 0)] 107 889 (fun a n g1 => n = 108 ∧ (∀ j, j < 1 → ad j = a j) ∧ zs_A z a g1 (fun _ => zu_0) ∧ zs_N z a g1 66 8 0 (fun _ => 0) (fun _ => 0) ∧ zs_F z a g1 0 0 0 (fun j => 71 + j) (fun _ => (0, 0, 0, 0, 0)) ∧ zs_R z a g1 103 104 0 0 (fun _ => 0) (fun _ => 0) (fun _ => 0) ∧ zs_W z a g1 0 0 0 (fun _ => 0) ∧ g1 107 = ze_i z 8 (fun _ => 0)) := by
  refine zm_ofd hst rfl pn_T_init rfl (Nat.le_of_ble_eq_true rfl) (fun X hX C hI hL => ?_)
  subst hX
  show zj_J X 0 0 _ ad 1 g 0 [(0, .ref (ad 0))] []
  have loop : ∀ (n t : Nat) (a : Nat → Nat) (g2 : Nat → va_E) (f : Nat → Option Nat), 8 - t = n → t ≤ 8 → (∀ j, j < 1 → ad j = a j) → g2 0 = ze_o 6 [.ref (a 1), .null, .null, .null, .null, .null] → g2 1 = ze_u z 8 f → (∀ j, j < t → f j = some (a (2 + 8 * j))) → (∀ u, u < t → zs_V z a g2 (2 + 8 * u) zu_0) → zj_J X (1 + 8 * t) (8 + 76 * t) (zj_Qc X 107 889 (fun a n g1 => n = 108 ∧ (∀ j, j < 1 → ad j = a j) ∧ zs_A z a g1 (fun _ => zu_0) ∧ zs_N z a g1 66 8 0 (fun _ => 0) (fun _ => 0) ∧ zs_F z a g1 0 0 0 (fun j => 71 + j) (fun _ => (0, 0, 0, 0, 0)) ∧ zs_R z a g1 103 104 0 0 (fun _ => 0) (fun _ => 0) (fun _ => 0) ∧ zs_W z a g1 0 0 0 (fun _ => 0) ∧ g1 107 = ze_i z 8 (fun _ => 0))) a (2 + 8 * t) g2 15 [(1, .int (nI t)), (0, .ref (a 0))] [] := by
    intro n
    induction n with
    | zero =>
      intro t a g2 f e0 e1' he h0 h1 hf hV
      refine zj_iload_n C dc_T_init_15 rfl 0 rfl ?_
      refine zj_bipush (v := 8) C dc_T_init_16 (by decide) ?_
      refine zj_icmp_ge C dc_T_init_18 rfl (fun _ => ?_) (fun h => absurd h (not_not_intro ((nI_leI (a := 8) (by omega) (by omega)).mpr (by omega))))
      obtain rfl : t = 8 := by omega
      show zj_J X 65 616 _ a 66 g2 40 _ _
      refine zj_aload_n C dc_T_init_40 rfl 1 rfl ?_
      refine zj_new (ci := 2) C [.null, .null, .int 0] rfl fw_N fy_N fk_N cl_T_16 ins_N ini_N df_N ⟨by show _ ≤ 107; omega, by show _ ≤ 889; omega⟩ dc_T_init_41 (fun a1 e1 => ?_)
      rw [e1 0 (by omega)]
      refine zj_dup C dc_T_init_44 rfl ?_
      refine zj_bipush (v := 8) C dc_T_init_45 (by decide) ?_
      refine zj_Ic (i := 66) C (ct_N_init _ hst z a1 66 8 _ (by decide) (va_up_self _ _ _)) (zt_C wk_N_init) rfl rfl rfl ini_N ml_T_18 im_N_init rfl hd_N_init ⟨(Nat.le_of_ble_eq_true rfl), (Nat.le_of_ble_eq_true rfl)⟩ rfl rfl (Nat.le_of_ble_eq_true rfl) ⟨by show _ ≤ 107; omega, by show _ ≤ 889; omega⟩ dc_T_init_47 (fun b1 M1 g1 h1 => ?_)
      obtain ⟨rfl, x1, f1, s1⟩ := h1
      rw [x1 0 (by omega), x1 66 (by omega)]
      refine zj_putF (k := 1) (i := 0) C hI (by omega) ((f1 0 (by omega)).trans ((va_up_ne _ _ (by omega)).trans h0)) rfl (by decide) fw_T fl_T_21 rfl fy_T fk_T fn_T rfl rfl rfl (Nat.le_of_ble_eq_true rfl) rfl rfl dc_T_init_50 ?_
      have E1 : ∀ j, j < 66 → a j = b1 j := fun j hj => (e1 j (by omega)).trans (x1 j (by omega))
      refine zj_aload_n C dc_T_init_53 rfl 1 rfl ?_
      refine zj_new (ci := 0) C [.null, .int 0, .int 0, .int 0] rfl fw_F fy_F fk_F cl_T_25 ins_F ini_F df_F ⟨by show _ ≤ 107; omega, by show _ ≤ 889; omega⟩ dc_T_init_54 (fun a2 e2 => ?_)
      rw [e2 0 (by omega)]
      refine zj_dup C dc_T_init_57 rfl ?_
      refine zj_Id (i := 69) C hL (ct_F_init _ hst z a2 _ (va_up_self _ _ _)) (zt_C wk_F_init) rfl rfl rfl ini_F ml_T_27 im_F_init rfl hd_F_init ⟨(Nat.le_of_ble_eq_true rfl), (Nat.le_of_ble_eq_true rfl)⟩ rfl rfl (Nat.le_of_ble_eq_true rfl) ⟨by show _ ≤ 107; omega, by show _ ≤ 889; omega⟩ dc_T_init_58 (fun b2 M2 g2' h2 => ?_)
      obtain ⟨rfl, x2, f2, s2⟩ := h2
      rw [x2 0 (by omega), x2 69 (by omega)]
      refine zj_putF (k := 2) (i := 0) C hI (by omega) ((f2 0 (by omega)).trans ((va_up_ne _ _ (by omega)).trans (va_up_self _ _ _))) rfl (by decide) fw_T fl_T_28 rfl fy_T fk_T fn_T rfl rfl rfl (Nat.le_of_ble_eq_true rfl) rfl rfl dc_T_init_61 ?_
      have E2 : ∀ j, j < 69 → b1 j = b2 j := fun j hj => (e2 j (by omega)).trans (x2 j (by omega))
      refine zj_aload_n C dc_T_init_64 rfl 1 rfl ?_
      refine zj_new (ci := 1) C [.null, .null, .null, .int 0, .int 0] rfl fw_R fy_R fk_R cl_T_32 ins_R ini_R df_R ⟨by show _ ≤ 107; omega, by show _ ≤ 889; omega⟩ dc_T_init_65 (fun a3 e3 => ?_)
      rw [e3 0 (by omega)]
      refine zj_dup C dc_T_init_68 rfl ?_
      refine zj_Ic (i := 101) C (ct_R_init _ hst z a3 _ (va_up_self _ _ _)) (zt_C wk_R_init) rfl rfl rfl ini_R ml_T_34 im_R_init rfl hd_R_init ⟨(Nat.le_of_ble_eq_true rfl), (Nat.le_of_ble_eq_true rfl)⟩ rfl rfl (Nat.le_of_ble_eq_true rfl) ⟨by show _ ≤ 107; omega, by show _ ≤ 889; omega⟩ dc_T_init_69 (fun b3 M3 g3 h3 => ?_)
      obtain ⟨rfl, x3, f3, s3⟩ := h3
      rw [x3 0 (by omega), x3 101 (by omega)]
      refine zj_putF (k := 3) (i := 0) C hI (by omega) ((f3 0 (by omega)).trans ((va_up_ne _ _ (by omega)).trans (va_up_self _ _ _))) rfl (by decide) fw_T fl_T_35 rfl fy_T fk_T fn_T rfl rfl rfl (Nat.le_of_ble_eq_true rfl) rfl rfl dc_T_init_72 ?_
      have E3 : ∀ j, j < 101 → b2 j = b3 j := fun j hj => (e3 j (by omega)).trans (x3 j (by omega))
      refine zj_aload_n C dc_T_init_75 rfl 1 rfl ?_
      refine zj_new (ci := 4) C [.null, .int 0, .int 0, .int 0] rfl fw_W fy_W fk_W cl_T_39 ins_W ini_W df_W ⟨by show _ ≤ 107; omega, by show _ ≤ 889; omega⟩ dc_T_init_76 (fun a4 e4 => ?_)
      rw [e4 0 (by omega)]
      refine zj_dup C dc_T_init_79 rfl ?_
      refine zj_Ic (i := 105) C (ct_W_init _ hst z a4 _ (va_up_self _ _ _)) (zt_C wk_W_init) rfl rfl rfl ini_W ml_T_41 im_W_init rfl hd_W_init ⟨(Nat.le_of_ble_eq_true rfl), (Nat.le_of_ble_eq_true rfl)⟩ rfl rfl (Nat.le_of_ble_eq_true rfl) ⟨by show _ ≤ 107; omega, by show _ ≤ 889; omega⟩ dc_T_init_80 (fun b4 M4 g4 h4 => ?_)
      obtain ⟨rfl, x4, f4, s4⟩ := h4
      rw [x4 0 (by omega), x4 105 (by omega)]
      refine zj_putF (k := 4) (i := 0) C hI (by omega) ((f4 0 (by omega)).trans ((va_up_ne _ _ (by omega)).trans (va_up_self _ _ _))) rfl (by decide) fw_T fl_T_42 rfl fy_T fk_T fn_T rfl rfl rfl (Nat.le_of_ble_eq_true rfl) rfl rfl dc_T_init_83 ?_
      have E4 : ∀ j, j < 105 → b3 j = b4 j := fun j hj => (e4 j (by omega)).trans (x4 j (by omega))
      refine zj_aload_n C dc_T_init_86 rfl 1 rfl ?_
      refine zj_bipush (v := 8) C dc_T_init_87 (by decide) ?_
      refine zj_fai (i := 0) (k := 5) (sz := 8) C hI (by omega) (va_up_self _ _ _) rfl (by decide) fw_T fl_T_46 rfl fy_T fk_T fn_T rfl (fun _ => rfl) (fun _ => rfl) (Nat.le_of_ble_eq_true rfl) rfl rfl rfl rfl (by decide) ⟨by show _ ≤ 107; omega, by show _ ≤ 889; omega⟩ dc_T_init_89 dc_T_init_91 (fun a5 g5 e5 n5 t5 f5 => ?_)
      have E5 : ∀ j, j < 107 → b4 j = a5 j := e5
      have G4 : ∀ j, j < 107 → j ≠ 0 → g5 j = g4 j := fun j h1 h2 => (f5 j (by omega) h2).trans (va_up_ne _ _ h2)
      have G3 : ∀ j, j < 105 → j ≠ 0 → g5 j = g3 j := fun j h1 h2 => (G4 j (by omega) h2).trans ((f4 j (by omega)).trans ((va_up_ne _ _ (by omega)).trans (va_up_ne _ _ h2)))
      have G2 : ∀ j, j < 101 → j ≠ 0 → g5 j = g2' j := fun j h1 h2 => (G3 j (by omega) h2).trans ((f3 j (by omega)).trans ((va_up_ne _ _ (by omega)).trans (va_up_ne _ _ h2)))
      have G1 : ∀ j, j < 69 → j ≠ 0 → g5 j = g1 j := fun j h1 h2 => (G2 j (by omega) h2).trans ((f2 j (by omega)).trans ((va_up_ne _ _ (by omega)).trans (va_up_ne _ _ h2)))
      have G0 : ∀ j, j < 66 → j ≠ 0 → g5 j = g2 j := fun j h1 h2 => (G1 j (by omega) h2).trans ((f1 j (by omega)).trans (va_up_ne _ _ (by omega)))
      have K4 : ∀ j, j < 107 → b4 j = a5 j := E5
      have K3 : ∀ j, j < 105 → b3 j = a5 j := fun j hj => (E4 j hj).trans (K4 j (by omega))
      have K2 : ∀ j, j < 101 → b2 j = a5 j := fun j hj => (E3 j hj).trans (K3 j (by omega))
      have K1 : ∀ j, j < 69 → b1 j = a5 j := fun j hj => (E2 j hj).trans (K2 j (by omega))
      have K0 : ∀ j, j < 66 → a j = a5 j := fun j hj => (E1 j hj).trans (K1 j (by omega))
      refine zj_cs rfl rfl rfl (zj_cret C dc_T_init_94 ⟨rfl, fun j hj => (he j hj).trans (K0 j (by omega)), ⟨?_, ⟨f, (G0 1 (by omega) (by omega)).trans h1, fun t ht => by rw [hf t ht, K0 _ (by omega)]⟩, fun t ht => zs_V_ad (fun j _ _ => K0 j (by omega)) (zs_V_fr (hV t ht) (fun j _ _ => G0 j (by omega) (by omega)))⟩, zs_N_ad (K1 _ (by omega)) (K1 _ (by omega)) (zs_N_fr s1 (fun j _ _ => G1 j (by omega) (by omega))), ?_, ?_, ?_, n5⟩)
      · rw [t5]
        show ze_o 6 [.ref (a 1), .ref (b1 66), .ref (b2 69), .ref (b3 101), .ref (b4 105), .ref (a5 107)] = _
        rw [K0 1 (by omega), K1 66 (by omega), K2 69 (by omega), K3 101 (by omega), K4 105 (by omega)]
      · obtain ⟨y1, ⟨y2, y3, y4⟩, y5, y6, y7⟩ := s2
        refine ⟨?_, ⟨y2, (G2 70 (by omega) (by omega)).trans y3, fun j hj => by rw [y4 j hj]; show some (b2 (71 + j)) = some (a5 (71 + j)); rw [K2 _ (by omega)]⟩, y5, y6, fun m h1 h2 => (G2 m (by omega) (by omega)).trans (y7 m h1 h2)⟩
        rw [G2 69 (by omega) (by omega), y1, K2 70 (by omega)]
      · obtain ⟨y1, y2, y3, y4, y5⟩ := s3
        refine ⟨?_, (G3 102 (by omega) (by omega)).trans y2, (G3 103 (by omega) (by omega)).trans y3, (G3 104 (by omega) (by omega)).trans y4, y5⟩
        rw [G3 101 (by omega) (by omega), y1, K3 102 (by omega), K3 103 (by omega), K3 104 (by omega)]
      · obtain ⟨y1, y2⟩ := s4
        refine ⟨?_, (G4 106 (by omega) (by omega)).trans y2⟩
        rw [G4 105 (by omega) (by omega), y1, K4 106 (by omega)]
    | succ n ih =>
      intro t a g2 f e0 e1 he h0 h1 hf hV
      refine zj_iload_n C dc_T_init_15 rfl 0 rfl ?_
      refine zj_bipush (v := 8) C dc_T_init_16 (by decide) ?_
      refine zj_icmp_ge C dc_T_init_18 rfl (fun h => absurd h ((zn_nle (a := 8) (by omega) (by omega)).mpr (by omega))) (fun _ => ?_)
      refine zj_aload_n C dc_T_init_21 rfl 1 rfl ?_
      refine zj_get (k := 0) C (by omega) h0 rfl (by decide) fw_T fl_T_11 rfl rfl dc_T_init_22 ?_
      refine zj_iload_n C dc_T_init_25 rfl 0 rfl ?_
      refine zj_new (ci := 5) C [.null, .null, .null, .int 0, .int 0, .int 0] rfl fw_U fy_U fk_U cl_T_9 ins_U ini_U df_U ⟨by show _ ≤ 107; omega, by show _ ≤ 889; omega⟩ dc_T_init_26 (fun a1 e9 => ?_)
      rw [e9 0 (by omega), e9 1 (by omega)]
      refine zj_dup C dc_T_init_29 rfl ?_
      refine zj_Ic (i := 2 + 8 * t) C (ct_U_init _ hst z a1 (2 + 8 * t) _ (va_up_self _ _ _)) (zt_C wk_U_init) rfl rfl rfl ini_U ml_T_15 im_U_init rfl hd_U_init ⟨(Nat.le_of_ble_eq_true rfl), (Nat.le_of_ble_eq_true rfl)⟩ rfl rfl (Nat.le_of_ble_eq_true rfl) ⟨by show _ ≤ 107; omega, by show _ ≤ 889; omega⟩ dc_T_init_30 (fun a2 N2 g3 h3 => ?_)
      obtain ⟨rfl, x3, f3, s3⟩ := h3
      rw [x3 0 (by omega), x3 1 (by omega), x3 (2 + 8 * t) (by omega)]
      have w3 : ∀ j, j < 2 + 8 * t → g3 j = g2 j := fun j hj => (f3 j hj).trans (va_up_ne _ _ (by omega))
      have c3 : ∀ j, j < 2 + 8 * t → a j = a2 j := fun j hj => (e9 j hj).trans (x3 j (by omega))
      refine zj_uast (v := 2 + 8 * t) C (by omega) ((w3 1 (by omega)).trans h1) rfl (by omega) (by decide) (by omega) s3.1 dc_T_init_33 ?_
      refine zj_iinc C dc_T_init_34 0 rfl (zn_inc t) (by decide) rfl ?_
      refine zj_goto C dc_T_init_37 rfl ?_
      refine zj_loc (L' := [(1, .int (nI (t + 1))), (0, .ref (a2 0))]) [0, 1] rfl ?_
      refine zj_cs (by omega) (by omega) (by omega) (ih (t + 1) a2 _ (va_up f t (some (a2 (2 + 8 * t)))) (by omega) (by omega) (fun j hj => (he j hj).trans (c3 j (by omega))) ?_ (va_up_self _ _ _) (fun j hj => ?_) (fun u hu => ?_))
      · rw [va_up_ne _ _ (by omega), w3 0 (by omega), h0, c3 1 (by omega)]
      · by_cases c : j = t
        · rw [c, va_up_self]
        · rw [va_up_ne _ _ c, hf j (by omega), c3 (2 + 8 * j) (by omega)]
      · by_cases c : u = t
        · rw [c]; exact zs_V_fr s3 (fun j _ _ => va_up_ne _ _ (by omega))
        · exact zs_V_ad (fun j _ _ => c3 j (by omega)) (zs_V_fr (hV u (by omega)) (fun j _ _ => (va_up_ne _ _ (by omega)).trans (w3 j (by omega))))
  refine zj_aload_n C dc_T_init_0 rfl 0 rfl ?_
  refine zj_obj (st0 := []) C ml_T_3 im_Object_init wk_Object_init ⟨(Nat.le_of_ble_eq_true rfl), (Nat.le_of_ble_eq_true rfl)⟩ dc_T_init_1 ?_
  refine zj_aload_n C dc_T_init_4 rfl 0 rfl ?_
  refine zj_bipush (v := 8) C dc_T_init_5 (by decide) ?_
  refine zj_newu (k := 8) C cl_T_9 rfl (by decide) ⟨(Nat.le_of_ble_eq_true rfl), (Nat.le_of_ble_eq_true rfl)⟩ dc_T_init_7 (fun a1 e1 => ?_)
  rw [e1 0 (by omega)]
  refine zj_putF (k := 0) (i := 0) C hI (by omega) ((va_up_ne _ _ (by omega)).trans hg) rfl (by decide) fw_T fl_T_11 rfl fy_T fk_T fn_T rfl rfl rfl (Nat.le_of_ble_eq_true rfl) rfl rfl dc_T_init_10 ?_
  refine zj_iconst (v := 0) C dc_T_init_13 (by decide) ?_
  refine zj_istore_n C dc_T_init_14 rfl (by decide) rfl ?_
  refine zj_loc (L' := [(1, .int (nI 0)), (0, .ref (a1 0))]) [0, 1] rfl ?_
  exact loop 8 0 a1 _ (fun _ => none) rfl (by omega) e1 (va_up_self _ _ _) ((va_up_ne _ _ (by omega)).trans (va_up_self _ _ _)) (fun j hj => absurd hj (Nat.not_lt_zero j)) (fun u hu => absurd hu (Nat.not_lt_zero u))
def rm_M_init : Room := { frames := 1, cells := 17, slots := 11188, locals := 20 }
set_option maxHeartbeats 4000000 in
set_option maxRecDepth 100000 in
theorem ct_M_init (l : Launch) (hst : l.stackTraces = false) (z : zv_T) (ad : Nat → Nat)  (g : Nat → va_E) (hg : g 108 = ze_o 7 [.int 0, .null, .null, .null, .null, .null, .null, .int 0, .null, .null, .int 0, .null, .null, .null, .null, .null, .int 0, .null, .null, .null, .null]) : zm_c l mn_M_init ws_M_init rm_M_init z ad 109 g [.ref (ad 108)] 17 11188 (fun a n g1 => n = 126 ∧ (∀ j, j < 109 → ad j = a j) ∧ (∀ j, j < 108 → g1 j = g j) ∧ zs_M z a g1 0 0 0 0 (fun _ _ => 0)) := by
  refine zm_ofc hst rfl pn_M_init rfl (Nat.le_of_ble_eq_true rfl) (fun X hX C hI => ?_)
  subst hX
  show zj_J X 0 0 _ ad 109 g 0 [(0, .ref (ad 108))] []
  refine zj_aload_n C dc_M_init_0 rfl 0 rfl ?_
  refine zj_obj (st0 := []) C ml_M_1 im_Object_init wk_Object_init ⟨(Nat.le_of_ble_eq_true rfl), (Nat.le_of_ble_eq_true rfl)⟩ dc_M_init_1 ?_
  refine zj_aload_n C dc_M_init_4 rfl 0 rfl ?_
  refine zj_bipush (v := 8) C dc_M_init_5 (by decide) ?_
  refine zj_faz (i := 108) (k := 1) (sz := 8) C hI (by omega) hg rfl (by decide) fw_M fl_M_7 rfl fy_M fk_M fn_M rfl (fun _ => rfl) (fun _ => rfl) (Nat.le_of_ble_eq_true rfl) rfl rfl rfl rfl (by decide) ⟨(Nat.le_of_ble_eq_true rfl), (Nat.le_of_ble_eq_true rfl)⟩ dc_M_init_7 dc_M_init_9 (fun a1 g1 e1 n1 t1 f1 => ?_)
  rw [e1 108 (by omega)]
  refine zj_aload_n C dc_M_init_12 rfl 0 rfl ?_
  refine zj_bipush (v := 8) C dc_M_init_13 (by decide) ?_
  refine zj_faz (i := 108) (k := 2) (sz := 8) C hI (by omega) t1 rfl (by decide) fw_M fl_M_13 rfl fy_M fk_M fn_M rfl (fun _ => rfl) (fun _ => rfl) (Nat.le_of_ble_eq_true rfl) rfl rfl rfl rfl (by decide) ⟨(Nat.le_of_ble_eq_true rfl), (Nat.le_of_ble_eq_true rfl)⟩ dc_M_init_15 dc_M_init_17 (fun a2 g2 e2 n2 t2 f2 => ?_)
  rw [e2 108 (by omega)]
  refine zj_aload_n C dc_M_init_20 rfl 0 rfl ?_
  refine zj_bipush (v := 8) C dc_M_init_21 (by decide) ?_
  refine zj_fai (i := 108) (k := 3) (sz := 8) C hI (by omega) t2 rfl (by decide) fw_M fl_M_16 rfl fy_M fk_M fn_M rfl (fun _ => rfl) (fun _ => rfl) (Nat.le_of_ble_eq_true rfl) rfl rfl rfl rfl (by decide) ⟨(Nat.le_of_ble_eq_true rfl), (Nat.le_of_ble_eq_true rfl)⟩ dc_M_init_23 dc_M_init_25 (fun a3 g3 e3 n3 t3 f3 => ?_)
  rw [e3 108 (by omega)]
  refine zj_aload_n C dc_M_init_28 rfl 0 rfl ?_
  refine zj_bipush (v := 8) C dc_M_init_29 (by decide) ?_
  refine zj_fai (i := 108) (k := 4) (sz := 8) C hI (by omega) t3 rfl (by decide) fw_M fl_M_20 rfl fy_M fk_M fn_M rfl (fun _ => rfl) (fun _ => rfl) (Nat.le_of_ble_eq_true rfl) rfl rfl rfl rfl (by decide) ⟨(Nat.le_of_ble_eq_true rfl), (Nat.le_of_ble_eq_true rfl)⟩ dc_M_init_31 dc_M_init_33 (fun a4 g4 e4 n4 t4 f4 => ?_)
  rw [e4 108 (by omega)]
  refine zj_aload_n C dc_M_init_36 rfl 0 rfl ?_
  refine zj_sipush (v := 1440) C dc_M_init_37 (by decide) ?_
  refine zj_fai (i := 108) (k := 5) (sz := 1440) C hI (by omega) t4 rfl (by decide) fw_M fl_M_23 rfl fy_M fk_M fn_M rfl (fun _ => rfl) (fun _ => rfl) (Nat.le_of_ble_eq_true rfl) rfl rfl rfl rfl (by decide) ⟨(Nat.le_of_ble_eq_true rfl), (Nat.le_of_ble_eq_true rfl)⟩ dc_M_init_40 dc_M_init_42 (fun a5 g5 e5 n5 t5 f5 => ?_)
  rw [e5 108 (by omega)]
  refine zj_aload_n C dc_M_init_45 rfl 0 rfl ?_
  refine zj_sipush (v := 1440) C dc_M_init_46 (by decide) ?_
  refine zj_fai (i := 108) (k := 6) (sz := 1440) C hI (by omega) t5 rfl (by decide) fw_M fl_M_26 rfl fy_M fk_M fn_M rfl (fun _ => rfl) (fun _ => rfl) (Nat.le_of_ble_eq_true rfl) rfl rfl rfl rfl (by decide) ⟨(Nat.le_of_ble_eq_true rfl), (Nat.le_of_ble_eq_true rfl)⟩ dc_M_init_49 dc_M_init_51 (fun a6 g6 e6 n6 t6 f6 => ?_)
  rw [e6 108 (by omega)]
  refine zj_aload_n C dc_M_init_54 rfl 0 rfl ?_
  refine zj_bipush (v := 8) C dc_M_init_55 (by decide) ?_
  refine zj_fai (i := 108) (k := 8) (sz := 8) C hI (by omega) t6 rfl (by decide) fw_M fl_M_29 rfl fy_M fk_M fn_M rfl (fun _ => rfl) (fun _ => rfl) (Nat.le_of_ble_eq_true rfl) rfl rfl rfl rfl (by decide) ⟨(Nat.le_of_ble_eq_true rfl), (Nat.le_of_ble_eq_true rfl)⟩ dc_M_init_57 dc_M_init_59 (fun a7 g7 e7 n7 t7 f7 => ?_)
  rw [e7 108 (by omega)]
  refine zj_aload_n C dc_M_init_62 rfl 0 rfl ?_
  refine zj_bipush (v := 8) C dc_M_init_63 (by decide) ?_
  refine zj_fai (i := 108) (k := 9) (sz := 8) C hI (by omega) t7 rfl (by decide) fw_M fl_M_32 rfl fy_M fk_M fn_M rfl (fun _ => rfl) (fun _ => rfl) (Nat.le_of_ble_eq_true rfl) rfl rfl rfl rfl (by decide) ⟨(Nat.le_of_ble_eq_true rfl), (Nat.le_of_ble_eq_true rfl)⟩ dc_M_init_65 dc_M_init_67 (fun a8 g8 e8 n8 t8 f8 => ?_)
  rw [e8 108 (by omega)]
  refine zj_aload_n C dc_M_init_70 rfl 0 rfl ?_
  refine zj_sipush (v := 1520) C dc_M_init_71 (by decide) ?_
  refine zj_fai (i := 108) (k := 11) (sz := 1520) C hI (by omega) t8 rfl (by decide) fw_M fl_M_35 rfl fy_M fk_M fn_M rfl (fun _ => rfl) (fun _ => rfl) (Nat.le_of_ble_eq_true rfl) rfl rfl rfl rfl (by decide) ⟨(Nat.le_of_ble_eq_true rfl), (Nat.le_of_ble_eq_true rfl)⟩ dc_M_init_74 dc_M_init_76 (fun a9 g9 e9 n9 t9 f9 => ?_)
  rw [e9 108 (by omega)]
  refine zj_aload_n C dc_M_init_79 rfl 0 rfl ?_
  refine zj_sipush (v := 1520) C dc_M_init_80 (by decide) ?_
  refine zj_fai (i := 108) (k := 12) (sz := 1520) C hI (by omega) t9 rfl (by decide) fw_M fl_M_38 rfl fy_M fk_M fn_M rfl (fun _ => rfl) (fun _ => rfl) (Nat.le_of_ble_eq_true rfl) rfl rfl rfl rfl (by decide) ⟨(Nat.le_of_ble_eq_true rfl), (Nat.le_of_ble_eq_true rfl)⟩ dc_M_init_83 dc_M_init_85 (fun a10 g10 e10 n10 t10 f10 => ?_)
  rw [e10 108 (by omega)]
  refine zj_aload_n C dc_M_init_88 rfl 0 rfl ?_
  refine zj_sipush (v := 1520) C dc_M_init_89 (by decide) ?_
  refine zj_fai (i := 108) (k := 13) (sz := 1520) C hI (by omega) t10 rfl (by decide) fw_M fl_M_41 rfl fy_M fk_M fn_M rfl (fun _ => rfl) (fun _ => rfl) (Nat.le_of_ble_eq_true rfl) rfl rfl rfl rfl (by decide) ⟨(Nat.le_of_ble_eq_true rfl), (Nat.le_of_ble_eq_true rfl)⟩ dc_M_init_92 dc_M_init_94 (fun a11 g11 e11 n11 t11 f11 => ?_)
  rw [e11 108 (by omega)]
  refine zj_aload_n C dc_M_init_97 rfl 0 rfl ?_
  refine zj_sipush (v := 1520) C dc_M_init_98 (by decide) ?_
  refine zj_fai (i := 108) (k := 14) (sz := 1520) C hI (by omega) t11 rfl (by decide) fw_M fl_M_44 rfl fy_M fk_M fn_M rfl (fun _ => rfl) (fun _ => rfl) (Nat.le_of_ble_eq_true rfl) rfl rfl rfl rfl (by decide) ⟨(Nat.le_of_ble_eq_true rfl), (Nat.le_of_ble_eq_true rfl)⟩ dc_M_init_101 dc_M_init_103 (fun a12 g12 e12 n12 t12 f12 => ?_)
  rw [e12 108 (by omega)]
  refine zj_aload_n C dc_M_init_106 rfl 0 rfl ?_
  refine zj_sipush (v := 1520) C dc_M_init_107 (by decide) ?_
  refine zj_faz (i := 108) (k := 15) (sz := 1520) C hI (by omega) t12 rfl (by decide) fw_M fl_M_47 rfl fy_M fk_M fn_M rfl (fun _ => rfl) (fun _ => rfl) (Nat.le_of_ble_eq_true rfl) rfl rfl rfl rfl (by decide) ⟨(Nat.le_of_ble_eq_true rfl), (Nat.le_of_ble_eq_true rfl)⟩ dc_M_init_110 dc_M_init_112 (fun a13 g13 e13 n13 t13 f13 => ?_)
  rw [e13 108 (by omega)]
  refine zj_aload_n C dc_M_init_115 rfl 0 rfl ?_
  refine zj_sipush (v := 180) C dc_M_init_116 (by decide) ?_
  refine zj_fai (i := 108) (k := 17) (sz := 180) C hI (by omega) t13 rfl (by decide) fw_M fl_M_50 rfl fy_M fk_M fn_M rfl (fun _ => rfl) (fun _ => rfl) (Nat.le_of_ble_eq_true rfl) rfl rfl rfl rfl (by decide) ⟨(Nat.le_of_ble_eq_true rfl), (Nat.le_of_ble_eq_true rfl)⟩ dc_M_init_119 dc_M_init_121 (fun a14 g14 e14 n14 t14 f14 => ?_)
  rw [e14 108 (by omega)]
  refine zj_aload_n C dc_M_init_124 rfl 0 rfl ?_
  refine zj_sipush (v := 160) C dc_M_init_125 (by decide) ?_
  refine zj_fai (i := 108) (k := 18) (sz := 160) C hI (by omega) t14 rfl (by decide) fw_M fl_M_53 rfl fy_M fk_M fn_M rfl (fun _ => rfl) (fun _ => rfl) (Nat.le_of_ble_eq_true rfl) rfl rfl rfl rfl (by decide) ⟨(Nat.le_of_ble_eq_true rfl), (Nat.le_of_ble_eq_true rfl)⟩ dc_M_init_128 dc_M_init_130 (fun a15 g15 e15 n15 t15 f15 => ?_)
  rw [e15 108 (by omega)]
  refine zj_aload_n C dc_M_init_133 rfl 0 rfl ?_
  refine zj_sipush (v := 160) C dc_M_init_134 (by decide) ?_
  refine zj_fai (i := 108) (k := 19) (sz := 160) C hI (by omega) t15 rfl (by decide) fw_M fl_M_56 rfl fy_M fk_M fn_M rfl (fun _ => rfl) (fun _ => rfl) (Nat.le_of_ble_eq_true rfl) rfl rfl rfl rfl (by decide) ⟨(Nat.le_of_ble_eq_true rfl), (Nat.le_of_ble_eq_true rfl)⟩ dc_M_init_137 dc_M_init_139 (fun a16 g16 e16 n16 t16 f16 => ?_)
  rw [e16 108 (by omega)]
  refine zj_aload_n C dc_M_init_142 rfl 0 rfl ?_
  refine zj_sipush (v := 160) C dc_M_init_143 (by decide) ?_
  refine zj_faz (i := 108) (k := 20) (sz := 160) C hI (by omega) t16 rfl (by decide) fw_M fl_M_59 rfl fy_M fk_M fn_M rfl (fun _ => rfl) (fun _ => rfl) (Nat.le_of_ble_eq_true rfl) rfl rfl rfl rfl (by decide) ⟨(Nat.le_of_ble_eq_true rfl), (Nat.le_of_ble_eq_true rfl)⟩ dc_M_init_146 dc_M_init_148 (fun a17 g17 e17 n17 t17 f17 => ?_)
  rw [e17 108 (by omega)]
  have w1 : a1 (108 + 1) = a17 (108 + 1) := ((e2 (108 + 1) (by omega)).trans ((e3 (108 + 1) (by omega)).trans ((e4 (108 + 1) (by omega)).trans ((e5 (108 + 1) (by omega)).trans ((e6 (108 + 1) (by omega)).trans ((e7 (108 + 1) (by omega)).trans ((e8 (108 + 1) (by omega)).trans ((e9 (108 + 1) (by omega)).trans ((e10 (108 + 1) (by omega)).trans ((e11 (108 + 1) (by omega)).trans ((e12 (108 + 1) (by omega)).trans ((e13 (108 + 1) (by omega)).trans ((e14 (108 + 1) (by omega)).trans ((e15 (108 + 1) (by omega)).trans ((e16 (108 + 1) (by omega)).trans (e17 (108 + 1) (by omega)))))))))))))))))
  have w2 : a2 (108 + 2) = a17 (108 + 2) := ((e3 (108 + 2) (by omega)).trans ((e4 (108 + 2) (by omega)).trans ((e5 (108 + 2) (by omega)).trans ((e6 (108 + 2) (by omega)).trans ((e7 (108 + 2) (by omega)).trans ((e8 (108 + 2) (by omega)).trans ((e9 (108 + 2) (by omega)).trans ((e10 (108 + 2) (by omega)).trans ((e11 (108 + 2) (by omega)).trans ((e12 (108 + 2) (by omega)).trans ((e13 (108 + 2) (by omega)).trans ((e14 (108 + 2) (by omega)).trans ((e15 (108 + 2) (by omega)).trans ((e16 (108 + 2) (by omega)).trans (e17 (108 + 2) (by omega))))))))))))))))
  have w3 : a3 (108 + 3) = a17 (108 + 3) := ((e4 (108 + 3) (by omega)).trans ((e5 (108 + 3) (by omega)).trans ((e6 (108 + 3) (by omega)).trans ((e7 (108 + 3) (by omega)).trans ((e8 (108 + 3) (by omega)).trans ((e9 (108 + 3) (by omega)).trans ((e10 (108 + 3) (by omega)).trans ((e11 (108 + 3) (by omega)).trans ((e12 (108 + 3) (by omega)).trans ((e13 (108 + 3) (by omega)).trans ((e14 (108 + 3) (by omega)).trans ((e15 (108 + 3) (by omega)).trans ((e16 (108 + 3) (by omega)).trans (e17 (108 + 3) (by omega)))))))))))))))
  have w4 : a4 (108 + 4) = a17 (108 + 4) := ((e5 (108 + 4) (by omega)).trans ((e6 (108 + 4) (by omega)).trans ((e7 (108 + 4) (by omega)).trans ((e8 (108 + 4) (by omega)).trans ((e9 (108 + 4) (by omega)).trans ((e10 (108 + 4) (by omega)).trans ((e11 (108 + 4) (by omega)).trans ((e12 (108 + 4) (by omega)).trans ((e13 (108 + 4) (by omega)).trans ((e14 (108 + 4) (by omega)).trans ((e15 (108 + 4) (by omega)).trans ((e16 (108 + 4) (by omega)).trans (e17 (108 + 4) (by omega))))))))))))))
  have w5 : a5 (108 + 5) = a17 (108 + 5) := ((e6 (108 + 5) (by omega)).trans ((e7 (108 + 5) (by omega)).trans ((e8 (108 + 5) (by omega)).trans ((e9 (108 + 5) (by omega)).trans ((e10 (108 + 5) (by omega)).trans ((e11 (108 + 5) (by omega)).trans ((e12 (108 + 5) (by omega)).trans ((e13 (108 + 5) (by omega)).trans ((e14 (108 + 5) (by omega)).trans ((e15 (108 + 5) (by omega)).trans ((e16 (108 + 5) (by omega)).trans (e17 (108 + 5) (by omega)))))))))))))
  have w6 : a6 (108 + 6) = a17 (108 + 6) := ((e7 (108 + 6) (by omega)).trans ((e8 (108 + 6) (by omega)).trans ((e9 (108 + 6) (by omega)).trans ((e10 (108 + 6) (by omega)).trans ((e11 (108 + 6) (by omega)).trans ((e12 (108 + 6) (by omega)).trans ((e13 (108 + 6) (by omega)).trans ((e14 (108 + 6) (by omega)).trans ((e15 (108 + 6) (by omega)).trans ((e16 (108 + 6) (by omega)).trans (e17 (108 + 6) (by omega))))))))))))
  have w7 : a7 (108 + 7) = a17 (108 + 7) := ((e8 (108 + 7) (by omega)).trans ((e9 (108 + 7) (by omega)).trans ((e10 (108 + 7) (by omega)).trans ((e11 (108 + 7) (by omega)).trans ((e12 (108 + 7) (by omega)).trans ((e13 (108 + 7) (by omega)).trans ((e14 (108 + 7) (by omega)).trans ((e15 (108 + 7) (by omega)).trans ((e16 (108 + 7) (by omega)).trans (e17 (108 + 7) (by omega)))))))))))
  have w8 : a8 (108 + 8) = a17 (108 + 8) := ((e9 (108 + 8) (by omega)).trans ((e10 (108 + 8) (by omega)).trans ((e11 (108 + 8) (by omega)).trans ((e12 (108 + 8) (by omega)).trans ((e13 (108 + 8) (by omega)).trans ((e14 (108 + 8) (by omega)).trans ((e15 (108 + 8) (by omega)).trans ((e16 (108 + 8) (by omega)).trans (e17 (108 + 8) (by omega))))))))))
  have w9 : a9 (108 + 9) = a17 (108 + 9) := ((e10 (108 + 9) (by omega)).trans ((e11 (108 + 9) (by omega)).trans ((e12 (108 + 9) (by omega)).trans ((e13 (108 + 9) (by omega)).trans ((e14 (108 + 9) (by omega)).trans ((e15 (108 + 9) (by omega)).trans ((e16 (108 + 9) (by omega)).trans (e17 (108 + 9) (by omega)))))))))
  have w10 : a10 (108 + 10) = a17 (108 + 10) := ((e11 (108 + 10) (by omega)).trans ((e12 (108 + 10) (by omega)).trans ((e13 (108 + 10) (by omega)).trans ((e14 (108 + 10) (by omega)).trans ((e15 (108 + 10) (by omega)).trans ((e16 (108 + 10) (by omega)).trans (e17 (108 + 10) (by omega))))))))
  have w11 : a11 (108 + 11) = a17 (108 + 11) := ((e12 (108 + 11) (by omega)).trans ((e13 (108 + 11) (by omega)).trans ((e14 (108 + 11) (by omega)).trans ((e15 (108 + 11) (by omega)).trans ((e16 (108 + 11) (by omega)).trans (e17 (108 + 11) (by omega)))))))
  have w12 : a12 (108 + 12) = a17 (108 + 12) := ((e13 (108 + 12) (by omega)).trans ((e14 (108 + 12) (by omega)).trans ((e15 (108 + 12) (by omega)).trans ((e16 (108 + 12) (by omega)).trans (e17 (108 + 12) (by omega))))))
  have w13 : a13 (108 + 13) = a17 (108 + 13) := ((e14 (108 + 13) (by omega)).trans ((e15 (108 + 13) (by omega)).trans ((e16 (108 + 13) (by omega)).trans (e17 (108 + 13) (by omega)))))
  have w14 : a14 (108 + 14) = a17 (108 + 14) := ((e15 (108 + 14) (by omega)).trans ((e16 (108 + 14) (by omega)).trans (e17 (108 + 14) (by omega))))
  have w15 : a15 (108 + 15) = a17 (108 + 15) := ((e16 (108 + 15) (by omega)).trans (e17 (108 + 15) (by omega)))
  have w16 : a16 (108 + 16) = a17 (108 + 16) := (e17 (108 + 16) (by omega))
  have hT : g17 108 = ze_o 7 [.int 0, .ref (a17 (108 + 1)), .ref (a17 (108 + 2)), .ref (a17 (108 + 3)), .ref (a17 (108 + 4)), .ref (a17 (108 + 5)), .ref (a17 (108 + 6)), .int 0, .ref (a17 (108 + 7)), .ref (a17 (108 + 8)), .int 0, .ref (a17 (108 + 9)), .ref (a17 (108 + 10)), .ref (a17 (108 + 11)), .ref (a17 (108 + 12)), .ref (a17 (108 + 13)), .int 0, .ref (a17 (108 + 14)), .ref (a17 (108 + 15)), .ref (a17 (108 + 16)), .ref (a17 (108 + 17))] := by
    rw [t17]
    rw [← w1, ← w2, ← w3, ← w4, ← w5, ← w6, ← w7, ← w8, ← w9, ← w10, ← w11, ← w12, ← w13, ← w14, ← w15, ← w16]
    rfl
  have hA1 : g17 (108 + 1) = _ := ((f17 (108 + 1) (by omega) (by omega)).trans ((f16 (108 + 1) (by omega) (by omega)).trans ((f15 (108 + 1) (by omega) (by omega)).trans ((f14 (108 + 1) (by omega) (by omega)).trans ((f13 (108 + 1) (by omega) (by omega)).trans ((f12 (108 + 1) (by omega) (by omega)).trans ((f11 (108 + 1) (by omega) (by omega)).trans ((f10 (108 + 1) (by omega) (by omega)).trans ((f9 (108 + 1) (by omega) (by omega)).trans ((f8 (108 + 1) (by omega) (by omega)).trans ((f7 (108 + 1) (by omega) (by omega)).trans ((f6 (108 + 1) (by omega) (by omega)).trans ((f5 (108 + 1) (by omega) (by omega)).trans ((f4 (108 + 1) (by omega) (by omega)).trans ((f3 (108 + 1) (by omega) (by omega)).trans ((f2 (108 + 1) (by omega) (by omega)).trans n1))))))))))))))))
  have hA2 : g17 (108 + 2) = _ := ((f17 (108 + 2) (by omega) (by omega)).trans ((f16 (108 + 2) (by omega) (by omega)).trans ((f15 (108 + 2) (by omega) (by omega)).trans ((f14 (108 + 2) (by omega) (by omega)).trans ((f13 (108 + 2) (by omega) (by omega)).trans ((f12 (108 + 2) (by omega) (by omega)).trans ((f11 (108 + 2) (by omega) (by omega)).trans ((f10 (108 + 2) (by omega) (by omega)).trans ((f9 (108 + 2) (by omega) (by omega)).trans ((f8 (108 + 2) (by omega) (by omega)).trans ((f7 (108 + 2) (by omega) (by omega)).trans ((f6 (108 + 2) (by omega) (by omega)).trans ((f5 (108 + 2) (by omega) (by omega)).trans ((f4 (108 + 2) (by omega) (by omega)).trans ((f3 (108 + 2) (by omega) (by omega)).trans n2)))))))))))))))
  have hA3 : g17 (108 + 3) = _ := ((f17 (108 + 3) (by omega) (by omega)).trans ((f16 (108 + 3) (by omega) (by omega)).trans ((f15 (108 + 3) (by omega) (by omega)).trans ((f14 (108 + 3) (by omega) (by omega)).trans ((f13 (108 + 3) (by omega) (by omega)).trans ((f12 (108 + 3) (by omega) (by omega)).trans ((f11 (108 + 3) (by omega) (by omega)).trans ((f10 (108 + 3) (by omega) (by omega)).trans ((f9 (108 + 3) (by omega) (by omega)).trans ((f8 (108 + 3) (by omega) (by omega)).trans ((f7 (108 + 3) (by omega) (by omega)).trans ((f6 (108 + 3) (by omega) (by omega)).trans ((f5 (108 + 3) (by omega) (by omega)).trans ((f4 (108 + 3) (by omega) (by omega)).trans n3))))))))))))))
  have hA4 : g17 (108 + 4) = _ := ((f17 (108 + 4) (by omega) (by omega)).trans ((f16 (108 + 4) (by omega) (by omega)).trans ((f15 (108 + 4) (by omega) (by omega)).trans ((f14 (108 + 4) (by omega) (by omega)).trans ((f13 (108 + 4) (by omega) (by omega)).trans ((f12 (108 + 4) (by omega) (by omega)).trans ((f11 (108 + 4) (by omega) (by omega)).trans ((f10 (108 + 4) (by omega) (by omega)).trans ((f9 (108 + 4) (by omega) (by omega)).trans ((f8 (108 + 4) (by omega) (by omega)).trans ((f7 (108 + 4) (by omega) (by omega)).trans ((f6 (108 + 4) (by omega) (by omega)).trans ((f5 (108 + 4) (by omega) (by omega)).trans n4)))))))))))))
  have hA5 : g17 (108 + 5) = _ := ((f17 (108 + 5) (by omega) (by omega)).trans ((f16 (108 + 5) (by omega) (by omega)).trans ((f15 (108 + 5) (by omega) (by omega)).trans ((f14 (108 + 5) (by omega) (by omega)).trans ((f13 (108 + 5) (by omega) (by omega)).trans ((f12 (108 + 5) (by omega) (by omega)).trans ((f11 (108 + 5) (by omega) (by omega)).trans ((f10 (108 + 5) (by omega) (by omega)).trans ((f9 (108 + 5) (by omega) (by omega)).trans ((f8 (108 + 5) (by omega) (by omega)).trans ((f7 (108 + 5) (by omega) (by omega)).trans ((f6 (108 + 5) (by omega) (by omega)).trans n5))))))))))))
  have hA6 : g17 (108 + 6) = _ := ((f17 (108 + 6) (by omega) (by omega)).trans ((f16 (108 + 6) (by omega) (by omega)).trans ((f15 (108 + 6) (by omega) (by omega)).trans ((f14 (108 + 6) (by omega) (by omega)).trans ((f13 (108 + 6) (by omega) (by omega)).trans ((f12 (108 + 6) (by omega) (by omega)).trans ((f11 (108 + 6) (by omega) (by omega)).trans ((f10 (108 + 6) (by omega) (by omega)).trans ((f9 (108 + 6) (by omega) (by omega)).trans ((f8 (108 + 6) (by omega) (by omega)).trans ((f7 (108 + 6) (by omega) (by omega)).trans n6)))))))))))
  have hA7 : g17 (108 + 7) = _ := ((f17 (108 + 7) (by omega) (by omega)).trans ((f16 (108 + 7) (by omega) (by omega)).trans ((f15 (108 + 7) (by omega) (by omega)).trans ((f14 (108 + 7) (by omega) (by omega)).trans ((f13 (108 + 7) (by omega) (by omega)).trans ((f12 (108 + 7) (by omega) (by omega)).trans ((f11 (108 + 7) (by omega) (by omega)).trans ((f10 (108 + 7) (by omega) (by omega)).trans ((f9 (108 + 7) (by omega) (by omega)).trans ((f8 (108 + 7) (by omega) (by omega)).trans n7))))))))))
  have hA8 : g17 (108 + 8) = _ := ((f17 (108 + 8) (by omega) (by omega)).trans ((f16 (108 + 8) (by omega) (by omega)).trans ((f15 (108 + 8) (by omega) (by omega)).trans ((f14 (108 + 8) (by omega) (by omega)).trans ((f13 (108 + 8) (by omega) (by omega)).trans ((f12 (108 + 8) (by omega) (by omega)).trans ((f11 (108 + 8) (by omega) (by omega)).trans ((f10 (108 + 8) (by omega) (by omega)).trans ((f9 (108 + 8) (by omega) (by omega)).trans n8)))))))))
  have hA9 : g17 (108 + 9) = _ := ((f17 (108 + 9) (by omega) (by omega)).trans ((f16 (108 + 9) (by omega) (by omega)).trans ((f15 (108 + 9) (by omega) (by omega)).trans ((f14 (108 + 9) (by omega) (by omega)).trans ((f13 (108 + 9) (by omega) (by omega)).trans ((f12 (108 + 9) (by omega) (by omega)).trans ((f11 (108 + 9) (by omega) (by omega)).trans ((f10 (108 + 9) (by omega) (by omega)).trans n9))))))))
  have hA10 : g17 (108 + 10) = _ := ((f17 (108 + 10) (by omega) (by omega)).trans ((f16 (108 + 10) (by omega) (by omega)).trans ((f15 (108 + 10) (by omega) (by omega)).trans ((f14 (108 + 10) (by omega) (by omega)).trans ((f13 (108 + 10) (by omega) (by omega)).trans ((f12 (108 + 10) (by omega) (by omega)).trans ((f11 (108 + 10) (by omega) (by omega)).trans n10)))))))
  have hA11 : g17 (108 + 11) = _ := ((f17 (108 + 11) (by omega) (by omega)).trans ((f16 (108 + 11) (by omega) (by omega)).trans ((f15 (108 + 11) (by omega) (by omega)).trans ((f14 (108 + 11) (by omega) (by omega)).trans ((f13 (108 + 11) (by omega) (by omega)).trans ((f12 (108 + 11) (by omega) (by omega)).trans n11))))))
  have hA12 : g17 (108 + 12) = _ := ((f17 (108 + 12) (by omega) (by omega)).trans ((f16 (108 + 12) (by omega) (by omega)).trans ((f15 (108 + 12) (by omega) (by omega)).trans ((f14 (108 + 12) (by omega) (by omega)).trans ((f13 (108 + 12) (by omega) (by omega)).trans n12)))))
  have hA13 : g17 (108 + 13) = _ := ((f17 (108 + 13) (by omega) (by omega)).trans ((f16 (108 + 13) (by omega) (by omega)).trans ((f15 (108 + 13) (by omega) (by omega)).trans ((f14 (108 + 13) (by omega) (by omega)).trans n13))))
  have hA14 : g17 (108 + 14) = _ := ((f17 (108 + 14) (by omega) (by omega)).trans ((f16 (108 + 14) (by omega) (by omega)).trans ((f15 (108 + 14) (by omega) (by omega)).trans n14)))
  have hA15 : g17 (108 + 15) = _ := ((f17 (108 + 15) (by omega) (by omega)).trans ((f16 (108 + 15) (by omega) (by omega)).trans n15))
  have hA16 : g17 (108 + 16) = _ := ((f17 (108 + 16) (by omega) (by omega)).trans n16)
  have hA17 : g17 (108 + 17) = _ := n17
  have hE : ∀ j, j < 108 + 1 → ad j = a17 j := fun j hj => ((e1 (j) (by omega)).trans ((e2 (j) (by omega)).trans ((e3 (j) (by omega)).trans ((e4 (j) (by omega)).trans ((e5 (j) (by omega)).trans ((e6 (j) (by omega)).trans ((e7 (j) (by omega)).trans ((e8 (j) (by omega)).trans ((e9 (j) (by omega)).trans ((e10 (j) (by omega)).trans ((e11 (j) (by omega)).trans ((e12 (j) (by omega)).trans ((e13 (j) (by omega)).trans ((e14 (j) (by omega)).trans ((e15 (j) (by omega)).trans ((e16 (j) (by omega)).trans (e17 (j) (by omega))))))))))))))))))
  have hF : ∀ j, j < 108 → g17 j = g j := fun j hj => ((f17 (j) (by omega) (by omega)).trans ((f16 (j) (by omega) (by omega)).trans ((f15 (j) (by omega) (by omega)).trans ((f14 (j) (by omega) (by omega)).trans ((f13 (j) (by omega) (by omega)).trans ((f12 (j) (by omega) (by omega)).trans ((f11 (j) (by omega) (by omega)).trans ((f10 (j) (by omega) (by omega)).trans ((f9 (j) (by omega) (by omega)).trans ((f8 (j) (by omega) (by omega)).trans ((f7 (j) (by omega) (by omega)).trans ((f6 (j) (by omega) (by omega)).trans ((f5 (j) (by omega) (by omega)).trans ((f4 (j) (by omega) (by omega)).trans ((f3 (j) (by omega) (by omega)).trans ((f2 (j) (by omega) (by omega)).trans ((f1 (j) (by omega) (by omega)).trans rfl)))))))))))))))))
  refine zj_cs rfl rfl rfl (zj_cret C dc_M_init_151 ⟨rfl, hE, hF, hT, hA1, hA2, hA3, hA4, hA5, hA6, hA7, hA8, hA9, hA10, hA11, hA12, hA13, hA14, hA15, hA16, hA17⟩)
end ZCV
