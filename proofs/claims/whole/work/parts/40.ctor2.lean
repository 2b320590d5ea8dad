section ZCU
theorem df_N : ∀ j, j < 3 → defaultValue (fy_N j) = vp_V [.null, .null, .int 0] j := by
  intro j hj
  have h9 : j = 0 ∨ j = 1 ∨ j = 2 := by omega
  rcases h9 with rfl | rfl | rfl <;> rfl
theorem df_P : ∀ j, j < 5 → defaultValue (fy_P j) = vp_V [.int 0, .int 0, .int 0, .int 0, .int 0] j := by
  intro j hj
  have h9 : j = 0 ∨ j = 1 ∨ j = 2 ∨ j = 3 ∨ j = 4 := by omega
  rcases h9 with rfl | rfl | rfl | rfl | rfl <;> rfl
theorem df_U : ∀ j, j < 6 → defaultValue (fy_U j) = vp_V [.null, .null, .null, .int 0, .int 0, .int 0] j := by
  intro j hj
  have h9 : j = 0 ∨ j = 1 ∨ j = 2 ∨ j = 3 ∨ j = 4 ∨ j = 5 := by omega
  rcases h9 with rfl | rfl | rfl | rfl | rfl | rfl <;> rfl
theorem df_F : ∀ j, j < 4 → defaultValue (fy_F j) = vp_V [.null, .int 0, .int 0, .int 0] j := by
  intro j hj
  have h9 : j = 0 ∨ j = 1 ∨ j = 2 ∨ j = 3 := by omega
  rcases h9 with rfl | rfl | rfl | rfl <;> rfl
theorem df_R : ∀ j, j < 5 → defaultValue (fy_R j) = vp_V [.null, .null, .null, .int 0, .int 0] j := by
  intro j hj
  have h9 : j = 0 ∨ j = 1 ∨ j = 2 ∨ j = 3 ∨ j = 4 := by omega
  rcases h9 with rfl | rfl | rfl | rfl | rfl <;> rfl
theorem df_W : ∀ j, j < 4 → defaultValue (fy_W j) = vp_V [.null, .int 0, .int 0, .int 0] j := by
  intro j hj
  have h9 : j = 0 ∨ j = 1 ∨ j = 2 ∨ j = 3 := by omega
  rcases h9 with rfl | rfl | rfl | rfl <;> rfl
theorem df_T : ∀ j, j < 6 → defaultValue (fy_T j) = vp_V [.null, .null, .null, .null, .null, .null] j := by
  intro j hj
  have h9 : j = 0 ∨ j = 1 ∨ j = 2 ∨ j = 3 ∨ j = 4 ∨ j = 5 := by omega
  rcases h9 with rfl | rfl | rfl | rfl | rfl | rfl <;> rfl
theorem df_M : ∀ j, j < 21 → defaultValue (fy_M j) = vp_V [.int 0, .null, .null, .null, .null, .null, .null, .int 0, .null, .null, .int 0, .null, .null, .null, .null, .null, .int 0, .null, .null, .null, .null] j := by
  intro j hj
  have h9 : j = 0 ∨ j = 1 ∨ j = 2 ∨ j = 3 ∨ j = 4 ∨ j = 5 ∨ j = 6 ∨ j = 7 ∨ j = 8 ∨ j = 9 ∨ j = 10 ∨ j = 11 ∨ j = 12 ∨ j = 13 ∨ j = 14 ∨ j = 15 ∨ j = 16 ∨ j = 17 ∨ j = 18 ∨ j = 19 ∨ j = 20 := by omega
  rcases h9 with rfl | rfl | rfl | rfl | rfl | rfl | rfl | rfl | rfl | rfl | rfl | rfl | rfl | rfl | rfl | rfl | rfl | rfl | rfl | rfl | rfl <;> rfl

def zu_0 : zu_S := (false, false, 0, 0, fun _ => 0, fun _ => 0, fun _ => 0, fun _ => 0, fun _ => 0)
theorem zs_N_ad {z : zv_T} {a a1 : Nat → Nat} {g : Nat → va_E} {i most c : Nat} {p q : Nat → Int32} (h1 : a (i + 1) = a1 (i + 1)) (h2 : a (i + 2) = a1 (i + 2)) (h : zs_N z a g i most c p q) : zs_N z a1 g i most c p q := by
  obtain ⟨x, y, w⟩ := h
  rw [h1, h2] at x
  exact ⟨x, y, w⟩
theorem zs_V_ad {z : zv_T} {a a1 : Nat → Nat} {g : Nat → va_E} {b : Nat} {s : zu_S} (h : ∀ j, b ≤ j → j < b + 8 → a j = a1 j) (hv : zs_V z a g b s) : zs_V z a1 g b s := by
  obtain ⟨x, y, w, v⟩ := hv
  rw [h (b + 1) (by omega) (by omega), h (b + 4) (by omega) (by omega), h (b + 5) (by omega) (by omega)] at x
  exact ⟨x, zs_N_ad (h _ (by omega) (by omega)) (h _ (by omega) (by omega)) y, w, zs_N_ad (h _ (by omega) (by omega)) (h _ (by omega) (by omega)) v⟩
def rm_U_init : Room := { frames := 2, cells := 7, slots := 70, locals := 41 }
set_option maxHeartbeats 4000000 in
set_option maxRecDepth 100000 in
theorem ct_U_init (l : Launch) (hst : l.stackTraces = false) (z : zv_T) (ad : Nat → Nat) (b : Nat) (g : Nat → va_E) (hg : g b = ze_o 5 [.null, .null, .null, .int 0, .int 0, .int 0]) : zm_c l mn_U_init ws_U_init rm_U_init z ad (b + 1) g [.ref (ad b)] 7 70 (fun a n g1 => n = b + 8 ∧ (∀ j, j < b + 1 → ad j = a j) ∧ (∀ j, j < b → g1 j = g j) ∧ zs_V z a g1 b zu_0) := by
  refine zm_ofc hst rfl pn_U_init rfl (Nat.le_of_ble_eq_true rfl) (fun X hX C hI => ?_)
  subst hX
  show zj_J X 0 0 _ ad (b + 1) g 0 [(0, .ref (ad b))] []
  refine zj_aload_n C dc_U_init_0 rfl 0 rfl ?_
  refine zj_obj (st0 := []) C ml_U_3 im_Object_init wk_Object_init ⟨(Nat.le_of_ble_eq_true rfl), (Nat.le_of_ble_eq_true rfl)⟩ dc_U_init_1 ?_
  refine zj_aload_n C dc_U_init_4 rfl 0 rfl ?_
  refine zj_new (ci := 2) C [.null, .null, .int 0] rfl fw_N fy_N fk_N cl_U_9 ins_N ini_N df_N ⟨(Nat.le_of_ble_eq_true rfl), (Nat.le_of_ble_eq_true rfl)⟩ dc_U_init_5 (fun a1 e1 => ?_)
  rw [e1 b (by omega)]
  refine zj_dup C dc_U_init_8 rfl ?_
  refine zj_bipush (v := 20) C dc_U_init_9 (by decide) ?_
  refine zj_Ic (i := b + 1) C (ct_N_init _ hst z a1 (b + 1) 20 _ (by decide) (va_up_self _ _ _)) (zt_C wk_N_init) rfl rfl rfl ini_N ml_U_11 im_N_init rfl hd_N_init ⟨(Nat.le_of_ble_eq_true rfl), (Nat.le_of_ble_eq_true rfl)⟩ rfl rfl (Nat.le_of_ble_eq_true rfl) ⟨(Nat.le_of_ble_eq_true rfl), (Nat.le_of_ble_eq_true rfl)⟩ dc_U_init_11 (fun a2 N2 g2 h2 => ?_)
  obtain ⟨rfl, e2, f2, s2⟩ := h2
  rw [e2 b (by omega), e2 (b + 1) (by omega)]
  refine zj_putF (k := 0) (i := b) C hI (by omega) ((f2 b (by omega)).trans ((va_up_ne _ _ (by omega)).trans hg)) rfl (by decide) fw_U fl_U_14 rfl fy_U fk_U fn_U rfl rfl rfl (Nat.le_of_ble_eq_true rfl) rfl rfl dc_U_init_14 ?_
  refine zj_aload_n C dc_U_init_17 rfl 0 rfl ?_
  refine zj_bipush (v := 8) C dc_U_init_18 (by decide) ?_
  refine zj_fai (i := b) (k := 1) (sz := 8) C hI (by omega) (va_up_self _ _ _) rfl (by decide) fw_U fl_U_20 rfl fy_U fk_U fn_U rfl (fun _ => rfl) (fun _ => rfl) (Nat.le_of_ble_eq_true rfl) rfl rfl rfl rfl (by decide) ⟨(Nat.le_of_ble_eq_true rfl), (Nat.le_of_ble_eq_true rfl)⟩ dc_U_init_20 dc_U_init_22 (fun a3 g3 e3 n3 t3 f3 => ?_)
  rw [e3 b (by omega)]
  refine zj_aload_n C dc_U_init_25 rfl 0 rfl ?_
  refine zj_new (ci := 2) C [.null, .null, .int 0] rfl fw_N fy_N fk_N cl_U_9 ins_N ini_N df_N ⟨(Nat.le_of_ble_eq_true rfl), (Nat.le_of_ble_eq_true rfl)⟩ dc_U_init_26 (fun a4 e4 => ?_)
  rw [e4 b (by omega)]
  refine zj_dup C dc_U_init_29 rfl ?_
  refine zj_bipush (v := 8) C dc_U_init_30 (by decide) ?_
  refine zj_Ic (i := b + 5) C (ct_N_init _ hst z a4 (b + 5) 8 _ (by decide) (va_up_self _ _ _)) (zt_C wk_N_init) rfl rfl rfl ini_N ml_U_11 im_N_init rfl hd_N_init ⟨(Nat.le_of_ble_eq_true rfl), (Nat.le_of_ble_eq_true rfl)⟩ rfl rfl (Nat.le_of_ble_eq_true rfl) ⟨(Nat.le_of_ble_eq_true rfl), (Nat.le_of_ble_eq_true rfl)⟩ dc_U_init_32 (fun a5 N5 g5 h5 => ?_)
  obtain ⟨rfl, e5, f5, s5⟩ := h5
  rw [e5 b (by omega), e5 (b + 1 + 3 + 1) (by omega)]
  refine zj_putF (k := 2) (i := b) C hI (by omega) ((f5 b (by omega)).trans ((va_up_ne _ _ (by omega)).trans t3)) rfl (by decide) fw_U fl_U_24 rfl fy_U fk_U fn_U rfl rfl rfl (Nat.le_of_ble_eq_true rfl) rfl rfl dc_U_init_35 ?_
  have c2 : ∀ j, j < b + 4 → a2 j = a5 j := fun j hj => (e3 j (by omega)).trans ((e4 j (by omega)).trans (e5 j (by omega)))
  have w2 : ∀ j, j < b + 4 → j ≠ b → va_up g5 b (ze_o 5 ((([Value.null, .null, .null, .int 0, .int 0, .int 0].set 0 (.ref (a2 (b + 1)))).set 1 (.ref (a3 (b + 1 + 3)))).set 2 (.ref (a5 (b + 1 + 3 + 1))))) j = g2 j := fun j h1 h2 => (va_up_ne _ _ h2).trans ((f5 j (by omega)).trans ((va_up_ne _ _ (by omega)).trans ((f3 j (by omega) h2).trans (va_up_ne _ _ h2))))
  refine zj_cret C dc_U_init_38 ⟨rfl, fun j hj => (e1 j (by omega)).trans ((e2 j (by omega)).trans (c2 j (by omega))), fun j hj => (w2 j (by omega) (by omega)).trans ((f2 j (by omega)).trans (va_up_ne _ _ (by omega))), ?_, ?_, ?_, ?_⟩
  · refine (va_up_self _ _ _).trans ?_
    rw [c2 (b + 1) (by omega), (e4 (b + 1 + 3) (by omega)).trans (e5 (b + 1 + 3) (by omega))]
    rfl
  · exact zs_N_ad (c2 _ (by omega)) (c2 _ (by omega)) (zs_N_fr s2 (fun j h1 h2 => w2 j (by omega) (by omega)))
  · exact (va_up_ne _ _ (by omega)).trans ((f5 (b + 4) (by omega)).trans ((va_up_ne _ _ (by omega)).trans n3))
  · exact zs_N_fr s5 (fun j h1 h2 => va_up_ne _ _ (by omega))
def rm_F_init : Room := { frames := 2, cells := 31, slots := 180, locals := 40 }
set_option maxHeartbeats 4000000 in
set_option maxRecDepth 100000 in
theorem ct_F_init (l : Launch) (hst : l.stackTraces = false) (z : zv_T) (ad : Nat → Nat) (g : Nat → va_E) (hg : g 69 = ze_o 0 [.null, .int 0, .int 0, .int 0]) : zm_d l mn_F_init ws_F_init rm_F_init z ad 70 g [.ref (ad 69)] 31 180 (fun a n g1 => n = 101 ∧ (∀ j, j < 70 → ad j = a j) ∧ (∀ j, j < 69 → g1 j = g j) ∧ zs_F z a g1 0 0 0 (fun j => 71 + j) (fun _ => (0, 0, 0, 0, 0))) := by
  refine zm_ofd hst rfl pn_F_init rfl (Nat.le_of_ble_eq_true rfl) (fun X hX C hI hL => ?_)
  subst hX
  show zj_J X 0 0 _ ad 70 g 0 [(0, .ref (ad 69))] []
  have loop : ∀ (n k : Nat) (a : Nat → Nat) (g2 : Nat → va_E) (f : Nat → Option Nat), 30 - k = n → k ≤ 30 → (∀ j, j < 70 → ad j = a j) → (∀ j, j < 69 → g2 j = g j) → g2 69 = ze_o 0 [.ref (a 70), .int 0, .int 0, .int 0] → g2 70 = ze_p z 30 f → (∀ j, j < k → f j = some (a (71 + j))) → (∀ m, 71 ≤ m → m < 71 + k → g2 m = zs_P (0, 0, 0, 0, 0)) → zj_J X (1 + k) (30 + 5 * k) (zj_Qc X 31 180 (fun a n g1 => n = 101 ∧ (∀ j, j < 70 → ad j = a j) ∧ (∀ j, j < 69 → g1 j = g j) ∧ zs_F z a g1 0 0 0 (fun j => 71 + j) (fun _ => (0, 0, 0, 0, 0)))) a (71 + k) g2 15 [(1, .int (nI k)), (0, .ref (a 69))] [] := by
    intro n
    induction n with
    | zero =>
      intro k a g2 f e0 e1 he hfr h69 h70 hf hm
      refine zj_iload_n C dc_F_init_15 rfl 0 rfl ?_
      refine zj_bipush (v := 30) C dc_F_init_16 (by decide) ?_
      refine zj_icmp_ge C dc_F_init_18 rfl (fun _ => ?_) (fun h => absurd h (not_not_intro ((nI_leI (a := 30) (by omega) (by omega)).mpr (by omega))))
      obtain rfl : k = 30 := by omega
      exact zj_cret C dc_F_init_40 ⟨rfl, he, hfr, h69, ⟨f, h70, hf⟩, fun j hj => ⟨by show 71 ≤ 71 + j; omega, by show 71 + j < 101; omega⟩, fun i j _ _ h => by have h : 71 + i = 71 + j := h; omega, fun m h1 h2 => hm m h1 (by omega)⟩
    | succ n ih =>
      intro k a g2 f e0 e1 he hfr h69 h70 hf hm
      refine zj_iload_n C dc_F_init_15 rfl 0 rfl ?_
      refine zj_bipush (v := 30) C dc_F_init_16 (by decide) ?_
      refine zj_icmp_ge C dc_F_init_18 rfl (fun h => absurd h ((zn_nle (a := 30) (by omega) (by omega)).mpr (by omega))) (fun _ => ?_)
      refine zj_aload_n C dc_F_init_21 rfl 1 rfl ?_
      refine zj_get (k := 0) C (by omega) h69 rfl (by decide) fw_F fl_F_11 rfl rfl dc_F_init_22 ?_
      refine zj_iload_n C dc_F_init_25 rfl 0 rfl ?_
      refine zj_new (ci := 3) C [.int 0, .int 0, .int 0, .int 0, .int 0] rfl fw_P fy_P fk_P cl_F_9 ins_P ini_P df_P ⟨by show _ ≤ 31; omega, by show _ ≤ 180; omega⟩ dc_F_init_26 (fun a1 e9 => ?_)
      rw [e9 69 (by omega), e9 70 (by omega)]
      refine zj_dup C dc_F_init_29 rfl ?_
      refine zj_In (i := 71 + k) C (ct_P_init _ hst z a1 _ (71 + k) _) hL (zt_C wk_P_init) rfl rfl rfl ini_P im_P_init rfl hd_P_init ⟨(Nat.le_of_ble_eq_true rfl), (Nat.le_of_ble_eq_true rfl)⟩ rfl rfl (Nat.le_of_ble_eq_true rfl) ⟨by show _ ≤ 31; omega, by show _ ≤ 180; omega⟩ dc_F_init_30 (fun a2 N2 g3 h3 => ?_)
      obtain ⟨rfl, rfl, rfl⟩ := h3
      refine zj_past (v := 71 + k) C (by omega) ((va_up_ne _ _ (by omega)).trans h70) rfl (by omega) (by decide) (by omega) (va_up_self _ _ _) dc_F_init_33 ?_
      refine zj_iinc C dc_F_init_34 0 rfl (zn_inc k) (by decide) rfl ?_
      refine zj_goto C dc_F_init_37 rfl ?_
      refine zj_loc (L' := [(1, .int (nI (k + 1))), (0, .ref (a2 69))]) [0, 1] rfl ?_
      refine zj_cs (by omega) (by omega) (by omega) (ih (k + 1) a2 _ (va_up f k (some (a2 (71 + k)))) (by omega) (by omega) (fun j hj => (he j hj).trans (e9 j (by omega))) (fun j hj => (va_up_ne _ _ (by omega)).trans ((va_up_ne _ _ (by omega)).trans (hfr j hj))) ?_ (va_up_self _ _ _) (fun j hj => ?_) (fun m h1 h2 => ?_))
      · refine (va_up_ne _ _ (by omega)).trans ((va_up_ne _ _ (by omega)).trans ?_)
        rw [h69, e9 70 (by omega)]
      · by_cases c : j = k
        · rw [c, va_up_self]
        · rw [va_up_ne _ _ c, hf j (by omega), e9 (71 + j) (by omega)]
      · refine (va_up_ne _ _ (by omega)).trans ?_
        by_cases c : m = 71 + k
        · rw [c, va_up_self]; rfl
        · rw [va_up_ne _ _ c]; exact hm m h1 (by omega)
  refine zj_aload_n C dc_F_init_0 rfl 0 rfl ?_
  refine zj_obj (st0 := []) C ml_F_3 im_Object_init wk_Object_init ⟨(Nat.le_of_ble_eq_true rfl), (Nat.le_of_ble_eq_true rfl)⟩ dc_F_init_1 ?_
  refine zj_aload_n C dc_F_init_4 rfl 0 rfl ?_
  refine zj_bipush (v := 30) C dc_F_init_5 (by decide) ?_
  refine zj_newp (k := 30) C cl_F_9 rfl (by decide) ⟨(Nat.le_of_ble_eq_true rfl), (Nat.le_of_ble_eq_true rfl)⟩ dc_F_init_7 (fun a1 e1 => ?_)
  rw [e1 69 (by omega)]
  refine zj_putF (k := 0) (i := 69) C hI (by omega) ((va_up_ne _ _ (by omega)).trans hg) rfl (by decide) fw_F fl_F_11 rfl fy_F fk_F fn_F rfl rfl rfl (Nat.le_of_ble_eq_true rfl) rfl rfl dc_F_init_10 ?_
  refine zj_iconst (v := 0) C dc_F_init_13 (by decide) ?_
  refine zj_istore_n C dc_F_init_14 rfl (by decide) rfl ?_
  refine zj_loc (L' := [(1, .int (nI 0)), (0, .ref (a1 69))]) [0, 1] rfl ?_
  exact loop 30 0 a1 _ (fun _ => none) rfl (by omega) e1 (fun j hj => (va_up_ne _ _ (by omega)).trans (va_up_ne _ _ (by omega))) (va_up_self _ _ _) ((va_up_ne _ _ (by omega)).trans (va_up_self _ _ _)) (fun j hj => absurd hj (Nat.not_lt_zero j)) (fun m h1 h2 => by omega)
end ZCU
