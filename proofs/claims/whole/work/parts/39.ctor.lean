section ZCT
theorem zj_fai {X : zj_T} {z : zv_T} {cc : ByteArray} {nL : Nat} {own : String} {rm : Room} {ret : Option FieldType} (C : zj_C X z cc nL own rm ret) {cells slots : Nat} {Q : State → Prop} {ad : Nat → Nat} {N : Nat} {g : Nat → va_E} {pc : Nat} {L : List (Nat × Value)} {st : List Value} {i ci k index M sz : Nat} {fs : List Value} {n : Int32} {CC ref : String} {T : u_T} {ty : FieldType} {at9 : ArrayType} (hX : zj_N X) (hi : i < N) (he : g i = ze_o ci fs) (hc : zc_l[ci]? = some (CC, T, M)) (hk : k < M) (hin : ∀ w ∈ u_ws CC T M, w ∈ zt_tbl) (hlink : Cond.fieldLink own index ref (T k).2.1 (T k).2.2.1 ∈ zt_tbl) (href : (T k).1 = ref) (ty0 : Nat → FieldType) (hty : ∀ k, k < M → parseFieldDescriptor (T k).2.2.1 = some (ty0 k)) (hnm : ∀ a, a < M → ∀ b, b < M → a ≠ b → (T a).2.1 ≠ (T b).2.1) (hd : ty0 k = ty) (hn2 : ∀ q, narrow ty (.ref q) = .ref q) (hfit : ∀ q, fits ty (.ref q) = true) (hlf : k < fs.length) (hfin : (T k).2.2.2 = true) (hown2 : (T k).1 = own) (hat : newarray.typeOf at9 = .int) (hn : n = nI sz) (hsz : sz < 65536) (hcs : cells + 1 ≤ rm.cells ∧ slots + sz ≤ rm.slots) (d1 : decode cc pc = .ok (.newarray at9, 2)) (d2 : decode cc (pc + 2) = .ok (.putfield index, 3))
    (kk : ∀ (a1 : Nat → Nat) (g1 : Nat → va_E), (∀ j, j < N → ad j = a1 j) → g1 N = ze_i z sz (fun _ => 0) → g1 i = ze_o ci (fs.set k (.ref (a1 N))) → (∀ j, j < N → j ≠ i → g1 j = g j) → zj_J X (cells + 1) (slots + sz) Q a1 (N + 1) g1 (pc + 2 + 3) L st) : zj_J X cells slots Q ad N g pc L (.int n :: .ref (ad i) :: st) := by
  refine zj_newi C hat ac_int hn hsz hcs d1 (fun a1 e1 => ?_)
  rw [e1 i hi]
  refine zj_putF (k := k) C hX (by omega) ((va_up_ne _ _ (by omega)).trans he) hc hk hin hlink href ty0 hty hnm hd (hn2 _) (hfit _) hlf hfin hown2 d2 ?_
  exact kk a1 _ e1 ((va_up_ne _ _ (by omega)).trans (va_up_self _ _ _)) (va_up_self _ _ _) (fun j h1 h2 => (va_up_ne _ _ h2).trans (va_up_ne _ _ (by omega)))
theorem zj_faz {X : zj_T} {z : zv_T} {cc : ByteArray} {nL : Nat} {own : String} {rm : Room} {ret : Option FieldType} (C : zj_C X z cc nL own rm ret) {cells slots : Nat} {Q : State → Prop} {ad : Nat → Nat} {N : Nat} {g : Nat → va_E} {pc : Nat} {L : List (Nat × Value)} {st : List Value} {i ci k index M sz : Nat} {fs : List Value} {n : Int32} {CC ref : String} {T : u_T} {ty : FieldType} {at9 : ArrayType} (hX : zj_N X) (hi : i < N) (he : g i = ze_o ci fs) (hc : zc_l[ci]? = some (CC, T, M)) (hk : k < M) (hin : ∀ w ∈ u_ws CC T M, w ∈ zt_tbl) (hlink : Cond.fieldLink own index ref (T k).2.1 (T k).2.2.1 ∈ zt_tbl) (href : (T k).1 = ref) (ty0 : Nat → FieldType) (hty : ∀ k, k < M → parseFieldDescriptor (T k).2.2.1 = some (ty0 k)) (hnm : ∀ a, a < M → ∀ b, b < M → a ≠ b → (T a).2.1 ≠ (T b).2.1) (hd : ty0 k = ty) (hn2 : ∀ q, narrow ty (.ref q) = .ref q) (hfit : ∀ q, fits ty (.ref q) = true) (hlf : k < fs.length) (hfin : (T k).2.2.2 = true) (hown2 : (T k).1 = own) (hat : newarray.typeOf at9 = .boolean) (hn : n = nI sz) (hsz : sz < 65536) (hcs : cells + 1 ≤ rm.cells ∧ slots + sz ≤ rm.slots) (d1 : decode cc pc = .ok (.newarray at9, 2)) (d2 : decode cc (pc + 2) = .ok (.putfield index, 3))
    (kk : ∀ (a1 : Nat → Nat) (g1 : Nat → va_E), (∀ j, j < N → ad j = a1 j) → g1 N = ze_z z sz (fun _ => 0) → g1 i = ze_o ci (fs.set k (.ref (a1 N))) → (∀ j, j < N → j ≠ i → g1 j = g j) → zj_J X (cells + 1) (slots + sz) Q a1 (N + 1) g1 (pc + 2 + 3) L st) : zj_J X cells slots Q ad N g pc L (.int n :: .ref (ad i) :: st) := by
  refine zj_newz C hat ac_boolean hn hsz hcs d1 (fun a1 e1 => ?_)
  rw [e1 i hi]
  refine zj_putF (k := k) C hX (by omega) ((va_up_ne _ _ (by omega)).trans he) hc hk hin hlink href ty0 hty hnm hd (hn2 _) (hfit _) hlf hfin hown2 d2 ?_
  exact kk a1 _ e1 ((va_up_ne _ _ (by omega)).trans (va_up_self _ _ _)) (va_up_self _ _ _) (fun j h1 h2 => (va_up_ne _ _ h2).trans (va_up_ne _ _ (by omega)))
theorem zj_fan {X : zj_T} {z : zv_T} {cc : ByteArray} {nL : Nat} {own : String} {rm : Room} {ret : Option FieldType} (C : zj_C X z cc nL own rm ret) {cells slots : Nat} {Q : State → Prop} {ad : Nat → Nat} {N : Nat} {g : Nat → va_E} {pc : Nat} {L : List (Nat × Value)} {st : List Value} {i ci k index M sz : Nat} {fs : List Value} {n : Int32} {CC ref : String} {T : u_T} {ty : FieldType} {at9 : ArrayType} (hX : zj_N X) (hi : i < N) (he : g i = ze_o ci fs) (hc : zc_l[ci]? = some (CC, T, M)) (hk : k < M) (hin : ∀ w ∈ u_ws CC T M, w ∈ zt_tbl) (hlink : Cond.fieldLink own index ref (T k).2.1 (T k).2.2.1 ∈ zt_tbl) (href : (T k).1 = ref) (ty0 : Nat → FieldType) (hty : ∀ k, k < M → parseFieldDescriptor (T k).2.2.1 = some (ty0 k)) (hnm : ∀ a, a < M → ∀ b, b < M → a ≠ b → (T a).2.1 ≠ (T b).2.1) (hd : ty0 k = ty) (hn2 : ∀ q, narrow ty (.ref q) = .ref q) (hfit : ∀ q, fits ty (.ref q) = true) (hlf : k < fs.length) (hfin : (T k).2.2.2 = false) (hown2 : (T k).1 = own) (hat : newarray.typeOf at9 = .int) (hn : n = nI sz) (hsz : sz < 65536) (hcs : cells + 1 ≤ rm.cells ∧ slots + sz ≤ rm.slots) (d1 : decode cc pc = .ok (.newarray at9, 2)) (d2 : decode cc (pc + 2) = .ok (.putfield index, 3))
    (kk : ∀ (a1 : Nat → Nat) (g1 : Nat → va_E), (∀ j, j < N → ad j = a1 j) → g1 N = ze_i z sz (fun _ => 0) → g1 i = ze_o ci (fs.set k (.ref (a1 N))) → (∀ j, j < N → j ≠ i → g1 j = g j) → zj_J X (cells + 1) (slots + sz) Q a1 (N + 1) g1 (pc + 2 + 3) L st) : zj_J X cells slots Q ad N g pc L (.int n :: .ref (ad i) :: st) := by
  refine zj_newi C hat ac_int hn hsz hcs d1 (fun a1 e1 => ?_)
  rw [e1 i hi]
  refine zj_put (k := k) C (by omega) ((va_up_ne _ _ (by omega)).trans he) hc hk hin hlink href ty0 hty hnm hd (hn2 _) (hfit _) hlf hfin d2 ?_
  exact kk a1 _ e1 ((va_up_ne _ _ (by omega)).trans (va_up_self _ _ _)) (va_up_self _ _ _) (fun j h1 h2 => (va_up_ne _ _ h2).trans (va_up_ne _ _ (by omega)))
def rm_N_init (k : Nat) : Room := { frames := 1, cells := 2, slots := k + k, locals := 20 }
set_option maxHeartbeats 4000000 in
set_option maxRecDepth 100000 in
theorem ct_N_init (l : Launch) (hst : l.stackTraces = false) (z : zv_T) (ad : Nat → Nat) (i k : Nat) (g : Nat → va_E) (hk : k < 65536) (hg : g i = ze_o 2 [.null, .null, .int 0]) : zm_c l mn_N_init ws_N_init (rm_N_init k) z ad (i + 1) g [.ref (ad i), .int (nI k)] 2 (k + k) (fun a n g1 => n = i + 3 ∧ (∀ j, j < i + 1 → ad j = a j) ∧ (∀ j, j < i → g1 j = g j) ∧ zs_N z a g1 i k 0 (fun _ => 0) (fun _ => 0)) := by
  refine zm_ofc hst rfl pn_N_init rfl (Nat.le_of_ble_eq_true rfl) (fun X hX C hI => ?_)
  subst hX
  show zj_J X 0 0 _ ad (i + 1) g 0 [(0, .ref (ad i)), (1, .int (nI k))] []
  refine zj_aload_n C dc_N_init_0 rfl 0 rfl ?_
  refine zj_obj (st0 := []) C ml_N_1 im_Object_init wk_Object_init ⟨(Nat.le_of_ble_eq_true rfl), (Nat.le_of_ble_eq_true rfl)⟩ dc_N_init_1 ?_
  refine zj_aload_n C dc_N_init_4 rfl 0 rfl ?_
  refine zj_iload_n C dc_N_init_5 rfl 1 rfl ?_
  refine zj_fai (i := i) (k := 0) (sz := k) C hI (by omega) hg rfl (by decide) fw_N fl_N_7 rfl fy_N fk_N fn_N rfl (fun _ => rfl) (fun _ => rfl) (Nat.le_of_ble_eq_true rfl) rfl rfl rfl rfl hk ⟨(Nat.le_of_ble_eq_true rfl), by show _ ≤ k + k; omega⟩ dc_N_init_6 dc_N_init_8 (fun a1 g1 e1 n1 t1 f1 => ?_)
  rw [e1 i (by omega)]
  refine zj_aload_n C dc_N_init_11 rfl 0 rfl ?_
  refine zj_iload_n C dc_N_init_12 rfl 1 rfl ?_
  refine zj_fai (i := i) (k := 1) (sz := k) C hI (by omega) t1 rfl (by decide) fw_N fl_N_13 rfl fy_N fk_N fn_N rfl (fun _ => rfl) (fun _ => rfl) (Nat.le_of_ble_eq_true rfl) rfl rfl rfl rfl hk ⟨(Nat.le_of_ble_eq_true rfl), by show _ ≤ k + k; omega⟩ dc_N_init_13 dc_N_init_15 (fun a2 g2 e2 n2 t2 f2 => ?_)
  rw [e2 i (by omega)]
  have w1 : a1 (i + 1) = a2 (i + 1) := (e2 (i + 1) (by omega))
  have hT : g2 i = ze_o 2 [.ref (a2 (i + 1)), .ref (a2 (i + 2)), .int 0] := by
    rw [t2]
    rw [← w1]
    rfl
  have hA1 : g2 (i + 1) = _ := ((f2 (i + 1) (by omega) (by omega)).trans n1)
  have hA2 : g2 (i + 2) = _ := n2
  have hE : ∀ j, j < i + 1 → ad j = a2 j := fun j hj => ((e1 (j) (by omega)).trans (e2 (j) (by omega)))
  have hF : ∀ j, j < i → g2 j = g j := fun j hj => ((f2 (j) (by omega) (by omega)).trans ((f1 (j) (by omega) (by omega)).trans rfl))
  refine zj_cs rfl (by omega) rfl (zj_cret C dc_N_init_18 ⟨rfl, hE, hF, hT, hA1, hA2⟩)
def rm_W_init : Room := { frames := 1, cells := 1, slots := 19, locals := 20 }
set_option maxHeartbeats 4000000 in
set_option maxRecDepth 100000 in
theorem ct_W_init (l : Launch) (hst : l.stackTraces = false) (z : zv_T) (ad : Nat → Nat)  (g : Nat → va_E) (hg : g 105 = ze_o 4 [.null, .int 0, .int 0, .int 0]) : zm_c l mn_W_init ws_W_init rm_W_init z ad 106 g [.ref (ad 105)] 1 19 (fun a n g1 => n = 107 ∧ (∀ j, j < 106 → ad j = a j) ∧ (∀ j, j < 105 → g1 j = g j) ∧ zs_W z a g1 0 0 0 (fun _ => 0)) := by
  refine zm_ofc hst rfl pn_W_init rfl (Nat.le_of_ble_eq_true rfl) (fun X hX C hI => ?_)
  subst hX
  show zj_J X 0 0 _ ad 106 g 0 [(0, .ref (ad 105))] []
  refine zj_aload_n C dc_W_init_0 rfl 0 rfl ?_
  refine zj_obj (st0 := []) C ml_W_3 im_Object_init wk_Object_init ⟨(Nat.le_of_ble_eq_true rfl), (Nat.le_of_ble_eq_true rfl)⟩ dc_W_init_1 ?_
  refine zj_aload_n C dc_W_init_4 rfl 0 rfl ?_
  refine zj_bipush (v := 19) C dc_W_init_5 (by decide) ?_
  refine zj_fai (i := 105) (k := 0) (sz := 19) C hI (by omega) hg rfl (by decide) fw_W fl_W_9 rfl fy_W fk_W fn_W rfl (fun _ => rfl) (fun _ => rfl) (Nat.le_of_ble_eq_true rfl) rfl rfl rfl rfl (by decide) ⟨(Nat.le_of_ble_eq_true rfl), (Nat.le_of_ble_eq_true rfl)⟩ dc_W_init_7 dc_W_init_9 (fun a1 g1 e1 n1 t1 f1 => ?_)
  rw [e1 105 (by omega)]
  have hT : g1 105 = ze_o 4 [.ref (a1 (105 + 1)), .int 0, .int 0, .int 0] := by
    rw [t1]
    rfl
  have hA1 : g1 (105 + 1) = _ := n1
  have hE : ∀ j, j < 105 + 1 → ad j = a1 j := fun j hj => (e1 (j) (by omega))
  have hF : ∀ j, j < 105 → g1 j = g j := fun j hj => ((f1 (j) (by omega) (by omega)).trans rfl)
  refine zj_cs rfl rfl rfl (zj_cret C dc_W_init_12 ⟨rfl, hE, hF, hT, hA1⟩)
def rm_R_init : Room := { frames := 1, cells := 3, slots := 34, locals := 20 }
set_option maxHeartbeats 4000000 in
set_option maxRecDepth 100000 in
theorem ct_R_init (l : Launch) (hst : l.stackTraces = false) (z : zv_T) (ad : Nat → Nat)  (g : Nat → va_E) (hg : g 101 = ze_o 1 [.null, .null, .null, .int 0, .int 0]) : zm_c l mn_R_init ws_R_init rm_R_init z ad 102 g [.ref (ad 101)] 3 34 (fun a n g1 => n = 105 ∧ (∀ j, j < 102 → ad j = a j) ∧ (∀ j, j < 101 → g1 j = g j) ∧ zs_R z a g1 103 104 0 0 (fun _ => 0) (fun _ => 0) (fun _ => 0)) := by
  refine zm_ofc hst rfl pn_R_init rfl (Nat.le_of_ble_eq_true rfl) (fun X hX C hI => ?_)
  subst hX
  show zj_J X 0 0 _ ad 102 g 0 [(0, .ref (ad 101))] []
  refine zj_aload_n C dc_R_init_0 rfl 0 rfl ?_
  refine zj_obj (st0 := []) C ml_R_3 im_Object_init wk_Object_init ⟨(Nat.le_of_ble_eq_true rfl), (Nat.le_of_ble_eq_true rfl)⟩ dc_R_init_1 ?_
  refine zj_aload_n C dc_R_init_4 rfl 0 rfl ?_
  refine zj_bipush (v := 8) C dc_R_init_5 (by decide) ?_
  refine zj_fai (i := 101) (k := 0) (sz := 8) C hI (by omega) hg rfl (by decide) fw_R fl_R_9 rfl fy_R fk_R fn_R rfl (fun _ => rfl) (fun _ => rfl) (Nat.le_of_ble_eq_true rfl) rfl rfl rfl rfl (by decide) ⟨(Nat.le_of_ble_eq_true rfl), (Nat.le_of_ble_eq_true rfl)⟩ dc_R_init_7 dc_R_init_9 (fun a1 g1 e1 n1 t1 f1 => ?_)
  rw [e1 101 (by omega)]
  refine zj_aload_n C dc_R_init_12 rfl 0 rfl ?_
  refine zj_bipush (v := 13) C dc_R_init_13 (by decide) ?_
  refine zj_fan (i := 101) (k := 1) (sz := 13) C hI (by omega) t1 rfl (by decide) fw_R fl_R_15 rfl fy_R fk_R fn_R rfl (fun _ => rfl) (fun _ => rfl) (Nat.le_of_ble_eq_true rfl) rfl rfl rfl rfl (by decide) ⟨(Nat.le_of_ble_eq_true rfl), (Nat.le_of_ble_eq_true rfl)⟩ dc_R_init_15 dc_R_init_17 (fun a2 g2 e2 n2 t2 f2 => ?_)
  rw [e2 101 (by omega)]
  refine zj_aload_n C dc_R_init_20 rfl 0 rfl ?_
  refine zj_bipush (v := 13) C dc_R_init_21 (by decide) ?_
  refine zj_fan (i := 101) (k := 2) (sz := 13) C hI (by omega) t2 rfl (by decide) fw_R fl_R_18 rfl fy_R fk_R fn_R rfl (fun _ => rfl) (fun _ => rfl) (Nat.le_of_ble_eq_true rfl) rfl rfl rfl rfl (by decide) ⟨(Nat.le_of_ble_eq_true rfl), (Nat.le_of_ble_eq_true rfl)⟩ dc_R_init_23 dc_R_init_25 (fun a3 g3 e3 n3 t3 f3 => ?_)
  rw [e3 101 (by omega)]
  have w1 : a1 (101 + 1) = a3 (101 + 1) := ((e2 (101 + 1) (by omega)).trans (e3 (101 + 1) (by omega)))
  have w2 : a2 (101 + 2) = a3 (101 + 2) := (e3 (101 + 2) (by omega))
  have hT : g3 101 = ze_o 1 [.ref (a3 (101 + 1)), .ref (a3 (101 + 2)), .ref (a3 (101 + 3)), .int 0, .int 0] := by
    rw [t3]
    rw [← w1, ← w2]
    rfl
  have hA1 : g3 (101 + 1) = _ := ((f3 (101 + 1) (by omega) (by omega)).trans ((f2 (101 + 1) (by omega) (by omega)).trans n1))
  have hA2 : g3 (101 + 2) = _ := ((f3 (101 + 2) (by omega) (by omega)).trans n2)
  have hA3 : g3 (101 + 3) = _ := n3
  have hE : ∀ j, j < 101 + 1 → ad j = a3 j := fun j hj => ((e1 (j) (by omega)).trans ((e2 (j) (by omega)).trans (e3 (j) (by omega))))
  have hF : ∀ j, j < 101 → g3 j = g j := fun j hj => ((f3 (j) (by omega) (by omega)).trans ((f2 (j) (by omega) (by omega)).trans ((f1 (j) (by omega) (by omega)).trans rfl)))
  refine zj_cs rfl rfl rfl (zj_cret C dc_R_init_28 ⟨rfl, hE, hF, hT, hA1, hA2, hA3, Or.inl ⟨rfl, rfl⟩⟩)
def rm_P_init : Room := { frames := 1, cells := 0, slots := 0, locals := 20 }
theorem ct_P_init (l : Launch) (hst : l.stackTraces = false) (z : zv_T) (ad : Nat → Nat) (N i : Nat) (g : Nat → va_E) : zm_c l mn_P_init ws_P_init rm_P_init z ad N g [.ref (ad i)] 0 0 (fun a n g1 => a = ad ∧ n = N ∧ g1 = g) := by
  refine zm_ofc hst rfl pn_P_init rfl (Nat.le_of_ble_eq_true rfl) (fun X hX C hI => ?_)
  subst hX
  show zj_J X 0 0 _ ad N g 0 [(0, .ref (ad i))] []
  refine zj_aload_n C dc_P_init_0 rfl 0 rfl ?_
  refine zj_obj (st0 := []) C ml_P_1 im_Object_init wk_Object_init ⟨(Nat.le_of_ble_eq_true rfl), (Nat.le_of_ble_eq_true rfl)⟩ dc_P_init_1 ?_
  exact zj_cret C dc_P_init_4 ⟨rfl, rfl, rfl⟩
end ZCT
