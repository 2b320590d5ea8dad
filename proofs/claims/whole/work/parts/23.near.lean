section ZR
/-- an int by a number that may be negative -/
def zi_I (x : Int) : Int32 := Int32.ofInt x
theorem zi_n (n : Nat) : nI n = zi_I (n : Int) := by
  apply Int32.toBitVec_inj.1
  show BitVec.ofNat 32 n = BitVec.ofInt 32 (n : Int)
  simp
theorem zi_add (x y : Int) : zi_I x + zi_I y = zi_I (x + y) := (Int32.ofInt_add x y).symm
theorem zi_sub (x y : Int) : zi_I x - zi_I y = zi_I (x - y) := (Int32.ofInt_sub x y).symm
theorem zi_mul (x y : Int) : zi_I x * zi_I y = zi_I (x * y) := (Int32.ofInt_mul x y).symm
theorem zi_to {x : Int} (h1 : -1000000000 ≤ x) (h2 : x ≤ 1000000000) : (zi_I x).toInt = x := Int32.toInt_ofInt_of_le (by omega) (by omega)
theorem zi_lt {x y : Int} (h1 : -1000000000 ≤ x) (h2 : x ≤ 1000000000) (h3 : -1000000000 ≤ y) (h4 : y ≤ 1000000000) : zi_I x < zi_I y ↔ x < y := by
  rw [Int32.lt_iff_toInt_lt, zi_to h1 h2, zi_to h3 h4]
theorem zi_le {x y : Int} (h1 : -1000000000 ≤ x) (h2 : x ≤ 1000000000) (h3 : -1000000000 ≤ y) (h4 : y ≤ 1000000000) : zi_I x ≤ zi_I y ↔ x ≤ y := by
  rw [Int32.le_iff_toInt_le, zi_to h1 h2, zi_to h3 h4]
theorem zi_min {x y : Int} (h1 : -1000000000 ≤ x) (h2 : x ≤ 1000000000) (h3 : -1000000000 ≤ y) (h4 : y ≤ 1000000000) : (if zi_I y < zi_I x then zi_I y else zi_I x) = zi_I (if y < x then y else x) := by
  by_cases c : y < x
  · rw [if_pos c, if_pos ((zi_lt h3 h4 h1 h2).mpr c)]
  · rw [if_neg c, if_neg (fun h => c ((zi_lt h3 h4 h1 h2).mp h))]
theorem zi_16 (x : Int) : zi_I x + 16 = zi_I (x + 16) := zi_add x 16
theorem zi_m1 (x : Int) : zi_I x + -1 = zi_I (x + -1) := by
  have e : (-1 : Int32) = zi_I (-1) := by decide
  rw [e, zi_add]
/-- the weights against a row with one step more -/
def zp_tk (V : Nat → Int) (s : Nat → Bool) : Nat → Int
  | 0 => V 0 + 16
  | i + 1 => let pr := V i + (if s i then -1 else 16); let un := (if zp_tk V s i < V (i + 1) then zp_tk V s i else V (i + 1)) + 16; if un < pr then un else pr
theorem zp_tkS (V : Nat → Int) (s : Nat → Bool) (i : Nat) : zp_tk V s (i + 1) = (if (if zp_tk V s i < V (i + 1) then zp_tk V s i else V (i + 1)) + 16 < V i + (if s i then -1 else 16) then (if zp_tk V s i < V (i + 1) then zp_tk V s i else V (i + 1)) + 16 else V i + (if s i then -1 else 16)) := rfl
theorem zp_tk_dp (same : Nat → Nat → Bool) (j : Nat) : ∀ i, i < 14 → zp_tk (fun i => zp_w (zp_dp same i j)) (fun i => same i j) i = zp_w (zp_dp same i (j + 1)) := by
  intro i
  induction i with
  | zero => intro _; show zp_w (j, 0) + 16 = zp_w (j + 1, 0); unfold zp_w; simp; omega
  | succ i ih =>
    intro hi
    rw [zp_tkS, ih (by omega), zp_wS same i j (by omega)]
    generalize zp_w (zp_dp same i j) + (if same i j then -1 else 16) = A
    generalize zp_w (zp_dp same i (j + 1)) = B
    generalize zp_w (zp_dp same (i + 1) j) = D
    dsimp only
    split <;> split <;> split <;> (try split) <;> omega
theorem zp_tk_lo {V : Nat → Int} {s : Nat → Bool} {n : Nat} (h : ∀ i, i < n → -100000 ≤ V i ∧ V i ≤ 100000) : ∀ i, i < n → -100001 ≤ zp_tk V s i ∧ zp_tk V s i ≤ 100016 := by
  intro i
  induction i with
  | zero => intro hi; have := h 0 hi; show _ ≤ V 0 + 16 ∧ V 0 + 16 ≤ _; omega
  | succ i ih =>
    intro hi
    have h1 := ih (by omega)
    have h2 := h i (by omega)
    have h3 := h (i + 1) hi
    rw [zp_tkS]
    have h4 : (if s i then (-1 : Int) else 16) = -1 ∨ (if s i then (-1 : Int) else 16) = 16 := by cases s i <;> simp
    generalize (if s i then (-1 : Int) else 16) = t at h4 ⊢
    generalize zp_tk V s i = A at h1 ⊢
    split <;> split <;> omega
/-- the distances' rows, at the cells 101 .. 104; hh, ee: which cell is here, which behind -/
def zs_R (z : zv_T) (ad : Nat → Nat) (g : Nat → va_E) (hh ee mo lo : Nat) (wt hr bh : Nat → Int32) : Prop := g 101 = ze_o 1 [.ref (ad 102), .ref (ad hh), .ref (ad ee), .int (nI mo), .int (nI lo)] ∧ g 102 = ze_i z 8 wt ∧ g hh = ze_i z 13 hr ∧ g ee = ze_i z 13 bh ∧ ((hh = 103 ∧ ee = 104) ∨ (hh = 104 ∧ ee = 103))
set_option maxHeartbeats 4000000 in
set_option maxRecDepth 100000 in
theorem ct_R_takeIn (l : Launch) (hst : l.stackTraces = false) (z : zv_T) (ad : Nat → Nat) (N : Nat) (g : Nat → va_E) (qc : Nat) (qp qq : Nat → Int32) (hq : zs_N z ad g 66 8 qc qp qq) (hqc : 2 ≤ qc) (hqc8 : qc ≤ 8) (hN : 105 ≤ N) (hh ee mo lo : Nat) (wt hr bh : Nat → Int32) (hs : zs_R z ad g hh ee mo lo wt hr bh) (step : Int32) (sm : Nat → Bool) (hsm : ∀ i, sm i = decide (qp (i + 1) - qp i = step)) (V : Nat → Int) (hw : ∀ i, i < qc → wt i = zi_I (V i)) (hV : ∀ i, i < qc → -100000 ≤ V i ∧ V i ≤ 100000) : zm_v l mn_R_takeIn ws_R_takeIn rm_R_takeIn z ad N g [.ref (ad 101), .ref (ad 66), .int step] (fun g1 => ∃ w2, g1 = va_up g 102 (ze_i z 8 w2) ∧ ∀ i, i < qc → w2 i = zi_I (zp_tk V sm i)) := by
  obtain ⟨hR, hw0, hh0, he0, hhe⟩ := hs
  obtain ⟨hq0, hq1, hq2⟩ := hq
  have hV2 := zp_tk_lo (s := sm) hV
  refine zm_ofv hst pn_R_takeIn rfl (Nat.le_of_ble_eq_true rfl) (fun X hX C => ?_)
  subst hX
  show zj_J X 0 0 _ ad N g 0 [(0, .ref (ad 101)), (1, .ref (ad 66)), (2, .int step)] []
  have loop : ∀ (n : Nat) (k : Nat) (w2 : Nat → Int32), qc - 1 - k = n → k < qc → (∀ i, i ≤ k → w2 i = zi_I (zp_tk V sm i)) → (∀ i, k < i → i < qc → w2 i = zi_I (V i)) → zj_J X 0 0 (zj_Qv X 0 0 ad N (fun g1 => ∃ w2, g1 = va_up g 102 (ze_i z 8 w2) ∧ ∀ i, i < qc → w2 i = zi_I (zp_tk V sm i))) ad N (va_up g 102 (ze_i z 8 w2)) 21 [(4, .int (nI (k + 1))), (3, .int (zi_I (V k))), (0, .ref (ad 101)), (1, .ref (ad 66)), (2, .int step)] [] := by
    intro n
    induction n with
    | zero =>
      intro k w2 e1 e2 e3 e4
      refine zj_iload C dc_R_takeIn_21 0 rfl ?_
      refine zj_aload_n C dc_R_takeIn_23 rfl 3 rfl ?_
      refine zj_Vi C (ct_N_steps _ hst z ad N _ 66 8 qc qp qq (by omega) ⟨(by (repeat rw [va_up_ne _ _ (by omega)]); exact hq0), (by (repeat rw [va_up_ne _ _ (by omega)]); exact hq1), (by (repeat rw [va_up_ne _ _ (by omega)]); exact hq2)⟩ (by decide) (by omega)) gv_R_37 rfl rfl rfl hd_N_steps ⟨(Nat.le_of_ble_eq_true rfl), (Nat.le_of_ble_eq_true rfl)⟩ (by omega) hq0 rfl rfl rfl (Nat.le_of_ble_eq_true rfl) ⟨(Nat.le_of_ble_eq_true rfl), (Nat.le_of_ble_eq_true rfl)⟩ dc_R_takeIn_24 (fun r1 g9 h1 => ?_)
      obtain ⟨rfl, hg9⟩ := h1
      rw [hg9]
      refine zj_icmp_gt C dc_R_takeIn_27 rfl (fun _ => ?_) (fun h => absurd h (not_not_intro ((nI_ltI (by omega) (by omega)).mpr (by omega))))
      exact zj_vret C dc_R_takeIn_116 ⟨w2, rfl, fun i hi => e3 i (by omega)⟩
    | succ n ih =>
      intro k w2 e1 e2 e3 e4
      refine zj_iload C dc_R_takeIn_21 0 rfl ?_
      refine zj_aload_n C dc_R_takeIn_23 rfl 3 rfl ?_
      refine zj_Vi C (ct_N_steps _ hst z ad N _ 66 8 qc qp qq (by omega) ⟨(by (repeat rw [va_up_ne _ _ (by omega)]); exact hq0), (by (repeat rw [va_up_ne _ _ (by omega)]); exact hq1), (by (repeat rw [va_up_ne _ _ (by omega)]); exact hq2)⟩ (by decide) (by omega)) gv_R_37 rfl rfl rfl hd_N_steps ⟨(Nat.le_of_ble_eq_true rfl), (Nat.le_of_ble_eq_true rfl)⟩ (by omega) hq0 rfl rfl rfl (Nat.le_of_ble_eq_true rfl) ⟨(Nat.le_of_ble_eq_true rfl), (Nat.le_of_ble_eq_true rfl)⟩ dc_R_takeIn_24 (fun r1 g9 h1 => ?_)
      obtain ⟨rfl, hg9⟩ := h1
      rw [hg9]
      refine zj_icmp_gt C dc_R_takeIn_27 rfl (fun h => absurd h (((zn_nlt (by omega) (by omega)).mpr (by omega)))) (fun _ => ?_)
      refine zj_aload_n C dc_R_takeIn_30 rfl 3 rfl ?_
      refine zj_iload C dc_R_takeIn_31 0 rfl ?_
      refine zj_iconst (v := 1) C dc_R_takeIn_33 (by decide) ?_
      refine zj_isub C dc_R_takeIn_34 ?_
      refine zj_topi (nI_pred k) ?_
      refine zj_Vi C (ct_N_stepBehind _ hst z ad N _ 66 8 qc qp qq (by omega) ⟨(by (repeat rw [va_up_ne _ _ (by omega)]); exact hq0), (by (repeat rw [va_up_ne _ _ (by omega)]); exact hq1), (by (repeat rw [va_up_ne _ _ (by omega)]); exact hq2)⟩ (by decide) k (by omega)) gv_R_41 rfl rfl rfl hd_N_stepBehind ⟨(Nat.le_of_ble_eq_true rfl), (Nat.le_of_ble_eq_true rfl)⟩ (by omega) hq0 rfl rfl rfl (Nat.le_of_ble_eq_true rfl) ⟨(Nat.le_of_ble_eq_true rfl), (Nat.le_of_ble_eq_true rfl)⟩ dc_R_takeIn_35 (fun r1 g9 h1 => ?_)
      obtain ⟨rfl, hg9⟩ := h1
      rw [hg9]
      refine zj_iload_n C dc_R_takeIn_38 rfl 4 rfl ?_
      refine zj_icmp_ne C dc_R_takeIn_39 rfl (fun h39 => ?_) (fun h39 => ?_)
      · skip
        refine zj_iconst (v := 0) C dc_R_takeIn_46 (by decide) ?_
        refine zj_istore C dc_R_takeIn_47 (by decide) rfl ?_
        refine zj_iload_n C dc_R_takeIn_49 rfl 2 rfl ?_
        refine zj_iload C dc_R_takeIn_50 0 rfl ?_
        refine zj_if_eq C dc_R_takeIn_52 rfl (fun _ => ?_) (fun h => absurd h (by decide))
        refine zj_bipush (v := 16) C dc_R_takeIn_59 (by decide) ?_
        refine zj_iadd C dc_R_takeIn_61 ?_
        refine zj_topi (zi_16 _) ?_
        refine zj_istore C dc_R_takeIn_62 (by decide) rfl ?_
        refine zj_aload_n C dc_R_takeIn_64 rfl 4 rfl ?_
        refine zj_get (k := 0) C (by omega) hR rfl (by decide) fw_R fl_R_9 rfl rfl dc_R_takeIn_65 ?_
        refine zj_iload C dc_R_takeIn_68 2 rfl ?_
        refine zj_iald C (by omega) (va_up_self _ _ _) rfl (by omega) (by decide) dc_R_takeIn_70 ?_
        refine zj_topi (e4 (k + 1) (by omega) (by omega)) ?_
        refine zj_istore_n C dc_R_takeIn_71 rfl (by decide) rfl ?_
        refine zj_aload_n C dc_R_takeIn_72 rfl 4 rfl ?_
        refine zj_get (k := 0) C (by omega) hR rfl (by decide) fw_R fl_R_9 rfl rfl dc_R_takeIn_73 ?_
        refine zj_iload C dc_R_takeIn_76 3 rfl ?_
        refine zj_iald C (by omega) (va_up_self _ _ _) rfl (by omega) (by decide) dc_R_takeIn_78 ?_
        refine zj_topi (e4 (k + 1) (by omega) (by omega)) ?_
        refine zj_aload_n C dc_R_takeIn_79 rfl 4 rfl ?_
        refine zj_get (k := 0) C (by omega) hR rfl (by decide) fw_R fl_R_9 rfl rfl dc_R_takeIn_80 ?_
        refine zj_iload C dc_R_takeIn_83 3 rfl ?_
        refine zj_iconst (v := 1) C dc_R_takeIn_85 (by decide) ?_
        refine zj_isub C dc_R_takeIn_86 ?_
        refine zj_topi (nI_pred k) ?_
        refine zj_iald C (by omega) (va_up_self _ _ _) rfl (by omega) (by decide) dc_R_takeIn_87 ?_
        refine zj_topi (e3 k (Nat.le_refl _)) ?_
        refine zj_mmin C ml_R_49 sm_Math_min ini_Math wk_Math_min ⟨(Nat.le_of_ble_eq_true rfl), (Nat.le_of_ble_eq_true rfl)⟩ ⟨(Nat.le_of_ble_eq_true rfl), (Nat.le_of_ble_eq_true rfl)⟩ dc_R_takeIn_88 ?_
        refine zj_topi (zi_min (by have := hV (k + 1) (by omega); omega) (by have := hV (k + 1) (by omega); omega) (by have := hV2 k (by omega); omega) (by have := hV2 k (by omega); omega)) ?_
        refine zj_bipush (v := 16) C dc_R_takeIn_91 (by decide) ?_
        refine zj_iadd C dc_R_takeIn_93 ?_
        refine zj_topi (zi_16 _) ?_
        refine zj_istore C dc_R_takeIn_94 (by decide) rfl ?_
        refine zj_aload_n C dc_R_takeIn_96 rfl 5 rfl ?_
        refine zj_get (k := 0) C (by omega) hR rfl (by decide) fw_R fl_R_9 rfl rfl dc_R_takeIn_97 ?_
        refine zj_iload C dc_R_takeIn_100 4 rfl ?_
        refine zj_iload C dc_R_takeIn_102 2 rfl ?_
        refine zj_iload C dc_R_takeIn_104 0 rfl ?_
        refine zj_mmin C ml_R_49 sm_Math_min ini_Math wk_Math_min ⟨(Nat.le_of_ble_eq_true rfl), (Nat.le_of_ble_eq_true rfl)⟩ ⟨(Nat.le_of_ble_eq_true rfl), (Nat.le_of_ble_eq_true rfl)⟩ dc_R_takeIn_106 ?_
        refine zj_topi (y := zi_I (zp_tk V sm (k + 1))) ((zi_min (by have := hV k (by omega); omega) (by have := hV k (by omega); omega) (by have := hV (k + 1) (by omega); have := hV2 k (by omega); split <;> omega) (by have := hV (k + 1) (by omega); have := hV2 k (by omega); split <;> omega)).trans (by rw [zp_tkS, hsm k, decide_eq_false h39]; rfl)) ?_
        refine zj_iast C (by omega) (va_up_self _ _ _) rfl (by omega) (by decide) dc_R_takeIn_109 ?_
        refine zj_iinc C dc_R_takeIn_110 4 rfl (zn_inc (k + 1)) (by decide) rfl ?_
        refine zj_goto C dc_R_takeIn_113 rfl ?_
        refine zj_loc (L' := [(4, .int (nI (k + 1 + 1))), (3, .int (zi_I (V (k + 1)))), (0, .ref (ad 101)), (1, .ref (ad 66)), (2, .int step)]) [0, 2, 5, 6, 7] rfl ?_
        refine zj_g (bx_uu _ _ _ _) ?_
        exact ih (k + 1) _ (by omega) (by omega) (fun i hi => by by_cases c : i = k + 1 <;> simp only [upd, c, if_true, if_false] <;> first | rfl | exact e3 i (by omega)) (fun i h1 h2 => by simp only [upd, if_neg (show ¬ i = k + 1 by omega)]; exact e4 i (by omega) h2)
      · skip
        refine zj_iconst (v := 1) C dc_R_takeIn_42 (by decide) ?_
        refine zj_goto C dc_R_takeIn_43 rfl ?_
        refine zj_istore C dc_R_takeIn_47 (by decide) rfl ?_
        refine zj_iload_n C dc_R_takeIn_49 rfl 2 rfl ?_
        refine zj_iload C dc_R_takeIn_50 0 rfl ?_
        refine zj_if_eq C dc_R_takeIn_52 rfl (fun h => absurd h (by decide)) (fun _ => ?_)
        refine zj_iconst (v := -1) C dc_R_takeIn_55 (by decide) ?_
        refine zj_goto C dc_R_takeIn_56 rfl ?_
        refine zj_iadd C dc_R_takeIn_61 ?_
        refine zj_topi (zi_m1 _) ?_
        refine zj_istore C dc_R_takeIn_62 (by decide) rfl ?_
        refine zj_aload_n C dc_R_takeIn_64 rfl 4 rfl ?_
        refine zj_get (k := 0) C (by omega) hR rfl (by decide) fw_R fl_R_9 rfl rfl dc_R_takeIn_65 ?_
        refine zj_iload C dc_R_takeIn_68 2 rfl ?_
        refine zj_iald C (by omega) (va_up_self _ _ _) rfl (by omega) (by decide) dc_R_takeIn_70 ?_
        refine zj_topi (e4 (k + 1) (by omega) (by omega)) ?_
        refine zj_istore_n C dc_R_takeIn_71 rfl (by decide) rfl ?_
        refine zj_aload_n C dc_R_takeIn_72 rfl 4 rfl ?_
        refine zj_get (k := 0) C (by omega) hR rfl (by decide) fw_R fl_R_9 rfl rfl dc_R_takeIn_73 ?_
        refine zj_iload C dc_R_takeIn_76 3 rfl ?_
        refine zj_iald C (by omega) (va_up_self _ _ _) rfl (by omega) (by decide) dc_R_takeIn_78 ?_
        refine zj_topi (e4 (k + 1) (by omega) (by omega)) ?_
        refine zj_aload_n C dc_R_takeIn_79 rfl 4 rfl ?_
        refine zj_get (k := 0) C (by omega) hR rfl (by decide) fw_R fl_R_9 rfl rfl dc_R_takeIn_80 ?_
        refine zj_iload C dc_R_takeIn_83 3 rfl ?_
        refine zj_iconst (v := 1) C dc_R_takeIn_85 (by decide) ?_
        refine zj_isub C dc_R_takeIn_86 ?_
        refine zj_topi (nI_pred k) ?_
        refine zj_iald C (by omega) (va_up_self _ _ _) rfl (by omega) (by decide) dc_R_takeIn_87 ?_
        refine zj_topi (e3 k (Nat.le_refl _)) ?_
        refine zj_mmin C ml_R_49 sm_Math_min ini_Math wk_Math_min ⟨(Nat.le_of_ble_eq_true rfl), (Nat.le_of_ble_eq_true rfl)⟩ ⟨(Nat.le_of_ble_eq_true rfl), (Nat.le_of_ble_eq_true rfl)⟩ dc_R_takeIn_88 ?_
        refine zj_topi (zi_min (by have := hV (k + 1) (by omega); omega) (by have := hV (k + 1) (by omega); omega) (by have := hV2 k (by omega); omega) (by have := hV2 k (by omega); omega)) ?_
        refine zj_bipush (v := 16) C dc_R_takeIn_91 (by decide) ?_
        refine zj_iadd C dc_R_takeIn_93 ?_
        refine zj_topi (zi_16 _) ?_
        refine zj_istore C dc_R_takeIn_94 (by decide) rfl ?_
        refine zj_aload_n C dc_R_takeIn_96 rfl 5 rfl ?_
        refine zj_get (k := 0) C (by omega) hR rfl (by decide) fw_R fl_R_9 rfl rfl dc_R_takeIn_97 ?_
        refine zj_iload C dc_R_takeIn_100 4 rfl ?_
        refine zj_iload C dc_R_takeIn_102 2 rfl ?_
        refine zj_iload C dc_R_takeIn_104 0 rfl ?_
        refine zj_mmin C ml_R_49 sm_Math_min ini_Math wk_Math_min ⟨(Nat.le_of_ble_eq_true rfl), (Nat.le_of_ble_eq_true rfl)⟩ ⟨(Nat.le_of_ble_eq_true rfl), (Nat.le_of_ble_eq_true rfl)⟩ dc_R_takeIn_106 ?_
        refine zj_topi (y := zi_I (zp_tk V sm (k + 1))) ((zi_min (by have := hV k (by omega); omega) (by have := hV k (by omega); omega) (by have := hV (k + 1) (by omega); have := hV2 k (by omega); split <;> omega) (by have := hV (k + 1) (by omega); have := hV2 k (by omega); split <;> omega)).trans (by rw [zp_tkS, hsm k, decide_eq_true h39]; rfl)) ?_
        refine zj_iast C (by omega) (va_up_self _ _ _) rfl (by omega) (by decide) dc_R_takeIn_109 ?_
        refine zj_iinc C dc_R_takeIn_110 4 rfl (zn_inc (k + 1)) (by decide) rfl ?_
        refine zj_goto C dc_R_takeIn_113 rfl ?_
        refine zj_loc (L' := [(4, .int (nI (k + 1 + 1))), (3, .int (zi_I (V (k + 1)))), (0, .ref (ad 101)), (1, .ref (ad 66)), (2, .int step)]) [0, 2, 5, 6, 7] rfl ?_
        refine zj_g (bx_uu _ _ _ _) ?_
        exact ih (k + 1) _ (by omega) (by omega) (fun i hi => by by_cases c : i = k + 1 <;> simp only [upd, c, if_true, if_false] <;> first | rfl | exact e3 i (by omega)) (fun i h1 h2 => by simp only [upd, if_neg (show ¬ i = k + 1 by omega)]; exact e4 i (by omega) h2)
  refine zj_aload_n C dc_R_takeIn_0 rfl 0 rfl ?_
  refine zj_get (k := 0) C (by omega) hR rfl (by decide) fw_R fl_R_9 rfl rfl dc_R_takeIn_1 ?_
  refine zj_iconst (v := 0) C dc_R_takeIn_4 (by decide) ?_
  refine zj_iald C (by omega) hw0 nI_0.symm (by omega) (by decide) dc_R_takeIn_5 ?_
  refine zj_topi (hw 0 (by omega)) ?_
  refine zj_istore_n C dc_R_takeIn_6 rfl (by decide) rfl ?_
  refine zj_aload_n C dc_R_takeIn_7 rfl 1 rfl ?_
  refine zj_get (k := 0) C (by omega) hR rfl (by decide) fw_R fl_R_9 rfl rfl dc_R_takeIn_8 ?_
  refine zj_iconst (v := 0) C dc_R_takeIn_11 (by decide) ?_
  refine zj_dup2 C dc_R_takeIn_12 rfl rfl ?_
  refine zj_iald C (by omega) hw0 nI_0.symm (by omega) (by decide) dc_R_takeIn_13 ?_
  refine zj_topi (hw 0 (by omega)) ?_
  refine zj_bipush (v := 16) C dc_R_takeIn_14 (by decide) ?_
  refine zj_iadd C dc_R_takeIn_16 ?_
  refine zj_topi (zi_16 _) ?_
  refine zj_iast C (by omega) hw0 nI_0.symm (by omega) (by decide) dc_R_takeIn_17 ?_
  refine zj_iconst (v := 1) C dc_R_takeIn_18 (by decide) ?_
  refine zj_istore C dc_R_takeIn_19 (by decide) rfl ?_
  refine zj_loc [0, 1, 2, 3, 4] rfl ?_
  exact loop (qc - 1) 0 _ (by omega) (by omega) (fun i hi => by rw [show i = 0 by omega]; rfl) (fun i h1 h2 => by simp only [upd, if_neg (show ¬ i = 0 by omega)]; exact hw i h2)
/-- a step of the query is a step of the notes from place pl on -/
def zp_sm (qp p : Nat → Int32) (pl : Nat) : Nat → Nat → Bool := fun i j => decide (qp (i + 1) - qp i = p (pl + j + 1) - p (pl + j))
set_option maxHeartbeats 4000000 in
set_option maxRecDepth 100000 in
theorem ct_R_measure (l : Launch) (hst : l.stackTraces = false) (z : zv_T) (ad : Nat → Nat) (N : Nat) (g : Nat → va_E) (qc : Nat) (qp qq : Nat → Int32) (hq : zs_N z ad g 66 8 qc qp qq) (hqc : 2 ≤ qc) (hqc8 : qc ≤ 8) (hN : 105 ≤ N) (hh ee mo lo : Nat) (wt hr bh : Nat → Int32) (hs : zs_R z ad g hh ee mo lo wt hr bh) (ni c : Nat) (p q : Nat → Int32) (hn : zs_N z ad g ni 20 c p q) (hni : ni + 2 < 66) (hc : c ≤ 20) (pl : Nat) (hpl : pl ≤ 20) (hlo : lo ≤ 12) : zm_v l mn_R_measure ws_R_measure rm_R_measure z ad N g [.ref (ad 101), .ref (ad 66), .ref (ad ni), .int (nI pl)] (fun g1 => ∃ w2 b2, g1 102 = ze_i z 8 w2 ∧ g1 ee = ze_i z 13 b2 ∧ (∀ s, 2 ≤ s → s ≤ lo → pl + s ≤ c → b2 s = zi_I (zp_w (zp_dp (zp_sm qp p pl) (qc - 1) (s - 1)))) ∧ ∀ j, j ≠ 102 → j ≠ ee → g1 j = g j) := by
  obtain ⟨hR, hw0, hh0, he0, hhe⟩ := hs
  obtain ⟨hq0, hq1, hq2⟩ := hq
  obtain ⟨hn0, hn1, hn2⟩ := hn
  refine zm_ofv hst pn_R_measure rfl (Nat.le_of_ble_eq_true rfl) (fun X hX C => ?_)
  subst hX
  show zj_J X 0 0 _ ad N g 0 [(0, .ref (ad 101)), (1, .ref (ad 66)), (2, .ref (ad ni)), (3, .int (nI pl))] []
  have loop2 : ∀ (n : Nat) (j : Nat) (g3 : Nat → va_E) (w3 b3 : Nat → Int32), lo + 1 - (j + 2) = n → j + 2 ≤ 13 → g3 102 = ze_i z 8 w3 → g3 ee = ze_i z 13 b3 → (∀ j, j ≠ 102 → j ≠ ee → g3 j = g j) → (∀ i, i < qc → w3 i = zi_I (zp_w (zp_dp (zp_sm qp p pl) (i) (j)))) → (∀ s, 2 ≤ s → s < j + 2 → b3 s = zi_I (zp_w (zp_dp (zp_sm qp p pl) (qc - 1) (s - 1)))) → zj_J X 0 0 (zj_Qv X 0 0 ad N (fun g1 => ∃ w2 b2, g1 102 = ze_i z 8 w2 ∧ g1 ee = ze_i z 13 b2 ∧ (∀ s, 2 ≤ s → s ≤ lo → pl + s ≤ c → b2 s = zi_I (zp_w (zp_dp (zp_sm qp p pl) (qc - 1) (s - 1)))) ∧ ∀ j, j ≠ 102 → j ≠ ee → g1 j = g j)) ad N g3 33 [(4, .int (nI (j + 2))), (0, .ref (ad 101)), (1, .ref (ad 66)), (2, .ref (ad ni)), (3, .int (nI pl))] [] := by
    intro n
    induction n with
    | zero =>
      intro j g3 w3 b3 e1 e2 hw3 hb3 hfr e3 e4
      refine zj_iload C dc_R_measure_33 0 rfl ?_
      refine zj_aload_n C dc_R_measure_35 rfl 1 rfl ?_
      refine zj_get (k := 4) C (by omega) ((hfr 101 (by omega) (by omega)).trans hR) rfl (by decide) fw_R fl_R_30 rfl rfl dc_R_measure_36 ?_
      refine zj_icmp_gt C dc_R_measure_39 rfl (fun _ => ?_) (fun h => absurd h (not_not_intro ((nI_ltI (by omega) (by omega)).mpr (by omega))))
      exact zj_vret C dc_R_measure_90 ⟨w3, b3, hw3, hb3, fun s h1 h2 h3 => e4 s h1 (by omega), hfr⟩
    | succ n ih =>
      intro j g3 w3 b3 e1 e2 hw3 hb3 hfr e3 e4
      refine zj_iload C dc_R_measure_33 0 rfl ?_
      refine zj_aload_n C dc_R_measure_35 rfl 1 rfl ?_
      refine zj_get (k := 4) C (by omega) ((hfr 101 (by omega) (by omega)).trans hR) rfl (by decide) fw_R fl_R_30 rfl rfl dc_R_measure_36 ?_
      refine zj_icmp_gt C dc_R_measure_39 rfl (fun h => absurd h (((zn_nlt (by omega) (by omega)).mpr (by omega)))) (fun _ => ?_)
      refine zj_iload_n C dc_R_measure_42 rfl 4 rfl ?_
      refine zj_iload C dc_R_measure_43 0 rfl ?_
      refine zj_iadd C dc_R_measure_45 ?_
      refine zj_topi (nI_add _ _) ?_
      refine zj_aload_n C dc_R_measure_46 rfl 3 rfl ?_
      refine zj_get (k := 2) C (by omega) ((hfr ni (by omega) (by omega)).trans hn0) rfl (by decide) fw_N fl_R_25 rfl rfl dc_R_measure_47 ?_
      refine zj_icmp_gt C dc_R_measure_50 rfl (fun h50 => ?_) (fun h50 => ?_)
      · have h50 := (nI_ltI (by omega) (by omega)).mp h50
        exact zj_vret C dc_R_measure_90 ⟨w3, b3, hw3, hb3, fun s h1 h2 h3 => e4 s h1 (by omega), hfr⟩
      · have h50 := (zn_nlt (by omega) (by omega)).mp h50
        refine zj_aload_n C dc_R_measure_53 rfl 1 rfl ?_
        refine zj_aload_n C dc_R_measure_54 rfl 2 rfl ?_
        refine zj_aload_n C dc_R_measure_55 rfl 3 rfl ?_
        refine zj_iload_n C dc_R_measure_56 rfl 4 rfl ?_
        refine zj_iload C dc_R_measure_57 0 rfl ?_
        refine zj_iadd C dc_R_measure_59 ?_
        refine zj_topi (nI_add _ _) ?_
        refine zj_iconst (v := 2) C dc_R_measure_60 (by decide) ?_
        refine zj_isub C dc_R_measure_61 ?_
        refine zj_topi (show nI (pl + (j + 2)) - nI 2 = nI (pl + j) from (pk_sub (by omega)).trans (congrArg nI (by omega))) ?_
        refine zj_Vi C (ct_N_stepBehind _ hst z ad N g3 ni 20 c p q (by omega) ⟨((hfr ni (by omega) (by omega)).trans hn0), ((hfr (ni + 1) (by omega) (by omega)).trans hn1), ((hfr (ni + 2) (by omega) (by omega)).trans hn2)⟩ (by decide) (pl + j) (by omega)) gv_R_41 rfl rfl rfl hd_N_stepBehind ⟨(Nat.le_of_ble_eq_true rfl), (Nat.le_of_ble_eq_true rfl)⟩ (by omega) ((hfr ni (by omega) (by omega)).trans hn0) rfl rfl rfl (Nat.le_of_ble_eq_true rfl) ⟨(Nat.le_of_ble_eq_true rfl), (Nat.le_of_ble_eq_true rfl)⟩ dc_R_measure_62 (fun r1 g9 h1 => ?_)
        obtain ⟨rfl, hg9⟩ := h1
        rw [hg9]
        refine zj_Vv C (ct_R_takeIn _ hst z ad N _ qc qp qq ⟨((hfr 66 (by omega) (by omega)).trans hq0), ((hfr 67 (by omega) (by omega)).trans hq1), ((hfr 68 (by omega) (by omega)).trans hq2)⟩ hqc hqc8 hN hh ee mo lo w3 hr b3 ⟨((hfr 101 (by omega) (by omega)).trans hR), hw3, ((hfr hh (by omega) (by omega)).trans hh0), hb3, hhe⟩ _ (fun i => (zp_sm qp p pl) i j) (fun i => rfl) (fun i => zp_w (zp_dp (zp_sm qp p pl) i j)) e3 (fun i hi => by have h5 := zp_w_lo (zp_sm qp p pl) i j (by omega); have h6 := zp_dp_up (zp_sm qp p pl) i j; unfold zp_w at h5 ⊢; omega)) gv_R_45 rfl rfl rfl hd_R_takeIn ⟨(Nat.le_of_ble_eq_true rfl), (Nat.le_of_ble_eq_true rfl)⟩ (by omega) ((hfr 101 (by omega) (by omega)).trans hR) rfl rfl rfl (Nat.le_of_ble_eq_true rfl) ⟨(Nat.le_of_ble_eq_true rfl), (Nat.le_of_ble_eq_true rfl)⟩ dc_R_measure_65 (fun g4 h1 => ?_)
        obtain ⟨w4, rfl, hw4⟩ := h1
        have hw5 : ∀ i, i < qc → w4 i = zi_I (zp_w (zp_dp (zp_sm qp p pl) (i) (j + 1))) := fun i hi => (hw4 i hi).trans (congrArg zi_I (zp_tk_dp (zp_sm qp p pl) j i (by omega)))
        refine zj_aload_n C dc_R_measure_68 rfl 1 rfl ?_
        refine zj_get (k := 2) C (by omega) (by (repeat rw [va_up_ne _ _ (by omega)]); exact ((hfr 101 (by omega) (by omega)).trans hR)) rfl (by decide) fw_R fl_R_18 rfl rfl dc_R_measure_69 ?_
        refine zj_iload C dc_R_measure_72 0 rfl ?_
        refine zj_aload_n C dc_R_measure_74 rfl 1 rfl ?_
        refine zj_get (k := 0) C (by omega) (by (repeat rw [va_up_ne _ _ (by omega)]); exact ((hfr 101 (by omega) (by omega)).trans hR)) rfl (by decide) fw_R fl_R_9 rfl rfl dc_R_measure_75 ?_
        refine zj_aload_n C dc_R_measure_78 rfl 2 rfl ?_
        refine zj_Vi C (ct_N_steps _ hst z ad N _ 66 8 qc qp qq (by omega) ⟨(by (repeat rw [va_up_ne _ _ (by omega)]); exact ((hfr 66 (by omega) (by omega)).trans hq0)), (by (repeat rw [va_up_ne _ _ (by omega)]); exact ((hfr 67 (by omega) (by omega)).trans hq1)), (by (repeat rw [va_up_ne _ _ (by omega)]); exact ((hfr 68 (by omega) (by omega)).trans hq2))⟩ (by decide) (by omega)) gv_R_37 rfl rfl rfl hd_N_steps ⟨(Nat.le_of_ble_eq_true rfl), (Nat.le_of_ble_eq_true rfl)⟩ (by omega) (by (repeat rw [va_up_ne _ _ (by omega)]); exact ((hfr 66 (by omega) (by omega)).trans hq0)) rfl rfl rfl (Nat.le_of_ble_eq_true rfl) ⟨(Nat.le_of_ble_eq_true rfl), (Nat.le_of_ble_eq_true rfl)⟩ dc_R_measure_79 (fun r1 g9 h1 => ?_)
        obtain ⟨rfl, hg9⟩ := h1
        rw [hg9]
        refine zj_iald C (by omega) (by (repeat rw [va_up_ne _ _ (by omega)]); exact (va_up_self _ _ _)) rfl (by omega) (by decide) dc_R_measure_82 ?_
        refine zj_topi (hw5 (qc - 1) (by omega)) ?_
        refine zj_iast C (by omega) (by (repeat rw [va_up_ne _ _ (by omega)]); exact hb3) rfl (by omega) (by decide) dc_R_measure_83 ?_
        refine zj_iinc C dc_R_measure_84 0 rfl (zn_inc (j + 2)) (by decide) rfl ?_
        refine zj_goto C dc_R_measure_87 rfl ?_
        refine zj_loc (L' := [(4, .int (nI (j + 1 + 2))), (0, .ref (ad 101)), (1, .ref (ad 66)), (2, .ref (ad ni)), (3, .int (nI pl))]) [0, 1, 2, 3, 4] rfl ?_
        exact ih (j + 1) _ w4 _ (by omega) (by omega) (by rw [va_up_ne _ _ (by omega)]; exact va_up_self _ _ _) (va_up_self _ _ _) (fun j h1 h2 => by rw [va_up_ne _ _ h2, va_up_ne _ _ h1]; exact hfr j h1 h2) hw5 (fun s h1 h2 => if c9 : s = j + 2 then (by subst c9; simp only [upd, if_true]; rfl) else (by simp only [upd, if_neg c9]; exact e4 s h1 (by omega)))
  have loop1 : ∀ (n : Nat) (k : Nat) (g2 : Nat → va_E) (w2 : Nat → Int32), qc - k = n → k ≤ qc → g2 102 = ze_i z 8 w2 → (∀ j, j ≠ 102 → g2 j = g j) → (∀ i, i < k → w2 i = zi_I (16 * (i : Int))) → zj_J X 0 0 (zj_Qv X 0 0 ad N (fun g1 => ∃ w2 b2, g1 102 = ze_i z 8 w2 ∧ g1 ee = ze_i z 13 b2 ∧ (∀ s, 2 ≤ s → s ≤ lo → pl + s ≤ c → b2 s = zi_I (zp_w (zp_dp (zp_sm qp p pl) (qc - 1) (s - 1)))) ∧ ∀ j, j ≠ 102 → j ≠ ee → g1 j = g j)) ad N g2 3 [(4, .int (nI k)), (0, .ref (ad 101)), (1, .ref (ad 66)), (2, .ref (ad ni)), (3, .int (nI pl))] [] := by
    intro n
    induction n with
    | zero =>
      intro k g2 w2 e1 e2 hw2 hfr e3
      refine zj_iload C dc_R_measure_3 0 rfl ?_
      refine zj_aload_n C dc_R_measure_5 rfl 2 rfl ?_
      refine zj_Vi C (ct_N_steps _ hst z ad N _ 66 8 qc qp qq (by omega) ⟨((hfr 66 (by omega)).trans hq0), ((hfr 67 (by omega)).trans hq1), ((hfr 68 (by omega)).trans hq2)⟩ (by decide) (by omega)) gv_R_37 rfl rfl rfl hd_N_steps ⟨(Nat.le_of_ble_eq_true rfl), (Nat.le_of_ble_eq_true rfl)⟩ (by omega) ((hfr 66 (by omega)).trans hq0) rfl rfl rfl (Nat.le_of_ble_eq_true rfl) ⟨(Nat.le_of_ble_eq_true rfl), (Nat.le_of_ble_eq_true rfl)⟩ dc_R_measure_6 (fun r1 g9 h1 => ?_)
      obtain ⟨rfl, hg9⟩ := h1
      rw [hg9]
      refine zj_icmp_gt C dc_R_measure_9 rfl (fun _ => ?_) (fun h => absurd h (not_not_intro ((nI_ltI (by omega) (by omega)).mpr (by omega))))
      refine zj_iconst (v := 2) C dc_R_measure_30 (by decide) ?_
      refine zj_istore C dc_R_measure_31 (by decide) rfl ?_
      refine zj_loc (L' := [(4, .int (nI (0 + 2))), (0, .ref (ad 101)), (1, .ref (ad 66)), (2, .ref (ad ni)), (3, .int (nI pl))]) [0, 1, 2, 3, 4] rfl ?_
      exact loop2 (lo + 1 - 2) 0 g2 w2 bh rfl (by omega) hw2 ((hfr ee (by omega)).trans he0) (fun j h1 h2 => hfr j h1) (fun i hi => (e3 i (by omega)).trans (congrArg zi_I (by rw [zp_dpi]; unfold zp_w; simp))) (fun s h1 h2 => by omega)
    | succ n ih =>
      intro k g2 w2 e1 e2 hw2 hfr e3
      refine zj_iload C dc_R_measure_3 0 rfl ?_
      refine zj_aload_n C dc_R_measure_5 rfl 2 rfl ?_
      refine zj_Vi C (ct_N_steps _ hst z ad N _ 66 8 qc qp qq (by omega) ⟨((hfr 66 (by omega)).trans hq0), ((hfr 67 (by omega)).trans hq1), ((hfr 68 (by omega)).trans hq2)⟩ (by decide) (by omega)) gv_R_37 rfl rfl rfl hd_N_steps ⟨(Nat.le_of_ble_eq_true rfl), (Nat.le_of_ble_eq_true rfl)⟩ (by omega) ((hfr 66 (by omega)).trans hq0) rfl rfl rfl (Nat.le_of_ble_eq_true rfl) ⟨(Nat.le_of_ble_eq_true rfl), (Nat.le_of_ble_eq_true rfl)⟩ dc_R_measure_6 (fun r1 g9 h1 => ?_)
      obtain ⟨rfl, hg9⟩ := h1
      rw [hg9]
      refine zj_icmp_gt C dc_R_measure_9 rfl (fun h => absurd h (((zn_nlt (by omega) (by omega)).mpr (by omega)))) (fun _ => ?_)
      refine zj_aload_n C dc_R_measure_12 rfl 1 rfl ?_
      refine zj_get (k := 0) C (by omega) ((hfr 101 (by omega)).trans hR) rfl (by decide) fw_R fl_R_9 rfl rfl dc_R_measure_13 ?_
      refine zj_iload C dc_R_measure_16 0 rfl ?_
      refine zj_iload C dc_R_measure_18 0 rfl ?_
      refine zj_bipush (v := 16) C dc_R_measure_20 (by decide) ?_
      refine zj_imul C dc_R_measure_22 ?_
      refine zj_topi (show nI k * 16 = zi_I (16 * (k : Int)) from by rw [zi_n, show (16 : Int32) = zi_I 16 from rfl, zi_mul, Int.mul_comm]) ?_
      refine zj_iast C (by omega) hw2 rfl (by omega) (by decide) dc_R_measure_23 ?_
      refine zj_iinc C dc_R_measure_24 0 rfl (zn_inc k) (by decide) rfl ?_
      refine zj_goto C dc_R_measure_27 rfl ?_
      refine zj_loc (L' := [(4, .int (nI (k + 1))), (0, .ref (ad 101)), (1, .ref (ad 66)), (2, .ref (ad ni)), (3, .int (nI pl))]) [0, 1, 2, 3, 4] rfl ?_
      exact ih (k + 1) _ _ (by omega) (by omega) (va_up_self _ _ _) (fun j hj => by rw [va_up_ne _ _ hj]; exact hfr j hj) (fun i hi => if c9 : i = k then (by subst c9; simp only [upd, if_true]) else (by simp only [upd, if_neg c9]; exact e3 i (by omega)))
  refine zj_iconst (v := 0) C dc_R_measure_0 (by decide) ?_
  refine zj_istore C dc_R_measure_1 (by decide) rfl ?_
  refine zj_loc [0, 1, 2, 3, 4] rfl ?_
  exact loop1 qc 0 g wt rfl (by omega) hw0 (fun j hj => rfl) (fun i hi => by omega)
theorem zi_div16 {y : Int} (h1 : 0 ≤ y) (h2 : y ≤ 1000000) : zi_I y / 16 = zi_I (y / 16) := by
  obtain ⟨n, rfl⟩ := Int.eq_ofNat_of_zero_le h1
  rw [← zi_n, show (16 : Int32) = nI 16 from rfl, pk_div (by omega) (by omega) (by omega), zi_n]
  congr 1
set_option maxHeartbeats 4000000 in
set_option maxRecDepth 100000 in
theorem ct_R_begin (l : Launch) (hst : l.stackTraces = false) (z : zv_T) (ad : Nat → Nat) (N : Nat) (g : Nat → va_E) (qc : Nat) (qp qq : Nat → Int32) (hq : zs_N z ad g 66 8 qc qp qq) (hqc : 2 ≤ qc) (hqc8 : qc ≤ 8) (hN : 105 ≤ N) (hh ee mo lo : Nat) (wt hr bh : Nat → Int32) (hs : zs_R z ad g hh ee mo lo wt hr bh) (ni c : Nat) (p q : Nat → Int32) (hn : zs_N z ad g ni 20 c p q) (hni : ni + 2 < 66) (hc : c ≤ 20) (kk : Nat) (hkk : kk ≤ 4) : zm_v l mn_R_begin ws_R_begin rm_R_begin z ad N g [.ref (ad 101), .ref (ad 66), .ref (ad ni), .int (nI kk)] (fun g1 => ∃ w2 b2, zs_R z ad g1 hh ee (kk * 16) (qc + kk) w2 hr b2 ∧ (∀ s, 2 ≤ s → s ≤ qc + kk → 0 + s ≤ c → b2 s = zi_I (zp_w (zp_dp (zp_sm qp p (0)) (qc - 1) (s - 1)))) ∧ ∀ j, j ≠ 101 → j ≠ 102 → j ≠ ee → g1 j = g j) := by
  obtain ⟨hR, hw0, hh0, he0, hhe⟩ := hs
  obtain ⟨hq0, hq1, hq2⟩ := hq
  obtain ⟨hn0, hn1, hn2⟩ := hn
  refine zm_ofv hst pn_R_begin rfl (Nat.le_of_ble_eq_true rfl) (fun X hX C => ?_)
  subst hX
  show zj_J X 0 0 _ ad N g 0 [(0, .ref (ad 101)), (1, .ref (ad 66)), (2, .ref (ad ni)), (3, .int (nI kk))] []
  refine zj_aload_n C dc_R_begin_0 rfl 0 rfl ?_
  refine zj_iload_n C dc_R_begin_1 rfl 3 rfl ?_
  refine zj_bipush (v := 16) C dc_R_begin_2 (by decide) ?_
  refine zj_imul C dc_R_begin_4 ?_
  refine zj_topi (show nI kk * nI 16 = nI (kk * 16) from pk_mul kk 16) ?_
  refine zj_put (k := 3) C (by omega) hR rfl (by decide) fw_R fl_R_21 rfl fy_R fk_R fn_R rfl rfl rfl (Nat.le_of_ble_eq_true rfl) rfl dc_R_begin_5 ?_
  refine zj_aload_n C dc_R_begin_8 rfl 0 rfl ?_
  refine zj_aload_n C dc_R_begin_9 rfl 1 rfl ?_
  refine zj_get (k := 2) C (by omega) (by (repeat rw [va_up_ne _ _ (by omega)]); exact hq0) rfl (by decide) fw_N fl_R_25 rfl rfl dc_R_begin_10 ?_
  refine zj_iload_n C dc_R_begin_13 rfl 3 rfl ?_
  refine zj_iadd C dc_R_begin_14 ?_
  refine zj_topi (nI_add _ _) ?_
  refine zj_put (k := 4) C (by omega) (by (repeat rw [va_up_ne _ _ (by omega)]); exact (va_up_self _ _ _)) rfl (by decide) fw_R fl_R_30 rfl fy_R fk_R fn_R rfl rfl rfl (Nat.le_of_ble_eq_true rfl) rfl dc_R_begin_15 ?_
  refine zj_aload_n C dc_R_begin_18 rfl 0 rfl ?_
  refine zj_aload_n C dc_R_begin_19 rfl 1 rfl ?_
  refine zj_aload_n C dc_R_begin_20 rfl 2 rfl ?_
  refine zj_iconst (v := 0) C dc_R_begin_21 (by decide) ?_
  refine zj_topi (nI_0.symm) ?_
  refine zj_Vv C (ct_R_measure _ hst z ad N _ qc qp qq ⟨(by (repeat rw [va_up_ne _ _ (by omega)]); exact hq0), (by (repeat rw [va_up_ne _ _ (by omega)]); exact hq1), (by (repeat rw [va_up_ne _ _ (by omega)]); exact hq2)⟩ hqc hqc8 hN hh ee (kk * 16) (qc + kk) wt hr bh ⟨(by (repeat rw [va_up_ne _ _ (by omega)]); exact (va_up_self _ _ _)), (by (repeat rw [va_up_ne _ _ (by omega)]); exact hw0), (by (repeat rw [va_up_ne _ _ (by omega)]); exact hh0), (by (repeat rw [va_up_ne _ _ (by omega)]); exact he0), hhe⟩ ni c p q ⟨(by (repeat rw [va_up_ne _ _ (by omega)]); exact hn0), (by (repeat rw [va_up_ne _ _ (by omega)]); exact hn1), (by (repeat rw [va_up_ne _ _ (by omega)]); exact hn2)⟩ hni hc 0 (by omega) (by omega)) gv_R_33 rfl rfl rfl hd_R_measure ⟨(Nat.le_of_ble_eq_true rfl), (Nat.le_of_ble_eq_true rfl)⟩ (by omega) (by (repeat rw [va_up_ne _ _ (by omega)]); exact (va_up_self _ _ _)) rfl rfl rfl (Nat.le_of_ble_eq_true rfl) ⟨(Nat.le_of_ble_eq_true rfl), (Nat.le_of_ble_eq_true rfl)⟩ dc_R_begin_22 (fun g3 h1 => ?_)
  obtain ⟨w2, b2, h2, h3, h4, h5⟩ := h1
  exact zj_vret C dc_R_begin_25 ⟨w2, b2, ⟨(h5 101 (by omega) (by omega)).trans (by (repeat rw [va_up_ne _ _ (by omega)]); exact (va_up_self _ _ _)), h2, (h5 hh (by omega) (by omega)).trans (by (repeat rw [va_up_ne _ _ (by omega)]); exact hh0), h3, hhe⟩, h4, fun j c1 c2 c3 => (h5 j c2 c3).trans (by (repeat rw [va_up_ne _ _ c1]))⟩
set_option maxHeartbeats 4000000 in
set_option maxRecDepth 100000 in
theorem ct_R_goOn (l : Launch) (hst : l.stackTraces = false) (z : zv_T) (ad : Nat → Nat) (N : Nat) (g : Nat → va_E) (qc : Nat) (qp qq : Nat → Int32) (hq : zs_N z ad g 66 8 qc qp qq) (hqc : 2 ≤ qc) (hqc8 : qc ≤ 8) (hN : 105 ≤ N) (hh ee mo lo : Nat) (wt hr bh : Nat → Int32) (hs : zs_R z ad g hh ee mo lo wt hr bh) (ni c : Nat) (p q : Nat → Int32) (hn : zs_N z ad g ni 20 c p q) (hni : ni + 2 < 66) (hc : c ≤ 20) (pl : Nat) (hpl : pl < 20) (hlo : lo ≤ 12) : zm_v l mn_R_goOn ws_R_goOn rm_R_goOn z ad N g [.ref (ad 101), .ref (ad 66), .ref (ad ni), .int (nI pl)] (fun g1 => ∃ w2 b2, zs_R z ad g1 ee hh mo lo w2 bh b2 ∧ (∀ s, 2 ≤ s → s ≤ lo → pl + 1 + s ≤ c → b2 s = zi_I (zp_w (zp_dp (zp_sm qp p (pl + 1)) (qc - 1) (s - 1)))) ∧ ∀ j, j ≠ 101 → j ≠ 102 → j ≠ hh → g1 j = g j) := by
  obtain ⟨hR, hw0, hh0, he0, hhe⟩ := hs
  obtain ⟨hq0, hq1, hq2⟩ := hq
  obtain ⟨hn0, hn1, hn2⟩ := hn
  refine zm_ofv hst pn_R_goOn rfl (Nat.le_of_ble_eq_true rfl) (fun X hX C => ?_)
  subst hX
  show zj_J X 0 0 _ ad N g 0 [(0, .ref (ad 101)), (1, .ref (ad 66)), (2, .ref (ad ni)), (3, .int (nI pl))] []
  refine zj_aload_n C dc_R_goOn_0 rfl 0 rfl ?_
  refine zj_get (k := 2) C (by omega) hR rfl (by decide) fw_R fl_R_18 rfl rfl dc_R_goOn_1 ?_
  refine zj_astore C dc_R_goOn_4 (by decide) rfl ?_
  refine zj_aload_n C dc_R_goOn_6 rfl 1 rfl ?_
  refine zj_aload_n C dc_R_goOn_7 rfl 1 rfl ?_
  refine zj_get (k := 1) C (by omega) hR rfl (by decide) fw_R fl_R_15 rfl rfl dc_R_goOn_8 ?_
  refine zj_put (k := 2) C (by omega) hR rfl (by decide) fw_R fl_R_18 rfl fy_R fk_R fn_R rfl rfl rfl (Nat.le_of_ble_eq_true rfl) rfl dc_R_goOn_11 ?_
  refine zj_aload_n C dc_R_goOn_14 rfl 1 rfl ?_
  refine zj_aload C dc_R_goOn_15 0 rfl ?_
  refine zj_put (k := 1) C (by omega) (by (repeat rw [va_up_ne _ _ (by omega)]); exact (va_up_self _ _ _)) rfl (by decide) fw_R fl_R_15 rfl fy_R fk_R fn_R rfl rfl rfl (Nat.le_of_ble_eq_true rfl) rfl dc_R_goOn_17 ?_
  refine zj_aload_n C dc_R_goOn_20 rfl 1 rfl ?_
  refine zj_aload_n C dc_R_goOn_21 rfl 2 rfl ?_
  refine zj_aload_n C dc_R_goOn_22 rfl 3 rfl ?_
  refine zj_iload_n C dc_R_goOn_23 rfl 4 rfl ?_
  refine zj_iconst (v := 1) C dc_R_goOn_24 (by decide) ?_
  refine zj_iadd C dc_R_goOn_25 ?_
  refine zj_topi (nI_1 _) ?_
  refine zj_Vv C (ct_R_measure _ hst z ad N _ qc qp qq ⟨(by (repeat rw [va_up_ne _ _ (by omega)]); exact hq0), (by (repeat rw [va_up_ne _ _ (by omega)]); exact hq1), (by (repeat rw [va_up_ne _ _ (by omega)]); exact hq2)⟩ hqc hqc8 hN ee hh mo lo wt bh hr ⟨(by (repeat rw [va_up_ne _ _ (by omega)]); exact (va_up_self _ _ _)), (by (repeat rw [va_up_ne _ _ (by omega)]); exact hw0), (by (repeat rw [va_up_ne _ _ (by omega)]); exact he0), (by (repeat rw [va_up_ne _ _ (by omega)]); exact hh0), by omega⟩ ni c p q ⟨(by (repeat rw [va_up_ne _ _ (by omega)]); exact hn0), (by (repeat rw [va_up_ne _ _ (by omega)]); exact hn1), (by (repeat rw [va_up_ne _ _ (by omega)]); exact hn2)⟩ hni hc (pl + 1) (by omega) hlo) gv_R_33 rfl rfl rfl hd_R_measure ⟨(Nat.le_of_ble_eq_true rfl), (Nat.le_of_ble_eq_true rfl)⟩ (by omega) (by (repeat rw [va_up_ne _ _ (by omega)]); exact (va_up_self _ _ _)) rfl rfl rfl (Nat.le_of_ble_eq_true rfl) ⟨(Nat.le_of_ble_eq_true rfl), (Nat.le_of_ble_eq_true rfl)⟩ dc_R_goOn_26 (fun g3 h1 => ?_)
  obtain ⟨w2, b2, h2, h3, h4, h5⟩ := h1
  exact zj_vret C dc_R_goOn_29 ⟨w2, b2, ⟨(h5 101 (by omega) (by omega)).trans (by (repeat rw [va_up_ne _ _ (by omega)]); exact (va_up_self _ _ _)), h2, (h5 ee (by omega) (by omega)).trans (by (repeat rw [va_up_ne _ _ (by omega)]); exact he0), h3, by omega⟩, h4, fun j c1 c2 c3 => (h5 j c2 c3).trans (by (repeat rw [va_up_ne _ _ c1]))⟩
set_option maxHeartbeats 4000000 in
set_option maxRecDepth 100000 in
theorem ct_R_holds (l : Launch) (hst : l.stackTraces = false) (z : zv_T) (ad : Nat → Nat) (N : Nat) (g : Nat → va_E) (hN : 105 ≤ N) (hh ee mo lo : Nat) (wt hr bh : Nat → Int32) (hs : zs_R z ad g hh ee mo lo wt hr bh) (s : Nat) (hs2 : 2 ≤ s) (hs12 : s ≤ 12) : zm_i l mn_R_holds ws_R_holds rm_R_holds z ad N g [.ref (ad 101), .int (nI s)] (fun r g1 => r = (if hr s ≤ nI mo ∧ (s = 2 ∨ (¬ hr (s - 1) ≤ nI mo ∧ ¬ bh (s - 1) ≤ nI mo)) then 1 else 0) ∧ g1 = g) := by
  obtain ⟨hR, hw0, hh0, he0, hhe⟩ := hs
  refine zm_ofz hst pn_R_holds rfl (Nat.le_of_ble_eq_true rfl) (fun X hX C => ?_)
  subst hX
  show zj_J X 0 0 _ ad N g 0 [(0, .ref (ad 101)), (1, .int (nI s))] []
  refine zj_aload_n C dc_R_holds_0 rfl 0 rfl ?_
  refine zj_get (k := 1) C (by omega) hR rfl (by decide) fw_R fl_R_15 rfl rfl dc_R_holds_1 ?_
  refine zj_iload_n C dc_R_holds_4 rfl 1 rfl ?_
  refine zj_iald C (by omega) hh0 rfl (by omega) (by decide) dc_R_holds_5 ?_
  refine zj_aload_n C dc_R_holds_6 rfl 0 rfl ?_
  refine zj_get (k := 3) C (by omega) hR rfl (by decide) fw_R fl_R_21 rfl rfl dc_R_holds_7 ?_
  refine zj_icmp_le C dc_R_holds_10 rfl (fun a1 => ?_) (fun a1 => ?_)
  · skip
    refine zj_iload_n C dc_R_holds_15 rfl 1 rfl ?_
    refine zj_iconst (v := 2) C dc_R_holds_16 (by decide) ?_
    refine zj_icmp_eq C dc_R_holds_17 rfl (fun a2 => ?_) (fun a2 => ?_)
    · have a2 := (nI_eq (b := 2) (by omega) (by omega)).mp a2
      refine zj_iconst (v := 1) C dc_R_holds_50 (by decide) ?_
      refine zj_goto C dc_R_holds_51 rfl ?_
      exact zj_zret C dc_R_holds_55 rfl ⟨by simp_all, rfl⟩
    · have a2 : ¬ s = 2 := fun e => a2 (by rw [e]; rfl)
      refine zj_aload_n C dc_R_holds_20 rfl 0 rfl ?_
      refine zj_get (k := 1) C (by omega) hR rfl (by decide) fw_R fl_R_15 rfl rfl dc_R_holds_21 ?_
      refine zj_iload_n C dc_R_holds_24 rfl 1 rfl ?_
      refine zj_iconst (v := 1) C dc_R_holds_25 (by decide) ?_
      refine zj_isub C dc_R_holds_26 ?_
      refine zj_topi (zn_m1 (by omega)) ?_
      refine zj_iald C (by omega) hh0 rfl (by omega) (by decide) dc_R_holds_27 ?_
      refine zj_aload_n C dc_R_holds_28 rfl 0 rfl ?_
      refine zj_get (k := 3) C (by omega) hR rfl (by decide) fw_R fl_R_21 rfl rfl dc_R_holds_29 ?_
      refine zj_icmp_le C dc_R_holds_32 rfl (fun a3 => ?_) (fun a3 => ?_)
      · skip
        refine zj_iconst (v := 0) C dc_R_holds_54 (by decide) ?_
        exact zj_zret C dc_R_holds_55 rfl ⟨by simp_all, rfl⟩
      · skip
        refine zj_aload_n C dc_R_holds_35 rfl 0 rfl ?_
        refine zj_get (k := 2) C (by omega) hR rfl (by decide) fw_R fl_R_18 rfl rfl dc_R_holds_36 ?_
        refine zj_iload_n C dc_R_holds_39 rfl 1 rfl ?_
        refine zj_iconst (v := 1) C dc_R_holds_40 (by decide) ?_
        refine zj_isub C dc_R_holds_41 ?_
        refine zj_topi (zn_m1 (by omega)) ?_
        refine zj_iald C (by omega) he0 rfl (by omega) (by decide) dc_R_holds_42 ?_
        refine zj_aload_n C dc_R_holds_43 rfl 0 rfl ?_
        refine zj_get (k := 3) C (by omega) hR rfl (by decide) fw_R fl_R_21 rfl rfl dc_R_holds_44 ?_
        refine zj_icmp_le C dc_R_holds_47 rfl (fun a4 => ?_) (fun a4 => ?_)
        · skip
          refine zj_iconst (v := 0) C dc_R_holds_54 (by decide) ?_
          exact zj_zret C dc_R_holds_55 rfl ⟨by simp_all, rfl⟩
        · skip
          refine zj_iconst (v := 1) C dc_R_holds_50 (by decide) ?_
          refine zj_goto C dc_R_holds_51 rfl ?_
          exact zj_zret C dc_R_holds_55 rfl ⟨by simp_all, rfl⟩
  · skip
    refine zj_iconst (v := 0) C dc_R_holds_13 (by decide) ?_
    exact zj_zret C dc_R_holds_14 rfl ⟨by rw [if_neg (fun h => a1 h.1)], rfl⟩
set_option maxHeartbeats 4000000 in
set_option maxRecDepth 100000 in
theorem ct_R_staying (l : Launch) (hst : l.stackTraces = false) (z : zv_T) (ad : Nat → Nat) (N : Nat) (g : Nat → va_E) (hN : 105 ≤ N) (hh ee mo lo : Nat) (wt hr bh : Nat → Int32) (hs : zs_R z ad g hh ee mo lo wt hr bh) (s : Nat) (hs2 : 2 ≤ s) (hs12 : s ≤ 12) (x : Int) (hx : hr s = zi_I x) (hx1 : -7 ≤ x) (hx2 : x ≤ 100000) : zm_i l mn_R_staying ws_R_staying rm_R_staying z ad N g [.ref (ad 101), .int (nI s)] (fun r g1 => r = zi_I ((x + 15) / 16 * 16 - x) ∧ g1 = g) := by
  obtain ⟨hR, hw0, hh0, he0, hhe⟩ := hs
  refine zm_ofi hst pn_R_staying rfl (Nat.le_of_ble_eq_true rfl) (fun X hX C => ?_)
  subst hX
  show zj_J X 0 0 _ ad N g 0 [(0, .ref (ad 101)), (1, .int (nI s))] []
  refine zj_aload_n C dc_R_staying_0 rfl 0 rfl ?_
  refine zj_get (k := 1) C (by omega) hR rfl (by decide) fw_R fl_R_15 rfl rfl dc_R_staying_1 ?_
  refine zj_iload_n C dc_R_staying_4 rfl 1 rfl ?_
  refine zj_iald C (by omega) hh0 rfl (by omega) (by decide) dc_R_staying_5 ?_
  refine zj_topi (hx) ?_
  refine zj_bipush (v := 16) C dc_R_staying_6 (by decide) ?_
  refine zj_iadd C dc_R_staying_8 ?_
  refine zj_topi (zi_16 _) ?_
  refine zj_iconst (v := 1) C dc_R_staying_9 (by decide) ?_
  refine zj_isub C dc_R_staying_10 ?_
  refine zj_topi (show zi_I (x + 16) - zi_I 1 = zi_I (x + 15) from (zi_sub _ _).trans (congrArg zi_I (by omega))) ?_
  refine zj_bipush (v := 16) C dc_R_staying_11 (by decide) ?_
  refine zj_idiv C dc_R_staying_13 (by decide) ?_
  refine zj_topi (zi_div16 (by omega) (by omega)) ?_
  refine zj_istore_n C dc_R_staying_14 rfl (by decide) rfl ?_
  refine zj_iload_n C dc_R_staying_15 rfl 0 rfl ?_
  refine zj_bipush (v := 16) C dc_R_staying_16 (by decide) ?_
  refine zj_imul C dc_R_staying_18 ?_
  refine zj_topi (show zi_I ((x + 15) / 16) * zi_I 16 = zi_I ((x + 15) / 16 * 16) from zi_mul _ _) ?_
  refine zj_aload_n C dc_R_staying_19 rfl 1 rfl ?_
  refine zj_get (k := 1) C (by omega) hR rfl (by decide) fw_R fl_R_15 rfl rfl dc_R_staying_20 ?_
  refine zj_iload_n C dc_R_staying_23 rfl 2 rfl ?_
  refine zj_iald C (by omega) hh0 rfl (by omega) (by decide) dc_R_staying_24 ?_
  refine zj_topi (hx) ?_
  refine zj_isub C dc_R_staying_25 ?_
  refine zj_topi (zi_sub _ _) ?_
  exact zj_iret C dc_R_staying_26 ⟨rfl, rfl⟩
end ZR
