section ZMW
theorem zm_j1 {a h1 h2 h3 : Bool} (h : a = false ∨ h1 = false ∨ h2 = false ∨ h3 = false) : false = (a && (h1 && h2 && h3)) := by
  rcases h with rfl | rfl | rfl | rfl <;> simp
theorem zm_j0 {a h1 h2 h3 : Bool} (h : a = true) (k1 : h1 = true) (k2 : h2 = true) (k3 : h3 = true) : true = (a && (h1 && h2 && h3)) := by
  rw [h, k1, k2, k3]
  rfl
/-- whether the steps before two places are the same, and behind them -/
def zm_bf (P : Nat → Int32) (C fr : Nat) : Nat → Bool := fun k => decide (0 < k ∧ k < C) && decide (0 < fr ∧ fr < C) && decide (P (k - 1 + 1) - P (k - 1) = P (fr - 1 + 1) - P (fr - 1))
def zm_bh (P : Nat → Int32) (C fr st : Nat) : Nat → Bool := fun k => decide (0 < k + st + 1 ∧ k + st + 1 < C) && decide (0 < fr + st + 1 ∧ fr + st + 1 < C) && decide (P (k + st + 1) - P (k + st) = P (fr + st + 1) - P (fr + st))
def zm_oc (P : Nat → Int32) (fr st : Nat) : Nat → Bool := fun k => zp_all (zp_es P k fr) st
/-- at how many places the model finds st steps from fr on -/
def zm_pl (P : Nat → Int32) (C fr st : Nat) : Nat := zp_pres (zp_fold (zm_oc P fr st) (zm_bf P C fr) (zm_bh P C fr st) fr true (C - st))
theorem zm_eoS {T : Nat → Nat → Nat} {C le fr : Nat} (h : fr < C) (hl : 1 ≤ le) : zp_eo T (C - 1) le fr (C - 1 - fr) = zp_ei T fr le (C - fr - le) ++ zp_eo T (C - 1) le (fr + 1) (C - 1 - (fr + 1)) := by
  by_cases c : fr = C - 1
  · rw [show C - 1 - fr = 0 by omega, show C - fr - le = 0 by omega, show C - 1 - (fr + 1) = 0 by omega]
    rfl
  · rw [show C - 1 - fr = (C - 1 - (fr + 1)) + 1 by omega]
    show zp_ei T fr le (C - 1 + 1 - fr - le) ++ _ = _
    rw [show C - 1 + 1 - fr - le = C - fr - le by omega]
theorem zm_ex0 {T : Nat → Nat → Nat} {D Z W : List (Nat × Nat × Nat)} {fr st n m : Nat} (h : D ++ (zp_ei T fr st n ++ Z) = W) (hn : n = m + 1) (hf : T fr st = 0) : D ++ (zp_ei T fr (st + 1) m ++ Z) = W := by
  rw [hn, zp_eiS, if_neg (by omega)] at h
  exact h
theorem zm_ex1 {T : Nat → Nat → Nat} {D Z W : List (Nat × Nat × Nat)} {fr st n m : Nat} (h : D ++ (zp_ei T fr st n ++ Z) = W) (hn : n = m + 1) (hf : 0 < T fr st) : (D ++ [(fr, st, T fr st)]) ++ (zp_ei T fr (st + 1) m ++ Z) = W := by
  rw [hn, zp_eiS, if_pos hf] at h
  rw [← h]
  simp
theorem zm_exe {T : Nat → Nat → Nat} {D Z W : List (Nat × Nat × Nat)} {fr st n : Nat} (h : D ++ (zp_ei T fr st n ++ Z) = W) (hn : n = 0) : D ++ Z = W := by
  rw [hn] at h
  exact h
theorem zm_exi {D Z W : List (Nat × Nat × Nat)} {x : Nat × Nat × Nat} (h : (D ++ [x]) ++ Z = W) : W[D.length]? = some x ∧ D.length < W.length := by
  rw [← h]
  constructor
  · simp
  · simp
theorem zm_exn {D : List (Nat × Nat × Nat)} {x : Nat × Nat × Nat} {i : Int32} (h : ∀ k, k < D.length → ¬ i = nI k) (h1 : ¬ i = nI D.length) : ∀ k, k < (D ++ [x]).length → ¬ i = nI k := by
  intro k hk
  rw [List.length_append] at hk
  have hk : k < D.length + 1 := hk
  by_cases e : k = D.length
  · rw [e]; exact h1
  · exact h k (by omega)
theorem zm_le19 {x : Int32} (h1 : ¬ x < 1) (h2 : x ≤ 19) : ∃ a : Nat, 1 ≤ a ∧ a ≤ 19 ∧ x = nI a := by
  obtain ⟨b, hb, rfl⟩ := nI_of (zn_ge1 h1)
  exact ⟨b, (zn_nlt (b := 1) hb (by omega)).mp h1, (nI_leI (b := 19) hb (by omega)).mp h2, rfl⟩
theorem zm_le19n {x : Int32} (h : x < 1 ∨ (19 : Int32) < x) : ¬ zp_le19 x := by
  rintro ⟨a, h1, h2, rfl⟩
  rcases h with h | h
  · have := (nI_ltI (b := 1) (by omega) (by omega)).mp h; omega
  · have := (nI_ltI (a := 19) (by omega) (by omega)).mp h; omega
theorem zm_w3n {w : Int32} (h : w < 0 ∨ (2 : Int32) < w) : ¬ (w = nI 0 ∨ w = nI 1 ∨ w = nI 2) := by
  rintro (rfl | rfl | rfl) <;> rcases h with h | h <;> exact absurd h (by decide)
theorem zp_ld_un {e : Nat → Bool} {lim m n : Nat} (h : zp_ld e lim m) (h1 : zp_ld e lim n) : m = n := by
  have a := (zp_ld_ge h (n := n)).mpr ⟨h1.1, h1.2.1⟩
  have b := (zp_ld_ge h1 (n := m)).mpr ⟨h.1, h.2.1⟩
  omega
theorem zp_ld_ex (e : Nat → Bool) (lim : Nat) : ∃ m, zp_ld e lim m := by
  induction lim with
  | zero => exact ⟨0, Nat.le_refl _, fun t h => absurd h (Nat.not_lt_zero t), fun h => absurd h (Nat.lt_irrefl 0)⟩
  | succ n ih =>
    obtain ⟨m, h1, h2, h3⟩ := ih
    by_cases c : m = n
    · by_cases d : e n = true
      · exact ⟨n + 1, Nat.le_refl _, fun t ht => if q : t = n then q ▸ d else h2 t (by omega), fun h => absurd h (Nat.lt_irrefl _)⟩
      · exact ⟨n, by omega, fun t ht => h2 t (by omega), fun _ => by simpa using d⟩
    · exact ⟨m, by omega, h2, fun _ => h3 (by omega)⟩
set_option maxHeartbeats 4000000 in
set_option maxRecDepth 100000 in
theorem ct_M_sameSteps (l : Launch) (hst : l.stackTraces = false) (z : zv_T) (ad : Nat → Nat) (N : Nat) (g : Nat → va_E) (c as fo kp : Int32) (a : Nat → Nat → Int32) (hN : 126 ≤ N) (hM0 : zs_M z ad g c as fo kp a) (t R C : Nat) (ht : t < 8) (hC : a 2 t = nI C) (hC20 : C ≤ 20) (hR : a 3 t = nI R) (hR1 : 1 ≤ R) (hR9 : R ≤ 9) (x y n9 : Nat) (hx : x + n9 < 20) (hy : y + n9 < 20) : zm_i l mn_M_sameSteps ws_M_sameSteps rm_M_sameSteps z ad N g [.ref (ad 108), .int (nI t), .int (nI x), .int (nI y), .int (nI n9)] (fun r g1 => r = zb_i (zp_all (zp_es (zm_f a 4 t R) x y) n9) ∧ g1 = g) := by
  have hM : zm_M z ad g g c as fo kp a := ⟨hM0, fun _ _ => rfl⟩
  refine zm_ofz hst pn_M_sameSteps rfl (Nat.le_of_ble_eq_true rfl) (fun X hX CC => ?_)
  subst hX
  show zj_J X 0 0 _ ad N g 0 [(0, .ref (ad 108)), (1, .int (nI t)), (2, .int (nI x)), (3, .int (nI y)), (4, .int (nI n9))] []
  have loop : ∀ (n : Nat) (k : Nat), n9 + 1 - k = n → k ≤ n9 → zj_J X 0 0 (zj_Qi X 0 0 ad N (fun r g1 => r = zb_i (zp_all (zp_es (zm_f a 4 t R) x y) n9) ∧ g1 = g)) ad N g 6 [(6, .int (nI k)), (5, .int (zb_i (zp_all (zp_es (zm_f a 4 t R) x y) k))), (0, .ref (ad 108)), (1, .int (nI t)), (2, .int (nI x)), (3, .int (nI y)), (4, .int (nI n9))] [] := by
    intro n
    induction n with
    | zero =>
      intro k e1 e2
      exact absurd e1 (by omega)
    | succ n ih =>
      intro k e1 e2
      refine zj_iload CC dc_M_sameSteps_6 0 rfl ?_
      refine zj_iload CC dc_M_sameSteps_8 6 rfl ?_
      refine zj_icmp_ge CC dc_M_sameSteps_10 rfl (fun b1 => ?_) (fun b1 => ?_)
      · have b1 := (nI_leI (by omega) (by omega)).mp b1
        refine zj_iload CC dc_M_sameSteps_52 1 rfl ?_
        exact zj_zret CC dc_M_sameSteps_54 (by first | rfl | (unfold zb_i; split <;> rfl)) ⟨by rw [show n9 = k by omega], rfl⟩
      · have b1 := (zn_nle (by omega) (by omega)).mp b1
        refine zj_iload CC dc_M_sameSteps_13 1 rfl ?_
        refine zj_if_eq CC dc_M_sameSteps_15 rfl (fun c1 => ?_) (fun c1 => ?_)
        · have c1 := zb_i0 c1
          refine zj_iconst (v := 0) CC dc_M_sameSteps_43 (by decide) ?_
          refine zj_istore CC dc_M_sameSteps_44 (by decide) rfl ?_
          refine zj_iinc CC dc_M_sameSteps_46 1 rfl (zn_inc k) (by decide) rfl ?_
          refine zj_goto CC dc_M_sameSteps_49 rfl ?_
          refine zj_loc (L' := [(6, .int (nI (k + 1))), (5, .int (zb_i (zp_all (zp_es (zm_f a 4 t R) x y) (k + 1)))), (0, .ref (ad 108)), (1, .int (nI t)), (2, .int (nI x)), (3, .int (nI y)), (4, .int (nI n9))]) [0, 1, 2, 3, 4, 5, 6] (by rw [show zp_all (zp_es (zm_f a 4 t R) x y) (k + 1) = false from by rw [zp_allS, c1]; rfl]; rfl) ?_
          exact ih (k + 1) (by omega) (by omega)
        · have c1 := zb_i1 c1
          refine zj_aload_n CC dc_M_sameSteps_18 rfl 2 rfl ?_
          refine zj_iload_n CC dc_M_sameSteps_19 rfl 3 rfl ?_
          refine zj_iload_n CC dc_M_sameSteps_20 rfl 4 rfl ?_
          refine zj_iload CC dc_M_sameSteps_21 0 rfl ?_
          refine zj_iadd CC dc_M_sameSteps_23 ?_
          refine zj_topi (nI_add _ _) ?_
          refine zj_Vi CC (ct_M_step _ hst z ad N _ _ _ _ _ _ hN hM.1 t (x + k) R ht (by omega) hR hR1 hR9) gv_M_82 rfl rfl rfl hd_M_step ⟨(Nat.le_of_ble_eq_true rfl), (Nat.le_of_ble_eq_true rfl)⟩ (by omega) hM.1.1 rfl rfl rfl (Nat.le_of_ble_eq_true rfl) ⟨(Nat.le_of_ble_eq_true rfl), (Nat.le_of_ble_eq_true rfl)⟩ dc_M_sameSteps_24 (fun r1 g9 h1 => ?_)
          obtain ⟨hv9, hg9⟩ := h1
          rw [hg9, hv9]
          refine zj_aload_n CC dc_M_sameSteps_27 rfl 2 rfl ?_
          refine zj_iload_n CC dc_M_sameSteps_28 rfl 3 rfl ?_
          refine zj_iload_n CC dc_M_sameSteps_29 rfl 5 rfl ?_
          refine zj_iload CC dc_M_sameSteps_30 0 rfl ?_
          refine zj_iadd CC dc_M_sameSteps_32 ?_
          refine zj_topi (nI_add _ _) ?_
          refine zj_Vi CC (ct_M_step _ hst z ad N _ _ _ _ _ _ hN hM.1 t (y + k) R ht (by omega) hR hR1 hR9) gv_M_82 rfl rfl rfl hd_M_step ⟨(Nat.le_of_ble_eq_true rfl), (Nat.le_of_ble_eq_true rfl)⟩ (by omega) hM.1.1 rfl rfl rfl (Nat.le_of_ble_eq_true rfl) ⟨(Nat.le_of_ble_eq_true rfl), (Nat.le_of_ble_eq_true rfl)⟩ dc_M_sameSteps_33 (fun r1 g9 h1 => ?_)
          obtain ⟨hv9, hg9⟩ := h1
          rw [hg9, hv9]
          refine zj_icmp_ne CC dc_M_sameSteps_36 rfl (fun c2 => ?_) (fun c2 => ?_)
          · have c2 : ¬ ((zm_f a 4 t R) (x + k + 1) - (zm_f a 4 t R) (x + k) = (zm_f a 4 t R) (y + k + 1) - (zm_f a 4 t R) (y + k)) := c2
            refine zj_iconst (v := 0) CC dc_M_sameSteps_43 (by decide) ?_
            refine zj_istore CC dc_M_sameSteps_44 (by decide) rfl ?_
            refine zj_iinc CC dc_M_sameSteps_46 1 rfl (zn_inc k) (by decide) rfl ?_
            refine zj_goto CC dc_M_sameSteps_49 rfl ?_
            refine zj_loc (L' := [(6, .int (nI (k + 1))), (5, .int (zb_i (zp_all (zp_es (zm_f a 4 t R) x y) (k + 1)))), (0, .ref (ad 108)), (1, .int (nI t)), (2, .int (nI x)), (3, .int (nI y)), (4, .int (nI n9))]) [0, 1, 2, 3, 4, 5, 6] (by rw [show zp_all (zp_es (zm_f a 4 t R) x y) (k + 1) = false from by rw [zp_allS, c1]; exact decide_eq_false c2]; rfl) ?_
            exact ih (k + 1) (by omega) (by omega)
          · have c2 : (zm_f a 4 t R) (x + k + 1) - (zm_f a 4 t R) (x + k) = (zm_f a 4 t R) (y + k + 1) - (zm_f a 4 t R) (y + k) := c2
            refine zj_iconst (v := 1) CC dc_M_sameSteps_39 (by decide) ?_
            refine zj_goto CC dc_M_sameSteps_40 rfl ?_
            refine zj_istore CC dc_M_sameSteps_44 (by decide) rfl ?_
            refine zj_iinc CC dc_M_sameSteps_46 1 rfl (zn_inc k) (by decide) rfl ?_
            refine zj_goto CC dc_M_sameSteps_49 rfl ?_
            refine zj_loc (L' := [(6, .int (nI (k + 1))), (5, .int (zb_i (zp_all (zp_es (zm_f a 4 t R) x y) (k + 1)))), (0, .ref (ad 108)), (1, .int (nI t)), (2, .int (nI x)), (3, .int (nI y)), (4, .int (nI n9))]) [0, 1, 2, 3, 4, 5, 6] (by rw [show zp_all (zp_es (zm_f a 4 t R) x y) (k + 1) = true from by rw [zp_allS, c1]; exact decide_eq_true c2]; rfl) ?_
            exact ih (k + 1) (by omega) (by omega)
  refine zj_iconst (v := 1) CC dc_M_sameSteps_0 (by decide) ?_
  refine zj_istore CC dc_M_sameSteps_1 (by decide) rfl ?_
  refine zj_iconst (v := 0) CC dc_M_sameSteps_3 (by decide) ?_
  refine zj_istore CC dc_M_sameSteps_4 (by decide) rfl ?_
  refine zj_loc (L' := [(6, .int (nI 0)), (5, .int (zb_i (zp_all (zp_es (zm_f a 4 t R) x y) 0))), (0, .ref (ad 108)), (1, .int (nI t)), (2, .int (nI x)), (3, .int (nI y)), (4, .int (nI n9))]) [0, 1, 2, 3, 4, 5, 6] rfl ?_
  exact loop (n9 + 1) 0 rfl (by omega)
set_option maxHeartbeats 4000000 in
set_option maxRecDepth 100000 in
theorem ct_M_hasStep (l : Launch) (hst : l.stackTraces = false) (z : zv_T) (ad : Nat → Nat) (N : Nat) (g : Nat → va_E) (c as fo kp : Int32) (a : Nat → Nat → Int32) (hN : 126 ≤ N) (hM0 : zs_M z ad g c as fo kp a) (t R C : Nat) (ht : t < 8) (hC : a 2 t = nI C) (hC20 : C ≤ 20) (hR : a 3 t = nI R) (hR1 : 1 ≤ R) (hR9 : R ≤ 9) (k : Nat) (hk : k < 2 ^ 20) : zm_i l mn_M_hasStep ws_M_hasStep rm_M_hasStep z ad N g [.ref (ad 108), .int (nI t), .int (nI k - 1)] (fun r g1 => r = zb_i (decide (0 < k ∧ k < C)) ∧ g1 = g) := by
  have hM : zm_M z ad g g c as fo kp a := ⟨hM0, fun _ _ => rfl⟩
  refine zm_ofz hst pn_M_hasStep rfl (Nat.le_of_ble_eq_true rfl) (fun X hX CC => ?_)
  subst hX
  show zj_J X 0 0 _ ad N g 0 [(0, .ref (ad 108)), (1, .int (nI t)), (2, .int (nI k - 1))] []
  refine zj_iload_n CC dc_M_hasStep_0 rfl 2 rfl ?_
  refine zj_if_lt CC dc_M_hasStep_1 rfl (fun a1 => ?_) (fun a1 => ?_)
  · have a1 : k ≤ 0 := (zn_jz (n := 0) (by omega)).mp a1
    refine zj_iconst (v := 0) CC dc_M_hasStep_20 (by decide) ?_
    exact zj_zret CC dc_M_hasStep_21 rfl ⟨(show (0 : Int32) = zb_i (decide _) by rw [decide_eq_false (by omega)]; rfl), rfl⟩
  · have a1 : 0 < k := Nat.lt_of_not_le (fun e => a1 ((zn_jz (j := k) (n := 0) (by omega)).mpr e))
    refine zj_iload_n CC dc_M_hasStep_4 rfl 2 rfl ?_
    refine zj_iconst (v := 1) CC dc_M_hasStep_5 (by decide) ?_
    refine zj_iadd CC dc_M_hasStep_6 ?_
    refine zj_topi (Int32.sub_add_cancel _ _) ?_
    refine zj_aload_n CC dc_M_hasStep_7 rfl 0 rfl ?_
    refine zj_get (k := 3) CC (by omega) hM.1.1 rfl (by decide) fw_M fl_M_16 rfl rfl dc_M_hasStep_8 ?_
    refine zj_iload_n CC dc_M_hasStep_11 rfl 1 rfl ?_
    refine zj_iald CC (by omega) hM.1.2.2.2.1 rfl ht (by decide) dc_M_hasStep_12 ?_
    refine zj_topi (hC) ?_
    refine zj_icmp_ge CC dc_M_hasStep_13 rfl (fun a2 => ?_) (fun a2 => ?_)
    · have a2 := (nI_leI (by omega) (by omega)).mp a2
      refine zj_iconst (v := 0) CC dc_M_hasStep_20 (by decide) ?_
      exact zj_zret CC dc_M_hasStep_21 rfl ⟨(show (0 : Int32) = zb_i (decide _) by rw [decide_eq_false (by omega)]; rfl), rfl⟩
    · have a2 := (zn_nle (by omega) (by omega)).mp a2
      refine zj_iconst (v := 1) CC dc_M_hasStep_16 (by decide) ?_
      refine zj_goto CC dc_M_hasStep_17 rfl ?_
      exact zj_zret CC dc_M_hasStep_21 rfl ⟨(show (1 : Int32) = zb_i (decide _) by rw [decide_eq_true ⟨a1, a2⟩]; rfl), rfl⟩
set_option maxHeartbeats 4000000 in
set_option maxRecDepth 100000 in
theorem ct_M_places (l : Launch) (hst : l.stackTraces = false) (z : zv_T) (ad : Nat → Nat) (N : Nat) (g : Nat → va_E) (c as fo kp : Int32) (a : Nat → Nat → Int32) (hN : 126 ≤ N) (hM0 : zs_M z ad g c as fo kp a) (t R C : Nat) (ht : t < 8) (hC : a 2 t = nI C) (hC20 : C ≤ 20) (hR : a 3 t = nI R) (hR1 : 1 ≤ R) (hR9 : R ≤ 9) (fr st : Nat) (hst1 : 1 ≤ st) (hfr : fr + st < C) : zm_i l mn_M_places ws_M_places rm_M_places z ad N g [.ref (ad 108), .int (nI t), .int (nI fr), .int (nI st)] (fun r g1 => r = nI (zm_pl (zm_f a 4 t R) C fr st) ∧ g1 = g) := by
  have hM : zm_M z ad g g c as fo kp a := ⟨hM0, fun _ _ => rfl⟩
  refine zm_ofi hst pn_M_places rfl (Nat.le_of_ble_eq_true rfl) (fun X hX CC => ?_)
  subst hX
  show zj_J X 0 0 _ ad N g 0 [(0, .ref (ad 108)), (1, .int (nI t)), (2, .int (nI fr)), (3, .int (nI st))] []
  have loop : ∀ (n : Nat) (k n9 : Nat) (a0 b : Bool), C - st + 1 - k = n → k ≤ C - st → (zp_fold (zm_oc (zm_f a 4 t R) fr st) (zm_bf (zm_f a 4 t R) C fr) (zm_bh (zm_f a 4 t R) C fr st) fr true k) = some (n9, a0, b) → zj_J X 0 0 (zj_Qi X 0 0 ad N (fun r g1 => r = nI (zm_pl (zm_f a 4 t R) C fr st) ∧ g1 = g)) ad N g 12 [(7, .int (nI k)), (6, .int (zb_i b)), (5, .int (zb_i a0)), (4, .int (nI n9)), (0, .ref (ad 108)), (1, .int (nI t)), (2, .int (nI fr)), (3, .int (nI st))] [] := by
    intro n
    induction n with
    | zero =>
      intro k n9 a0 b e1 e2 hfo
      have hn9 := zp_fold_n hfo
      exact absurd e1 (by omega)
    | succ n ih =>
      intro k n9 a0 b e1 e2 hfo
      have hn9 := zp_fold_n hfo
      refine zj_iload CC dc_M_places_12 0 rfl ?_
      refine zj_iload_n CC dc_M_places_14 rfl 7 rfl ?_
      refine zj_iadd CC dc_M_places_15 ?_
      refine zj_topi (nI_add _ _) ?_
      refine zj_aload_n CC dc_M_places_16 rfl 4 rfl ?_
      refine zj_get (k := 3) CC (by omega) hM.1.1 rfl (by decide) fw_M fl_M_16 rfl rfl dc_M_places_17 ?_
      refine zj_iload_n CC dc_M_places_20 rfl 5 rfl ?_
      refine zj_iald CC (by omega) hM.1.2.2.2.1 rfl ht (by decide) dc_M_places_21 ?_
      refine zj_topi (hC) ?_
      refine zj_icmp_ge CC dc_M_places_22 rfl (fun b1 => ?_) (fun b1 => ?_)
      · have b1 := (nI_leI (by omega) (by omega)).mp b1
        refine zj_iload CC dc_M_places_164 3 rfl ?_
        refine zj_iconst (v := 2) CC dc_M_places_166 (by decide) ?_
        refine zj_icmp_lt CC dc_M_places_167 rfl (fun f1 => ?_) (fun f1 => ?_)
        · have f1 := (nI_ltI (b := 2) (by omega) (by omega)).mp f1
          refine zj_iconst (v := 0) CC dc_M_places_180 (by decide) ?_
          refine zj_goto CC dc_M_places_181 rfl ?_
          exact zj_iret CC dc_M_places_186 ⟨(show (0 : Int32) = nI (zm_pl (zm_f a 4 t R) C fr st) by rw [show zm_pl (zm_f a 4 t R) C fr st = zp_pres (some (n9, a0, b)) by unfold zm_pl; rw [show C - st = k by omega, hfo]]; show 0 = nI (if _ then _ else _); rw [if_pos (Or.inl f1)]; rfl), rfl⟩
        · have f1 := (zn_nlt (b := 2) (by omega) (by omega)).mp f1
          refine zj_iload CC dc_M_places_170 2 rfl ?_
          refine zj_if_ne CC dc_M_places_172 rfl (fun f2 => ?_) (fun f2 => ?_)
          · have f2 := zb_i1 f2
            refine zj_iconst (v := 0) CC dc_M_places_180 (by decide) ?_
            refine zj_goto CC dc_M_places_181 rfl ?_
            exact zj_iret CC dc_M_places_186 ⟨(show (0 : Int32) = nI (zm_pl (zm_f a 4 t R) C fr st) by rw [show zm_pl (zm_f a 4 t R) C fr st = zp_pres (some (n9, a0, b)) by unfold zm_pl; rw [show C - st = k by omega, hfo]]; show 0 = nI (if _ then _ else _); rw [if_pos (Or.inr (Or.inl f2))]; rfl), rfl⟩
          · have f2 := zb_i0 f2
            refine zj_iload CC dc_M_places_175 1 rfl ?_
            refine zj_if_eq CC dc_M_places_177 rfl (fun f3 => ?_) (fun f3 => ?_)
            · have f3 := zb_i0 f3
              refine zj_iload CC dc_M_places_184 3 rfl ?_
              exact zj_iret CC dc_M_places_186 ⟨(congrArg nI (show n9 = zm_pl (zm_f a 4 t R) C fr st by rw [show zm_pl (zm_f a 4 t R) C fr st = zp_pres (some (n9, a0, b)) by unfold zm_pl; rw [show C - st = k by omega, hfo]]; show n9 = if _ then _ else _; rw [if_neg (by rw [f2, f3]; simp; omega)])), rfl⟩
            · have f3 := zb_i1 f3
              refine zj_iconst (v := 0) CC dc_M_places_180 (by decide) ?_
              refine zj_goto CC dc_M_places_181 rfl ?_
              exact zj_iret CC dc_M_places_186 ⟨(show (0 : Int32) = nI (zm_pl (zm_f a 4 t R) C fr st) by rw [show zm_pl (zm_f a 4 t R) C fr st = zp_pres (some (n9, a0, b)) by unfold zm_pl; rw [show C - st = k by omega, hfo]]; show 0 = nI (if _ then _ else _); rw [if_pos (Or.inr (Or.inr f3))]; rfl), rfl⟩
      · have b1 := (zn_nle (by omega) (by omega)).mp b1
        refine zj_aload_n CC dc_M_places_25 rfl 4 rfl ?_
        refine zj_iload_n CC dc_M_places_26 rfl 5 rfl ?_
        refine zj_iload CC dc_M_places_27 0 rfl ?_
        refine zj_iload_n CC dc_M_places_29 rfl 6 rfl ?_
        refine zj_iload_n CC dc_M_places_30 rfl 7 rfl ?_
        refine zj_Vi CC (ct_M_sameSteps _ hst z ad N _ _ _ _ _ _ hN hM.1 t R C ht hC hC20 hR hR1 hR9 k fr st (by omega) (by omega)) gv_M_128 rfl rfl rfl hd_M_sameSteps ⟨(Nat.le_of_ble_eq_true rfl), (Nat.le_of_ble_eq_true rfl)⟩ (by omega) hM.1.1 rfl rfl rfl (Nat.le_of_ble_eq_true rfl) ⟨(Nat.le_of_ble_eq_true rfl), (Nat.le_of_ble_eq_true rfl)⟩ dc_M_places_31 (fun r1 g9 h1 => ?_)
        obtain ⟨hv9, hg9⟩ := h1
        rw [hg9, hv9]
        have hS := zp_foldS hfo
        refine zj_if_eq CC dc_M_places_34 rfl (fun c1 => ?_) (fun c1 => ?_)
        · have c1 : zm_oc (zm_f a 4 t R) fr st k = false := zb_i0 c1
          rw [if_neg (by rw [c1]; decide)] at hS
          refine zj_iinc CC dc_M_places_158 0 rfl (zn_inc k) (by decide) rfl ?_
          refine zj_goto CC dc_M_places_161 rfl ?_
          refine zj_loc (L' := [(7, .int (nI (k + 1))), (6, .int (zb_i b)), (5, .int (zb_i a0)), (4, .int (nI n9)), (0, .ref (ad 108)), (1, .int (nI t)), (2, .int (nI fr)), (3, .int (nI st))]) [0, 1, 2, 3, 4, 5, 6, 7] rfl ?_
          exact ih (k + 1) n9 a0 b (by omega) (by omega) hS
        · have c1 : zm_oc (zm_f a 4 t R) fr st k = true := zb_i1 c1
          rw [if_pos c1] at hS
          refine zj_iload CC dc_M_places_37 0 rfl ?_
          refine zj_iload_n CC dc_M_places_39 rfl 6 rfl ?_
          refine zj_icmp_ge CC dc_M_places_40 rfl (fun c2 => ?_) (fun c2 => ?_)
          · have c2 := (nI_leI (by omega) (by omega)).mp c2
            rw [if_neg (by omega)] at hS
            refine zj_iinc CC dc_M_places_45 3 rfl (zn_inc n9) (by decide) rfl ?_
            have j103 : ∀ a9 : Bool, a9 = (a0 && (zm_bf (zm_f a 4 t R) C fr k)) → zj_J X 0 0 (zj_Qi X 0 0 ad N (fun r g1 => r = nI (zm_pl (zm_f a 4 t R) C fr st) ∧ g1 = g)) ad N g 103 [(7, .int (nI k)), (6, .int (zb_i b)), (5, .int (zb_i a9)), (4, .int (nI (n9 + 1))), (0, .ref (ad 108)), (1, .int (nI t)), (2, .int (nI fr)), (3, .int (nI st))] [] := by
              intro a9 ha9
              have j158 : ∀ b9 : Bool, b9 = (b && (zm_bh (zm_f a 4 t R) C fr st k)) → zj_J X 0 0 (zj_Qi X 0 0 ad N (fun r g1 => r = nI (zm_pl (zm_f a 4 t R) C fr st) ∧ g1 = g)) ad N g 158 [(7, .int (nI k)), (6, .int (zb_i b9)), (5, .int (zb_i a9)), (4, .int (nI (n9 + 1))), (0, .ref (ad 108)), (1, .int (nI t)), (2, .int (nI fr)), (3, .int (nI st))] [] := by
                intro b9 hb9
                refine zj_iinc CC dc_M_places_158 0 rfl (zn_inc k) (by decide) rfl ?_
                refine zj_goto CC dc_M_places_161 rfl ?_
                refine zj_loc (L' := [(7, .int (nI (k + 1))), (6, .int (zb_i b9)), (5, .int (zb_i a9)), (4, .int (nI (n9 + 1))), (0, .ref (ad 108)), (1, .int (nI t)), (2, .int (nI fr)), (3, .int (nI st))]) [0, 1, 2, 3, 4, 5, 6, 7] rfl ?_
                exact ih (k + 1) (n9 + 1) a9 b9 (by omega) (by omega) (by rw [ha9, hb9]; exact hS)
              refine zj_iload CC dc_M_places_103 1 rfl ?_
              refine zj_if_eq CC dc_M_places_105 rfl (fun d1 => ?_) (fun d1 => ?_)
              · have d1 := zb_i0 d1
                refine zj_iconst (v := 0) CC dc_M_places_155 (by decide) ?_
                refine zj_istore CC dc_M_places_156 (by decide) rfl ?_
                refine zj_loc (L' := [(7, .int (nI k)), (6, .int (zb_i false)), (5, .int (zb_i a9)), (4, .int (nI (n9 + 1))), (0, .ref (ad 108)), (1, .int (nI t)), (2, .int (nI fr)), (3, .int (nI st))]) [1, 0, 2, 3, 4, 5, 6, 7] rfl ?_
                exact j158 false (zm_j1 (Or.inl d1))
              · have d1 := zb_i1 d1
                refine zj_aload_n CC dc_M_places_108 rfl 4 rfl ?_
                refine zj_iload_n CC dc_M_places_109 rfl 5 rfl ?_
                refine zj_iload CC dc_M_places_110 0 rfl ?_
                refine zj_iload_n CC dc_M_places_112 rfl 7 rfl ?_
                refine zj_iadd CC dc_M_places_113 ?_
                refine zj_topi ((nI_add k st).trans (nI_pred (k + st)).symm) ?_
                refine zj_Vi CC (ct_M_hasStep _ hst z ad N _ _ _ _ _ _ hN hM.1 t R C ht hC hC20 hR hR1 hR9 (k + st + 1) (by omega)) gv_M_131 rfl rfl rfl hd_M_hasStep ⟨(Nat.le_of_ble_eq_true rfl), (Nat.le_of_ble_eq_true rfl)⟩ (by omega) hM.1.1 rfl rfl rfl (Nat.le_of_ble_eq_true rfl) ⟨(Nat.le_of_ble_eq_true rfl), (Nat.le_of_ble_eq_true rfl)⟩ dc_M_places_114 (fun r1 g9 h1 => ?_)
                obtain ⟨hv9, hg9⟩ := h1
                rw [hg9, hv9]
                refine zj_if_eq CC dc_M_places_117 rfl (fun d2 => ?_) (fun d2 => ?_)
                · have d2 := zb_i0 d2
                  refine zj_iconst (v := 0) CC dc_M_places_155 (by decide) ?_
                  refine zj_istore CC dc_M_places_156 (by decide) rfl ?_
                  refine zj_loc (L' := [(7, .int (nI k)), (6, .int (zb_i false)), (5, .int (zb_i a9)), (4, .int (nI (n9 + 1))), (0, .ref (ad 108)), (1, .int (nI t)), (2, .int (nI fr)), (3, .int (nI st))]) [1, 0, 2, 3, 4, 5, 6, 7] rfl ?_
                  exact j158 false (zm_j1 (Or.inr (Or.inl d2)))
                · have d2 := zb_i1 d2
                  refine zj_aload_n CC dc_M_places_120 rfl 4 rfl ?_
                  refine zj_iload_n CC dc_M_places_121 rfl 5 rfl ?_
                  refine zj_iload_n CC dc_M_places_122 rfl 6 rfl ?_
                  refine zj_iload_n CC dc_M_places_123 rfl 7 rfl ?_
                  refine zj_iadd CC dc_M_places_124 ?_
                  refine zj_topi ((nI_add fr st).trans (nI_pred (fr + st)).symm) ?_
                  refine zj_Vi CC (ct_M_hasStep _ hst z ad N _ _ _ _ _ _ hN hM.1 t R C ht hC hC20 hR hR1 hR9 (fr + st + 1) (by omega)) gv_M_131 rfl rfl rfl hd_M_hasStep ⟨(Nat.le_of_ble_eq_true rfl), (Nat.le_of_ble_eq_true rfl)⟩ (by omega) hM.1.1 rfl rfl rfl (Nat.le_of_ble_eq_true rfl) ⟨(Nat.le_of_ble_eq_true rfl), (Nat.le_of_ble_eq_true rfl)⟩ dc_M_places_125 (fun r1 g9 h1 => ?_)
                  obtain ⟨hv9, hg9⟩ := h1
                  rw [hg9, hv9]
                  refine zj_if_eq CC dc_M_places_128 rfl (fun d3 => ?_) (fun d3 => ?_)
                  · have d3 := zb_i0 d3
                    refine zj_iconst (v := 0) CC dc_M_places_155 (by decide) ?_
                    refine zj_istore CC dc_M_places_156 (by decide) rfl ?_
                    refine zj_loc (L' := [(7, .int (nI k)), (6, .int (zb_i false)), (5, .int (zb_i a9)), (4, .int (nI (n9 + 1))), (0, .ref (ad 108)), (1, .int (nI t)), (2, .int (nI fr)), (3, .int (nI st))]) [1, 0, 2, 3, 4, 5, 6, 7] rfl ?_
                    exact j158 false (zm_j1 (Or.inr (Or.inr (Or.inl d3))))
                  · have d3 := zb_i1 d3
                    have d5 := of_decide_eq_true d2
                    have d6 := of_decide_eq_true d3
                    refine zj_aload_n CC dc_M_places_131 rfl 4 rfl ?_
                    refine zj_iload_n CC dc_M_places_132 rfl 5 rfl ?_
                    refine zj_iload CC dc_M_places_133 0 rfl ?_
                    refine zj_iload_n CC dc_M_places_135 rfl 7 rfl ?_
                    refine zj_iadd CC dc_M_places_136 ?_
                    refine zj_topi (nI_add _ _) ?_
                    refine zj_Vi CC (ct_M_step _ hst z ad N _ _ _ _ _ _ hN hM.1 t (k + st) R ht (by omega) hR hR1 hR9) gv_M_82 rfl rfl rfl hd_M_step ⟨(Nat.le_of_ble_eq_true rfl), (Nat.le_of_ble_eq_true rfl)⟩ (by omega) hM.1.1 rfl rfl rfl (Nat.le_of_ble_eq_true rfl) ⟨(Nat.le_of_ble_eq_true rfl), (Nat.le_of_ble_eq_true rfl)⟩ dc_M_places_137 (fun r1 g9 h1 => ?_)
                    obtain ⟨hv9, hg9⟩ := h1
                    rw [hg9, hv9]
                    refine zj_aload_n CC dc_M_places_140 rfl 4 rfl ?_
                    refine zj_iload_n CC dc_M_places_141 rfl 5 rfl ?_
                    refine zj_iload_n CC dc_M_places_142 rfl 6 rfl ?_
                    refine zj_iload_n CC dc_M_places_143 rfl 7 rfl ?_
                    refine zj_iadd CC dc_M_places_144 ?_
                    refine zj_topi (nI_add _ _) ?_
                    refine zj_Vi CC (ct_M_step _ hst z ad N _ _ _ _ _ _ hN hM.1 t (fr + st) R ht (by omega) hR hR1 hR9) gv_M_82 rfl rfl rfl hd_M_step ⟨(Nat.le_of_ble_eq_true rfl), (Nat.le_of_ble_eq_true rfl)⟩ (by omega) hM.1.1 rfl rfl rfl (Nat.le_of_ble_eq_true rfl) ⟨(Nat.le_of_ble_eq_true rfl), (Nat.le_of_ble_eq_true rfl)⟩ dc_M_places_145 (fun r1 g9 h1 => ?_)
                    obtain ⟨hv9, hg9⟩ := h1
                    rw [hg9, hv9]
                    refine zj_icmp_ne CC dc_M_places_148 rfl (fun d4 => ?_) (fun d4 => ?_)
                    · skip
                      refine zj_iconst (v := 0) CC dc_M_places_155 (by decide) ?_
                      refine zj_istore CC dc_M_places_156 (by decide) rfl ?_
                      refine zj_loc (L' := [(7, .int (nI k)), (6, .int (zb_i false)), (5, .int (zb_i a9)), (4, .int (nI (n9 + 1))), (0, .ref (ad 108)), (1, .int (nI t)), (2, .int (nI fr)), (3, .int (nI st))]) [1, 0, 2, 3, 4, 5, 6, 7] rfl ?_
                      exact j158 false (zm_j1 (Or.inr (Or.inr (Or.inr (decide_eq_false d4)))))
                    · skip
                      refine zj_iconst (v := 1) CC dc_M_places_151 (by decide) ?_
                      refine zj_goto CC dc_M_places_152 rfl ?_
                      refine zj_istore CC dc_M_places_156 (by decide) rfl ?_
                      refine zj_loc (L' := [(7, .int (nI k)), (6, .int (zb_i true)), (5, .int (zb_i a9)), (4, .int (nI (n9 + 1))), (0, .ref (ad 108)), (1, .int (nI t)), (2, .int (nI fr)), (3, .int (nI st))]) [1, 0, 2, 3, 4, 5, 6, 7] rfl ?_
                      exact j158 true (zm_j0 d1 d2 d3 (decide_eq_true d4))
            refine zj_iload CC dc_M_places_48 3 rfl ?_
            refine zj_if_eq CC dc_M_places_50 rfl (fun d1 => ?_) (fun d1 => ?_)
            · have d1 := zb_i0 d1
              refine zj_iconst (v := 0) CC dc_M_places_100 (by decide) ?_
              refine zj_istore CC dc_M_places_101 (by decide) rfl ?_
              refine zj_loc (L' := [(7, .int (nI k)), (6, .int (zb_i b)), (5, .int (zb_i false)), (4, .int (nI (n9 + 1))), (0, .ref (ad 108)), (1, .int (nI t)), (2, .int (nI fr)), (3, .int (nI st))]) [2, 3, 0, 1, 4, 5, 6, 7] rfl ?_
              exact j103 false (zm_j1 (Or.inl d1))
            · have d1 := zb_i1 d1
              refine zj_aload_n CC dc_M_places_53 rfl 4 rfl ?_
              refine zj_iload_n CC dc_M_places_54 rfl 5 rfl ?_
              refine zj_iload CC dc_M_places_55 1 rfl ?_
              refine zj_iconst (v := 1) CC dc_M_places_57 (by decide) ?_
              refine zj_isub CC dc_M_places_58 ?_
              refine zj_Vi CC (ct_M_hasStep _ hst z ad N _ _ _ _ _ _ hN hM.1 t R C ht hC hC20 hR hR1 hR9 (k) (by omega)) gv_M_131 rfl rfl rfl hd_M_hasStep ⟨(Nat.le_of_ble_eq_true rfl), (Nat.le_of_ble_eq_true rfl)⟩ (by omega) hM.1.1 rfl rfl rfl (Nat.le_of_ble_eq_true rfl) ⟨(Nat.le_of_ble_eq_true rfl), (Nat.le_of_ble_eq_true rfl)⟩ dc_M_places_59 (fun r1 g9 h1 => ?_)
              obtain ⟨hv9, hg9⟩ := h1
              rw [hg9, hv9]
              refine zj_if_eq CC dc_M_places_62 rfl (fun d2 => ?_) (fun d2 => ?_)
              · have d2 := zb_i0 d2
                refine zj_iconst (v := 0) CC dc_M_places_100 (by decide) ?_
                refine zj_istore CC dc_M_places_101 (by decide) rfl ?_
                refine zj_loc (L' := [(7, .int (nI k)), (6, .int (zb_i b)), (5, .int (zb_i false)), (4, .int (nI (n9 + 1))), (0, .ref (ad 108)), (1, .int (nI t)), (2, .int (nI fr)), (3, .int (nI st))]) [2, 3, 0, 1, 4, 5, 6, 7] rfl ?_
                exact j103 false (zm_j1 (Or.inr (Or.inl d2)))
              · have d2 := zb_i1 d2
                refine zj_aload_n CC dc_M_places_65 rfl 4 rfl ?_
                refine zj_iload_n CC dc_M_places_66 rfl 5 rfl ?_
                refine zj_iload_n CC dc_M_places_67 rfl 6 rfl ?_
                refine zj_iconst (v := 1) CC dc_M_places_68 (by decide) ?_
                refine zj_isub CC dc_M_places_69 ?_
                refine zj_Vi CC (ct_M_hasStep _ hst z ad N _ _ _ _ _ _ hN hM.1 t R C ht hC hC20 hR hR1 hR9 (fr) (by omega)) gv_M_131 rfl rfl rfl hd_M_hasStep ⟨(Nat.le_of_ble_eq_true rfl), (Nat.le_of_ble_eq_true rfl)⟩ (by omega) hM.1.1 rfl rfl rfl (Nat.le_of_ble_eq_true rfl) ⟨(Nat.le_of_ble_eq_true rfl), (Nat.le_of_ble_eq_true rfl)⟩ dc_M_places_70 (fun r1 g9 h1 => ?_)
                obtain ⟨hv9, hg9⟩ := h1
                rw [hg9, hv9]
                refine zj_if_eq CC dc_M_places_73 rfl (fun d3 => ?_) (fun d3 => ?_)
                · have d3 := zb_i0 d3
                  refine zj_iconst (v := 0) CC dc_M_places_100 (by decide) ?_
                  refine zj_istore CC dc_M_places_101 (by decide) rfl ?_
                  refine zj_loc (L' := [(7, .int (nI k)), (6, .int (zb_i b)), (5, .int (zb_i false)), (4, .int (nI (n9 + 1))), (0, .ref (ad 108)), (1, .int (nI t)), (2, .int (nI fr)), (3, .int (nI st))]) [2, 3, 0, 1, 4, 5, 6, 7] rfl ?_
                  exact j103 false (zm_j1 (Or.inr (Or.inr (Or.inl d3))))
                · have d3 := zb_i1 d3
                  have d5 := of_decide_eq_true d2
                  have d6 := of_decide_eq_true d3
                  refine zj_aload_n CC dc_M_places_76 rfl 4 rfl ?_
                  refine zj_iload_n CC dc_M_places_77 rfl 5 rfl ?_
                  refine zj_iload CC dc_M_places_78 1 rfl ?_
                  refine zj_iconst (v := 1) CC dc_M_places_80 (by decide) ?_
                  refine zj_isub CC dc_M_places_81 ?_
                  refine zj_topi (zn_m1 d5.1) ?_
                  refine zj_Vi CC (ct_M_step _ hst z ad N _ _ _ _ _ _ hN hM.1 t (k - 1) R ht (by omega) hR hR1 hR9) gv_M_82 rfl rfl rfl hd_M_step ⟨(Nat.le_of_ble_eq_true rfl), (Nat.le_of_ble_eq_true rfl)⟩ (by omega) hM.1.1 rfl rfl rfl (Nat.le_of_ble_eq_true rfl) ⟨(Nat.le_of_ble_eq_true rfl), (Nat.le_of_ble_eq_true rfl)⟩ dc_M_places_82 (fun r1 g9 h1 => ?_)
                  obtain ⟨hv9, hg9⟩ := h1
                  rw [hg9, hv9]
                  refine zj_aload_n CC dc_M_places_85 rfl 4 rfl ?_
                  refine zj_iload_n CC dc_M_places_86 rfl 5 rfl ?_
                  refine zj_iload_n CC dc_M_places_87 rfl 6 rfl ?_
                  refine zj_iconst (v := 1) CC dc_M_places_88 (by decide) ?_
                  refine zj_isub CC dc_M_places_89 ?_
                  refine zj_topi (zn_m1 d6.1) ?_
                  refine zj_Vi CC (ct_M_step _ hst z ad N _ _ _ _ _ _ hN hM.1 t (fr - 1) R ht (by omega) hR hR1 hR9) gv_M_82 rfl rfl rfl hd_M_step ⟨(Nat.le_of_ble_eq_true rfl), (Nat.le_of_ble_eq_true rfl)⟩ (by omega) hM.1.1 rfl rfl rfl (Nat.le_of_ble_eq_true rfl) ⟨(Nat.le_of_ble_eq_true rfl), (Nat.le_of_ble_eq_true rfl)⟩ dc_M_places_90 (fun r1 g9 h1 => ?_)
                  obtain ⟨hv9, hg9⟩ := h1
                  rw [hg9, hv9]
                  refine zj_icmp_ne CC dc_M_places_93 rfl (fun d4 => ?_) (fun d4 => ?_)
                  · skip
                    refine zj_iconst (v := 0) CC dc_M_places_100 (by decide) ?_
                    refine zj_istore CC dc_M_places_101 (by decide) rfl ?_
                    refine zj_loc (L' := [(7, .int (nI k)), (6, .int (zb_i b)), (5, .int (zb_i false)), (4, .int (nI (n9 + 1))), (0, .ref (ad 108)), (1, .int (nI t)), (2, .int (nI fr)), (3, .int (nI st))]) [2, 3, 0, 1, 4, 5, 6, 7] rfl ?_
                    exact j103 false (zm_j1 (Or.inr (Or.inr (Or.inr (decide_eq_false d4)))))
                  · skip
                    refine zj_iconst (v := 1) CC dc_M_places_96 (by decide) ?_
                    refine zj_goto CC dc_M_places_97 rfl ?_
                    refine zj_istore CC dc_M_places_101 (by decide) rfl ?_
                    refine zj_loc (L' := [(7, .int (nI k)), (6, .int (zb_i b)), (5, .int (zb_i true)), (4, .int (nI (n9 + 1))), (0, .ref (ad 108)), (1, .int (nI t)), (2, .int (nI fr)), (3, .int (nI st))]) [2, 3, 0, 1, 4, 5, 6, 7] rfl ?_
                    exact j103 true (zm_j0 d1 d2 d3 (decide_eq_true d4))
          · have c2 := (zn_nle (by omega) (by omega)).mp c2
            rw [if_pos c2] at hS
            refine zj_iconst (v := 0) CC dc_M_places_43 (by decide) ?_
            exact zj_iret CC dc_M_places_44 ⟨(show (0 : Int32) = nI (zm_pl (zm_f a 4 t R) C fr st) by unfold zm_pl; rw [show C - st = k + 1 + (C - st - (k + 1)) by omega, zp_fold_none hS]; rfl), rfl⟩
  refine zj_iconst (v := 0) CC dc_M_places_0 (by decide) ?_
  refine zj_istore CC dc_M_places_1 (by decide) rfl ?_
  refine zj_iconst (v := 1) CC dc_M_places_3 (by decide) ?_
  refine zj_istore CC dc_M_places_4 (by decide) rfl ?_
  refine zj_iconst (v := 1) CC dc_M_places_6 (by decide) ?_
  refine zj_istore CC dc_M_places_7 (by decide) rfl ?_
  refine zj_iconst (v := 0) CC dc_M_places_9 (by decide) ?_
  refine zj_istore CC dc_M_places_10 (by decide) rfl ?_
  refine zj_loc (L' := [(7, .int (nI 0)), (6, .int (zb_i true)), (5, .int (zb_i true)), (4, .int (nI 0)), (0, .ref (ad 108)), (1, .int (nI t)), (2, .int (nI fr)), (3, .int (nI st))]) [0, 1, 2, 3, 4, 5, 6, 7] rfl ?_
  exact loop (C - st + 1) 0 0 true true rfl (by omega) rfl
theorem zm_pl_le (P : Nat → Int32) (C fr st : Nat) : zm_pl P C fr st ≤ C := by
  unfold zm_pl
  rcases h : zp_fold (zm_oc P fr st) (zm_bf P C fr) (zm_bh P C fr st) fr true (C - st) with _ | ⟨n, x, y⟩
  · exact Nat.zero_le _
  · have := zp_fold_n h
    show (if _ then _ else _) ≤ C
    split <;> omega
set_option maxHeartbeats 4000000 in
set_option maxRecDepth 100000 in
theorem ct_M_repeats (l : Launch) (hst : l.stackTraces = false) (z : zv_T) (ad : Nat → Nat) (N : Nat) (g : Nat → va_E) (c as fo kp : Int32) (a : Nat → Nat → Int32) (hN : 126 ≤ N) (hM0 : zs_M z ad g c as fo kp a) (th sh : Nat → Bool) (Cn Rn : Nat → Nat) (hA : zm_A a th sh Cn Rn) (id x : Int32) : zm_i l mn_M_repeats ws_M_repeats rm_M_repeats z ad N g [.ref (ad 108), .int id, .int x] (fun r g1 => (∃ t le, zm_is th id t ∧ 1 ≤ le ∧ le ≤ 19 ∧ x = nI le ∧ r = nI (zp_eo (zm_pl (zm_f a 4 t (Rn t)) (Cn t)) (Cn t - 1) le 0 (Cn t - 1)).length ∧ zm_M z ad g g1 0 as fo kp a) ∨ ((∀ t, ¬ zm_is th id t) ∧ zm_M z ad g g1 1 as fo kp a) ∨ ((∃ t, zm_is th id t) ∧ ¬ zp_le19 x ∧ zm_M z ad g g1 2 as fo kp a)) := by
  have hM : zm_M z ad g g c as fo kp a := ⟨hM0, fun _ _ => rfl⟩
  refine zm_ofi hst pn_M_repeats rfl (Nat.le_of_ble_eq_true rfl) (fun X hX C => ?_)
  subst hX
  show zj_J X 0 0 _ ad N g 0 [(0, .ref (ad 108)), (1, .int id), (2, .int x)] []
  have inn : ∀ (n : Nat) (st fr t le : Nat) (D : (List (Nat × Nat × Nat))) (g2 : Nat → va_E), Cn t + 20 - st = n → st ≤ Cn t + 19 → fr < Cn t → 1 ≤ le → le ≤ st → t < 8 → th t = true → zm_M z ad g g2 0 as fo kp a → D ++ (zp_ei (zm_pl (zm_f a 4 t (Rn t)) (Cn t)) fr st (Cn t - fr - st) ++ zp_eo (zm_pl (zm_f a 4 t (Rn t)) (Cn t)) (Cn t - 1) le (fr + 1) (Cn t - 1 - (fr + 1))) = (zp_eo (zm_pl (zm_f a 4 t (Rn t)) (Cn t)) (Cn t - 1) le 0 (Cn t - 1)) → (∀ (x5 : Int32) (D : (List (Nat × Nat × Nat))), D ++ zp_eo (zm_pl (zm_f a 4 t (Rn t)) (Cn t)) (Cn t - 1) le (fr + 1) (Cn t - 1 - (fr + 1)) = (zp_eo (zm_pl (zm_f a 4 t (Rn t)) (Cn t)) (Cn t - 1) le 0 (Cn t - 1)) → zj_J X 0 0 (zj_Qi X 0 0 ad N (fun r g1 => (∃ t le, zm_is th id t ∧ 1 ≤ le ∧ le ≤ 19 ∧ x = nI le ∧ r = nI (zp_eo (zm_pl (zm_f a 4 t (Rn t)) (Cn t)) (Cn t - 1) le 0 (Cn t - 1)).length ∧ zm_M z ad g g1 0 as fo kp a) ∨ ((∀ t, ¬ zm_is th id t) ∧ zm_M z ad g g1 1 as fo kp a) ∨ ((∃ t, zm_is th id t) ∧ ¬ zp_le19 x ∧ zm_M z ad g g1 2 as fo kp a))) ad N g2 95 [(5, .int x5), (4, .int (nI fr)), (3, .int (nI D.length)), (0, .ref (ad 108)), (1, .int (nI t)), (2, .int (nI le))] []) → zj_J X 0 0 (zj_Qi X 0 0 ad N (fun r g1 => (∃ t le, zm_is th id t ∧ 1 ≤ le ∧ le ≤ 19 ∧ x = nI le ∧ r = nI (zp_eo (zm_pl (zm_f a 4 t (Rn t)) (Cn t)) (Cn t - 1) le 0 (Cn t - 1)).length ∧ zm_M z ad g g1 0 as fo kp a) ∨ ((∀ t, ¬ zm_is th id t) ∧ zm_M z ad g g1 1 as fo kp a) ∨ ((∃ t, zm_is th id t) ∧ ¬ zp_le19 x ∧ zm_M z ad g g1 2 as fo kp a))) ad N g2 60 [(5, .int (nI st)), (4, .int (nI fr)), (3, .int (nI D.length)), (0, .ref (ad 108)), (1, .int (nI t)), (2, .int (nI le))] [] := by
    intro n
    induction n with
    | zero =>
      intro st fr t le D g2 e1 e2 e3 e4 e5 ht hth hM hE K
      obtain ⟨hA0, hA1, hA2, hA3, hA4, hA5, hA6⟩ := hA t ht
      have hA6 := hA6 hth
      have hpl := zm_pl_le (zm_f a 4 t (Rn t)) (Cn t)
      exact absurd e1 (by omega)
    | succ n ih =>
      intro st fr t le D g2 e1 e2 e3 e4 e5 ht hth hM hE K
      obtain ⟨hA0, hA1, hA2, hA3, hA4, hA5, hA6⟩ := hA t ht
      have hA6 := hA6 hth
      have hpl := zm_pl_le (zm_f a 4 t (Rn t)) (Cn t)
      refine zj_iload C dc_M_repeats_60 1 rfl ?_
      refine zj_iload C dc_M_repeats_62 0 rfl ?_
      refine zj_iadd C dc_M_repeats_64 ?_
      refine zj_topi (nI_add _ _) ?_
      refine zj_aload_n C dc_M_repeats_65 rfl 3 rfl ?_
      refine zj_get (k := 3) C (by omega) hM.1.1 rfl (by decide) fw_M fl_M_16 rfl rfl dc_M_repeats_66 ?_
      refine zj_iload_n C dc_M_repeats_69 rfl 4 rfl ?_
      refine zj_iald C (by omega) hM.1.2.2.2.1 rfl ht (by decide) dc_M_repeats_70 ?_
      refine zj_topi (hA2) ?_
      refine zj_icmp_ge C dc_M_repeats_71 rfl (fun b1 => ?_) (fun b1 => ?_)
      · have b1 := (nI_leI (by omega) (by omega)).mp b1
        refine zj_loc [0, 1, 2, 3, 4, 5] rfl ?_
        exact K _ D (zm_exe hE (by omega))
      · have b1 := (zn_nle (by omega) (by omega)).mp b1
        refine zj_aload_n C dc_M_repeats_74 rfl 3 rfl ?_
        refine zj_iload_n C dc_M_repeats_75 rfl 4 rfl ?_
        refine zj_iload C dc_M_repeats_76 1 rfl ?_
        refine zj_iload C dc_M_repeats_78 0 rfl ?_
        refine zj_Vi C (ct_M_places _ hst z ad N _ _ _ _ _ _ hN hM.1 t (Rn t) (Cn t) ht hA2 hA4 hA3 hA6 hA5 fr st (by omega) (by omega)) gv_M_134 rfl rfl rfl hd_M_places ⟨(Nat.le_of_ble_eq_true rfl), (Nat.le_of_ble_eq_true rfl)⟩ (by omega) hM.1.1 rfl rfl rfl (Nat.le_of_ble_eq_true rfl) ⟨(Nat.le_of_ble_eq_true rfl), (Nat.le_of_ble_eq_true rfl)⟩ dc_M_repeats_80 (fun r1 g9 h1 => ?_)
        obtain ⟨hv9, hg9⟩ := h1
        rw [hg9, hv9]
        have hpl9 := hpl fr st
        refine zj_if_le C dc_M_repeats_83 rfl (fun c1 => ?_) (fun c1 => ?_)
        · have c1 := (zn_le0 (by omega)).mp c1
          refine zj_iinc C dc_M_repeats_89 0 rfl (zn_inc st) (by decide) rfl ?_
          refine zj_goto C dc_M_repeats_92 rfl ?_
          refine zj_loc (L' := [(5, .int (nI (st + 1))), (4, .int (nI fr)), (3, .int (nI D.length)), (0, .ref (ad 108)), (1, .int (nI t)), (2, .int (nI le))]) [0, 1, 2, 3, 4, 5] rfl ?_
          exact ih (st + 1) fr t le D g2 (by omega) (by omega) e3 e4 (by omega) ht hth hM (zm_ex0 (m := Cn t - fr - (st + 1)) hE (by omega) c1) K
        · have c1 := Nat.pos_of_ne_zero (fun e => c1 ((zn_le0 (by omega)).mpr e))
          refine zj_iinc C dc_M_repeats_86 2 rfl (zn_inc D.length) (by decide) rfl ?_
          refine zj_iinc C dc_M_repeats_89 1 rfl (zn_inc st) (by decide) rfl ?_
          refine zj_goto C dc_M_repeats_92 rfl ?_
          refine zj_loc (L' := [(5, .int (nI (st + 1))), (4, .int (nI fr)), (3, .int (nI (D ++ [(fr, st, (zm_pl (zm_f a 4 t (Rn t)) (Cn t)) fr st)]).length)), (0, .ref (ad 108)), (1, .int (nI t)), (2, .int (nI le))]) [0, 2, 1, 3, 4, 5] (by rw [List.length_append]; rfl) ?_
          exact ih (st + 1) fr t le (D ++ [(fr, st, (zm_pl (zm_f a 4 t (Rn t)) (Cn t)) fr st)]) g2 (by omega) (by omega) e3 e4 (by omega) ht hth hM (zm_ex1 (m := Cn t - fr - (st + 1)) hE (by omega) c1) K
  have outl : ∀ (n : Nat) (fr t le : Nat) (D : (List (Nat × Nat × Nat))) (g2 : Nat → va_E), Cn t + 1 - fr = n → fr ≤ Cn t → le ≤ 19 → 1 ≤ le → t < 8 → id = nI t → th t = true → x = nI le → zm_M z ad g g2 0 as fo kp a → D ++ zp_eo (zm_pl (zm_f a 4 t (Rn t)) (Cn t)) (Cn t - 1) le fr (Cn t - 1 - fr) = (zp_eo (zm_pl (zm_f a 4 t (Rn t)) (Cn t)) (Cn t - 1) le 0 (Cn t - 1)) → zj_J X 0 0 (zj_Qi X 0 0 ad N (fun r g1 => (∃ t le, zm_is th id t ∧ 1 ≤ le ∧ le ≤ 19 ∧ x = nI le ∧ r = nI (zp_eo (zm_pl (zm_f a 4 t (Rn t)) (Cn t)) (Cn t - 1) le 0 (Cn t - 1)).length ∧ zm_M z ad g g1 0 as fo kp a) ∨ ((∀ t, ¬ zm_is th id t) ∧ zm_M z ad g g1 1 as fo kp a) ∨ ((∃ t, zm_is th id t) ∧ ¬ zp_le19 x ∧ zm_M z ad g g1 2 as fo kp a))) ad N g2 46 [(4, .int (nI fr)), (3, .int (nI D.length)), (0, .ref (ad 108)), (1, .int (nI t)), (2, .int (nI le))] [] := by
    intro n
    induction n with
    | zero =>
      intro fr t le D g2 e1 e2 e5 e4 ht hid hth hx hM hE
      obtain ⟨hA0, hA1, hA2, hA3, hA4, hA5, hA6⟩ := hA t ht
      have hA6 := hA6 hth
      have hpl := zm_pl_le (zm_f a 4 t (Rn t)) (Cn t)
      exact absurd e1 (by omega)
    | succ n ih =>
      intro fr t le D g2 e1 e2 e5 e4 ht hid hth hx hM hE
      obtain ⟨hA0, hA1, hA2, hA3, hA4, hA5, hA6⟩ := hA t ht
      have hA6 := hA6 hth
      have hpl := zm_pl_le (zm_f a 4 t (Rn t)) (Cn t)
      refine zj_iload C dc_M_repeats_46 0 rfl ?_
      refine zj_aload_n C dc_M_repeats_48 rfl 2 rfl ?_
      refine zj_get (k := 3) C (by omega) hM.1.1 rfl (by decide) fw_M fl_M_16 rfl rfl dc_M_repeats_49 ?_
      refine zj_iload_n C dc_M_repeats_52 rfl 3 rfl ?_
      refine zj_iald C (by omega) hM.1.2.2.2.1 rfl ht (by decide) dc_M_repeats_53 ?_
      refine zj_topi (hA2) ?_
      refine zj_icmp_ge C dc_M_repeats_54 rfl (fun b1 => ?_) (fun b1 => ?_)
      · have b1 := (nI_leI (by omega) (by omega)).mp b1
        refine zj_iload_n C dc_M_repeats_101 rfl 1 rfl ?_
        exact zj_iret C dc_M_repeats_102 (Or.inl ⟨t, le, ⟨ht, hid, hth⟩, e4, e5, hx, congrArg (fun q => nI (List.length q)) (show D = (zp_eo (zm_pl (zm_f a 4 t (Rn t)) (Cn t)) (Cn t - 1) le 0 (Cn t - 1)) by rw [← hE, show Cn t - 1 - fr = 0 by omega]; exact (List.append_nil D).symm), hM⟩)
      · have b1 := (zn_nle (by omega) (by omega)).mp b1
        refine zj_iload_n C dc_M_repeats_57 rfl 4 rfl ?_
        refine zj_istore C dc_M_repeats_58 (by decide) rfl ?_
        refine zj_loc (L' := [(5, .int (nI le)), (4, .int (nI fr)), (3, .int (nI D.length)), (0, .ref (ad 108)), (1, .int (nI t)), (2, .int (nI le))]) [0, 1, 2, 3, 4, 5] rfl ?_
        refine inn (Cn t + 20 - le) le fr t le D g2 rfl (by omega) (by omega) e4 (Nat.le_refl _) ht hth hM (by rw [← zm_eoS (by omega) e4]; exact hE) (fun x5 D hE => ?_)
        refine zj_iinc C dc_M_repeats_95 1 rfl (zn_inc fr) (by decide) rfl ?_
        refine zj_goto C dc_M_repeats_98 rfl ?_
        refine zj_loc (L' := [(4, .int (nI (fr + 1))), (3, .int (nI D.length)), (0, .ref (ad 108)), (1, .int (nI t)), (2, .int (nI le))]) [0, 2, 3, 4, 5] rfl ?_
        exact ih (fr + 1) t le D g2 (by omega) (by omega) e5 e4 ht hid hth hx hM hE
  refine zj_aload_n C dc_M_repeats_0 rfl 0 rfl ?_
  refine zj_aload_n C dc_M_repeats_1 rfl 0 rfl ?_
  refine zj_iload_n C dc_M_repeats_2 rfl 1 rfl ?_
  refine zj_Vi C (ct_M_noTune _ hst z ad N _ _ _ _ _ _ hN hM.1 th sh Cn Rn hA _) gv_M_74 rfl rfl rfl hd_M_noTune ⟨(Nat.le_of_ble_eq_true rfl), (Nat.le_of_ble_eq_true rfl)⟩ (by omega) hM.1.1 rfl rfl rfl (Nat.le_of_ble_eq_true rfl) ⟨(Nat.le_of_ble_eq_true rfl), (Nat.le_of_ble_eq_true rfl)⟩ dc_M_repeats_3 (fun r1 g9 h1 => ?_)
  obtain ⟨⟨b9, rfl, hb9⟩, hg9⟩ := h1
  rw [hg9]
  refine zj_if_eq C dc_M_repeats_6 rfl (fun n1 => ?_) (fun n1 => ?_)
  · obtain ⟨t, ht, hid, hth⟩ := zm_ntf (zb_i0 n1) hb9
    subst hid
    obtain ⟨hA0, hA1, hA2, hA3, hA4, hA5, hA6⟩ := hA t ht
    have hA6 := hA6 hth
    refine zj_iload_n C dc_M_repeats_13 rfl 2 rfl ?_
    refine zj_iconst (v := 1) C dc_M_repeats_14 (by decide) ?_
    refine zj_icmp_lt C dc_M_repeats_15 rfl (fun a1 => ?_) (fun a1 => ?_)
    · skip
      refine zj_iconst (v := 2) C dc_M_repeats_24 (by decide) ?_
      refine zj_goto C dc_M_repeats_25 rfl ?_
      refine zj_put (k := 0) C (by omega) hM.1.1 rfl (by decide) fw_M fl_M_62 rfl fy_M fk_M fn_M rfl rfl rfl (Nat.le_of_ble_eq_true rfl) rfl dc_M_repeats_29 ?_
      refine zM_kc hM (fun g2 hM => ?_)
      refine zj_aload_n C dc_M_repeats_32 rfl 0 rfl ?_
      refine zj_get (k := 0) C (by omega) hM.1.1 rfl (by decide) fw_M fl_M_62 rfl rfl dc_M_repeats_33 ?_
      refine zj_if_le C dc_M_repeats_36 rfl (fun h => absurd h (by decide)) (fun _ => ?_)
      refine zj_iconst (v := 0) C dc_M_repeats_39 (by decide) ?_
      exact zj_iret C dc_M_repeats_40 (Or.inr (Or.inr ⟨⟨t, ht, rfl, hth⟩, zm_le19n (Or.inl a1), hM⟩))
    · skip
      refine zj_iload_n C dc_M_repeats_18 rfl 2 rfl ?_
      refine zj_bipush (v := 19) C dc_M_repeats_19 (by decide) ?_
      refine zj_icmp_le C dc_M_repeats_21 rfl (fun a2 => ?_) (fun a2 => ?_)
      · obtain ⟨le, hl1, hl2, rfl⟩ := zm_le19 a1 a2
        refine zj_iconst (v := 0) C dc_M_repeats_28 (by decide) ?_
        refine zj_put (k := 0) C (by omega) hM.1.1 rfl (by decide) fw_M fl_M_62 rfl fy_M fk_M fn_M rfl rfl rfl (Nat.le_of_ble_eq_true rfl) rfl dc_M_repeats_29 ?_
        refine zM_kc hM (fun g2 hM => ?_)
        refine zj_aload_n C dc_M_repeats_32 rfl 0 rfl ?_
        refine zj_get (k := 0) C (by omega) hM.1.1 rfl (by decide) fw_M fl_M_62 rfl rfl dc_M_repeats_33 ?_
        refine zj_if_le C dc_M_repeats_36 rfl (fun _ => ?_) (fun h => absurd h (by decide))
        refine zj_iconst (v := 0) C dc_M_repeats_41 (by decide) ?_
        refine zj_istore_n C dc_M_repeats_42 rfl (by decide) rfl ?_
        refine zj_iconst (v := 0) C dc_M_repeats_43 (by decide) ?_
        refine zj_istore C dc_M_repeats_44 (by decide) rfl ?_
        refine zj_loc (L' := [(4, .int (nI 0)), (3, .int (nI ([] : List (Nat × Nat × Nat)).length)), (0, .ref (ad 108)), (1, .int (nI t)), (2, .int (nI le))]) [0, 1, 2, 3, 4] rfl ?_
        exact outl (Cn t + 1) 0 t le [] _ rfl (by omega) hl2 hl1 ht rfl hth rfl hM rfl
      · skip
        refine zj_iconst (v := 2) C dc_M_repeats_24 (by decide) ?_
        refine zj_goto C dc_M_repeats_25 rfl ?_
        refine zj_put (k := 0) C (by omega) hM.1.1 rfl (by decide) fw_M fl_M_62 rfl fy_M fk_M fn_M rfl rfl rfl (Nat.le_of_ble_eq_true rfl) rfl dc_M_repeats_29 ?_
        refine zM_kc hM (fun g2 hM => ?_)
        refine zj_aload_n C dc_M_repeats_32 rfl 0 rfl ?_
        refine zj_get (k := 0) C (by omega) hM.1.1 rfl (by decide) fw_M fl_M_62 rfl rfl dc_M_repeats_33 ?_
        refine zj_if_le C dc_M_repeats_36 rfl (fun h => absurd h (by decide)) (fun _ => ?_)
        refine zj_iconst (v := 0) C dc_M_repeats_39 (by decide) ?_
        exact zj_iret C dc_M_repeats_40 (Or.inr (Or.inr ⟨⟨t, ht, rfl, hth⟩, zm_le19n (Or.inr (Int32.not_le.mp a2)), hM⟩))
  · have hnt := zm_ntt (zb_i1 n1) hb9
    refine zj_iconst (v := 1) C dc_M_repeats_9 (by decide) ?_
    refine zj_goto C dc_M_repeats_10 rfl ?_
    refine zj_put (k := 0) C (by omega) hM.1.1 rfl (by decide) fw_M fl_M_62 rfl fy_M fk_M fn_M rfl rfl rfl (Nat.le_of_ble_eq_true rfl) rfl dc_M_repeats_29 ?_
    refine zM_kc hM (fun g2 hM => ?_)
    refine zj_aload_n C dc_M_repeats_32 rfl 0 rfl ?_
    refine zj_get (k := 0) C (by omega) hM.1.1 rfl (by decide) fw_M fl_M_62 rfl rfl dc_M_repeats_33 ?_
    refine zj_if_le C dc_M_repeats_36 rfl (fun h => absurd h (by decide)) (fun _ => ?_)
    refine zj_iconst (v := 0) C dc_M_repeats_39 (by decide) ?_
    exact zj_iret C dc_M_repeats_40 (Or.inr (Or.inl ⟨hnt, hM⟩))
set_option maxHeartbeats 4000000 in
set_option maxRecDepth 100000 in
theorem ct_M_repeat (l : Launch) (hst : l.stackTraces = false) (z : zv_T) (ad : Nat → Nat) (N : Nat) (g : Nat → va_E) (c as fo kp : Int32) (a : Nat → Nat → Int32) (hN : 126 ≤ N) (hM0 : zs_M z ad g c as fo kp a) (th sh : Nat → Bool) (Cn Rn : Nat → Nat) (hA : zm_A a th sh Cn Rn) (id x i w : Int32) : zm_i l mn_M_repeat ws_M_repeat rm_M_repeat z ad N g [.ref (ad 108), .int id, .int x, .int i, .int w] (fun r g1 => (∃ t le, zm_is th id t ∧ 1 ≤ le ∧ le ≤ 19 ∧ x = nI le ∧ (w = nI 0 ∨ w = nI 1 ∨ w = nI 2) ∧ ((∃ k y, (zp_eo (zm_pl (zm_f a 4 t (Rn t)) (Cn t)) (Cn t - 1) le 0 (Cn t - 1))[k]? = some y ∧ i = nI k ∧ ((w = nI 0 ∧ r = nI y.1) ∨ (w = nI 1 ∧ r = nI y.2.1) ∨ (w = nI 2 ∧ r = nI y.2.2))) ∨ ((∀ k, k < (zp_eo (zm_pl (zm_f a 4 t (Rn t)) (Cn t)) (Cn t - 1) le 0 (Cn t - 1)).length → ¬ i = nI k) ∧ r = -1)) ∧ zm_M z ad g g1 0 as fo kp a) ∨ ((∀ t, ¬ zm_is th id t) ∧ zm_M z ad g g1 1 as fo kp a) ∨ ((∃ t, zm_is th id t) ∧ (¬ zp_le19 x ∨ ¬ (w = nI 0 ∨ w = nI 1 ∨ w = nI 2)) ∧ zm_M z ad g g1 2 as fo kp a)) := by
  have hM : zm_M z ad g g c as fo kp a := ⟨hM0, fun _ _ => rfl⟩
  refine zm_ofi hst pn_M_repeat rfl (Nat.le_of_ble_eq_true rfl) (fun X hX C => ?_)
  subst hX
  show zj_J X 0 0 _ ad N g 0 [(0, .ref (ad 108)), (1, .int id), (2, .int x), (3, .int i), (4, .int w)] []
  have inn : ∀ (n : Nat) (st fr t le : Nat) (D : (List (Nat × Nat × Nat))) (g2 : Nat → va_E), Cn t + 20 - st = n → st ≤ Cn t + 19 → fr < Cn t → 1 ≤ le → le ≤ 19 → le ≤ st → t < 8 → id = nI t → th t = true → x = nI le → (w = nI 0 ∨ w = nI 1 ∨ w = nI 2) → zm_M z ad g g2 0 as fo kp a → (∀ k, k < D.length → ¬ i = nI k) → D ++ (zp_ei (zm_pl (zm_f a 4 t (Rn t)) (Cn t)) fr st (Cn t - fr - st) ++ zp_eo (zm_pl (zm_f a 4 t (Rn t)) (Cn t)) (Cn t - 1) le (fr + 1) (Cn t - 1 - (fr + 1))) = (zp_eo (zm_pl (zm_f a 4 t (Rn t)) (Cn t)) (Cn t - 1) le 0 (Cn t - 1)) → (∀ (x7 : Int32) (D : (List (Nat × Nat × Nat))), (∀ k, k < D.length → ¬ i = nI k) → D ++ zp_eo (zm_pl (zm_f a 4 t (Rn t)) (Cn t)) (Cn t - 1) le (fr + 1) (Cn t - 1 - (fr + 1)) = (zp_eo (zm_pl (zm_f a 4 t (Rn t)) (Cn t)) (Cn t - 1) le 0 (Cn t - 1)) → zj_J X 0 0 (zj_Qi X 0 0 ad N (fun r g1 => (∃ t le, zm_is th id t ∧ 1 ≤ le ∧ le ≤ 19 ∧ x = nI le ∧ (w = nI 0 ∨ w = nI 1 ∨ w = nI 2) ∧ ((∃ k y, (zp_eo (zm_pl (zm_f a 4 t (Rn t)) (Cn t)) (Cn t - 1) le 0 (Cn t - 1))[k]? = some y ∧ i = nI k ∧ ((w = nI 0 ∧ r = nI y.1) ∨ (w = nI 1 ∧ r = nI y.2.1) ∨ (w = nI 2 ∧ r = nI y.2.2))) ∨ ((∀ k, k < (zp_eo (zm_pl (zm_f a 4 t (Rn t)) (Cn t)) (Cn t - 1) le 0 (Cn t - 1)).length → ¬ i = nI k) ∧ r = -1)) ∧ zm_M z ad g g1 0 as fo kp a) ∨ ((∀ t, ¬ zm_is th id t) ∧ zm_M z ad g g1 1 as fo kp a) ∨ ((∃ t, zm_is th id t) ∧ (¬ zp_le19 x ∨ ¬ (w = nI 0 ∨ w = nI 1 ∨ w = nI 2)) ∧ zm_M z ad g g1 2 as fo kp a))) ad N g2 154 [(7, .int x7), (6, .int (nI fr)), (5, .int (nI D.length)), (0, .ref (ad 108)), (1, .int (nI t)), (2, .int (nI le)), (3, .int i), (4, .int w)] []) → zj_J X 0 0 (zj_Qi X 0 0 ad N (fun r g1 => (∃ t le, zm_is th id t ∧ 1 ≤ le ∧ le ≤ 19 ∧ x = nI le ∧ (w = nI 0 ∨ w = nI 1 ∨ w = nI 2) ∧ ((∃ k y, (zp_eo (zm_pl (zm_f a 4 t (Rn t)) (Cn t)) (Cn t - 1) le 0 (Cn t - 1))[k]? = some y ∧ i = nI k ∧ ((w = nI 0 ∧ r = nI y.1) ∨ (w = nI 1 ∧ r = nI y.2.1) ∨ (w = nI 2 ∧ r = nI y.2.2))) ∨ ((∀ k, k < (zp_eo (zm_pl (zm_f a 4 t (Rn t)) (Cn t)) (Cn t - 1) le 0 (Cn t - 1)).length → ¬ i = nI k) ∧ r = -1)) ∧ zm_M z ad g g1 0 as fo kp a) ∨ ((∀ t, ¬ zm_is th id t) ∧ zm_M z ad g g1 1 as fo kp a) ∨ ((∃ t, zm_is th id t) ∧ (¬ zp_le19 x ∨ ¬ (w = nI 0 ∨ w = nI 1 ∨ w = nI 2)) ∧ zm_M z ad g g1 2 as fo kp a))) ad N g2 72 [(7, .int (nI st)), (6, .int (nI fr)), (5, .int (nI D.length)), (0, .ref (ad 108)), (1, .int (nI t)), (2, .int (nI le)), (3, .int i), (4, .int w)] [] := by
    intro n
    induction n with
    | zero =>
      intro st fr t le D g2 e1 e2 e3 e4 e9 e5 ht hid hth hx hw hM hi hE K
      obtain ⟨hA0, hA1, hA2, hA3, hA4, hA5, hA6⟩ := hA t ht
      have hA6 := hA6 hth
      have hpl := zm_pl_le (zm_f a 4 t (Rn t)) (Cn t)
      exact absurd e1 (by omega)
    | succ n ih =>
      intro st fr t le D g2 e1 e2 e3 e4 e9 e5 ht hid hth hx hw hM hi hE K
      obtain ⟨hA0, hA1, hA2, hA3, hA4, hA5, hA6⟩ := hA t ht
      have hA6 := hA6 hth
      have hpl := zm_pl_le (zm_f a 4 t (Rn t)) (Cn t)
      refine zj_iload C dc_M_repeat_72 1 rfl ?_
      refine zj_iload C dc_M_repeat_74 0 rfl ?_
      refine zj_iadd C dc_M_repeat_76 ?_
      refine zj_topi (nI_add _ _) ?_
      refine zj_aload_n C dc_M_repeat_77 rfl 3 rfl ?_
      refine zj_get (k := 3) C (by omega) hM.1.1 rfl (by decide) fw_M fl_M_16 rfl rfl dc_M_repeat_78 ?_
      refine zj_iload_n C dc_M_repeat_81 rfl 4 rfl ?_
      refine zj_iald C (by omega) hM.1.2.2.2.1 rfl ht (by decide) dc_M_repeat_82 ?_
      refine zj_topi (hA2) ?_
      refine zj_icmp_ge C dc_M_repeat_83 rfl (fun b1 => ?_) (fun b1 => ?_)
      · have b1 := (nI_leI (by omega) (by omega)).mp b1
        refine zj_loc [0, 1, 2, 3, 4, 5, 6, 7] rfl ?_
        exact K _ D hi (zm_exe hE (by omega))
      · have b1 := (zn_nle (by omega) (by omega)).mp b1
        refine zj_aload_n C dc_M_repeat_86 rfl 3 rfl ?_
        refine zj_iload_n C dc_M_repeat_87 rfl 4 rfl ?_
        refine zj_iload C dc_M_repeat_88 1 rfl ?_
        refine zj_iload C dc_M_repeat_90 0 rfl ?_
        refine zj_Vi C (ct_M_places _ hst z ad N _ _ _ _ _ _ hN hM.1 t (Rn t) (Cn t) ht hA2 hA4 hA3 hA6 hA5 fr st (by omega) (by omega)) gv_M_134 rfl rfl rfl hd_M_places ⟨(Nat.le_of_ble_eq_true rfl), (Nat.le_of_ble_eq_true rfl)⟩ (by omega) hM.1.1 rfl rfl rfl (Nat.le_of_ble_eq_true rfl) ⟨(Nat.le_of_ble_eq_true rfl), (Nat.le_of_ble_eq_true rfl)⟩ dc_M_repeat_92 (fun r1 g9 h1 => ?_)
        obtain ⟨hv9, hg9⟩ := h1
        rw [hg9, hv9]
        have hpl9 := hpl fr st
        refine zj_istore C dc_M_repeat_95 (by decide) rfl ?_
        refine zj_iload C dc_M_repeat_97 0 rfl ?_
        refine zj_if_le C dc_M_repeat_99 rfl (fun c1 => ?_) (fun c1 => ?_)
        · have c1 := (zn_le0 (by omega)).mp c1
          refine zj_iload C dc_M_repeat_132 0 rfl ?_
          refine zj_if_le C dc_M_repeat_134 rfl (fun _ => ?_) (fun h => absurd ((zn_le0 (by omega)).mpr c1) h)
          refine zj_iload C dc_M_repeat_144 3 rfl ?_
          refine zj_istore C dc_M_repeat_146 (by decide) rfl ?_
          refine zj_iinc C dc_M_repeat_148 2 rfl (zn_inc st) (by decide) rfl ?_
          refine zj_goto C dc_M_repeat_151 rfl ?_
          refine zj_loc (L' := [(7, .int (nI (st + 1))), (6, .int (nI fr)), (5, .int (nI D.length)), (0, .ref (ad 108)), (1, .int (nI t)), (2, .int (nI le)), (3, .int i), (4, .int w)]) [0, 3, 1, 4, 5, 6, 7, 8] rfl ?_
          exact ih (st + 1) fr t le D g2 (by omega) (by omega) e3 e4 e9 (by omega) ht hid hth hx hw hM hi (zm_ex0 (m := Cn t - fr - (st + 1)) hE (by omega) c1) K
        · have c1 := Nat.pos_of_ne_zero (fun e => c1 ((zn_le0 (by omega)).mpr e))
          have hE1 := zm_ex1 (m := Cn t - fr - (st + 1)) hE (by omega) c1
          refine zj_iload C dc_M_repeat_102 3 rfl ?_
          refine zj_iload_n C dc_M_repeat_104 rfl 7 rfl ?_
          refine zj_icmp_ne C dc_M_repeat_105 rfl (fun c2 => ?_) (fun c2 => ?_)
          · skip
            refine zj_iload C dc_M_repeat_132 0 rfl ?_
            refine zj_if_le C dc_M_repeat_134 rfl (fun h => absurd ((zn_le0 (by omega)).mp h) (by omega)) (fun _ => ?_)
            refine zj_iload C dc_M_repeat_137 3 rfl ?_
            refine zj_iconst (v := 1) C dc_M_repeat_139 (by decide) ?_
            refine zj_iadd C dc_M_repeat_140 ?_
            refine zj_topi (nI_1 _) ?_
            refine zj_goto C dc_M_repeat_141 rfl ?_
            refine zj_istore C dc_M_repeat_146 (by decide) rfl ?_
            refine zj_iinc C dc_M_repeat_148 2 rfl (zn_inc st) (by decide) rfl ?_
            refine zj_goto C dc_M_repeat_151 rfl ?_
            refine zj_loc (L' := [(7, .int (nI (st + 1))), (6, .int (nI fr)), (5, .int (nI (D ++ [(fr, st, (zm_pl (zm_f a 4 t (Rn t)) (Cn t)) fr st)]).length)), (0, .ref (ad 108)), (1, .int (nI t)), (2, .int (nI le)), (3, .int i), (4, .int w)]) [0, 3, 1, 4, 5, 6, 7, 8] (by rw [List.length_append]; rfl) ?_
            exact ih (st + 1) fr t le (D ++ [(fr, st, (zm_pl (zm_f a 4 t (Rn t)) (Cn t)) fr st)]) g2 (by omega) (by omega) e3 e4 e9 (by omega) ht hid hth hx hw hM (zm_exn hi (fun e => c2 e.symm)) hE1 K
          · skip
            rcases hw with rfl | rfl | rfl
            · skip
              refine zj_iload C dc_M_repeat_108 8 rfl ?_
              refine zj_if_ne C dc_M_repeat_110 rfl (fun h => absurd h (by decide)) (fun _ => ?_)
              refine zj_iload C dc_M_repeat_113 2 rfl ?_
              refine zj_goto C dc_M_repeat_115 rfl ?_
              exact zj_iret C dc_M_repeat_131 (Or.inl ⟨t, le, ⟨ht, hid, hth⟩, e4, e9, hx, Or.inl rfl, Or.inl ⟨D.length, (fr, st, (zm_pl (zm_f a 4 t (Rn t)) (Cn t)) fr st), (zm_exi hE1).1, c2.symm, Or.inl ⟨rfl, rfl⟩⟩, hM⟩)
            · skip
              refine zj_iload C dc_M_repeat_108 8 rfl ?_
              refine zj_if_ne C dc_M_repeat_110 rfl (fun _ => ?_) (fun h => absurd h (by decide))
              refine zj_iload C dc_M_repeat_118 8 rfl ?_
              refine zj_iconst (v := 1) C dc_M_repeat_120 (by decide) ?_
              refine zj_icmp_ne C dc_M_repeat_121 rfl (fun h => absurd h (by decide)) (fun _ => ?_)
              refine zj_iload C dc_M_repeat_124 1 rfl ?_
              refine zj_goto C dc_M_repeat_126 rfl ?_
              exact zj_iret C dc_M_repeat_131 (Or.inl ⟨t, le, ⟨ht, hid, hth⟩, e4, e9, hx, Or.inr (Or.inl rfl), Or.inl ⟨D.length, (fr, st, (zm_pl (zm_f a 4 t (Rn t)) (Cn t)) fr st), (zm_exi hE1).1, c2.symm, Or.inr (Or.inl ⟨rfl, rfl⟩)⟩, hM⟩)
            · skip
              refine zj_iload C dc_M_repeat_108 8 rfl ?_
              refine zj_if_ne C dc_M_repeat_110 rfl (fun _ => ?_) (fun h => absurd h (by decide))
              refine zj_iload C dc_M_repeat_118 8 rfl ?_
              refine zj_iconst (v := 1) C dc_M_repeat_120 (by decide) ?_
              refine zj_icmp_ne C dc_M_repeat_121 rfl (fun _ => ?_) (fun h => absurd h (by decide))
              refine zj_iload C dc_M_repeat_129 0 rfl ?_
              exact zj_iret C dc_M_repeat_131 (Or.inl ⟨t, le, ⟨ht, hid, hth⟩, e4, e9, hx, Or.inr (Or.inr rfl), Or.inl ⟨D.length, (fr, st, (zm_pl (zm_f a 4 t (Rn t)) (Cn t)) fr st), (zm_exi hE1).1, c2.symm, Or.inr (Or.inr ⟨rfl, rfl⟩)⟩, hM⟩)
  have outl : ∀ (n : Nat) (fr t le : Nat) (D : (List (Nat × Nat × Nat))) (g2 : Nat → va_E), Cn t + 1 - fr = n → fr ≤ Cn t → le ≤ 19 → 1 ≤ le → t < 8 → id = nI t → th t = true → x = nI le → (w = nI 0 ∨ w = nI 1 ∨ w = nI 2) → zm_M z ad g g2 0 as fo kp a → (∀ k, k < D.length → ¬ i = nI k) → D ++ zp_eo (zm_pl (zm_f a 4 t (Rn t)) (Cn t)) (Cn t - 1) le fr (Cn t - 1 - fr) = (zp_eo (zm_pl (zm_f a 4 t (Rn t)) (Cn t)) (Cn t - 1) le 0 (Cn t - 1)) → zj_J X 0 0 (zj_Qi X 0 0 ad N (fun r g1 => (∃ t le, zm_is th id t ∧ 1 ≤ le ∧ le ≤ 19 ∧ x = nI le ∧ (w = nI 0 ∨ w = nI 1 ∨ w = nI 2) ∧ ((∃ k y, (zp_eo (zm_pl (zm_f a 4 t (Rn t)) (Cn t)) (Cn t - 1) le 0 (Cn t - 1))[k]? = some y ∧ i = nI k ∧ ((w = nI 0 ∧ r = nI y.1) ∨ (w = nI 1 ∧ r = nI y.2.1) ∨ (w = nI 2 ∧ r = nI y.2.2))) ∨ ((∀ k, k < (zp_eo (zm_pl (zm_f a 4 t (Rn t)) (Cn t)) (Cn t - 1) le 0 (Cn t - 1)).length → ¬ i = nI k) ∧ r = -1)) ∧ zm_M z ad g g1 0 as fo kp a) ∨ ((∀ t, ¬ zm_is th id t) ∧ zm_M z ad g g1 1 as fo kp a) ∨ ((∃ t, zm_is th id t) ∧ (¬ zp_le19 x ∨ ¬ (w = nI 0 ∨ w = nI 1 ∨ w = nI 2)) ∧ zm_M z ad g g1 2 as fo kp a))) ad N g2 58 [(6, .int (nI fr)), (5, .int (nI D.length)), (0, .ref (ad 108)), (1, .int (nI t)), (2, .int (nI le)), (3, .int i), (4, .int w)] [] := by
    intro n
    induction n with
    | zero =>
      intro fr t le D g2 e1 e2 e5 e4 ht hid hth hx hw hM hi hE
      obtain ⟨hA0, hA1, hA2, hA3, hA4, hA5, hA6⟩ := hA t ht
      have hA6 := hA6 hth
      have hpl := zm_pl_le (zm_f a 4 t (Rn t)) (Cn t)
      exact absurd e1 (by omega)
    | succ n ih =>
      intro fr t le D g2 e1 e2 e5 e4 ht hid hth hx hw hM hi hE
      obtain ⟨hA0, hA1, hA2, hA3, hA4, hA5, hA6⟩ := hA t ht
      have hA6 := hA6 hth
      have hpl := zm_pl_le (zm_f a 4 t (Rn t)) (Cn t)
      refine zj_iload C dc_M_repeat_58 0 rfl ?_
      refine zj_aload_n C dc_M_repeat_60 rfl 2 rfl ?_
      refine zj_get (k := 3) C (by omega) hM.1.1 rfl (by decide) fw_M fl_M_16 rfl rfl dc_M_repeat_61 ?_
      refine zj_iload_n C dc_M_repeat_64 rfl 3 rfl ?_
      refine zj_iald C (by omega) hM.1.2.2.2.1 rfl ht (by decide) dc_M_repeat_65 ?_
      refine zj_topi (hA2) ?_
      refine zj_icmp_ge C dc_M_repeat_66 rfl (fun b1 => ?_) (fun b1 => ?_)
      · have b1 := (nI_leI (by omega) (by omega)).mp b1
        have hD : D = (zp_eo (zm_pl (zm_f a 4 t (Rn t)) (Cn t)) (Cn t - 1) le 0 (Cn t - 1)) := by rw [← hE, show Cn t - 1 - fr = 0 by omega]; exact (List.append_nil D).symm
        rw [hD] at hi
        refine zj_iconst (v := -1) C dc_M_repeat_160 (by decide) ?_
        exact zj_iret C dc_M_repeat_161 (Or.inl ⟨t, le, ⟨ht, hid, hth⟩, e4, e5, hx, hw, Or.inr ⟨hi, rfl⟩, hM⟩)
      · have b1 := (zn_nle (by omega) (by omega)).mp b1
        refine zj_iload_n C dc_M_repeat_69 rfl 4 rfl ?_
        refine zj_istore C dc_M_repeat_70 (by decide) rfl ?_
        refine zj_loc (L' := [(7, .int (nI le)), (6, .int (nI fr)), (5, .int (nI D.length)), (0, .ref (ad 108)), (1, .int (nI t)), (2, .int (nI le)), (3, .int i), (4, .int w)]) [0, 1, 2, 3, 4, 5, 6, 7] rfl ?_
        refine inn (Cn t + 20 - le) le fr t le D g2 rfl (by omega) (by omega) e4 e5 (Nat.le_refl _) ht hid hth hx hw hM hi (by rw [← zm_eoS (by omega) e4]; exact hE) (fun x7 D hi hE => ?_)
        refine zj_iinc C dc_M_repeat_154 1 rfl (zn_inc fr) (by decide) rfl ?_
        refine zj_goto C dc_M_repeat_157 rfl ?_
        refine zj_loc (L' := [(6, .int (nI (fr + 1))), (5, .int (nI D.length)), (0, .ref (ad 108)), (1, .int (nI t)), (2, .int (nI le)), (3, .int i), (4, .int w)]) [0, 2, 3, 4, 5, 6, 7] rfl ?_
        exact ih (fr + 1) t le D g2 (by omega) (by omega) e5 e4 ht hid hth hx hw hM hi hE
  refine zj_aload_n C dc_M_repeat_0 rfl 0 rfl ?_
  refine zj_aload_n C dc_M_repeat_1 rfl 0 rfl ?_
  refine zj_iload_n C dc_M_repeat_2 rfl 1 rfl ?_
  refine zj_Vi C (ct_M_noTune _ hst z ad N _ _ _ _ _ _ hN hM.1 th sh Cn Rn hA _) gv_M_74 rfl rfl rfl hd_M_noTune ⟨(Nat.le_of_ble_eq_true rfl), (Nat.le_of_ble_eq_true rfl)⟩ (by omega) hM.1.1 rfl rfl rfl (Nat.le_of_ble_eq_true rfl) ⟨(Nat.le_of_ble_eq_true rfl), (Nat.le_of_ble_eq_true rfl)⟩ dc_M_repeat_3 (fun r1 g9 h1 => ?_)
  obtain ⟨⟨b9, rfl, hb9⟩, hg9⟩ := h1
  rw [hg9]
  refine zj_if_eq C dc_M_repeat_6 rfl (fun n1 => ?_) (fun n1 => ?_)
  · obtain ⟨t, ht, hid, hth⟩ := zm_ntf (zb_i0 n1) hb9
    subst hid
    obtain ⟨hA0, hA1, hA2, hA3, hA4, hA5, hA6⟩ := hA t ht
    have hA6 := hA6 hth
    refine zj_iload_n C dc_M_repeat_13 rfl 2 rfl ?_
    refine zj_iconst (v := 1) C dc_M_repeat_14 (by decide) ?_
    refine zj_icmp_lt C dc_M_repeat_15 rfl (fun a1 => ?_) (fun a1 => ?_)
    · skip
      refine zj_iconst (v := 2) C dc_M_repeat_35 (by decide) ?_
      refine zj_goto C dc_M_repeat_36 rfl ?_
      refine zj_put (k := 0) C (by omega) hM.1.1 rfl (by decide) fw_M fl_M_62 rfl fy_M fk_M fn_M rfl rfl rfl (Nat.le_of_ble_eq_true rfl) rfl dc_M_repeat_40 ?_
      refine zM_kc hM (fun g2 hM => ?_)
      refine zj_aload_n C dc_M_repeat_43 rfl 0 rfl ?_
      refine zj_get (k := 0) C (by omega) hM.1.1 rfl (by decide) fw_M fl_M_62 rfl rfl dc_M_repeat_44 ?_
      refine zj_if_le C dc_M_repeat_47 rfl (fun h => absurd h (by decide)) (fun _ => ?_)
      refine zj_iconst (v := 0) C dc_M_repeat_50 (by decide) ?_
      exact zj_iret C dc_M_repeat_51 (Or.inr (Or.inr ⟨⟨t, ht, rfl, hth⟩, Or.inl (zm_le19n (Or.inl a1)), hM⟩))
    · skip
      refine zj_iload_n C dc_M_repeat_18 rfl 2 rfl ?_
      refine zj_bipush (v := 19) C dc_M_repeat_19 (by decide) ?_
      refine zj_icmp_gt C dc_M_repeat_21 rfl (fun a2 => ?_) (fun a2 => ?_)
      · skip
        refine zj_iconst (v := 2) C dc_M_repeat_35 (by decide) ?_
        refine zj_goto C dc_M_repeat_36 rfl ?_
        refine zj_put (k := 0) C (by omega) hM.1.1 rfl (by decide) fw_M fl_M_62 rfl fy_M fk_M fn_M rfl rfl rfl (Nat.le_of_ble_eq_true rfl) rfl dc_M_repeat_40 ?_
        refine zM_kc hM (fun g2 hM => ?_)
        refine zj_aload_n C dc_M_repeat_43 rfl 0 rfl ?_
        refine zj_get (k := 0) C (by omega) hM.1.1 rfl (by decide) fw_M fl_M_62 rfl rfl dc_M_repeat_44 ?_
        refine zj_if_le C dc_M_repeat_47 rfl (fun h => absurd h (by decide)) (fun _ => ?_)
        refine zj_iconst (v := 0) C dc_M_repeat_50 (by decide) ?_
        exact zj_iret C dc_M_repeat_51 (Or.inr (Or.inr ⟨⟨t, ht, rfl, hth⟩, Or.inl (zm_le19n (Or.inr a2)), hM⟩))
      · skip
        refine zj_iload C dc_M_repeat_24 4 rfl ?_
        refine zj_if_lt C dc_M_repeat_26 rfl (fun a3 => ?_) (fun a3 => ?_)
        · skip
          refine zj_iconst (v := 2) C dc_M_repeat_35 (by decide) ?_
          refine zj_goto C dc_M_repeat_36 rfl ?_
          refine zj_put (k := 0) C (by omega) hM.1.1 rfl (by decide) fw_M fl_M_62 rfl fy_M fk_M fn_M rfl rfl rfl (Nat.le_of_ble_eq_true rfl) rfl dc_M_repeat_40 ?_
          refine zM_kc hM (fun g2 hM => ?_)
          refine zj_aload_n C dc_M_repeat_43 rfl 0 rfl ?_
          refine zj_get (k := 0) C (by omega) hM.1.1 rfl (by decide) fw_M fl_M_62 rfl rfl dc_M_repeat_44 ?_
          refine zj_if_le C dc_M_repeat_47 rfl (fun h => absurd h (by decide)) (fun _ => ?_)
          refine zj_iconst (v := 0) C dc_M_repeat_50 (by decide) ?_
          exact zj_iret C dc_M_repeat_51 (Or.inr (Or.inr ⟨⟨t, ht, rfl, hth⟩, Or.inr (zm_w3n (Or.inl a3)), hM⟩))
        · skip
          refine zj_iload C dc_M_repeat_29 4 rfl ?_
          refine zj_iconst (v := 2) C dc_M_repeat_31 (by decide) ?_
          refine zj_icmp_le C dc_M_repeat_32 rfl (fun a4 => ?_) (fun a4 => ?_)
          · obtain ⟨le, hl1, hl2, rfl⟩ := zm_le19 a1 (Int32.not_lt.mp a2)
            refine zj_iconst (v := 0) C dc_M_repeat_39 (by decide) ?_
            refine zj_put (k := 0) C (by omega) hM.1.1 rfl (by decide) fw_M fl_M_62 rfl fy_M fk_M fn_M rfl rfl rfl (Nat.le_of_ble_eq_true rfl) rfl dc_M_repeat_40 ?_
            refine zM_kc hM (fun g2 hM => ?_)
            refine zj_aload_n C dc_M_repeat_43 rfl 0 rfl ?_
            refine zj_get (k := 0) C (by omega) hM.1.1 rfl (by decide) fw_M fl_M_62 rfl rfl dc_M_repeat_44 ?_
            refine zj_if_le C dc_M_repeat_47 rfl (fun _ => ?_) (fun h => absurd h (by decide))
            refine zj_iconst (v := 0) C dc_M_repeat_52 (by decide) ?_
            refine zj_istore C dc_M_repeat_53 (by decide) rfl ?_
            refine zj_iconst (v := 0) C dc_M_repeat_55 (by decide) ?_
            refine zj_istore C dc_M_repeat_56 (by decide) rfl ?_
            refine zj_loc (L' := [(6, .int (nI 0)), (5, .int (nI ([] : List (Nat × Nat × Nat)).length)), (0, .ref (ad 108)), (1, .int (nI t)), (2, .int (nI le)), (3, .int i), (4, .int w)]) [0, 1, 2, 3, 4, 5, 6] rfl ?_
            exact outl (Cn t + 1) 0 t le [] _ rfl (by omega) hl2 hl1 ht rfl hth rfl (zp_w3 a3 a4) hM (fun k hk => absurd hk (Nat.not_lt_zero k)) rfl
          · skip
            refine zj_iconst (v := 2) C dc_M_repeat_35 (by decide) ?_
            refine zj_goto C dc_M_repeat_36 rfl ?_
            refine zj_put (k := 0) C (by omega) hM.1.1 rfl (by decide) fw_M fl_M_62 rfl fy_M fk_M fn_M rfl rfl rfl (Nat.le_of_ble_eq_true rfl) rfl dc_M_repeat_40 ?_
            refine zM_kc hM (fun g2 hM => ?_)
            refine zj_aload_n C dc_M_repeat_43 rfl 0 rfl ?_
            refine zj_get (k := 0) C (by omega) hM.1.1 rfl (by decide) fw_M fl_M_62 rfl rfl dc_M_repeat_44 ?_
            refine zj_if_le C dc_M_repeat_47 rfl (fun h => absurd h (by decide)) (fun _ => ?_)
            refine zj_iconst (v := 0) C dc_M_repeat_50 (by decide) ?_
            exact zj_iret C dc_M_repeat_51 (Or.inr (Or.inr ⟨⟨t, ht, rfl, hth⟩, Or.inr (zm_w3n (Or.inr (Int32.not_le.mp a4))), hM⟩))
  · have hnt := zm_ntt (zb_i1 n1) hb9
    refine zj_iconst (v := 1) C dc_M_repeat_9 (by decide) ?_
    refine zj_goto C dc_M_repeat_10 rfl ?_
    refine zj_put (k := 0) C (by omega) hM.1.1 rfl (by decide) fw_M fl_M_62 rfl fy_M fk_M fn_M rfl rfl rfl (Nat.le_of_ble_eq_true rfl) rfl dc_M_repeat_40 ?_
    refine zM_kc hM (fun g2 hM => ?_)
    refine zj_aload_n C dc_M_repeat_43 rfl 0 rfl ?_
    refine zj_get (k := 0) C (by omega) hM.1.1 rfl (by decide) fw_M fl_M_62 rfl rfl dc_M_repeat_44 ?_
    refine zj_if_le C dc_M_repeat_47 rfl (fun h => absurd h (by decide)) (fun _ => ?_)
    refine zj_iconst (v := 0) C dc_M_repeat_50 (by decide) ?_
    exact zj_iret C dc_M_repeat_51 (Or.inr (Or.inl ⟨hnt, hM⟩))
def zm_ec (a : Nat → Nat → Int32) (Rn : Nat → Nat) (t o p : Nat) : Nat → Bool := fun k => decide (zm_f a 5 t (Rn t) (p + k) = zm_f a 5 o (Rn o) k) && decide (zm_f a 4 t (Rn t) (p + k) - zm_f a 4 t (Rn t) p = zm_f a 4 o (Rn o) k - zm_f a 4 o (Rn o) 0)
theorem zm_lnn {x : Int32} (h : x < 2 ∨ (20 : Int32) < x) : ∀ len, 2 ≤ len → len ≤ 20 → ¬ x = nI len := by
  rintro len h1 h2 rfl
  rcases h with h | h
  · have := (nI_ltI (b := 2) (by omega) (by omega)).mp h; omega
  · have := (nI_ltI (a := 20) (by omega) (by omega)).mp h; omega
set_option maxHeartbeats 4000000 in
set_option maxRecDepth 100000 in
theorem ct_M_canon (l : Launch) (hst : l.stackTraces = false) (z : zv_T) (ad : Nat → Nat) (N : Nat) (g : Nat → va_E) (c as fo kp : Int32) (a : Nat → Nat → Int32) (hN : 126 ≤ N) (hM0 : zs_M z ad g c as fo kp a) (th sh : Nat → Bool) (Cn Rn : Nat → Nat) (hA : zm_A a th sh Cn Rn) (id other x : Int32) : zm_i l mn_M_canon ws_M_canon rm_M_canon z ad N g [.ref (ad 108), .int id, .int other, .int x] (fun r g1 => (∃ t o len, zm_is th id t ∧ zm_is th other o ∧ 2 ≤ len ∧ len ≤ 20 ∧ x = nI len ∧ ((Cn o < len ∧ r = -1) ∨ (len ≤ Cn o ∧ zp_fst (fun q => zp_all (zm_ec a Rn t o q) len) (if t = o then 1 else 0) (Cn t + 1 - len) r)) ∧ zm_M z ad g g1 0 as fo kp a) ∨ (((∀ t, ¬ zm_is th id t) ∨ ∀ o, ¬ zm_is th other o) ∧ zm_M z ad g g1 1 as fo kp a) ∨ ((∃ t, zm_is th id t) ∧ (∃ o, zm_is th other o) ∧ (∀ len, 2 ≤ len → len ≤ 20 → ¬ x = nI len) ∧ zm_M z ad g g1 2 as fo kp a)) := by
  have hM : zm_M z ad g g c as fo kp a := ⟨hM0, fun _ _ => rfl⟩
  refine zm_ofi hst pn_M_canon rfl (Nat.le_of_ble_eq_true rfl) (fun X hX C => ?_)
  subst hX
  show zj_J X 0 0 _ ad N g 0 [(0, .ref (ad 108)), (1, .int id), (2, .int other), (3, .int x)] []
  have inn : ∀ (n : Nat) (k p t o len : Nat) (g2 : Nat → va_E), len + 1 - k = n → k ≤ len → p + len ≤ Cn t → len ≤ Cn o → 1 ≤ len → t < 8 → o < 8 → th t = true → th o = true → zm_M z ad g g2 0 as fo kp a → (∀ x6 : Int32, zj_J X 0 0 (zj_Qi X 0 0 ad N (fun r g1 => (∃ t o len, zm_is th id t ∧ zm_is th other o ∧ 2 ≤ len ∧ len ≤ 20 ∧ x = nI len ∧ ((Cn o < len ∧ r = -1) ∨ (len ≤ Cn o ∧ zp_fst (fun q => zp_all (zm_ec a Rn t o q) len) (if t = o then 1 else 0) (Cn t + 1 - len) r)) ∧ zm_M z ad g g1 0 as fo kp a) ∨ (((∀ t, ¬ zm_is th id t) ∨ ∀ o, ¬ zm_is th other o) ∧ zm_M z ad g g1 1 as fo kp a) ∨ ((∃ t, zm_is th id t) ∧ (∃ o, zm_is th other o) ∧ (∀ len, 2 ≤ len → len ≤ 20 → ¬ x = nI len) ∧ zm_M z ad g g1 2 as fo kp a))) ad N g2 171 [(6, .int x6), (5, .int (zb_i (zp_all (zm_ec a Rn t o p) len))), (4, .int (nI p)), (0, .ref (ad 108)), (1, .int (nI t)), (2, .int (nI o)), (3, .int (nI len))] []) → zj_J X 0 0 (zj_Qi X 0 0 ad N (fun r g1 => (∃ t o len, zm_is th id t ∧ zm_is th other o ∧ 2 ≤ len ∧ len ≤ 20 ∧ x = nI len ∧ ((Cn o < len ∧ r = -1) ∨ (len ≤ Cn o ∧ zp_fst (fun q => zp_all (zm_ec a Rn t o q) len) (if t = o then 1 else 0) (Cn t + 1 - len) r)) ∧ zm_M z ad g g1 0 as fo kp a) ∨ (((∀ t, ¬ zm_is th id t) ∨ ∀ o, ¬ zm_is th other o) ∧ zm_M z ad g g1 1 as fo kp a) ∨ ((∃ t, zm_is th id t) ∧ (∃ o, zm_is th other o) ∧ (∀ len, 2 ≤ len → len ≤ 20 → ¬ x = nI len) ∧ zm_M z ad g g1 2 as fo kp a))) ad N g2 92 [(6, .int (nI k)), (5, .int (zb_i (zp_all (zm_ec a Rn t o p) k))), (4, .int (nI p)), (0, .ref (ad 108)), (1, .int (nI t)), (2, .int (nI o)), (3, .int (nI len))] [] := by
    intro n
    induction n with
    | zero =>
      intro k p t o len g2 e1 e2 e3 e4 e5 ht ho hth hto hM K
      obtain ⟨hA0, hA1, hA2, hA3, hA4, hA5, hA6⟩ := hA t ht
      have hA6 := hA6 hth
      obtain ⟨hB0, hB1, hB2, hB3, hB4, hB5, hB6⟩ := hA o ho
      have hB6 := hB6 hto
      exact absurd e1 (by omega)
    | succ n ih =>
      intro k p t o len g2 e1 e2 e3 e4 e5 ht ho hth hto hM K
      obtain ⟨hA0, hA1, hA2, hA3, hA4, hA5, hA6⟩ := hA t ht
      have hA6 := hA6 hth
      obtain ⟨hB0, hB1, hB2, hB3, hB4, hB5, hB6⟩ := hA o ho
      have hB6 := hB6 hto
      refine zj_iload C dc_M_canon_92 0 rfl ?_
      refine zj_iload_n C dc_M_canon_94 rfl 6 rfl ?_
      refine zj_icmp_ge C dc_M_canon_95 rfl (fun b1 => ?_) (fun b1 => ?_)
      · have b1 := (nI_leI (by omega) (by omega)).mp b1
        refine zj_loc [0, 1, 2, 3, 4, 5, 6] rfl ?_
        exact (show k = len by omega) ▸ K _
      · have b1 := (zn_nle (by omega) (by omega)).mp b1
        refine zj_iload C dc_M_canon_98 1 rfl ?_
        refine zj_if_eq C dc_M_canon_100 rfl (fun c1 => ?_) (fun c1 => ?_)
        · have c1 := zb_i0 c1
          refine zj_iconst (v := 0) C dc_M_canon_162 (by decide) ?_
          refine zj_istore C dc_M_canon_163 (by decide) rfl ?_
          refine zj_iinc C dc_M_canon_165 1 rfl (zn_inc k) (by decide) rfl ?_
          refine zj_goto C dc_M_canon_168 rfl ?_
          refine zj_loc (L' := [(6, .int (nI (k + 1))), (5, .int (zb_i (zp_all (zm_ec a Rn t o p) (k + 1)))), (4, .int (nI p)), (0, .ref (ad 108)), (1, .int (nI t)), (2, .int (nI o)), (3, .int (nI len))]) [0, 1, 2, 3, 4, 5, 6] (by rw [show zp_all (zm_ec a Rn t o p) (k + 1) = false from by rw [zp_allS, c1]; rfl]; rfl) ?_
          exact ih (k + 1) p t o len g2 (by omega) (by omega) e3 e4 e5 ht ho hth hto hM K
        · have c1 := zb_i1 c1
          refine zj_aload_n C dc_M_canon_103 rfl 3 rfl ?_
          refine zj_iload_n C dc_M_canon_104 rfl 4 rfl ?_
          refine zj_iload C dc_M_canon_105 2 rfl ?_
          refine zj_iload C dc_M_canon_107 0 rfl ?_
          refine zj_iadd C dc_M_canon_109 ?_
          refine zj_topi (nI_add _ _) ?_
          refine zj_Vi C (ct_M_lengthOf _ hst z ad N _ _ _ _ _ _ hN hM.1 t (p + k) (Rn t) ht (by omega) hA3 hA6 hA5) gv_M_95 rfl rfl rfl hd_M_lengthOf ⟨(Nat.le_of_ble_eq_true rfl), (Nat.le_of_ble_eq_true rfl)⟩ (by omega) hM.1.1 rfl rfl rfl (Nat.le_of_ble_eq_true rfl) ⟨(Nat.le_of_ble_eq_true rfl), (Nat.le_of_ble_eq_true rfl)⟩ dc_M_canon_110 (fun r1 g9 h1 => ?_)
          obtain ⟨hv9, hg9⟩ := h1
          rw [hg9, hv9]
          refine zj_aload_n C dc_M_canon_113 rfl 3 rfl ?_
          refine zj_iload_n C dc_M_canon_114 rfl 5 rfl ?_
          refine zj_iload C dc_M_canon_115 0 rfl ?_
          refine zj_Vi C (ct_M_lengthOf _ hst z ad N _ _ _ _ _ _ hN hM.1 o (k) (Rn o) ho (by omega) hB3 hB6 hB5) gv_M_95 rfl rfl rfl hd_M_lengthOf ⟨(Nat.le_of_ble_eq_true rfl), (Nat.le_of_ble_eq_true rfl)⟩ (by omega) hM.1.1 rfl rfl rfl (Nat.le_of_ble_eq_true rfl) ⟨(Nat.le_of_ble_eq_true rfl), (Nat.le_of_ble_eq_true rfl)⟩ dc_M_canon_117 (fun r1 g9 h1 => ?_)
          obtain ⟨hv9, hg9⟩ := h1
          rw [hg9, hv9]
          refine zj_icmp_ne C dc_M_canon_120 rfl (fun c2 => ?_) (fun c2 => ?_)
          · have c2 : ¬ (zm_f a 5 t (Rn t) (p + k) = zm_f a 5 o (Rn o) k) := c2
            refine zj_iconst (v := 0) C dc_M_canon_162 (by decide) ?_
            refine zj_istore C dc_M_canon_163 (by decide) rfl ?_
            refine zj_iinc C dc_M_canon_165 1 rfl (zn_inc k) (by decide) rfl ?_
            refine zj_goto C dc_M_canon_168 rfl ?_
            refine zj_loc (L' := [(6, .int (nI (k + 1))), (5, .int (zb_i (zp_all (zm_ec a Rn t o p) (k + 1)))), (4, .int (nI p)), (0, .ref (ad 108)), (1, .int (nI t)), (2, .int (nI o)), (3, .int (nI len))]) [0, 1, 2, 3, 4, 5, 6] (by rw [show zp_all (zm_ec a Rn t o p) (k + 1) = false from by rw [zp_allS, c1]; show (true && (decide _ && _)) = false; rw [decide_eq_false c2]; rfl]; rfl) ?_
            exact ih (k + 1) p t o len g2 (by omega) (by omega) e3 e4 e5 ht ho hth hto hM K
          · have c2 : zm_f a 5 t (Rn t) (p + k) = zm_f a 5 o (Rn o) k := c2
            refine zj_aload_n C dc_M_canon_123 rfl 3 rfl ?_
            refine zj_iload_n C dc_M_canon_124 rfl 4 rfl ?_
            refine zj_iload C dc_M_canon_125 2 rfl ?_
            refine zj_iload C dc_M_canon_127 0 rfl ?_
            refine zj_iadd C dc_M_canon_129 ?_
            refine zj_topi (nI_add _ _) ?_
            refine zj_Vi C (ct_M_pitch _ hst z ad N _ _ _ _ _ _ hN hM.1 t (p + k) (Rn t) ht (by omega) hA3 hA6 hA5) gv_M_70 rfl rfl rfl hd_M_pitch ⟨(Nat.le_of_ble_eq_true rfl), (Nat.le_of_ble_eq_true rfl)⟩ (by omega) hM.1.1 rfl rfl rfl (Nat.le_of_ble_eq_true rfl) ⟨(Nat.le_of_ble_eq_true rfl), (Nat.le_of_ble_eq_true rfl)⟩ dc_M_canon_130 (fun r1 g9 h1 => ?_)
            obtain ⟨hv9, hg9⟩ := h1
            rw [hg9, hv9]
            refine zj_aload_n C dc_M_canon_133 rfl 3 rfl ?_
            refine zj_iload_n C dc_M_canon_134 rfl 4 rfl ?_
            refine zj_iload C dc_M_canon_135 2 rfl ?_
            refine zj_Vi C (ct_M_pitch _ hst z ad N _ _ _ _ _ _ hN hM.1 t (p) (Rn t) ht (by omega) hA3 hA6 hA5) gv_M_70 rfl rfl rfl hd_M_pitch ⟨(Nat.le_of_ble_eq_true rfl), (Nat.le_of_ble_eq_true rfl)⟩ (by omega) hM.1.1 rfl rfl rfl (Nat.le_of_ble_eq_true rfl) ⟨(Nat.le_of_ble_eq_true rfl), (Nat.le_of_ble_eq_true rfl)⟩ dc_M_canon_137 (fun r1 g9 h1 => ?_)
            obtain ⟨hv9, hg9⟩ := h1
            rw [hg9, hv9]
            refine zj_isub C dc_M_canon_140 ?_
            refine zj_aload_n C dc_M_canon_141 rfl 3 rfl ?_
            refine zj_iload_n C dc_M_canon_142 rfl 5 rfl ?_
            refine zj_iload C dc_M_canon_143 0 rfl ?_
            refine zj_Vi C (ct_M_pitch _ hst z ad N _ _ _ _ _ _ hN hM.1 o (k) (Rn o) ho (by omega) hB3 hB6 hB5) gv_M_70 rfl rfl rfl hd_M_pitch ⟨(Nat.le_of_ble_eq_true rfl), (Nat.le_of_ble_eq_true rfl)⟩ (by omega) hM.1.1 rfl rfl rfl (Nat.le_of_ble_eq_true rfl) ⟨(Nat.le_of_ble_eq_true rfl), (Nat.le_of_ble_eq_true rfl)⟩ dc_M_canon_145 (fun r1 g9 h1 => ?_)
            obtain ⟨hv9, hg9⟩ := h1
            rw [hg9, hv9]
            refine zj_aload_n C dc_M_canon_148 rfl 3 rfl ?_
            refine zj_iload_n C dc_M_canon_149 rfl 5 rfl ?_
            refine zj_iconst (v := 0) C dc_M_canon_150 (by decide) ?_
            refine zj_topi (nI_0.symm) ?_
            refine zj_Vi C (ct_M_pitch _ hst z ad N _ _ _ _ _ _ hN hM.1 o (0) (Rn o) ho (by omega) hB3 hB6 hB5) gv_M_70 rfl rfl rfl hd_M_pitch ⟨(Nat.le_of_ble_eq_true rfl), (Nat.le_of_ble_eq_true rfl)⟩ (by omega) hM.1.1 rfl rfl rfl (Nat.le_of_ble_eq_true rfl) ⟨(Nat.le_of_ble_eq_true rfl), (Nat.le_of_ble_eq_true rfl)⟩ dc_M_canon_151 (fun r1 g9 h1 => ?_)
            obtain ⟨hv9, hg9⟩ := h1
            rw [hg9, hv9]
            refine zj_isub C dc_M_canon_154 ?_
            refine zj_icmp_ne C dc_M_canon_155 rfl (fun c3 => ?_) (fun c3 => ?_)
            · have c3 : ¬ (zm_f a 4 t (Rn t) (p + k) - zm_f a 4 t (Rn t) p = zm_f a 4 o (Rn o) k - zm_f a 4 o (Rn o) 0) := c3
              refine zj_iconst (v := 0) C dc_M_canon_162 (by decide) ?_
              refine zj_istore C dc_M_canon_163 (by decide) rfl ?_
              refine zj_iinc C dc_M_canon_165 1 rfl (zn_inc k) (by decide) rfl ?_
              refine zj_goto C dc_M_canon_168 rfl ?_
              refine zj_loc (L' := [(6, .int (nI (k + 1))), (5, .int (zb_i (zp_all (zm_ec a Rn t o p) (k + 1)))), (4, .int (nI p)), (0, .ref (ad 108)), (1, .int (nI t)), (2, .int (nI o)), (3, .int (nI len))]) [0, 1, 2, 3, 4, 5, 6] (by rw [show zp_all (zm_ec a Rn t o p) (k + 1) = false from by rw [zp_allS, c1]; show (true && (decide _ && decide _)) = false; rw [decide_eq_false c3]; simp]; rfl) ?_
              exact ih (k + 1) p t o len g2 (by omega) (by omega) e3 e4 e5 ht ho hth hto hM K
            · have c3 : zm_f a 4 t (Rn t) (p + k) - zm_f a 4 t (Rn t) p = zm_f a 4 o (Rn o) k - zm_f a 4 o (Rn o) 0 := c3
              refine zj_iconst (v := 1) C dc_M_canon_158 (by decide) ?_
              refine zj_goto C dc_M_canon_159 rfl ?_
              refine zj_istore C dc_M_canon_163 (by decide) rfl ?_
              refine zj_iinc C dc_M_canon_165 1 rfl (zn_inc k) (by decide) rfl ?_
              refine zj_goto C dc_M_canon_168 rfl ?_
              refine zj_loc (L' := [(6, .int (nI (k + 1))), (5, .int (zb_i (zp_all (zm_ec a Rn t o p) (k + 1)))), (4, .int (nI p)), (0, .ref (ad 108)), (1, .int (nI t)), (2, .int (nI o)), (3, .int (nI len))]) [0, 1, 2, 3, 4, 5, 6] (by rw [show zp_all (zm_ec a Rn t o p) (k + 1) = true from by rw [zp_allS, c1]; show (true && (decide _ && decide _)) = true; rw [decide_eq_true c2, decide_eq_true c3]; rfl]; rfl) ?_
              exact ih (k + 1) p t o len g2 (by omega) (by omega) e3 e4 e5 ht ho hth hto hM K
  have outl : ∀ (n : Nat) (p t o len : Nat) (g2 : Nat → va_E), Cn t + 2 - p = n → p ≤ Cn t + 1 → 2 ≤ len → len ≤ 20 → len ≤ Cn o → t < 8 → o < 8 → th t = true → th o = true → id = nI t → other = nI o → x = nI len → zm_M z ad g g2 0 as fo kp a → (if t = o then 1 else 0) ≤ p → (∀ j, (if t = o then 1 else 0) ≤ j → j < p → (fun q => zp_all (zm_ec a Rn t o q) len) j = false) → zj_J X 0 0 (zj_Qi X 0 0 ad N (fun r g1 => (∃ t o len, zm_is th id t ∧ zm_is th other o ∧ 2 ≤ len ∧ len ≤ 20 ∧ x = nI len ∧ ((Cn o < len ∧ r = -1) ∨ (len ≤ Cn o ∧ zp_fst (fun q => zp_all (zm_ec a Rn t o q) len) (if t = o then 1 else 0) (Cn t + 1 - len) r)) ∧ zm_M z ad g g1 0 as fo kp a) ∨ (((∀ t, ¬ zm_is th id t) ∨ ∀ o, ¬ zm_is th other o) ∧ zm_M z ad g g1 1 as fo kp a) ∨ ((∃ t, zm_is th id t) ∧ (∃ o, zm_is th other o) ∧ (∀ len, 2 ≤ len → len ≤ 20 → ¬ x = nI len) ∧ zm_M z ad g g1 2 as fo kp a))) ad N g2 73 [(4, .int (nI p)), (0, .ref (ad 108)), (1, .int (nI t)), (2, .int (nI o)), (3, .int (nI len))] [] := by
    intro n
    induction n with
    | zero =>
      intro p t o len g2 e1 e2 e3 e5 e4 ht ho hth hto hid hio hx hM hlo hj
      obtain ⟨hA0, hA1, hA2, hA3, hA4, hA5, hA6⟩ := hA t ht
      have hA6 := hA6 hth
      obtain ⟨hB0, hB1, hB2, hB3, hB4, hB5, hB6⟩ := hA o ho
      have hB6 := hB6 hto
      exact absurd e1 (by omega)
    | succ n ih =>
      intro p t o len g2 e1 e2 e3 e5 e4 ht ho hth hto hid hio hx hM hlo hj
      obtain ⟨hA0, hA1, hA2, hA3, hA4, hA5, hA6⟩ := hA t ht
      have hA6 := hA6 hth
      obtain ⟨hB0, hB1, hB2, hB3, hB4, hB5, hB6⟩ := hA o ho
      have hB6 := hB6 hto
      refine zj_iload C dc_M_canon_73 0 rfl ?_
      refine zj_iload_n C dc_M_canon_75 rfl 4 rfl ?_
      refine zj_iadd C dc_M_canon_76 ?_
      refine zj_topi (nI_add _ _) ?_
      refine zj_aload_n C dc_M_canon_77 rfl 1 rfl ?_
      refine zj_get (k := 3) C (by omega) hM.1.1 rfl (by decide) fw_M fl_M_16 rfl rfl dc_M_canon_78 ?_
      refine zj_iload_n C dc_M_canon_81 rfl 2 rfl ?_
      refine zj_iald C (by omega) hM.1.2.2.2.1 rfl ht (by decide) dc_M_canon_82 ?_
      refine zj_topi (hA2) ?_
      refine zj_icmp_gt C dc_M_canon_83 rfl (fun b1 => ?_) (fun b1 => ?_)
      · have b1 := (nI_ltI (by omega) (by omega)).mp b1
        refine zj_iconst (v := -1) C dc_M_canon_185 (by decide) ?_
        exact zj_iret C dc_M_canon_186 (Or.inl ⟨t, o, len, ⟨ht, hid, hth⟩, ⟨ho, hio, hto⟩, e3, e5, hx, Or.inr ⟨e4, Or.inr ⟨fun j h1 h2 => hj j h1 (by omega), rfl⟩⟩, hM⟩)
      · have b1 := (zn_nlt (by omega) (by omega)).mp b1
        refine zj_iconst (v := 1) C dc_M_canon_86 (by decide) ?_
        refine zj_istore C dc_M_canon_87 (by decide) rfl ?_
        refine zj_iconst (v := 0) C dc_M_canon_89 (by decide) ?_
        refine zj_istore C dc_M_canon_90 (by decide) rfl ?_
        refine zj_loc (L' := [(6, .int (nI 0)), (5, .int (zb_i (zp_all (zm_ec a Rn t o p) 0))), (4, .int (nI p)), (0, .ref (ad 108)), (1, .int (nI t)), (2, .int (nI o)), (3, .int (nI len))]) [0, 1, 2, 3, 4, 5, 6] rfl ?_
        refine inn (len + 1) 0 p t o len g2 rfl (by omega) (by omega) e4 (by omega) ht ho hth hto hM (fun x6 => ?_)
        refine zj_iload C dc_M_canon_171 1 rfl ?_
        refine zj_if_eq C dc_M_canon_173 rfl (fun c4 => ?_) (fun c4 => ?_)
        · have c4 := zb_i0 c4
          refine zj_iinc C dc_M_canon_179 2 rfl (zn_inc p) (by decide) rfl ?_
          refine zj_goto C dc_M_canon_182 rfl ?_
          refine zj_loc (L' := [(4, .int (nI (p + 1))), (0, .ref (ad 108)), (1, .int (nI t)), (2, .int (nI o)), (3, .int (nI len))]) [0, 3, 4, 5, 6] rfl ?_
          exact ih (p + 1) t o len g2 (by omega) (by omega) e3 e5 e4 ht ho hth hto hid hio hx hM (by omega) (fun j h1 h2 => if q : j = p then q ▸ c4 else hj j h1 (by omega))
        · have c4 := zb_i1 c4
          refine zj_iload C dc_M_canon_176 2 rfl ?_
          exact zj_iret C dc_M_canon_178 (Or.inl ⟨t, o, len, ⟨ht, hid, hth⟩, ⟨ho, hio, hto⟩, e3, e5, hx, Or.inr ⟨e4, Or.inl ⟨p, hlo, by omega, c4, hj, rfl⟩⟩, hM⟩)
  refine zj_aload_n C dc_M_canon_0 rfl 0 rfl ?_
  refine zj_aload_n C dc_M_canon_1 rfl 0 rfl ?_
  refine zj_iload_n C dc_M_canon_2 rfl 1 rfl ?_
  refine zj_Vi C (ct_M_noTune _ hst z ad N _ _ _ _ _ _ hN hM.1 th sh Cn Rn hA _) gv_M_74 rfl rfl rfl hd_M_noTune ⟨(Nat.le_of_ble_eq_true rfl), (Nat.le_of_ble_eq_true rfl)⟩ (by omega) hM.1.1 rfl rfl rfl (Nat.le_of_ble_eq_true rfl) ⟨(Nat.le_of_ble_eq_true rfl), (Nat.le_of_ble_eq_true rfl)⟩ dc_M_canon_3 (fun r1 g9 h1 => ?_)
  obtain ⟨⟨b9, rfl, hb9⟩, hg9⟩ := h1
  rw [hg9]
  refine zj_if_ne C dc_M_canon_6 rfl (fun n1 => ?_) (fun n1 => ?_)
  · have hnt := zm_ntt (zb_i1 n1) hb9
    refine zj_iconst (v := 1) C dc_M_canon_17 (by decide) ?_
    refine zj_goto C dc_M_canon_18 rfl ?_
    refine zj_put (k := 0) C (by omega) hM.1.1 rfl (by decide) fw_M fl_M_62 rfl fy_M fk_M fn_M rfl rfl rfl (Nat.le_of_ble_eq_true rfl) rfl dc_M_canon_37 ?_
    refine zM_kc hM (fun g2 hM => ?_)
    refine zj_aload_n C dc_M_canon_40 rfl 0 rfl ?_
    refine zj_get (k := 0) C (by omega) hM.1.1 rfl (by decide) fw_M fl_M_62 rfl rfl dc_M_canon_41 ?_
    refine zj_if_le C dc_M_canon_44 rfl (fun h => absurd h (by decide)) (fun _ => ?_)
    refine zj_iconst (v := 0) C dc_M_canon_47 (by decide) ?_
    exact zj_iret C dc_M_canon_48 (Or.inr (Or.inl ⟨Or.inl hnt, hM⟩))
  · obtain ⟨t, ht, hid, hth⟩ := zm_ntf (zb_i0 n1) hb9
    subst hid
    obtain ⟨hA0, hA1, hA2, hA3, hA4, hA5, hA6⟩ := hA t ht
    have hA6 := hA6 hth
    refine zj_aload_n C dc_M_canon_9 rfl 0 rfl ?_
    refine zj_iload_n C dc_M_canon_10 rfl 2 rfl ?_
    refine zj_Vi C (ct_M_noTune _ hst z ad N _ _ _ _ _ _ hN hM.1 th sh Cn Rn hA _) gv_M_74 rfl rfl rfl hd_M_noTune ⟨(Nat.le_of_ble_eq_true rfl), (Nat.le_of_ble_eq_true rfl)⟩ (by omega) hM.1.1 rfl rfl rfl (Nat.le_of_ble_eq_true rfl) ⟨(Nat.le_of_ble_eq_true rfl), (Nat.le_of_ble_eq_true rfl)⟩ dc_M_canon_11 (fun r1 g9 h1 => ?_)
    obtain ⟨⟨b7, rfl, hb7⟩, hg9⟩ := h1
    rw [hg9]
    refine zj_if_eq C dc_M_canon_14 rfl (fun n2 => ?_) (fun n2 => ?_)
    · obtain ⟨o, ho, hio, hto⟩ := zm_ntf (zb_i0 n2) hb7
      subst hio
      obtain ⟨hB0, hB1, hB2, hB3, hB4, hB5, hB6⟩ := hA o ho
      have hB6 := hB6 hto
      refine zj_iload_n C dc_M_canon_21 rfl 3 rfl ?_
      refine zj_iconst (v := 2) C dc_M_canon_22 (by decide) ?_
      refine zj_icmp_lt C dc_M_canon_23 rfl (fun a1 => ?_) (fun a1 => ?_)
      · skip
        refine zj_iconst (v := 2) C dc_M_canon_32 (by decide) ?_
        refine zj_goto C dc_M_canon_33 rfl ?_
        refine zj_put (k := 0) C (by omega) hM.1.1 rfl (by decide) fw_M fl_M_62 rfl fy_M fk_M fn_M rfl rfl rfl (Nat.le_of_ble_eq_true rfl) rfl dc_M_canon_37 ?_
        refine zM_kc hM (fun g2 hM => ?_)
        refine zj_aload_n C dc_M_canon_40 rfl 0 rfl ?_
        refine zj_get (k := 0) C (by omega) hM.1.1 rfl (by decide) fw_M fl_M_62 rfl rfl dc_M_canon_41 ?_
        refine zj_if_le C dc_M_canon_44 rfl (fun h => absurd h (by decide)) (fun _ => ?_)
        refine zj_iconst (v := 0) C dc_M_canon_47 (by decide) ?_
        exact zj_iret C dc_M_canon_48 (Or.inr (Or.inr ⟨⟨t, ht, rfl, hth⟩, ⟨o, ho, rfl, hto⟩, zm_lnn (Or.inl a1), hM⟩))
      · skip
        refine zj_iload_n C dc_M_canon_26 rfl 3 rfl ?_
        refine zj_bipush (v := 20) C dc_M_canon_27 (by decide) ?_
        refine zj_icmp_le C dc_M_canon_29 rfl (fun a2 => ?_) (fun a2 => ?_)
        · obtain ⟨len, hl1, hl2, rfl⟩ := zp_ln_t a1 a2
          refine zj_iconst (v := 0) C dc_M_canon_36 (by decide) ?_
          refine zj_put (k := 0) C (by omega) hM.1.1 rfl (by decide) fw_M fl_M_62 rfl fy_M fk_M fn_M rfl rfl rfl (Nat.le_of_ble_eq_true rfl) rfl dc_M_canon_37 ?_
          refine zM_kc hM (fun g2 hM => ?_)
          refine zj_aload_n C dc_M_canon_40 rfl 0 rfl ?_
          refine zj_get (k := 0) C (by omega) hM.1.1 rfl (by decide) fw_M fl_M_62 rfl rfl dc_M_canon_41 ?_
          refine zj_if_le C dc_M_canon_44 rfl (fun _ => ?_) (fun h => absurd h (by decide))
          refine zj_iload_n C dc_M_canon_49 rfl 3 rfl ?_
          refine zj_aload_n C dc_M_canon_50 rfl 0 rfl ?_
          refine zj_get (k := 3) C (by omega) hM.1.1 rfl (by decide) fw_M fl_M_16 rfl rfl dc_M_canon_51 ?_
          refine zj_iload_n C dc_M_canon_54 rfl 2 rfl ?_
          refine zj_iald C (by omega) hM.1.2.2.2.1 rfl ho (by decide) dc_M_canon_55 ?_
          refine zj_topi (hB2) ?_
          refine zj_icmp_le C dc_M_canon_56 rfl (fun a3 => ?_) (fun a3 => ?_)
          · have a3 := (nI_leI (by omega) (by omega)).mp a3
            refine zj_iload_n C dc_M_canon_61 rfl 1 rfl ?_
            refine zj_iload_n C dc_M_canon_62 rfl 2 rfl ?_
            refine zj_icmp_ne C dc_M_canon_63 rfl (fun a4 => ?_) (fun a4 => ?_)
            · have a4 := (zn_ne (by omega) (by omega)).mp a4
              refine zj_iconst (v := 0) C dc_M_canon_70 (by decide) ?_
              refine zj_istore C dc_M_canon_71 (by decide) rfl ?_
              refine zj_loc (L' := [(4, .int (nI 0)), (0, .ref (ad 108)), (1, .int (nI t)), (2, .int (nI o)), (3, .int (nI len))]) [0, 1, 2, 3, 4] rfl ?_
              exact outl (Cn t + 2 - 0) 0 t o len _ rfl (by omega) hl1 hl2 a3 ht ho hth hto rfl rfl rfl hM (by rw [if_neg a4]; exact Nat.le_refl _) (fun j h1 h2 => by omega)
            · have a4 := (nI_eq (by omega) (by omega)).mp a4
              refine zj_iconst (v := 1) C dc_M_canon_66 (by decide) ?_
              refine zj_goto C dc_M_canon_67 rfl ?_
              refine zj_istore C dc_M_canon_71 (by decide) rfl ?_
              refine zj_loc (L' := [(4, .int (nI 1)), (0, .ref (ad 108)), (1, .int (nI t)), (2, .int (nI o)), (3, .int (nI len))]) [0, 1, 2, 3, 4] rfl ?_
              exact outl (Cn t + 2 - 1) 1 t o len _ rfl (by omega) hl1 hl2 a3 ht ho hth hto rfl rfl rfl hM (by rw [if_pos a4]; exact Nat.le_refl _) (fun j h1 h2 => by rw [if_pos a4] at h1; omega)
          · have a3 := (zn_nle (by omega) (by omega)).mp a3
            refine zj_iconst (v := -1) C dc_M_canon_59 (by decide) ?_
            exact zj_iret C dc_M_canon_60 (Or.inl ⟨t, o, len, ⟨ht, rfl, hth⟩, ⟨ho, rfl, hto⟩, hl1, hl2, rfl, Or.inl ⟨a3, rfl⟩, hM⟩)
        · skip
          refine zj_iconst (v := 2) C dc_M_canon_32 (by decide) ?_
          refine zj_goto C dc_M_canon_33 rfl ?_
          refine zj_put (k := 0) C (by omega) hM.1.1 rfl (by decide) fw_M fl_M_62 rfl fy_M fk_M fn_M rfl rfl rfl (Nat.le_of_ble_eq_true rfl) rfl dc_M_canon_37 ?_
          refine zM_kc hM (fun g2 hM => ?_)
          refine zj_aload_n C dc_M_canon_40 rfl 0 rfl ?_
          refine zj_get (k := 0) C (by omega) hM.1.1 rfl (by decide) fw_M fl_M_62 rfl rfl dc_M_canon_41 ?_
          refine zj_if_le C dc_M_canon_44 rfl (fun h => absurd h (by decide)) (fun _ => ?_)
          refine zj_iconst (v := 0) C dc_M_canon_47 (by decide) ?_
          exact zj_iret C dc_M_canon_48 (Or.inr (Or.inr ⟨⟨t, ht, rfl, hth⟩, ⟨o, ho, rfl, hto⟩, zm_lnn (Or.inr (Int32.not_le.mp a2)), hM⟩))
    · have hno := zm_ntt (zb_i1 n2) hb7
      refine zj_iconst (v := 1) C dc_M_canon_17 (by decide) ?_
      refine zj_goto C dc_M_canon_18 rfl ?_
      refine zj_put (k := 0) C (by omega) hM.1.1 rfl (by decide) fw_M fl_M_62 rfl fy_M fk_M fn_M rfl rfl rfl (Nat.le_of_ble_eq_true rfl) rfl dc_M_canon_37 ?_
      refine zM_kc hM (fun g2 hM => ?_)
      refine zj_aload_n C dc_M_canon_40 rfl 0 rfl ?_
      refine zj_get (k := 0) C (by omega) hM.1.1 rfl (by decide) fw_M fl_M_62 rfl rfl dc_M_canon_41 ?_
      refine zj_if_le C dc_M_canon_44 rfl (fun h => absurd h (by decide)) (fun _ => ?_)
      refine zj_iconst (v := 0) C dc_M_canon_47 (by decide) ?_
      exact zj_iret C dc_M_canon_48 (Or.inr (Or.inl ⟨Or.inr hno, hM⟩))
/-- the steps of two rows that are the same -/
def zm_e2 (p q : Nat → Int32) : Nat → Bool := fun j => decide (p (j + 1) - p j = q (j + 1) - q j)
set_option maxHeartbeats 4000000 in
set_option maxRecDepth 100000 in
theorem ct_M_sharing (l : Launch) (hst : l.stackTraces = false) (z : zv_T) (ad : Nat → Nat) (N : Nat) (g : Nat → va_E) (c as fo kp : Int32) (a : Nat → Nat → Int32) (hN : 126 ≤ N) (hM0 : zs_M z ad g c as fo kp a) (t R C o S D : Nat) (ht : t < 8) (hC : a 2 t = nI C) (hC20 : C ≤ 20) (hR : a 3 t = nI R) (hR1 : 1 ≤ R) (hR9 : R ≤ 9) (ho : o < 8) (hD : a 2 o = nI D) (hD20 : D ≤ 20) (hS : a 3 o = nI S) (hS1 : 1 ≤ S) (hS9 : S ≤ 9) : zm_i l mn_M_sharing ws_M_sharing rm_M_sharing z ad N g [.ref (ad 108), .int (nI t), .int (nI o)] (fun r g1 => (∃ m, r = nI m ∧ zp_ld (zm_e2 (zm_f a 4 t R) (zm_f a 4 o S)) (if D - 1 < C - 1 then D - 1 else C - 1) m) ∧ g1 = g) := by
  have hM : zm_M z ad g g c as fo kp a := ⟨hM0, fun _ _ => rfl⟩
  refine zm_ofi hst pn_M_sharing rfl (Nat.le_of_ble_eq_true rfl) (fun X hX CC => ?_)
  subst hX
  show zj_J X 0 0 _ ad N g 0 [(0, .ref (ad 108)), (1, .int (nI t)), (2, .int (nI o))] []
  have loop : ∀ (n : Nat) (n9 : Nat), 20 - n9 = n → n9 ≤ (if D - 1 < C - 1 then D - 1 else C - 1) → (∀ j, j < n9 → (zm_e2 (zm_f a 4 t R) (zm_f a 4 o S)) j = true) → zj_J X 0 0 (zj_Qi X 0 0 ad N (fun r g1 => (∃ m, r = nI m ∧ zp_ld (zm_e2 (zm_f a 4 t R) (zm_f a 4 o S)) (if D - 1 < C - 1 then D - 1 else C - 1) m) ∧ g1 = g)) ad N g 2 [(3, .int (nI n9)), (0, .ref (ad 108)), (1, .int (nI t)), (2, .int (nI o))] [] := by
    intro n
    induction n with
    | zero =>
      intro n9 e1 e2 hj
      have hlm : (if D - 1 < C - 1 then D - 1 else C - 1) ≤ 19 ∧ (if D - 1 < C - 1 then D - 1 else C - 1) ≤ D - 1 ∧ (if D - 1 < C - 1 then D - 1 else C - 1) ≤ C - 1 ∧ ((if D - 1 < C - 1 then D - 1 else C - 1) = D - 1 ∨ (if D - 1 < C - 1 then D - 1 else C - 1) = C - 1) := by split <;> omega
      exact absurd e1 (by omega)
    | succ n ih =>
      intro n9 e1 e2 hj
      have hlm : (if D - 1 < C - 1 then D - 1 else C - 1) ≤ 19 ∧ (if D - 1 < C - 1 then D - 1 else C - 1) ≤ D - 1 ∧ (if D - 1 < C - 1 then D - 1 else C - 1) ≤ C - 1 ∧ ((if D - 1 < C - 1 then D - 1 else C - 1) = D - 1 ∨ (if D - 1 < C - 1 then D - 1 else C - 1) = C - 1) := by split <;> omega
      refine zj_aload_n CC dc_M_sharing_2 rfl 1 rfl ?_
      refine zj_iload_n CC dc_M_sharing_3 rfl 2 rfl ?_
      refine zj_iload_n CC dc_M_sharing_4 rfl 0 rfl ?_
      refine zj_topi ((nI_pred n9).symm) ?_
      refine zj_Vi CC (ct_M_hasStep _ hst z ad N _ _ _ _ _ _ hN hM.1 t R C ht hC hC20 hR hR1 hR9 (n9 + 1) (by omega)) gv_M_131 rfl rfl rfl hd_M_hasStep ⟨(Nat.le_of_ble_eq_true rfl), (Nat.le_of_ble_eq_true rfl)⟩ (by omega) hM.1.1 rfl rfl rfl (Nat.le_of_ble_eq_true rfl) ⟨(Nat.le_of_ble_eq_true rfl), (Nat.le_of_ble_eq_true rfl)⟩ dc_M_sharing_5 (fun r1 g9 h1 => ?_)
      obtain ⟨hv9, hg9⟩ := h1
      rw [hg9, hv9]
      refine zj_if_eq CC dc_M_sharing_8 rfl (fun c1 => ?_) (fun c1 => ?_)
      · have c1 := of_decide_eq_false (zb_i0 c1)
        refine zj_iload_n CC dc_M_sharing_41 rfl 0 rfl ?_
        exact zj_iret CC dc_M_sharing_42 ⟨⟨n9, rfl, e2, hj, fun h => absurd h (by omega)⟩, rfl⟩
      · have c1 := of_decide_eq_true (zb_i1 c1)
        refine zj_aload_n CC dc_M_sharing_11 rfl 1 rfl ?_
        refine zj_iload_n CC dc_M_sharing_12 rfl 3 rfl ?_
        refine zj_iload_n CC dc_M_sharing_13 rfl 0 rfl ?_
        refine zj_topi ((nI_pred n9).symm) ?_
        refine zj_Vi CC (ct_M_hasStep _ hst z ad N _ _ _ _ _ _ hN hM.1 o S D ho hD hD20 hS hS1 hS9 (n9 + 1) (by omega)) gv_M_131 rfl rfl rfl hd_M_hasStep ⟨(Nat.le_of_ble_eq_true rfl), (Nat.le_of_ble_eq_true rfl)⟩ (by omega) hM.1.1 rfl rfl rfl (Nat.le_of_ble_eq_true rfl) ⟨(Nat.le_of_ble_eq_true rfl), (Nat.le_of_ble_eq_true rfl)⟩ dc_M_sharing_14 (fun r1 g9 h1 => ?_)
        obtain ⟨hv9, hg9⟩ := h1
        rw [hg9, hv9]
        refine zj_if_eq CC dc_M_sharing_17 rfl (fun c2 => ?_) (fun c2 => ?_)
        · have c2 := of_decide_eq_false (zb_i0 c2)
          refine zj_iload_n CC dc_M_sharing_41 rfl 0 rfl ?_
          exact zj_iret CC dc_M_sharing_42 ⟨⟨n9, rfl, e2, hj, fun h => absurd h (by omega)⟩, rfl⟩
        · have c2 := of_decide_eq_true (zb_i1 c2)
          refine zj_aload_n CC dc_M_sharing_20 rfl 1 rfl ?_
          refine zj_iload_n CC dc_M_sharing_21 rfl 2 rfl ?_
          refine zj_iload_n CC dc_M_sharing_22 rfl 0 rfl ?_
          refine zj_Vi CC (ct_M_step _ hst z ad N _ _ _ _ _ _ hN hM.1 t (n9) R ht (by omega) hR hR1 hR9) gv_M_82 rfl rfl rfl hd_M_step ⟨(Nat.le_of_ble_eq_true rfl), (Nat.le_of_ble_eq_true rfl)⟩ (by omega) hM.1.1 rfl rfl rfl (Nat.le_of_ble_eq_true rfl) ⟨(Nat.le_of_ble_eq_true rfl), (Nat.le_of_ble_eq_true rfl)⟩ dc_M_sharing_23 (fun r1 g9 h1 => ?_)
          obtain ⟨hv9, hg9⟩ := h1
          rw [hg9, hv9]
          refine zj_aload_n CC dc_M_sharing_26 rfl 1 rfl ?_
          refine zj_iload_n CC dc_M_sharing_27 rfl 3 rfl ?_
          refine zj_iload_n CC dc_M_sharing_28 rfl 0 rfl ?_
          refine zj_Vi CC (ct_M_step _ hst z ad N _ _ _ _ _ _ hN hM.1 o n9 S ho (by omega) hS hS1 hS9) gv_M_82 rfl rfl rfl hd_M_step ⟨(Nat.le_of_ble_eq_true rfl), (Nat.le_of_ble_eq_true rfl)⟩ (by omega) hM.1.1 rfl rfl rfl (Nat.le_of_ble_eq_true rfl) ⟨(Nat.le_of_ble_eq_true rfl), (Nat.le_of_ble_eq_true rfl)⟩ dc_M_sharing_29 (fun r1 g9 h1 => ?_)
          obtain ⟨hv9, hg9⟩ := h1
          rw [hg9, hv9]
          refine zj_icmp_ne CC dc_M_sharing_32 rfl (fun c3 => ?_) (fun c3 => ?_)
          · skip
            refine zj_iload_n CC dc_M_sharing_41 rfl 0 rfl ?_
            exact zj_iret CC dc_M_sharing_42 ⟨⟨n9, rfl, e2, hj, fun h => decide_eq_false c3⟩, rfl⟩
          · skip
            refine zj_iinc CC dc_M_sharing_35 0 rfl (zn_inc n9) (by decide) rfl ?_
            refine zj_goto CC dc_M_sharing_38 rfl ?_
            refine zj_loc (L' := [(3, .int (nI (n9 + 1))), (0, .ref (ad 108)), (1, .int (nI t)), (2, .int (nI o))]) [0, 1, 2, 3] rfl ?_
            exact ih (n9 + 1) (by omega) (by omega) (fun j h => if q : j = n9 then q ▸ (decide_eq_true c3) else hj j (by omega))
  refine zj_iconst (v := 0) CC dc_M_sharing_0 (by decide) ?_
  refine zj_istore_n CC dc_M_sharing_1 rfl (by decide) rfl ?_
  refine zj_loc (L' := [(3, .int (nI 0)), (0, .ref (ad 108)), (1, .int (nI t)), (2, .int (nI o))]) [0, 1, 2, 3] rfl ?_
  exact loop 20 0 rfl (Nat.zero_le _) (fun j h => absurd h (Nat.not_lt_zero j))
/-- the tunes that opening ranks, and which of them are before one -/
def zm_cd (th sh : Nat → Bool) (t : Nat) : Nat → Bool := fun p => decide (p ≠ t) && (th p && sh p)
def zm_rk (th sh : Nat → Bool) (S : Nat → Nat) (t o : Nat) : Nat → Bool := fun p => zm_cd th sh t p && (decide (p ≠ o) && (decide (S o < S p) || (decide (S p = S o) && decide (p < o))))
theorem zm_cn0 {P : Nat → Bool} {n : Nat} (h : P n = false) : zp_cnt P (n + 1) = zp_cnt P n := by
  show zp_cnt P n + (if P n then 1 else 0) = _
  rw [h]
  rfl
theorem zm_cn1 {P : Nat → Bool} {n : Nat} (h : P n = true) : zp_cnt P (n + 1) = zp_cnt P n + 1 := by
  show zp_cnt P n + (if P n then 1 else 0) = _
  rw [h]
  rfl
theorem zm_cd1 {th sh : Nat → Bool} {t p : Nat} (h1 : p ≠ t) (h2 : th p = true) (h3 : sh p = true) : zm_cd th sh t p = true := by
  unfold zm_cd
  rw [decide_eq_true h1, h2, h3]
  rfl
theorem zm_cd0 {th sh : Nat → Bool} {t p : Nat} (h : p = t ∨ th p = false ∨ sh p = false) : zm_cd th sh t p = false := by
  unfold zm_cd
  rcases h with h | h | h
  · rw [decide_eq_false (show ¬ p ≠ t from fun q => q h)]; rfl
  · rw [h]; simp
  · rw [h]; simp
theorem zm_rk0 {th sh : Nat → Bool} {S : Nat → Nat} {t o p : Nat} (h : zm_cd th sh t p = false ∨ p = o ∨ (¬ S o < S p ∧ (S p ≠ S o ∨ ¬ p < o))) : zm_rk th sh S t o p = false := by
  unfold zm_rk
  rcases h with h | h | ⟨h, h2⟩
  · rw [h]; rfl
  · rw [decide_eq_false (show ¬ p ≠ o from fun q => q h)]; simp
  · rw [decide_eq_false h]
    rcases h2 with h2 | h2
    · rw [decide_eq_false h2]; simp
    · rw [decide_eq_false h2]; simp
theorem zm_rk1 {th sh : Nat → Bool} {S : Nat → Nat} {t o p : Nat} (h1 : zm_cd th sh t p = true) (h2 : p ≠ o) (h3 : S o < S p ∨ (S p = S o ∧ p < o)) : zm_rk th sh S t o p = true := by
  unfold zm_rk
  rw [h1, decide_eq_true h2]
  rcases h3 with h3 | ⟨h3, h4⟩
  · rw [decide_eq_true h3]; rfl
  · rw [decide_eq_true h3, decide_eq_true h4]; simp
theorem zm_S {e : Nat → Nat → Bool} (lim : Nat → Nat) : ∃ S : Nat → Nat, ∀ k, zp_ld (e k) (lim k) (S k) := ⟨fun k => (zp_ld_ex (e k) (lim k)).choose, fun k => (zp_ld_ex (e k) (lim k)).choose_spec⟩
set_option maxHeartbeats 4000000 in
set_option maxRecDepth 100000 in
theorem ct_M_opening (l : Launch) (hst : l.stackTraces = false) (z : zv_T) (ad : Nat → Nat) (N : Nat) (g : Nat → va_E) (c as fo kp : Int32) (a : Nat → Nat → Int32) (hN : 126 ≤ N) (hM0 : zs_M z ad g c as fo kp a) (th sh : Nat → Bool) (Cn Rn : Nat → Nat) (hA : zm_A a th sh Cn Rn) (id i : Int32) : zm_i l mn_M_opening ws_M_opening rm_M_opening z ad N g [.ref (ad 108), .int id, .int i] (fun r g1 => (∃ t S, zm_is th id t ∧ (∀ k, zp_ld (zm_e2 (zm_f a 4 t (Rn t)) (zm_f a 4 k (Rn k))) (if Cn k - 1 < Cn t - 1 then Cn k - 1 else Cn t - 1) (S k)) ∧ ((∃ o, o < 8 ∧ zm_cd th sh t o = true ∧ i = nI (zp_cnt (zm_rk th sh S t o) 8) ∧ r = nI o) ∨ ((∀ o, o < 8 → zm_cd th sh t o = true → ¬ i = nI (zp_cnt (zm_rk th sh S t o) 8)) ∧ r = -1)) ∧ zm_M z ad g g1 0 as fo kp a) ∨ ((∀ t, ¬ zm_is th id t) ∧ zm_M z ad g g1 1 as fo kp a)) := by
  have hM : zm_M z ad g g c as fo kp a := ⟨hM0, fun _ _ => rfl⟩
  refine zm_ofi hst pn_M_opening rfl (Nat.le_of_ble_eq_true rfl) (fun X hX C => ?_)
  subst hX
  show zj_J X 0 0 _ ad N g 0 [(0, .ref (ad 108)), (1, .int id), (2, .int i)] []
  have inn : ∀ (n : Nat) (p o t : Nat) (S : Nat → Nat) (g2 : Nat → va_E), 9 - p = n → p ≤ 8 → t < 8 → th t = true → o < 8 → th o = true → zm_M z ad g g2 0 as fo kp a → (∀ k, zp_ld (zm_e2 (zm_f a 4 t (Rn t)) (zm_f a 4 k (Rn k))) (if Cn k - 1 < Cn t - 1 then Cn k - 1 else Cn t - 1) (S k)) → (∀ x5 : Int32, zj_J X 0 0 (zj_Qi X 0 0 ad N (fun r g1 => (∃ t S, zm_is th id t ∧ (∀ k, zp_ld (zm_e2 (zm_f a 4 t (Rn t)) (zm_f a 4 k (Rn k))) (if Cn k - 1 < Cn t - 1 then Cn k - 1 else Cn t - 1) (S k)) ∧ ((∃ o, o < 8 ∧ zm_cd th sh t o = true ∧ i = nI (zp_cnt (zm_rk th sh S t o) 8) ∧ r = nI o) ∨ ((∀ o, o < 8 → zm_cd th sh t o = true → ¬ i = nI (zp_cnt (zm_rk th sh S t o) 8)) ∧ r = -1)) ∧ zm_M z ad g g1 0 as fo kp a) ∨ ((∀ t, ¬ zm_is th id t) ∧ zm_M z ad g g1 1 as fo kp a))) ad N g2 186 [(5, .int x5), (4, .int (nI (zp_cnt (zm_rk th sh S t o) 8))), (3, .int (nI o)), (0, .ref (ad 108)), (1, .int (nI t)), (2, .int i)] []) → zj_J X 0 0 (zj_Qi X 0 0 ad N (fun r g1 => (∃ t S, zm_is th id t ∧ (∀ k, zp_ld (zm_e2 (zm_f a 4 t (Rn t)) (zm_f a 4 k (Rn k))) (if Cn k - 1 < Cn t - 1 then Cn k - 1 else Cn t - 1) (S k)) ∧ ((∃ o, o < 8 ∧ zm_cd th sh t o = true ∧ i = nI (zp_cnt (zm_rk th sh S t o) 8) ∧ r = nI o) ∨ ((∀ o, o < 8 → zm_cd th sh t o = true → ¬ i = nI (zp_cnt (zm_rk th sh S t o) 8)) ∧ r = -1)) ∧ zm_M z ad g g1 0 as fo kp a) ∨ ((∀ t, ¬ zm_is th id t) ∧ zm_M z ad g g1 1 as fo kp a))) ad N g2 63 [(5, .int (nI p)), (4, .int (nI (zp_cnt (zm_rk th sh S t o) p))), (3, .int (nI o)), (0, .ref (ad 108)), (1, .int (nI t)), (2, .int i)] [] := by
    intro n
    induction n with
    | zero =>
      intro p o t S g2 e1 e2 ht hth ho hto hM hS K
      obtain ⟨hA0, hA1, hA2, hA3, hA4, hA5, hA6⟩ := hA t ht
      have hA6 := hA6 hth
      obtain ⟨hB0, hB1, hB2, hB3, hB4, hB5, hB6⟩ := hA o ho
      have hB6 := hB6 hto
      exact absurd e1 (by omega)
    | succ n ih =>
      intro p o t S g2 e1 e2 ht hth ho hto hM hS K
      obtain ⟨hA0, hA1, hA2, hA3, hA4, hA5, hA6⟩ := hA t ht
      have hA6 := hA6 hth
      obtain ⟨hB0, hB1, hB2, hB3, hB4, hB5, hB6⟩ := hA o ho
      have hB6 := hB6 hto
      refine zj_iload C dc_M_opening_63 0 rfl ?_
      refine zj_bipush (v := 8) C dc_M_opening_65 (by decide) ?_
      refine zj_icmp_ge C dc_M_opening_67 rfl (fun b1 => ?_) (fun b1 => ?_)
      · have b1 := (nI_leI (a := 8) (by omega) (by omega)).mp b1
        refine zj_loc [0, 1, 2, 3, 4, 5] rfl ?_
        exact (show p = 8 by omega) ▸ K _
      · have b1 := (zn_nle (a := 8) (by omega) (by omega)).mp b1
        obtain ⟨hC0, hC1, hC2, hC3, hC4, hC5, hC6⟩ := hA p b1
        refine zj_iload C dc_M_opening_70 0 rfl ?_
        refine zj_iload_n C dc_M_opening_72 rfl 4 rfl ?_
        refine zj_icmp_eq C dc_M_opening_73 rfl (fun c1 => ?_) (fun c1 => ?_)
        · have c1 := (nI_eq (by omega) (by omega)).mp c1
          have hr := zm_rk0 (S := S) (o := o) (Or.inl (zm_cd0 (th := th) (sh := sh) (Or.inl c1)))
          refine zj_iconst (v := 0) C dc_M_opening_106 (by decide) ?_
          refine zj_istore C dc_M_opening_107 (by decide) rfl ?_
          refine zj_iload C dc_M_opening_109 0 rfl ?_
          refine zj_if_eq C dc_M_opening_111 rfl (fun _ => ?_) (fun h => absurd h (by decide))
          refine zj_iconst (v := 0) C dc_M_opening_124 (by decide) ?_
          refine zj_istore C dc_M_opening_125 (by decide) rfl ?_
          refine zj_iload C dc_M_opening_127 1 rfl ?_
          refine zj_if_eq C dc_M_opening_129 rfl (fun _ => ?_) (fun h => absurd h (by decide))
          refine zj_iconst (v := 0) C dc_M_opening_141 (by decide) ?_
          refine zj_istore C dc_M_opening_142 (by decide) rfl ?_
          refine zj_iload C dc_M_opening_144 2 rfl ?_
          refine zj_if_eq C dc_M_opening_146 rfl (fun _ => ?_) (fun h => absurd h (by decide))
          refine zj_iload C dc_M_opening_176 4 rfl ?_
          refine zj_istore C dc_M_opening_178 (by decide) rfl ?_
          refine zj_iinc C dc_M_opening_180 4 rfl (zn_inc p) (by decide) rfl ?_
          refine zj_goto C dc_M_opening_183 rfl ?_
          refine zj_loc (L' := [(5, .int (nI (p + 1))), (4, .int (nI (zp_cnt (zm_rk th sh S t o) (p + 1)))), (3, .int (nI o)), (0, .ref (ad 108)), (1, .int (nI t)), (2, .int i)]) [0, 1, 5, 6, 7, 8] (by rw [show zp_cnt (zm_rk th sh S t o) (p + 1) = zp_cnt (zm_rk th sh S t o) p from zm_cn0 hr]; rfl) ?_
          exact ih (p + 1) o t S g2 (by omega) (by omega) ht hth ho hto hM hS K
        · have c1 := (zn_ne (by omega) (by omega)).mp c1
          refine zj_iload C dc_M_opening_76 0 rfl ?_
          refine zj_iload_n C dc_M_opening_78 rfl 2 rfl ?_
          refine zj_icmp_eq C dc_M_opening_79 rfl (fun c2 => ?_) (fun c2 => ?_)
          · have c2 := (nI_eq (by omega) (by omega)).mp c2
            have hr := zm_rk0 (th := th) (sh := sh) (S := S) (t := t) (Or.inr (Or.inl c2))
            refine zj_iconst (v := 0) C dc_M_opening_106 (by decide) ?_
            refine zj_istore C dc_M_opening_107 (by decide) rfl ?_
            refine zj_iload C dc_M_opening_109 0 rfl ?_
            refine zj_if_eq C dc_M_opening_111 rfl (fun _ => ?_) (fun h => absurd h (by decide))
            refine zj_iconst (v := 0) C dc_M_opening_124 (by decide) ?_
            refine zj_istore C dc_M_opening_125 (by decide) rfl ?_
            refine zj_iload C dc_M_opening_127 1 rfl ?_
            refine zj_if_eq C dc_M_opening_129 rfl (fun _ => ?_) (fun h => absurd h (by decide))
            refine zj_iconst (v := 0) C dc_M_opening_141 (by decide) ?_
            refine zj_istore C dc_M_opening_142 (by decide) rfl ?_
            refine zj_iload C dc_M_opening_144 2 rfl ?_
            refine zj_if_eq C dc_M_opening_146 rfl (fun _ => ?_) (fun h => absurd h (by decide))
            refine zj_iload C dc_M_opening_176 4 rfl ?_
            refine zj_istore C dc_M_opening_178 (by decide) rfl ?_
            refine zj_iinc C dc_M_opening_180 4 rfl (zn_inc p) (by decide) rfl ?_
            refine zj_goto C dc_M_opening_183 rfl ?_
            refine zj_loc (L' := [(5, .int (nI (p + 1))), (4, .int (nI (zp_cnt (zm_rk th sh S t o) (p + 1)))), (3, .int (nI o)), (0, .ref (ad 108)), (1, .int (nI t)), (2, .int i)]) [0, 1, 5, 6, 7, 8] (by rw [show zp_cnt (zm_rk th sh S t o) (p + 1) = zp_cnt (zm_rk th sh S t o) p from zm_cn0 hr]; rfl) ?_
            exact ih (p + 1) o t S g2 (by omega) (by omega) ht hth ho hto hM hS K
          · have c2 := (zn_ne (by omega) (by omega)).mp c2
            refine zj_aload_n C dc_M_opening_82 rfl 3 rfl ?_
            refine zj_get (k := 1) C (by omega) hM.1.1 rfl (by decide) fw_M fl_M_7 rfl rfl dc_M_opening_83 ?_
            refine zj_iload C dc_M_opening_86 0 rfl ?_
            refine zj_zald C (by omega) hM.1.2.1 rfl b1 (by decide) dc_M_opening_88 ?_
            refine zj_topi (hC0) ?_
            refine zj_if_eq C dc_M_opening_89 rfl (fun c3 => ?_) (fun c3 => ?_)
            · have c3 := zb_i0 c3
              have hr := zm_rk0 (S := S) (o := o) (Or.inl (zm_cd0 (sh := sh) (t := t) (Or.inr (Or.inl c3))))
              refine zj_iconst (v := 0) C dc_M_opening_106 (by decide) ?_
              refine zj_istore C dc_M_opening_107 (by decide) rfl ?_
              refine zj_iload C dc_M_opening_109 0 rfl ?_
              refine zj_if_eq C dc_M_opening_111 rfl (fun _ => ?_) (fun h => absurd h (by decide))
              refine zj_iconst (v := 0) C dc_M_opening_124 (by decide) ?_
              refine zj_istore C dc_M_opening_125 (by decide) rfl ?_
              refine zj_iload C dc_M_opening_127 1 rfl ?_
              refine zj_if_eq C dc_M_opening_129 rfl (fun _ => ?_) (fun h => absurd h (by decide))
              refine zj_iconst (v := 0) C dc_M_opening_141 (by decide) ?_
              refine zj_istore C dc_M_opening_142 (by decide) rfl ?_
              refine zj_iload C dc_M_opening_144 2 rfl ?_
              refine zj_if_eq C dc_M_opening_146 rfl (fun _ => ?_) (fun h => absurd h (by decide))
              refine zj_iload C dc_M_opening_176 4 rfl ?_
              refine zj_istore C dc_M_opening_178 (by decide) rfl ?_
              refine zj_iinc C dc_M_opening_180 4 rfl (zn_inc p) (by decide) rfl ?_
              refine zj_goto C dc_M_opening_183 rfl ?_
              refine zj_loc (L' := [(5, .int (nI (p + 1))), (4, .int (nI (zp_cnt (zm_rk th sh S t o) (p + 1)))), (3, .int (nI o)), (0, .ref (ad 108)), (1, .int (nI t)), (2, .int i)]) [0, 1, 5, 6, 7, 8] (by rw [show zp_cnt (zm_rk th sh S t o) (p + 1) = zp_cnt (zm_rk th sh S t o) p from zm_cn0 hr]; rfl) ?_
              exact ih (p + 1) o t S g2 (by omega) (by omega) ht hth ho hto hM hS K
            · have c3 := zb_i1 c3
              have hC6 := hC6 c3
              refine zj_aload_n C dc_M_opening_92 rfl 3 rfl ?_
              refine zj_get (k := 2) C (by omega) hM.1.1 rfl (by decide) fw_M fl_M_13 rfl rfl dc_M_opening_93 ?_
              refine zj_iload C dc_M_opening_96 0 rfl ?_
              refine zj_zald C (by omega) hM.1.2.2.1 rfl b1 (by decide) dc_M_opening_98 ?_
              refine zj_topi (hC1) ?_
              refine zj_if_eq C dc_M_opening_99 rfl (fun c4 => ?_) (fun c4 => ?_)
              · have c4 := zb_i0 c4
                have hr := zm_rk0 (S := S) (o := o) (Or.inl (zm_cd0 (th := th) (t := t) (Or.inr (Or.inr c4))))
                refine zj_iconst (v := 0) C dc_M_opening_106 (by decide) ?_
                refine zj_istore C dc_M_opening_107 (by decide) rfl ?_
                refine zj_iload C dc_M_opening_109 0 rfl ?_
                refine zj_if_eq C dc_M_opening_111 rfl (fun _ => ?_) (fun h => absurd h (by decide))
                refine zj_iconst (v := 0) C dc_M_opening_124 (by decide) ?_
                refine zj_istore C dc_M_opening_125 (by decide) rfl ?_
                refine zj_iload C dc_M_opening_127 1 rfl ?_
                refine zj_if_eq C dc_M_opening_129 rfl (fun _ => ?_) (fun h => absurd h (by decide))
                refine zj_iconst (v := 0) C dc_M_opening_141 (by decide) ?_
                refine zj_istore C dc_M_opening_142 (by decide) rfl ?_
                refine zj_iload C dc_M_opening_144 2 rfl ?_
                refine zj_if_eq C dc_M_opening_146 rfl (fun _ => ?_) (fun h => absurd h (by decide))
                refine zj_iload C dc_M_opening_176 4 rfl ?_
                refine zj_istore C dc_M_opening_178 (by decide) rfl ?_
                refine zj_iinc C dc_M_opening_180 4 rfl (zn_inc p) (by decide) rfl ?_
                refine zj_goto C dc_M_opening_183 rfl ?_
                refine zj_loc (L' := [(5, .int (nI (p + 1))), (4, .int (nI (zp_cnt (zm_rk th sh S t o) (p + 1)))), (3, .int (nI o)), (0, .ref (ad 108)), (1, .int (nI t)), (2, .int i)]) [0, 1, 5, 6, 7, 8] (by rw [show zp_cnt (zm_rk th sh S t o) (p + 1) = zp_cnt (zm_rk th sh S t o) p from zm_cn0 hr]; rfl) ?_
                exact ih (p + 1) o t S g2 (by omega) (by omega) ht hth ho hto hM hS K
              · have c4 := zb_i1 c4
                have hcd := zm_cd1 c1 c3 c4
                refine zj_iconst (v := 1) C dc_M_opening_102 (by decide) ?_
                refine zj_goto C dc_M_opening_103 rfl ?_
                refine zj_istore C dc_M_opening_107 (by decide) rfl ?_
                refine zj_iload C dc_M_opening_109 0 rfl ?_
                refine zj_if_eq C dc_M_opening_111 rfl (fun h => absurd h (by decide)) (fun _ => ?_)
                refine zj_aload_n C dc_M_opening_114 rfl 4 rfl ?_
                refine zj_iload_n C dc_M_opening_115 rfl 5 rfl ?_
                refine zj_iload C dc_M_opening_116 1 rfl ?_
                refine zj_Vi C (ct_M_sharing _ hst z ad N _ _ _ _ _ _ hN hM.1 t (Rn t) (Cn t) p (Rn p) (Cn p) ht hA2 hA4 hA3 hA6 hA5 b1 hC2 hC4 hC3 hC6 hC5) gv_M_137 rfl rfl rfl hd_M_sharing ⟨(Nat.le_of_ble_eq_true rfl), (Nat.le_of_ble_eq_true rfl)⟩ (by omega) hM.1.1 rfl rfl rfl (Nat.le_of_ble_eq_true rfl) ⟨(Nat.le_of_ble_eq_true rfl), (Nat.le_of_ble_eq_true rfl)⟩ dc_M_opening_118 (fun r1 g9 h1 => ?_)
                obtain ⟨⟨s1, hv9, hl9⟩, hg9⟩ := h1
                rw [hg9, hv9]
                obtain rfl := zp_ld_un hl9 (hS p)
                have s1b : S p ≤ 20 := Nat.le_trans (hS p).1 (by split <;> omega)
                refine zj_goto C dc_M_opening_121 rfl ?_
                refine zj_istore C dc_M_opening_125 (by decide) rfl ?_
                refine zj_iload C dc_M_opening_127 1 rfl ?_
                refine zj_if_eq C dc_M_opening_129 rfl (fun h => absurd h (by decide)) (fun _ => ?_)
                refine zj_aload_n C dc_M_opening_132 rfl 5 rfl ?_
                refine zj_iload_n C dc_M_opening_133 rfl 6 rfl ?_
                refine zj_iload_n C dc_M_opening_134 rfl 4 rfl ?_
                refine zj_Vi C (ct_M_sharing _ hst z ad N _ _ _ _ _ _ hN hM.1 t (Rn t) (Cn t) o (Rn o) (Cn o) ht hA2 hA4 hA3 hA6 hA5 ho hB2 hB4 hB3 hB6 hB5) gv_M_137 rfl rfl rfl hd_M_sharing ⟨(Nat.le_of_ble_eq_true rfl), (Nat.le_of_ble_eq_true rfl)⟩ (by omega) hM.1.1 rfl rfl rfl (Nat.le_of_ble_eq_true rfl) ⟨(Nat.le_of_ble_eq_true rfl), (Nat.le_of_ble_eq_true rfl)⟩ dc_M_opening_135 (fun r1 g9 h1 => ?_)
                obtain ⟨⟨s2, hv9, hl9⟩, hg9⟩ := h1
                rw [hg9, hv9]
                obtain rfl := zp_ld_un hl9 (hS o)
                have s2b : S o ≤ 20 := Nat.le_trans (hS o).1 (by split <;> omega)
                refine zj_goto C dc_M_opening_138 rfl ?_
                refine zj_istore C dc_M_opening_142 (by decide) rfl ?_
                refine zj_iload C dc_M_opening_144 2 rfl ?_
                refine zj_if_eq C dc_M_opening_146 rfl (fun h => absurd h (by decide)) (fun _ => ?_)
                refine zj_iload C dc_M_opening_149 1 rfl ?_
                refine zj_iload C dc_M_opening_151 0 rfl ?_
                refine zj_icmp_gt C dc_M_opening_153 rfl (fun d1 => ?_) (fun d1 => ?_)
                · have d1 := (nI_ltI (by omega) (by omega)).mp d1
                  have hr := zm_rk1 hcd c2 (Or.inl d1)
                  refine zj_iload C dc_M_opening_169 4 rfl ?_
                  refine zj_iconst (v := 1) C dc_M_opening_171 (by decide) ?_
                  refine zj_iadd C dc_M_opening_172 ?_
                  refine zj_topi (nI_1 _) ?_
                  refine zj_goto C dc_M_opening_173 rfl ?_
                  refine zj_istore C dc_M_opening_178 (by decide) rfl ?_
                  refine zj_iinc C dc_M_opening_180 4 rfl (zn_inc p) (by decide) rfl ?_
                  refine zj_goto C dc_M_opening_183 rfl ?_
                  refine zj_loc (L' := [(5, .int (nI (p + 1))), (4, .int (nI (zp_cnt (zm_rk th sh S t o) (p + 1)))), (3, .int (nI o)), (0, .ref (ad 108)), (1, .int (nI t)), (2, .int i)]) [0, 1, 5, 6, 7, 8] (by rw [show zp_cnt (zm_rk th sh S t o) (p + 1) = zp_cnt (zm_rk th sh S t o) p + 1 from zm_cn1 hr]; rfl) ?_
                  exact ih (p + 1) o t S g2 (by omega) (by omega) ht hth ho hto hM hS K
                · have d1 := (zn_nlt (by omega) (by omega)).mp d1
                  refine zj_iload C dc_M_opening_156 1 rfl ?_
                  refine zj_iload C dc_M_opening_158 0 rfl ?_
                  refine zj_icmp_ne C dc_M_opening_160 rfl (fun d2 => ?_) (fun d2 => ?_)
                  · have d2 := (zn_ne (by omega) (by omega)).mp d2
                    have hr := zm_rk0 (th := th) (sh := sh) (t := t) (Or.inr (Or.inr ⟨Nat.not_lt.mpr d1, Or.inl d2⟩))
                    refine zj_iload C dc_M_opening_176 4 rfl ?_
                    refine zj_istore C dc_M_opening_178 (by decide) rfl ?_
                    refine zj_iinc C dc_M_opening_180 4 rfl (zn_inc p) (by decide) rfl ?_
                    refine zj_goto C dc_M_opening_183 rfl ?_
                    refine zj_loc (L' := [(5, .int (nI (p + 1))), (4, .int (nI (zp_cnt (zm_rk th sh S t o) (p + 1)))), (3, .int (nI o)), (0, .ref (ad 108)), (1, .int (nI t)), (2, .int i)]) [0, 1, 5, 6, 7, 8] (by rw [show zp_cnt (zm_rk th sh S t o) (p + 1) = zp_cnt (zm_rk th sh S t o) p from zm_cn0 hr]; rfl) ?_
                    exact ih (p + 1) o t S g2 (by omega) (by omega) ht hth ho hto hM hS K
                  · have d2 := (nI_eq (by omega) (by omega)).mp d2
                    refine zj_iload C dc_M_opening_163 3 rfl ?_
                    refine zj_iload_n C dc_M_opening_165 rfl 5 rfl ?_
                    refine zj_icmp_ge C dc_M_opening_166 rfl (fun d3 => ?_) (fun d3 => ?_)
                    · have d3 := (nI_leI (by omega) (by omega)).mp d3
                      have hr := zm_rk0 (th := th) (sh := sh) (t := t) (Or.inr (Or.inr ⟨Nat.not_lt.mpr d1, Or.inr (Nat.not_lt.mpr d3)⟩))
                      refine zj_iload C dc_M_opening_176 4 rfl ?_
                      refine zj_istore C dc_M_opening_178 (by decide) rfl ?_
                      refine zj_iinc C dc_M_opening_180 4 rfl (zn_inc p) (by decide) rfl ?_
                      refine zj_goto C dc_M_opening_183 rfl ?_
                      refine zj_loc (L' := [(5, .int (nI (p + 1))), (4, .int (nI (zp_cnt (zm_rk th sh S t o) (p + 1)))), (3, .int (nI o)), (0, .ref (ad 108)), (1, .int (nI t)), (2, .int i)]) [0, 1, 5, 6, 7, 8] (by rw [show zp_cnt (zm_rk th sh S t o) (p + 1) = zp_cnt (zm_rk th sh S t o) p from zm_cn0 hr]; rfl) ?_
                      exact ih (p + 1) o t S g2 (by omega) (by omega) ht hth ho hto hM hS K
                    · have d3 := (zn_nle (by omega) (by omega)).mp d3
                      have hr := zm_rk1 hcd c2 (Or.inr ⟨d2, d3⟩)
                      refine zj_iload C dc_M_opening_169 4 rfl ?_
                      refine zj_iconst (v := 1) C dc_M_opening_171 (by decide) ?_
                      refine zj_iadd C dc_M_opening_172 ?_
                      refine zj_topi (nI_1 _) ?_
                      refine zj_goto C dc_M_opening_173 rfl ?_
                      refine zj_istore C dc_M_opening_178 (by decide) rfl ?_
                      refine zj_iinc C dc_M_opening_180 4 rfl (zn_inc p) (by decide) rfl ?_
                      refine zj_goto C dc_M_opening_183 rfl ?_
                      refine zj_loc (L' := [(5, .int (nI (p + 1))), (4, .int (nI (zp_cnt (zm_rk th sh S t o) (p + 1)))), (3, .int (nI o)), (0, .ref (ad 108)), (1, .int (nI t)), (2, .int i)]) [0, 1, 5, 6, 7, 8] (by rw [show zp_cnt (zm_rk th sh S t o) (p + 1) = zp_cnt (zm_rk th sh S t o) p + 1 from zm_cn1 hr]; rfl) ?_
                      exact ih (p + 1) o t S g2 (by omega) (by omega) ht hth ho hto hM hS K
  have outl : ∀ (n : Nat) (o t : Nat) (S : Nat → Nat) (g2 : Nat → va_E), 9 - o = n → o ≤ 8 → t < 8 → id = nI t → th t = true → zm_M z ad g g2 0 as fo kp a → (∀ k, zp_ld (zm_e2 (zm_f a 4 t (Rn t)) (zm_f a 4 k (Rn k))) (if Cn k - 1 < Cn t - 1 then Cn k - 1 else Cn t - 1) (S k)) → (∀ j, j < o → zm_cd th sh t j = true → ¬ i = nI (zp_cnt (zm_rk th sh S t j) 8)) → zj_J X 0 0 (zj_Qi X 0 0 ad N (fun r g1 => (∃ t S, zm_is th id t ∧ (∀ k, zp_ld (zm_e2 (zm_f a 4 t (Rn t)) (zm_f a 4 k (Rn k))) (if Cn k - 1 < Cn t - 1 then Cn k - 1 else Cn t - 1) (S k)) ∧ ((∃ o, o < 8 ∧ zm_cd th sh t o = true ∧ i = nI (zp_cnt (zm_rk th sh S t o) 8) ∧ r = nI o) ∨ ((∀ o, o < 8 → zm_cd th sh t o = true → ¬ i = nI (zp_cnt (zm_rk th sh S t o) 8)) ∧ r = -1)) ∧ zm_M z ad g g1 0 as fo kp a) ∨ ((∀ t, ¬ zm_is th id t) ∧ zm_M z ad g g1 1 as fo kp a))) ad N g2 28 [(3, .int (nI o)), (0, .ref (ad 108)), (1, .int (nI t)), (2, .int i)] [] := by
    intro n
    induction n with
    | zero =>
      intro o t S g2 e1 e2 ht hid hth hM hS hj
      obtain ⟨hA0, hA1, hA2, hA3, hA4, hA5, hA6⟩ := hA t ht
      have hA6 := hA6 hth
      exact absurd e1 (by omega)
    | succ n ih =>
      intro o t S g2 e1 e2 ht hid hth hM hS hj
      obtain ⟨hA0, hA1, hA2, hA3, hA4, hA5, hA6⟩ := hA t ht
      have hA6 := hA6 hth
      refine zj_iload_n C dc_M_opening_28 rfl 0 rfl ?_
      refine zj_bipush (v := 8) C dc_M_opening_29 (by decide) ?_
      refine zj_icmp_ge C dc_M_opening_31 rfl (fun b1 => ?_) (fun b1 => ?_)
      · have b1 := (nI_leI (a := 8) (by omega) (by omega)).mp b1
        refine zj_iconst (v := -1) C dc_M_opening_200 (by decide) ?_
        exact zj_iret C dc_M_opening_201 (Or.inl ⟨t, S, ⟨ht, hid, hth⟩, hS, Or.inr ⟨fun j h => hj j (by omega), rfl⟩, hM⟩)
      · have ho := (zn_nle (a := 8) (by omega) (by omega)).mp b1
        obtain ⟨hB0, hB1, hB2, hB3, hB4, hB5, hB6⟩ := hA o ho
        refine zj_iload_n C dc_M_opening_34 rfl 0 rfl ?_
        refine zj_iload_n C dc_M_opening_35 rfl 2 rfl ?_
        refine zj_icmp_eq C dc_M_opening_36 rfl (fun c1 => ?_) (fun c1 => ?_)
        · have c1 := (nI_eq (by omega) (by omega)).mp c1
          have hn := zm_cd0 (th := th) (sh := sh) (Or.inl c1)
          refine zj_iinc C dc_M_opening_194 0 rfl (zn_inc o) (by decide) rfl ?_
          refine zj_goto C dc_M_opening_197 rfl ?_
          refine zj_loc (L' := [(3, .int (nI (o + 1))), (0, .ref (ad 108)), (1, .int (nI t)), (2, .int i)]) [0, 1, 2, 3] rfl ?_
          exact ih (o + 1) t S g2 (by omega) (by omega) ht hid hth hM hS (fun j h hc => if q : j = o then absurd hc (by rw [q, hn]; decide) else hj j (by omega) hc)
        · have c1 := (zn_ne (by omega) (by omega)).mp c1
          refine zj_aload_n C dc_M_opening_39 rfl 1 rfl ?_
          refine zj_get (k := 1) C (by omega) hM.1.1 rfl (by decide) fw_M fl_M_7 rfl rfl dc_M_opening_40 ?_
          refine zj_iload_n C dc_M_opening_43 rfl 0 rfl ?_
          refine zj_zald C (by omega) hM.1.2.1 rfl ho (by decide) dc_M_opening_44 ?_
          refine zj_topi (hB0) ?_
          refine zj_if_eq C dc_M_opening_45 rfl (fun c3 => ?_) (fun c3 => ?_)
          · have c3 := zb_i0 c3
            have hn := zm_cd0 (sh := sh) (t := t) (Or.inr (Or.inl c3))
            refine zj_iinc C dc_M_opening_194 0 rfl (zn_inc o) (by decide) rfl ?_
            refine zj_goto C dc_M_opening_197 rfl ?_
            refine zj_loc (L' := [(3, .int (nI (o + 1))), (0, .ref (ad 108)), (1, .int (nI t)), (2, .int i)]) [0, 1, 2, 3] rfl ?_
            exact ih (o + 1) t S g2 (by omega) (by omega) ht hid hth hM hS (fun j h hc => if q : j = o then absurd hc (by rw [q, hn]; decide) else hj j (by omega) hc)
          · have c3 := zb_i1 c3
            refine zj_aload_n C dc_M_opening_48 rfl 1 rfl ?_
            refine zj_get (k := 2) C (by omega) hM.1.1 rfl (by decide) fw_M fl_M_13 rfl rfl dc_M_opening_49 ?_
            refine zj_iload_n C dc_M_opening_52 rfl 0 rfl ?_
            refine zj_zald C (by omega) hM.1.2.2.1 rfl ho (by decide) dc_M_opening_53 ?_
            refine zj_topi (hB1) ?_
            refine zj_if_eq C dc_M_opening_54 rfl (fun c4 => ?_) (fun c4 => ?_)
            · have c4 := zb_i0 c4
              have hn := zm_cd0 (th := th) (t := t) (Or.inr (Or.inr c4))
              refine zj_iinc C dc_M_opening_194 0 rfl (zn_inc o) (by decide) rfl ?_
              refine zj_goto C dc_M_opening_197 rfl ?_
              refine zj_loc (L' := [(3, .int (nI (o + 1))), (0, .ref (ad 108)), (1, .int (nI t)), (2, .int i)]) [0, 1, 2, 3] rfl ?_
              exact ih (o + 1) t S g2 (by omega) (by omega) ht hid hth hM hS (fun j h hc => if q : j = o then absurd hc (by rw [q, hn]; decide) else hj j (by omega) hc)
            · have c4 := zb_i1 c4
              have hcd := zm_cd1 c1 c3 c4
              refine zj_iconst (v := 0) C dc_M_opening_57 (by decide) ?_
              refine zj_istore C dc_M_opening_58 (by decide) rfl ?_
              refine zj_iconst (v := 0) C dc_M_opening_60 (by decide) ?_
              refine zj_istore C dc_M_opening_61 (by decide) rfl ?_
              refine zj_loc (L' := [(5, .int (nI 0)), (4, .int (nI (zp_cnt (zm_rk th sh S t o) 0))), (3, .int (nI o)), (0, .ref (ad 108)), (1, .int (nI t)), (2, .int i)]) [0, 1, 2, 3, 4, 5] rfl ?_
              refine inn 9 0 o t S g2 rfl (by omega) ht hth ho c3 hM hS (fun x5 => ?_)
              refine zj_iload C dc_M_opening_186 1 rfl ?_
              refine zj_iload_n C dc_M_opening_188 rfl 5 rfl ?_
              refine zj_icmp_ne C dc_M_opening_189 rfl (fun c5 => ?_) (fun c5 => ?_)
              · skip
                refine zj_iinc C dc_M_opening_194 2 rfl (zn_inc o) (by decide) rfl ?_
                refine zj_goto C dc_M_opening_197 rfl ?_
                refine zj_loc (L' := [(3, .int (nI (o + 1))), (0, .ref (ad 108)), (1, .int (nI t)), (2, .int i)]) [0, 3, 4, 5] rfl ?_
                exact ih (o + 1) t S g2 (by omega) (by omega) ht hid hth hM hS (fun j h hc => if q : j = o then (fun e => c5 (q ▸ e.symm)) else hj j (by omega) hc)
              · skip
                refine zj_iload_n C dc_M_opening_192 rfl 2 rfl ?_
                exact zj_iret C dc_M_opening_193 (Or.inl ⟨t, S, ⟨ht, hid, hth⟩, hS, Or.inl ⟨o, ho, hcd, c5.symm, rfl⟩, hM⟩)
  refine zj_aload_n C dc_M_opening_0 rfl 0 rfl ?_
  refine zj_aload_n C dc_M_opening_1 rfl 0 rfl ?_
  refine zj_iload_n C dc_M_opening_2 rfl 1 rfl ?_
  refine zj_Vi C (ct_M_noTune _ hst z ad N _ _ _ _ _ _ hN hM.1 th sh Cn Rn hA _) gv_M_74 rfl rfl rfl hd_M_noTune ⟨(Nat.le_of_ble_eq_true rfl), (Nat.le_of_ble_eq_true rfl)⟩ (by omega) hM.1.1 rfl rfl rfl (Nat.le_of_ble_eq_true rfl) ⟨(Nat.le_of_ble_eq_true rfl), (Nat.le_of_ble_eq_true rfl)⟩ dc_M_opening_3 (fun r1 g9 h1 => ?_)
  obtain ⟨⟨b9, rfl, hb9⟩, hg9⟩ := h1
  rw [hg9]
  refine zj_if_eq C dc_M_opening_6 rfl (fun n1 => ?_) (fun n1 => ?_)
  · obtain ⟨t, ht, hid, hth⟩ := zm_ntf (zb_i0 n1) hb9
    subst hid
    obtain ⟨hA0, hA1, hA2, hA3, hA4, hA5, hA6⟩ := hA t ht
    have hA6 := hA6 hth
    refine zj_iconst (v := 0) C dc_M_opening_13 (by decide) ?_
    refine zj_put (k := 0) C (by omega) hM.1.1 rfl (by decide) fw_M fl_M_62 rfl fy_M fk_M fn_M rfl rfl rfl (Nat.le_of_ble_eq_true rfl) rfl dc_M_opening_14 ?_
    refine zM_kc hM (fun g2 hM => ?_)
    refine zj_aload_n C dc_M_opening_17 rfl 0 rfl ?_
    refine zj_get (k := 0) C (by omega) hM.1.1 rfl (by decide) fw_M fl_M_62 rfl rfl dc_M_opening_18 ?_
    refine zj_if_le C dc_M_opening_21 rfl (fun _ => ?_) (fun h => absurd h (by decide))
    refine zj_iconst (v := 0) C dc_M_opening_26 (by decide) ?_
    refine zj_istore_n C dc_M_opening_27 rfl (by decide) rfl ?_
    refine zj_loc (L' := [(3, .int (nI 0)), (0, .ref (ad 108)), (1, .int (nI t)), (2, .int i)]) [0, 1, 2, 3] rfl ?_
    obtain ⟨S, hS⟩ := zm_S (e := fun k => (zm_e2 (zm_f a 4 t (Rn t)) (zm_f a 4 k (Rn k)))) (fun k => (if Cn k - 1 < Cn t - 1 then Cn k - 1 else Cn t - 1))
    exact outl 9 0 t S _ rfl (by omega) ht rfl hth hM hS (fun j h => absurd h (Nat.not_lt_zero j))
  · have hnt := zm_ntt (zb_i1 n1) hb9
    refine zj_iconst (v := 1) C dc_M_opening_9 (by decide) ?_
    refine zj_goto C dc_M_opening_10 rfl ?_
    refine zj_put (k := 0) C (by omega) hM.1.1 rfl (by decide) fw_M fl_M_62 rfl fy_M fk_M fn_M rfl rfl rfl (Nat.le_of_ble_eq_true rfl) rfl dc_M_opening_14 ?_
    refine zM_kc hM (fun g2 hM => ?_)
    refine zj_aload_n C dc_M_opening_17 rfl 0 rfl ?_
    refine zj_get (k := 0) C (by omega) hM.1.1 rfl (by decide) fw_M fl_M_62 rfl rfl dc_M_opening_18 ?_
    refine zj_if_le C dc_M_opening_21 rfl (fun h => absurd h (by decide)) (fun _ => ?_)
    refine zj_iconst (v := 0) C dc_M_opening_24 (by decide) ?_
    exact zj_iret C dc_M_opening_25 (Or.inr ⟨hnt, hM⟩)
end ZMW
