section ZP5
/-- what opening holds of tune k: how many steps it shares, or -1 -/
def zp_so (ts : Nat → zu_S) (t : Nat) (v : Int32) (k : Nat) : Prop := (k ≠ t ∧ zu_sh (ts k) = true ∧ ∃ m, v = nI m ∧ zp_ld (fun j => decide (zu_p (ts t) (j + 1) - zu_p (ts t) j = zu_p (ts k) (j + 1) - zu_p (ts k) j)) (if zu_cn (ts k) - 1 < zu_cn (ts t) - 1 then zu_cn (ts k) - 1 else zu_cn (ts t) - 1) m) ∨ (¬ (k ≠ t ∧ zu_sh (ts k) = true) ∧ v = -1)
def zp_oi (sh : Nat → Int32) (s : Nat) : Nat → Nat → List Nat
  | _, 0 => []
  | o, n + 1 => (if sh o = nI s then [o] else []) ++ zp_oi sh s (o + 1) n
def zp_ox (sh : Nat → Int32) : Nat → List Nat
  | 0 => []
  | s + 1 => zp_oi sh s 0 8 ++ zp_ox sh s
theorem zp_oiS (sh : Nat → Int32) (s o n : Nat) : zp_oi sh s o (n + 1) = (if sh o = nI s then [o] else []) ++ zp_oi sh s (o + 1) n := rfl
set_option maxHeartbeats 4000000 in
set_option maxRecDepth 100000 in
theorem ct_T_opening (l : Launch) (hst : l.stackTraces = false) (z : zv_T) (ad : Nat → Nat) (N : Nat) (g : Nat → va_E) (ts : Nat → zu_S) (id : Int32) (hN : 108 ≤ N) (hs : zs_A z ad g ts) (i : Int32) (hcn : ∀ t, t < 8 → zu_cn (ts t) ≤ 20) (sh0 : Nat → Int32) (h70 : g 107 = ze_i z 8 sh0) : zx_i l mn_T_opening ws_T_opening rm_T_opening z ad N g [.ref (ad 0), .int id, .int i] 1 6 (fun r g1 => ∃ t sh, zp_is ts id t ∧ (∀ k, k < 8 → zp_so ts t (sh k) k) ∧ ((∃ k o, (zp_ox sh 20)[k]? = some o ∧ i = nI k ∧ r = nI o) ∨ ((∀ k, k < (zp_ox sh 20).length → ¬ i = nI k) ∧ r = -1)) ∧ (∃ s9, g1 107 = ze_i z 8 s9) ∧ ∀ j, j ≠ 107 → g1 j = g j) (fun E g1 => g1 = g ∧ E = "java/lang/IndexOutOfBoundsException" ∧ ∀ t, ¬ zp_is ts id t) := by
  have hA9 := hs
  obtain ⟨h0, ⟨f, hA, hf⟩, hts⟩ := hs
  refine zx_ofi hst pn_T_opening rfl (Nat.le_of_ble_eq_true rfl) (fun X hX C hT => ?_)
  subst hX
  show zj_J X 0 0 _ ad N g 0 [(0, .ref (ad 0)), (1, .int id), (2, .int i)] []
  have first : ∀ (n : Nat) (o t : Nat) (g2 : Nat → va_E) (sh : Nat → Int32), 8 - o = n → o ≤ 8 → t < 8 → g2 107 = ze_i z 8 sh → (∀ j, j ≠ 107 → g2 j = g j) → (∀ k, k < o → zp_so ts t (sh k) k) → id = nI t → (∀ (g2 : Nat → va_E) (sh : Nat → Int32), g2 107 = ze_i z 8 sh → (∀ j, j ≠ 107 → g2 j = g j) → (∀ k, k < 8 → zp_so ts t (sh k) k) → zj_J X (0 + 1) (0 + 6) (zx_Qi X 1 6 ad N (fun r g1 => ∃ t sh, zp_is ts id t ∧ (∀ k, k < 8 → zp_so ts t (sh k) k) ∧ ((∃ k o, (zp_ox sh 20)[k]? = some o ∧ i = nI k ∧ r = nI o) ∨ ((∀ k, k < (zp_ox sh 20).length → ¬ i = nI k) ∧ r = -1)) ∧ (∃ s9, g1 107 = ze_i z 8 s9) ∧ ∀ j, j ≠ 107 → g1 j = g j) (fun E g1 => g1 = g ∧ E = "java/lang/IndexOutOfBoundsException" ∧ ∀ t, ¬ zp_is ts id t)) ad N g2 81 [(4, .int (nI 8)), (3, .ref (ad (2 + 8 * t))), (0, .ref (ad 0)), (1, .int id), (2, .int i)] []) → zj_J X (0 + 1) (0 + 6) (zx_Qi X 1 6 ad N (fun r g1 => ∃ t sh, zp_is ts id t ∧ (∀ k, k < 8 → zp_so ts t (sh k) k) ∧ ((∃ k o, (zp_ox sh 20)[k]? = some o ∧ i = nI k ∧ r = nI o) ∨ ((∀ k, k < (zp_ox sh 20).length → ¬ i = nI k) ∧ r = -1)) ∧ (∃ s9, g1 107 = ze_i z 8 s9) ∧ ∀ j, j ≠ 107 → g1 j = g j) (fun E g1 => g1 = g ∧ E = "java/lang/IndexOutOfBoundsException" ∧ ∀ t, ¬ zp_is ts id t)) ad N g2 9 [(4, .int (nI o)), (3, .ref (ad (2 + 8 * t))), (0, .ref (ad 0)), (1, .int id), (2, .int i)] [] := by
    intro n
    induction n with
    | zero =>
      intro o t g2 sh e1 e2 ht h7 hfr hso hid K
      refine zj_iload C dc_T_opening_9 0 rfl ?_
      refine zj_bipush (v := 8) C dc_T_opening_11 (by decide) ?_
      refine zj_icmp_ge C dc_T_opening_13 rfl (fun _ => ?_) (fun h => absurd h (not_not_intro ((nI_leI (a := 8) (by omega) (by omega)).mpr (by omega))))
      refine zj_loc [0, 1, 2, 3, 4] rfl ?_
      exact (show o = 8 by omega) ▸ K g2 sh h7 hfr (fun k hk => hso k (by omega))
    | succ n ih =>
      intro o t g2 sh e1 e2 ht h7 hfr hso hid K
      refine zj_iload C dc_T_opening_9 0 rfl ?_
      refine zj_bipush (v := 8) C dc_T_opening_11 (by decide) ?_
      refine zj_icmp_ge C dc_T_opening_13 rfl (fun h => absurd h (((zn_nle (a := 8) (by omega) (by omega)).mpr (by omega)))) (fun _ => ?_)
      refine zj_iload C dc_T_opening_16 0 rfl ?_
      refine zj_iload_n C dc_T_opening_18 rfl 3 rfl ?_
      refine zj_icmp_eq C dc_T_opening_19 rfl (fun b1 => ?_) (fun b1 => ?_)
      · have b1 : o = t := (nI_eq (by omega) (by omega)).mp (b1.trans hid)
        refine zj_iconst (v := 0) C dc_T_opening_39 (by decide) ?_
        refine zj_istore C dc_T_opening_40 (by decide) rfl ?_
        refine zj_aload_n C dc_T_opening_42 rfl 3 rfl ?_
        refine zj_get (k := 5) C (by omega) ((hfr 0 (by omega)).trans h0) rfl (by decide) fw_T fl_T_46 rfl rfl dc_T_opening_43 ?_
        refine zj_iload C dc_T_opening_46 1 rfl ?_
        refine zj_iload C dc_T_opening_48 0 rfl ?_
        refine zj_if_eq C dc_T_opening_50 rfl (fun _ => ?_) (fun h => absurd h (by decide))
        refine zj_iconst (v := -1) C dc_T_opening_73 (by decide) ?_
        refine zj_iast C (by omega) h7 rfl (by omega) (by decide) dc_T_opening_74 ?_
        refine zj_iinc C dc_T_opening_75 1 rfl (zn_inc o) (by decide) rfl ?_
        refine zj_goto C dc_T_opening_78 rfl ?_
        refine zj_loc (L' := [(4, .int (nI (o + 1))), (3, .ref (ad (2 + 8 * t))), (0, .ref (ad 0)), (1, .int id), (2, .int i)]) [0, 2, 3, 4, 5] rfl ?_
        exact ih (o + 1) t _ _ (by omega) (by omega) ht (va_up_self _ _ _) (fun j hj => (va_up_ne _ _ hj).trans (hfr j hj)) (fun k hk => (if c9 : k = o then by rw [c9]; simp only [upd, nI_clamp, if_true]; exact Or.inr ⟨fun e => e.1 b1, rfl⟩ else by simp only [upd, if_neg c9]; exact hso k (by omega))) hid K
      · have b1 : ¬ o = t := fun e => b1 (by rw [hid, e])
        refine zj_aload_n C dc_T_opening_22 rfl 2 rfl ?_
        refine zj_get (k := 0) C (by omega) ((hfr 0 (by omega)).trans h0) rfl (by decide) fw_T fl_T_11 rfl rfl dc_T_opening_23 ?_
        refine zj_iload C dc_T_opening_26 0 rfl ?_
        refine zj_uald C (by omega) ((hfr 1 (by omega)).trans hA) rfl (by omega) (by decide) dc_T_opening_28 ?_
        refine zj_topv (congrArg va_rf (hf o (by omega))) ?_
        refine zj_get (k := 4) C (by omega) ((hfr (2 + 8 * o) (by omega)).trans (hts o (by omega)).1) rfl (by decide) fw_U fl_T_74 rfl rfl dc_T_opening_29 ?_
        refine zj_if_eq C dc_T_opening_32 rfl (fun b2 => ?_) (fun b2 => ?_)
        · have b2 := zb_i0 b2
          refine zj_iconst (v := 0) C dc_T_opening_39 (by decide) ?_
          refine zj_istore C dc_T_opening_40 (by decide) rfl ?_
          refine zj_aload_n C dc_T_opening_42 rfl 3 rfl ?_
          refine zj_get (k := 5) C (by omega) ((hfr 0 (by omega)).trans h0) rfl (by decide) fw_T fl_T_46 rfl rfl dc_T_opening_43 ?_
          refine zj_iload C dc_T_opening_46 1 rfl ?_
          refine zj_iload C dc_T_opening_48 0 rfl ?_
          refine zj_if_eq C dc_T_opening_50 rfl (fun _ => ?_) (fun h => absurd h (by decide))
          refine zj_iconst (v := -1) C dc_T_opening_73 (by decide) ?_
          refine zj_iast C (by omega) h7 rfl (by omega) (by decide) dc_T_opening_74 ?_
          refine zj_iinc C dc_T_opening_75 1 rfl (zn_inc o) (by decide) rfl ?_
          refine zj_goto C dc_T_opening_78 rfl ?_
          refine zj_loc (L' := [(4, .int (nI (o + 1))), (3, .ref (ad (2 + 8 * t))), (0, .ref (ad 0)), (1, .int id), (2, .int i)]) [0, 2, 3, 4, 5] rfl ?_
          exact ih (o + 1) t _ _ (by omega) (by omega) ht (va_up_self _ _ _) (fun j hj => (va_up_ne _ _ hj).trans (hfr j hj)) (fun k hk => (if c9 : k = o then by rw [c9]; simp only [upd, nI_clamp, if_true]; exact Or.inr ⟨fun e => by rw [b2] at e; exact absurd e.2 (by decide), rfl⟩ else by simp only [upd, if_neg c9]; exact hso k (by omega))) hid K
        · have b2 := zb_i1 b2
          refine zj_iconst (v := 1) C dc_T_opening_35 (by decide) ?_
          refine zj_goto C dc_T_opening_36 rfl ?_
          refine zj_istore C dc_T_opening_40 (by decide) rfl ?_
          refine zj_aload_n C dc_T_opening_42 rfl 3 rfl ?_
          refine zj_get (k := 5) C (by omega) ((hfr 0 (by omega)).trans h0) rfl (by decide) fw_T fl_T_46 rfl rfl dc_T_opening_43 ?_
          refine zj_iload C dc_T_opening_46 1 rfl ?_
          refine zj_iload C dc_T_opening_48 0 rfl ?_
          refine zj_if_eq C dc_T_opening_50 rfl (fun h => absurd h (by decide)) (fun _ => ?_)
          refine zj_aload_n C dc_T_opening_53 rfl 2 rfl ?_
          refine zj_get (k := 0) C (by omega) ((hfr (2 + 8 * t) (by omega)).trans (hts t ht).1) rfl (by decide) fw_U fl_T_81 rfl rfl dc_T_opening_54 ?_
          refine zj_aload_n C dc_T_opening_57 rfl 3 rfl ?_
          refine zj_get (k := 0) C (by omega) ((hfr 0 (by omega)).trans h0) rfl (by decide) fw_T fl_T_11 rfl rfl dc_T_opening_58 ?_
          refine zj_iload C dc_T_opening_61 1 rfl ?_
          refine zj_uald C (by omega) ((hfr 1 (by omega)).trans hA) rfl (by omega) (by decide) dc_T_opening_63 ?_
          refine zj_topv (congrArg va_rf (hf o (by omega))) ?_
          refine zj_get (k := 0) C (by omega) ((hfr (2 + 8 * o) (by omega)).trans (hts o (by omega)).1) rfl (by decide) fw_U fl_T_81 rfl rfl dc_T_opening_64 ?_
          refine zj_Si C (ct_T_stepsSharedAtFirst _ hst z ad N g2 (2 + 8 * t + 1) _ (2 + 8 * o + 1) _ _ _ _ _ (by omega) (by omega) (zs_N_fr (hts t ht).2.1 (fun j h1 h2 => hfr j (by omega))) (zs_N_fr (hts o (by omega)).2.1 (fun j h1 h2 => hfr j (by omega))) (hcn t ht) (hcn o (by omega))) gv_T_188 rfl rfl rfl hd_T_stepsSharedAtFirst ⟨(Nat.le_of_ble_eq_true rfl), (Nat.le_of_ble_eq_true rfl)⟩ rfl rfl (Nat.le_of_ble_eq_true rfl) ⟨(Nat.le_of_ble_eq_true rfl), (Nat.le_of_ble_eq_true rfl)⟩ dc_T_opening_67 (fun r1 g9 h1 => ?_)
          obtain ⟨⟨m, rfl, hm⟩, hg9⟩ := h1
          rw [hg9]
          refine zj_goto C dc_T_opening_70 rfl ?_
          refine zj_iast C (by omega) h7 rfl (by omega) (by decide) dc_T_opening_74 ?_
          refine zj_iinc C dc_T_opening_75 1 rfl (zn_inc o) (by decide) rfl ?_
          refine zj_goto C dc_T_opening_78 rfl ?_
          refine zj_loc (L' := [(4, .int (nI (o + 1))), (3, .ref (ad (2 + 8 * t))), (0, .ref (ad 0)), (1, .int id), (2, .int i)]) [0, 2, 3, 4, 5] rfl ?_
          exact ih (o + 1) t _ _ (by omega) (by omega) ht (va_up_self _ _ _) (fun j hj => (va_up_ne _ _ hj).trans (hfr j hj)) (fun k hk => (if c9 : k = o then by rw [c9]; simp only [upd, nI_clamp, if_true]; exact Or.inl ⟨b1, b2, m, rfl, hm⟩ else by simp only [upd, if_neg c9]; exact hso k (by omega))) hid K
  have inner : ∀ (n : Nat) (o t s : Nat) (D : List Nat) (g2 : Nat → va_E) (sh : Nat → Int32), 8 - o = n → o ≤ 8 → 1 ≤ s → s ≤ 20 → t < 8 → id = nI t → zu_th (ts t) = true → g2 107 = ze_i z 8 sh → (∀ j, j ≠ 107 → g2 j = g j) → (∀ k, k < 8 → zp_so ts t (sh k) k) → (zp_ox sh 20) = D ++ (zp_oi sh (s - 1) o (8 - o) ++ zp_ox sh (s - 1)) → (∀ j, j < D.length → ¬ nI j = i) → (∀ (D : List Nat), (zp_ox sh 20) = D ++ zp_ox sh (s - 1) → (∀ j, j < D.length → ¬ nI j = i) → zj_J X (0 + 1) (0 + 6) (zx_Qi X 1 6 ad N (fun r g1 => ∃ t sh, zp_is ts id t ∧ (∀ k, k < 8 → zp_so ts t (sh k) k) ∧ ((∃ k o, (zp_ox sh 20)[k]? = some o ∧ i = nI k ∧ r = nI o) ∨ ((∀ k, k < (zp_ox sh 20).length → ¬ i = nI k) ∧ r = -1)) ∧ (∃ s9, g1 107 = ze_i z 8 s9) ∧ ∀ j, j ≠ 107 → g1 j = g j) (fun E g1 => g1 = g ∧ E = "java/lang/IndexOutOfBoundsException" ∧ ∀ t, ¬ zp_is ts id t)) ad N g2 133 [(6, .int (nI 8)), (5, .int (nI s - 1)), (4, .int (nI D.length)), (3, .ref (ad (2 + 8 * t))), (0, .ref (ad 0)), (1, .int id), (2, .int i)] []) → zj_J X (0 + 1) (0 + 6) (zx_Qi X 1 6 ad N (fun r g1 => ∃ t sh, zp_is ts id t ∧ (∀ k, k < 8 → zp_so ts t (sh k) k) ∧ ((∃ k o, (zp_ox sh 20)[k]? = some o ∧ i = nI k ∧ r = nI o) ∨ ((∀ k, k < (zp_ox sh 20).length → ¬ i = nI k) ∧ r = -1)) ∧ (∃ s9, g1 107 = ze_i z 8 s9) ∧ ∀ j, j ≠ 107 → g1 j = g j) (fun E g1 => g1 = g ∧ E = "java/lang/IndexOutOfBoundsException" ∧ ∀ t, ¬ zp_is ts id t)) ad N g2 96 [(6, .int (nI o)), (5, .int (nI s - 1)), (4, .int (nI D.length)), (3, .ref (ad (2 + 8 * t))), (0, .ref (ad 0)), (1, .int id), (2, .int i)] [] := by
    intro n
    induction n with
    | zero =>
      intro o t s D g2 sh e1 e2 e3 e4 ht hid hth h7 hfr hso hE hno K
      refine zj_iload C dc_T_opening_96 0 rfl ?_
      refine zj_bipush (v := 8) C dc_T_opening_98 (by decide) ?_
      refine zj_icmp_ge C dc_T_opening_100 rfl (fun _ => ?_) (fun h => absurd h (not_not_intro ((nI_leI (a := 8) (by omega) (by omega)).mpr (by omega))))
      refine zj_loc [0, 1, 2, 3, 4, 5, 6] rfl ?_
      exact (show o = 8 by omega) ▸ K D (by rw [hE, show 8 - o = 0 by omega]; rfl) hno
    | succ n ih =>
      intro o t s D g2 sh e1 e2 e3 e4 ht hid hth h7 hfr hso hE hno K
      refine zj_iload C dc_T_opening_96 0 rfl ?_
      refine zj_bipush (v := 8) C dc_T_opening_98 (by decide) ?_
      refine zj_icmp_ge C dc_T_opening_100 rfl (fun h => absurd h (((zn_nle (a := 8) (by omega) (by omega)).mpr (by omega)))) (fun _ => ?_)
      refine zj_aload_n C dc_T_opening_103 rfl 4 rfl ?_
      refine zj_get (k := 5) C (by omega) ((hfr 0 (by omega)).trans h0) rfl (by decide) fw_T fl_T_46 rfl rfl dc_T_opening_104 ?_
      refine zj_iload C dc_T_opening_107 0 rfl ?_
      refine zj_iald C (by omega) h7 rfl (by omega) (by decide) dc_T_opening_109 ?_
      refine zj_iload C dc_T_opening_110 1 rfl ?_
      refine zj_icmp_ne C dc_T_opening_112 rfl (fun b1 => ?_) (fun b1 => ?_)
      · rw [zn_m1 (by omega)] at b1
        refine zj_iinc C dc_T_opening_127 0 rfl (zn_inc o) (by decide) rfl ?_
        refine zj_goto C dc_T_opening_130 rfl ?_
        refine zj_loc (L' := [(6, .int (nI (o + 1))), (5, .int (nI s - 1)), (4, .int (nI D.length)), (3, .ref (ad (2 + 8 * t))), (0, .ref (ad 0)), (1, .int id), (2, .int i)]) [0, 1, 2, 3, 4, 5, 6] rfl ?_
        exact ih (o + 1) t s D g2 sh (by omega) (by omega) e3 e4 ht hid hth h7 hfr hso (by rw [hE, show 8 - o = (8 - (o + 1)) + 1 by omega, zp_oiS, if_neg b1]; rfl) hno K
      · rw [zn_m1 (by omega)] at b1
        refine zj_iload C dc_T_opening_115 2 rfl ?_
        refine zj_iload_n C dc_T_opening_117 rfl 6 rfl ?_
        refine zj_icmp_ne C dc_T_opening_118 rfl (fun b2 => ?_) (fun b2 => ?_)
        · skip
          refine zj_iinc C dc_T_opening_124 2 rfl (zn_inc D.length) (by decide) rfl ?_
          refine zj_iinc C dc_T_opening_127 1 rfl (zn_inc o) (by decide) rfl ?_
          refine zj_goto C dc_T_opening_130 rfl ?_
          refine zj_loc (L' := [(6, .int (nI (o + 1))), (5, .int (nI s - 1)), (4, .int (nI (D ++ [o]).length)), (3, .ref (ad (2 + 8 * t))), (0, .ref (ad 0)), (1, .int id), (2, .int i)]) [0, 2, 1, 3, 4, 5, 6] (by rw [List.length_append]; rfl) ?_
          exact ih (o + 1) t s (D ++ [o]) g2 sh (by omega) (by omega) e3 e4 ht hid hth h7 hfr hso (by rw [hE, show 8 - o = (8 - (o + 1)) + 1 by omega, zp_oiS, if_pos b1]; simp) (fun j hj => if c9 : j < D.length then hno j c9 else (by simp at hj; rw [show j = D.length by omega]; exact b2)) K
        · skip
          refine zj_iload C dc_T_opening_121 0 rfl ?_
          exact zx_iret C ⟨(Nat.le_of_ble_eq_true rfl), (Nat.le_of_ble_eq_true rfl)⟩ dc_T_opening_123 ⟨t, sh, ⟨ht, hid, hth⟩, hso, Or.inl ⟨D.length, o, by rw [hE, show 8 - o = (8 - (o + 1)) + 1 by omega, zp_oiS, if_pos b1]; simp, b2.symm, rfl⟩, ⟨sh, h7⟩, hfr⟩
  have outer : ∀ (n : Nat) (s t : Nat) (D : List Nat) (g2 : Nat → va_E) (sh : Nat → Int32), s = n → s ≤ 20 → t < 8 → id = nI t → zu_th (ts t) = true → g2 107 = ze_i z 8 sh → (∀ j, j ≠ 107 → g2 j = g j) → (∀ k, k < 8 → zp_so ts t (sh k) k) → (zp_ox sh 20) = D ++ zp_ox sh s → (∀ j, j < D.length → ¬ nI j = i) → zj_J X (0 + 1) (0 + 6) (zx_Qi X 1 6 ad N (fun r g1 => ∃ t sh, zp_is ts id t ∧ (∀ k, k < 8 → zp_so ts t (sh k) k) ∧ ((∃ k o, (zp_ox sh 20)[k]? = some o ∧ i = nI k ∧ r = nI o) ∨ ((∀ k, k < (zp_ox sh 20).length → ¬ i = nI k) ∧ r = -1)) ∧ (∃ s9, g1 107 = ze_i z 8 s9) ∧ ∀ j, j ≠ 107 → g1 j = g j) (fun E g1 => g1 = g ∧ E = "java/lang/IndexOutOfBoundsException" ∧ ∀ t, ¬ zp_is ts id t)) ad N g2 88 [(5, .int (nI s - 1)), (4, .int (nI D.length)), (3, .ref (ad (2 + 8 * t))), (0, .ref (ad 0)), (1, .int id), (2, .int i)] [] := by
    intro n
    induction n with
    | zero =>
      intro s t D g2 sh e1 e2 ht hid hth h7 hfr hso hE hno
      refine zj_iload C dc_T_opening_88 0 rfl ?_
      refine zj_if_lt C dc_T_opening_90 rfl (fun _ => ?_) (fun h => absurd h (not_not_intro (by rw [show s = 0 by omega]; decide)))
      refine zj_iconst (v := -1) C dc_T_opening_139 (by decide) ?_
      exact zx_iret C ⟨(Nat.le_of_ble_eq_true rfl), (Nat.le_of_ble_eq_true rfl)⟩ dc_T_opening_140 ⟨t, sh, ⟨ht, hid, hth⟩, hso, Or.inr ⟨fun k hk e => hno k (by rw [hE, show s = 0 by omega] at hk; simpa [zp_ox] using hk) e.symm, rfl⟩, ⟨sh, h7⟩, hfr⟩
    | succ n ih =>
      intro s t D g2 sh e1 e2 ht hid hth h7 hfr hso hE hno
      refine zj_iload C dc_T_opening_88 0 rfl ?_
      refine zj_if_lt C dc_T_opening_90 rfl (fun h => absurd h ((by rw [zn_m1 (by omega)]; exact nI_pos (by omega)))) (fun _ => ?_)
      refine zj_iconst (v := 0) C dc_T_opening_93 (by decide) ?_
      refine zj_istore C dc_T_opening_94 (by decide) rfl ?_
      refine zj_loc (L' := [(6, .int (nI 0)), (5, .int (nI s - 1)), (4, .int (nI D.length)), (3, .ref (ad (2 + 8 * t))), (0, .ref (ad 0)), (1, .int id), (2, .int i)]) [0, 1, 2, 3, 4, 5, 6] rfl ?_
      refine inner 8 0 t s D g2 sh rfl (by omega) (by omega) e2 ht hid hth h7 hfr hso (by rw [hE]; obtain ⟨s9, rfl⟩ : ∃ s9, s = s9 + 1 := ⟨s - 1, by omega⟩; rfl) hno (fun D hE hno => ?_)
      refine zj_iinc C dc_T_opening_133 1 rfl (zn_dec (by omega)) (by decide) rfl ?_
      refine zj_goto C dc_T_opening_136 rfl ?_
      refine zj_loc (L' := [(5, .int (nI (s - 1) - 1)), (4, .int (nI D.length)), (3, .ref (ad (2 + 8 * t))), (0, .ref (ad 0)), (1, .int id), (2, .int i)]) [0, 2, 3, 4, 5, 6] rfl ?_
      exact ih (s - 1) t D g2 sh (by omega) (by omega) ht hid hth h7 hfr hso hE hno
  refine zj_aload_n C dc_T_opening_0 rfl 0 rfl ?_
  refine zj_iload_n C dc_T_opening_1 rfl 1 rfl ?_
  refine zx_Vr C (ct_T_existing _ hst z ad N g ts _ hN hA9) gv_T_63 rfl rfl rfl hd_T_existing ⟨(Nat.le_of_ble_eq_true rfl), (Nat.le_of_ble_eq_true rfl)⟩ (by omega) h0 rfl rfl rfl (Nat.le_of_ble_eq_true rfl) ⟨(Nat.le_of_ble_eq_true rfl), (Nat.le_of_ble_eq_true rfl)⟩ dc_T_opening_2 (fun E9 g9 h9 => zx_passi C hT ⟨(Nat.le_of_ble_eq_true rfl), (Nat.le_of_ble_eq_true rfl)⟩ ⟨h9.2.1, h9.1, h9.2.2⟩) (fun k1 g1 h1 => ?_)
  obtain ⟨⟨t, ⟨ht, hid, hth⟩, rfl⟩, hg1⟩ := h1
  rw [hg1]
  have hc9 := hcn t ht
  refine zj_astore_n C dc_T_opening_5 rfl (by decide) rfl ?_
  refine zj_iconst (v := 0) C dc_T_opening_6 (by decide) ?_
  refine zj_istore C dc_T_opening_7 (by decide) rfl ?_
  refine zj_loc (L' := [(4, .int (nI 0)), (3, .ref (ad (2 + 8 * t))), (0, .ref (ad 0)), (1, .int id), (2, .int i)]) [0, 1, 2, 3, 4] rfl ?_
  refine first 8 0 t g sh0 rfl (by omega) ht h70 (fun j hj => rfl) (fun k hk => absurd hk (Nat.not_lt_zero k)) hid (fun g2 sh h7 hfr hso => ?_)
  refine zj_iconst (v := 0) C dc_T_opening_81 (by decide) ?_
  refine zj_istore C dc_T_opening_82 (by decide) rfl ?_
  refine zj_bipush (v := 19) C dc_T_opening_84 (by decide) ?_
  refine zj_istore C dc_T_opening_86 (by decide) rfl ?_
  refine zj_loc (L' := [(5, .int (nI 20 - 1)), (4, .int (nI ([] : List Nat).length)), (3, .ref (ad (2 + 8 * t))), (0, .ref (ad 0)), (1, .int id), (2, .int i)]) [0, 1, 2, 3, 4, 5] rfl ?_
  exact outer 20 20 t [] g2 sh rfl (by omega) ht hid hth h7 hfr hso rfl (fun j hj => by cases hj)
end ZP5
