section ZMS
def zo_V (ok : Nat → Nat → Bool) (k i j n : Nat) : Bool := match i with
  | 0 => decide (j = 0)
  | i + 1 => zo_any (zo_M ok k i) j n
theorem zo_Ve {ok : Nat → Nat → Bool} {k i j n : Nat} (h : n = k + 1 ∨ j ≤ n ∨ i = 0) (hn : n ≤ k + 1) : zo_V ok k i j (k + 1) = zo_V ok k i j n := by
  cases i with
  | zero => rfl
  | succ i =>
    show zo_any _ _ _ = zo_any _ _ _
    rcases h with h | h | h
    · rw [h]
    · exact zo_any_cut h hn
    · cases h
theorem zo_MV (ok : Nat → Nat → Bool) (k i j : Nat) : zo_M ok k i j = (zo_V ok k i j (k + 1) && ok i j) := by cases i <;> rfl
theorem zo_VS {ok : Nat → Nat → Bool} {k i j n : Nat} (hi : 0 < i) (hn : n < j) : zo_V ok k i j (n + 1) = (zo_V ok k i j n || zo_M ok k (i - 1) (j - (n + 1))) := by
  obtain ⟨i, rfl⟩ : ∃ i9, i = i9 + 1 := ⟨i - 1, by omega⟩
  show (zo_any _ j n || (decide (n + 1 ≤ j) && _)) = _
  rw [decide_eq_true (show n + 1 ≤ j by omega)]
  rfl
theorem zn_jk {j k n : Nat} (hj : j < 2 ^ 29) (hk : k < 2 ^ 29) (hn : n < j) : nI (j - n) - 1 < nI j - 1 - nI k ↔ k < n := by
  rw [zn_m1 (show 0 < j - n by omega), zn_m1 (show 0 < j by omega), Int32.lt_iff_toInt_lt, nI_toInt (by omega), pk_sub_toInt (by omega) (by omega)]
  omega
theorem zn_jz {j n : Nat} (hj : j < 2 ^ 29) : nI (j - n) - 1 < 0 ↔ j ≤ n := by
  by_cases h : j ≤ n
  · rw [show j - n = 0 by omega]
    exact ⟨fun _ => h, fun _ => by decide⟩
  · rw [zn_m1 (show 0 < j - n by omega)]
    exact ⟨fun h1 => absurd h1 (nI_pos (by omega)), fun h1 => absurd h1 h⟩
set_option maxHeartbeats 4000000 in
set_option maxRecDepth 100000 in
theorem ct_M_outlines (l : Launch) (hst : l.stackTraces = false) (z : zv_T) (ad : Nat → Nat) (N : Nat) (g : Nat → va_E) (c as fo kp : Int32) (a : Nat → Nat → Int32) (hN : 126 ≤ N) (hM0 : zs_M z ad g c as fo kp a) (qc t R : Nat) (has : as = nI qc) (hqc : 2 ≤ qc) (hqc8 : qc ≤ 8) (ht : t < 8) (hR : a 3 t = nI R) (hR1 : 1 ≤ R) (hR9 : R ≤ 9) (pl sp k : Nat) (hsp : 1 ≤ sp) (hpl : pl + sp ≤ 20) (hk : k ≤ 4) : zm_i l mn_M_outlines ws_M_outlines rm_M_outlines z ad N g [.ref (ad 108), .int (nI t), .int (nI pl), .int (nI sp), .int (nI k)] (fun r g1 => ∃ a1, r = zb_i (zo_M (fun i j => decide ((zm_f a 4 t R) (pl + j) - a 6 i = (zm_f a 4 t R) pl - a 6 0)) k (qc - 1) (sp - 1)) ∧ zm_M z ad g g1 c (nI qc) fo kp a1 ∧ ∀ r, r ≠ 16 → a1 r = a r) := by
  have hM : zm_M z ad g g c as fo kp a := ⟨hM0, fun _ _ => rfl⟩
  subst has
  refine zm_ofz hst pn_M_outlines rfl (Nat.le_of_ble_eq_true rfl) (fun X hX C => ?_)
  subst hX
  show zj_J X 0 0 _ ad N g 0 [(0, .ref (ad 108)), (1, .int (nI t)), (2, .int (nI pl)), (3, .int (nI sp)), (4, .int (nI k))] []
  have bl : ∀ (n : Nat) (n9 i j : Nat) (g2 : Nat → va_E) (a2 : Nat → Nat → Int32), k + 1 - n9 = n → n9 ≤ k + 1 → n9 ≤ j → i < qc → j < sp → zm_M z ad g g2 c (nI qc) fo kp a2 → (∀ r, r ≠ 16 → a2 r = a r) → (∀ i' j', i' < i → j' < sp → a2 16 (20 * i' + j') = zb_i (zo_M (fun i j => decide ((zm_f a 4 t R) (pl + j) - a 6 i = (zm_f a 4 t R) pl - a 6 0)) k i' j')) → (∀ x9 : Int32, zj_J X 0 0 (zj_Qi X 0 0 ad N (fun r g1 => ∃ a1, r = zb_i (zo_M (fun i j => decide ((zm_f a 4 t R) (pl + j) - a 6 i = (zm_f a 4 t R) pl - a 6 0)) k (qc - 1) (sp - 1)) ∧ zm_M z ad g g1 c (nI qc) fo kp a1 ∧ ∀ r, r ≠ 16 → a1 r = a r)) ad N g2 117 [(9, .int x9), (8, .int (zb_i (zo_V (fun i j => decide ((zm_f a 4 t R) (pl + j) - a 6 i = (zm_f a 4 t R) pl - a 6 0)) k i j (k + 1)))), (7, .int (nI j)), (6, .int (nI i)), (5, .int ((zm_f a 4 t R) pl - a 6 0)), (0, .ref (ad 108)), (1, .int (nI t)), (2, .int (nI pl)), (3, .int (nI sp)), (4, .int (nI k))] []) → zj_J X 0 0 (zj_Qi X 0 0 ad N (fun r g1 => ∃ a1, r = zb_i (zo_M (fun i j => decide ((zm_f a 4 t R) (pl + j) - a 6 i = (zm_f a 4 t R) pl - a 6 0)) k (qc - 1) (sp - 1)) ∧ zm_M z ad g g1 c (nI qc) fo kp a1 ∧ ∀ r, r ≠ 16 → a1 r = a r)) ad N g2 59 [(9, .int (nI (j - n9) - 1)), (8, .int (zb_i (zo_V (fun i j => decide ((zm_f a 4 t R) (pl + j) - a 6 i = (zm_f a 4 t R) pl - a 6 0)) k i j n9))), (7, .int (nI j)), (6, .int (nI i)), (5, .int ((zm_f a 4 t R) pl - a 6 0)), (0, .ref (ad 108)), (1, .int (nI t)), (2, .int (nI pl)), (3, .int (nI sp)), (4, .int (nI k))] [] := by
    intro n
    induction n with
    | zero =>
      intro n9 i j g2 a2 e1 e2 e3 e4 e5 hM hrw hold K
      refine zj_iload C dc_M_outlines_59 0 rfl ?_
      refine zj_if_lt C dc_M_outlines_61 rfl (fun b1 => ?_) (fun b1 => ?_)
      · have b1 := (zn_jz (by omega)).mp b1
        refine zj_loc [0, 1, 2, 3, 4, 5, 6, 7, 8, 9] rfl ?_
        exact (zo_Ve (show n9 = k + 1 ∨ j ≤ n9 ∨ i = 0 by omega) e2) ▸ K _
      · have hnj : n9 < j := Nat.lt_of_not_le (fun e => b1 ((zn_jz (by omega)).mpr e))
        refine zj_iload C dc_M_outlines_64 0 rfl ?_
        refine zj_iload C dc_M_outlines_66 2 rfl ?_
        refine zj_iconst (v := 1) C dc_M_outlines_68 (by decide) ?_
        refine zj_isub C dc_M_outlines_69 ?_
        refine zj_iload C dc_M_outlines_70 9 rfl ?_
        refine zj_isub C dc_M_outlines_72 ?_
        refine zj_icmp_lt C dc_M_outlines_73 rfl (fun _ => ?_) (fun h => absurd h (not_not_intro ((zn_jk (by omega) (by omega) hnj).mpr (by omega))))
        refine zj_loc [0, 1, 2, 3, 4, 5, 6, 7, 8, 9] rfl ?_
        exact (zo_Ve (show n9 = k + 1 ∨ j ≤ n9 ∨ i = 0 by omega) e2) ▸ K _
    | succ n ih =>
      intro n9 i j g2 a2 e1 e2 e3 e4 e5 hM hrw hold K
      refine zj_iload C dc_M_outlines_59 0 rfl ?_
      refine zj_if_lt C dc_M_outlines_61 rfl (fun b1 => ?_) (fun b1 => ?_)
      · have b1 := (zn_jz (by omega)).mp b1
        refine zj_loc [0, 1, 2, 3, 4, 5, 6, 7, 8, 9] rfl ?_
        exact (zo_Ve (show n9 = k + 1 ∨ j ≤ n9 ∨ i = 0 by omega) e2) ▸ K _
      · have hnj : n9 < j := Nat.lt_of_not_le (fun e => b1 ((zn_jz (by omega)).mpr e))
        refine zj_iload C dc_M_outlines_64 0 rfl ?_
        refine zj_iload C dc_M_outlines_66 2 rfl ?_
        refine zj_iconst (v := 1) C dc_M_outlines_68 (by decide) ?_
        refine zj_isub C dc_M_outlines_69 ?_
        refine zj_iload C dc_M_outlines_70 9 rfl ?_
        refine zj_isub C dc_M_outlines_72 ?_
        refine zj_icmp_lt C dc_M_outlines_73 rfl (fun h => absurd h ((fun q => absurd ((zn_jk (by omega) (by omega) hnj).mp q) (by omega)))) (fun _ => ?_)
        refine zj_iload C dc_M_outlines_76 3 rfl ?_
        refine zj_if_le C dc_M_outlines_78 rfl (fun b2 => ?_) (fun b2 => ?_)
        · have b2 := (zn_le0 (by omega)).mp b2
          refine zj_loc [0, 1, 2, 3, 4, 5, 6, 7, 8, 9] rfl ?_
          exact (zo_Ve (show n9 = k + 1 ∨ j ≤ n9 ∨ i = 0 by omega) e2) ▸ K _
        · have b2 : 0 < i := Nat.pos_of_ne_zero (fun e => b2 ((zn_le0 (by omega)).mpr e))
          have hS := zo_VS (ok := (fun i j => decide ((zm_f a 4 t R) (pl + j) - a 6 i = (zm_f a 4 t R) pl - a 6 0))) (k := k) b2 hnj
          refine zj_iload C dc_M_outlines_81 1 rfl ?_
          refine zj_if_ne C dc_M_outlines_83 rfl (fun b3 => ?_) (fun b3 => ?_)
          · have b3 := zb_i1 b3
            have hS2 : (zo_V (fun i j => decide ((zm_f a 4 t R) (pl + j) - a 6 i = (zm_f a 4 t R) pl - a 6 0)) k i j (n9 + 1)) = true := by rw [hS, b3]; rfl
            refine zj_iconst (v := 1) C dc_M_outlines_104 (by decide) ?_
            refine zj_goto C dc_M_outlines_105 rfl ?_
            refine zj_istore C dc_M_outlines_109 (by decide) rfl ?_
            refine zj_iinc C dc_M_outlines_111 1 rfl (show nI (j - n9) - 1 + Int32.ofInt (-1) = nI (j - (n9 + 1)) - 1 by rw [zn_dec (by omega), show j - n9 - 1 = j - (n9 + 1) by omega]) (by decide) rfl ?_
            refine zj_goto C dc_M_outlines_114 rfl ?_
            refine zj_loc (L' := [(9, .int (nI (j - (n9 + 1)) - 1)), (8, .int (zb_i (zo_V (fun i j => decide ((zm_f a 4 t R) (pl + j) - a 6 i = (zm_f a 4 t R) pl - a 6 0)) k i j (n9 + 1)))), (7, .int (nI j)), (6, .int (nI i)), (5, .int ((zm_f a 4 t R) pl - a 6 0)), (0, .ref (ad 108)), (1, .int (nI t)), (2, .int (nI pl)), (3, .int (nI sp)), (4, .int (nI k))]) [0, 1, 2, 3, 4, 5, 6, 7, 8, 9] (by rw [hS2]; rfl) ?_
            exact ih (n9 + 1) i j g2 a2 (by omega) (by omega) (by omega) e4 e5 hM hrw hold K
          · have b3 := zb_i0 b3
            refine zj_aload_n C dc_M_outlines_86 rfl 5 rfl ?_
            refine zj_get (k := 20) C (by omega) hM.1.1 rfl (by decide) fw_M fl_M_59 rfl rfl dc_M_outlines_87 ?_
            refine zj_bipush (v := 20) C dc_M_outlines_90 (by decide) ?_
            refine zj_iload C dc_M_outlines_92 3 rfl ?_
            refine zj_iconst (v := 1) C dc_M_outlines_94 (by decide) ?_
            refine zj_isub C dc_M_outlines_95 ?_
            refine zj_topi (zn_m1 b2) ?_
            refine zj_imul C dc_M_outlines_96 ?_
            refine zj_topi (show (20 : Int32) * nI (i - 1) = nI (20 * (i - 1)) from pk_mul 20 _) ?_
            refine zj_iload C dc_M_outlines_97 0 rfl ?_
            refine zj_iadd C dc_M_outlines_99 ?_
            refine zj_topi (show nI (20 * (i - 1)) + (nI (j - n9) - 1) = nI (20 * (i - 1) + (j - (n9 + 1))) by rw [zn_m1 (show 0 < j - n9 by omega), show j - n9 - 1 = j - (n9 + 1) by omega]; exact nI_add _ _) ?_
            refine zj_zald C (by omega) hM.1.2.2.2.2.2.2.2.2.2.2.2.2.2.2.2.2.2 rfl (by omega) (by decide) dc_M_outlines_100 ?_
            refine zj_topi (hold (i - 1) (j - (n9 + 1)) (by omega) (by omega)) ?_
            refine zj_if_eq C dc_M_outlines_101 rfl (fun b4 => ?_) (fun b4 => ?_)
            · have b4 := zb_i0 b4
              have hS2 : (zo_V (fun i j => decide ((zm_f a 4 t R) (pl + j) - a 6 i = (zm_f a 4 t R) pl - a 6 0)) k i j (n9 + 1)) = false := by rw [hS, b3, b4]; rfl
              refine zj_iconst (v := 0) C dc_M_outlines_108 (by decide) ?_
              refine zj_istore C dc_M_outlines_109 (by decide) rfl ?_
              refine zj_iinc C dc_M_outlines_111 1 rfl (show nI (j - n9) - 1 + Int32.ofInt (-1) = nI (j - (n9 + 1)) - 1 by rw [zn_dec (by omega), show j - n9 - 1 = j - (n9 + 1) by omega]) (by decide) rfl ?_
              refine zj_goto C dc_M_outlines_114 rfl ?_
              refine zj_loc (L' := [(9, .int (nI (j - (n9 + 1)) - 1)), (8, .int (zb_i (zo_V (fun i j => decide ((zm_f a 4 t R) (pl + j) - a 6 i = (zm_f a 4 t R) pl - a 6 0)) k i j (n9 + 1)))), (7, .int (nI j)), (6, .int (nI i)), (5, .int ((zm_f a 4 t R) pl - a 6 0)), (0, .ref (ad 108)), (1, .int (nI t)), (2, .int (nI pl)), (3, .int (nI sp)), (4, .int (nI k))]) [0, 1, 2, 3, 4, 5, 6, 7, 8, 9] (by rw [hS2]; rfl) ?_
              exact ih (n9 + 1) i j g2 a2 (by omega) (by omega) (by omega) e4 e5 hM hrw hold K
            · have b4 := zb_i1 b4
              have hS2 : (zo_V (fun i j => decide ((zm_f a 4 t R) (pl + j) - a 6 i = (zm_f a 4 t R) pl - a 6 0)) k i j (n9 + 1)) = true := by rw [hS, b3, b4]; rfl
              refine zj_iconst (v := 1) C dc_M_outlines_104 (by decide) ?_
              refine zj_goto C dc_M_outlines_105 rfl ?_
              refine zj_istore C dc_M_outlines_109 (by decide) rfl ?_
              refine zj_iinc C dc_M_outlines_111 1 rfl (show nI (j - n9) - 1 + Int32.ofInt (-1) = nI (j - (n9 + 1)) - 1 by rw [zn_dec (by omega), show j - n9 - 1 = j - (n9 + 1) by omega]) (by decide) rfl ?_
              refine zj_goto C dc_M_outlines_114 rfl ?_
              refine zj_loc (L' := [(9, .int (nI (j - (n9 + 1)) - 1)), (8, .int (zb_i (zo_V (fun i j => decide ((zm_f a 4 t R) (pl + j) - a 6 i = (zm_f a 4 t R) pl - a 6 0)) k i j (n9 + 1)))), (7, .int (nI j)), (6, .int (nI i)), (5, .int ((zm_f a 4 t R) pl - a 6 0)), (0, .ref (ad 108)), (1, .int (nI t)), (2, .int (nI pl)), (3, .int (nI sp)), (4, .int (nI k))]) [0, 1, 2, 3, 4, 5, 6, 7, 8, 9] (by rw [hS2]; rfl) ?_
              exact ih (n9 + 1) i j g2 a2 (by omega) (by omega) (by omega) e4 e5 hM hrw hold K
  have inn : ∀ (n : Nat) (j i : Nat) (g2 : Nat → va_E) (a2 : Nat → Nat → Int32), sp - j = n → j ≤ sp → i < qc → zm_M z ad g g2 c (nI qc) fo kp a2 → (∀ r, r ≠ 16 → a2 r = a r) → (∀ i' j', i' < i → j' < sp → a2 16 (20 * i' + j') = zb_i (zo_M (fun i j => decide ((zm_f a 4 t R) (pl + j) - a 6 i = (zm_f a 4 t R) pl - a 6 0)) k i' j')) → (∀ j', j' < j → a2 16 (20 * i + j') = zb_i (zo_M (fun i j => decide ((zm_f a 4 t R) (pl + j) - a 6 i = (zm_f a 4 t R) pl - a 6 0)) k i j')) → (∀ (x7 : Int32) (g2 : Nat → va_E) (a2 : Nat → Nat → Int32), zm_M z ad g g2 c (nI qc) fo kp a2 → (∀ r, r ≠ 16 → a2 r = a r) → (∀ i' j', i' < (i + 1) → j' < sp → a2 16 (20 * i' + j') = zb_i (zo_M (fun i j => decide ((zm_f a 4 t R) (pl + j) - a 6 i = (zm_f a 4 t R) pl - a 6 0)) k i' j')) → zj_J X 0 0 (zj_Qi X 0 0 ad N (fun r g1 => ∃ a1, r = zb_i (zo_M (fun i j => decide ((zm_f a 4 t R) (pl + j) - a 6 i = (zm_f a 4 t R) pl - a 6 0)) k (qc - 1) (sp - 1)) ∧ zm_M z ad g g1 c (nI qc) fo kp a1 ∧ ∀ r, r ≠ 16 → a1 r = a r)) ad N g2 168 [(7, .int x7), (6, .int (nI i)), (5, .int ((zm_f a 4 t R) pl - a 6 0)), (0, .ref (ad 108)), (1, .int (nI t)), (2, .int (nI pl)), (3, .int (nI sp)), (4, .int (nI k))] []) → zj_J X 0 0 (zj_Qi X 0 0 ad N (fun r g1 => ∃ a1, r = zb_i (zo_M (fun i j => decide ((zm_f a 4 t R) (pl + j) - a 6 i = (zm_f a 4 t R) pl - a 6 0)) k (qc - 1) (sp - 1)) ∧ zm_M z ad g g1 c (nI qc) fo kp a1 ∧ ∀ r, r ≠ 16 → a1 r = a r)) ad N g2 30 [(7, .int (nI j)), (6, .int (nI i)), (5, .int ((zm_f a 4 t R) pl - a 6 0)), (0, .ref (ad 108)), (1, .int (nI t)), (2, .int (nI pl)), (3, .int (nI sp)), (4, .int (nI k))] [] := by
    intro n
    induction n with
    | zero =>
      intro j i g2 a2 e1 e2 e3 hM hrw hold hcur K
      refine zj_iload C dc_M_outlines_30 0 rfl ?_
      refine zj_iload_n C dc_M_outlines_32 rfl 6 rfl ?_
      refine zj_icmp_ge C dc_M_outlines_33 rfl (fun _ => ?_) (fun h => absurd h (not_not_intro ((nI_leI (by omega) (by omega)).mpr (by omega))))
      refine zj_loc [0, 1, 2, 3, 4, 5, 6, 7] rfl ?_
      exact K _ g2 a2 hM hrw (fun i' j' h1 h2 => if c9 : i' = i then c9 ▸ hcur j' (by omega) else hold i' j' (by omega) h2)
    | succ n ih =>
      intro j i g2 a2 e1 e2 e3 hM hrw hold hcur K
      refine zj_iload C dc_M_outlines_30 0 rfl ?_
      refine zj_iload_n C dc_M_outlines_32 rfl 6 rfl ?_
      refine zj_icmp_ge C dc_M_outlines_33 rfl (fun h => absurd h (((zn_nle (by omega) (by omega)).mpr (by omega)))) (fun _ => ?_)
      refine zj_iload C dc_M_outlines_36 1 rfl ?_
      refine zj_if_ne C dc_M_outlines_38 rfl (fun b1 => ?_) (fun b1 => ?_)
      · have b1 := Nat.pos_of_ne_zero (fun e => b1 ((zn_e0 (by omega)).mpr e))
        have hV : (zo_V (fun i j => decide ((zm_f a 4 t R) (pl + j) - a 6 i = (zm_f a 4 t R) pl - a 6 0)) k i j 0) = false := by obtain ⟨i, rfl⟩ : ∃ i9, i = i9 + 1 := ⟨i - 1, by omega⟩; rfl
        refine zj_iconst (v := 0) C dc_M_outlines_50 (by decide) ?_
        refine zj_istore C dc_M_outlines_51 (by decide) rfl ?_
        refine zj_iload C dc_M_outlines_53 1 rfl ?_
        refine zj_iconst (v := 1) C dc_M_outlines_55 (by decide) ?_
        refine zj_isub C dc_M_outlines_56 ?_
        refine zj_istore C dc_M_outlines_57 (by decide) rfl ?_
        refine zj_loc (L' := [(9, .int (nI (j - 0) - 1)), (8, .int (zb_i (zo_V (fun i j => decide ((zm_f a 4 t R) (pl + j) - a 6 i = (zm_f a 4 t R) pl - a 6 0)) k i j 0))), (7, .int (nI j)), (6, .int (nI i)), (5, .int ((zm_f a 4 t R) pl - a 6 0)), (0, .ref (ad 108)), (1, .int (nI t)), (2, .int (nI pl)), (3, .int (nI sp)), (4, .int (nI k))]) [0, 1, 2, 3, 4, 5, 6, 7, 8, 9] (by rw [hV]; rfl) ?_
        refine bl (k + 1) 0 i j g2 a2 rfl (by omega) (by omega) e3 (by omega) hM hrw hold (fun x9 => ?_)
        refine zj_aload_n C dc_M_outlines_117 rfl 5 rfl ?_
        refine zj_get (k := 20) C (by omega) hM.1.1 rfl (by decide) fw_M fl_M_59 rfl rfl dc_M_outlines_118 ?_
        refine zj_bipush (v := 20) C dc_M_outlines_121 (by decide) ?_
        refine zj_iload C dc_M_outlines_123 3 rfl ?_
        refine zj_imul C dc_M_outlines_125 ?_
        refine zj_topi ((show (20 : Int32) * nI i = nI (20 * i) from pk_mul 20 _)) ?_
        refine zj_iload C dc_M_outlines_126 2 rfl ?_
        refine zj_iadd C dc_M_outlines_128 ?_
        refine zj_topi (nI_add _ _) ?_
        refine zj_iload C dc_M_outlines_129 1 rfl ?_
        refine zj_if_eq C dc_M_outlines_131 rfl (fun b3 => ?_) (fun b3 => ?_)
        · have hO : zo_M (fun i j => decide ((zm_f a 4 t R) (pl + j) - a 6 i = (zm_f a 4 t R) pl - a 6 0)) k i j = false := by rw [zo_MV, zb_i0 b3]; rfl
          refine zj_iconst (v := 0) C dc_M_outlines_160 (by decide) ?_
          refine zj_zast C (by omega) hM.1.2.2.2.2.2.2.2.2.2.2.2.2.2.2.2.2.2 rfl (by omega) (by decide) dc_M_outlines_161 ?_
          refine zM_k16 hM (fun g2 hM => ?_)
          refine zj_iinc C dc_M_outlines_162 2 rfl (zn_inc j) (by decide) rfl ?_
          refine zj_goto C dc_M_outlines_165 rfl ?_
          refine zj_loc (L' := [(7, .int (nI (j + 1))), (6, .int (nI i)), (5, .int ((zm_f a 4 t R) pl - a 6 0)), (0, .ref (ad 108)), (1, .int (nI t)), (2, .int (nI pl)), (3, .int (nI sp)), (4, .int (nI k))]) [0, 3, 4, 5, 6, 7, 8, 9] rfl ?_
          exact ih (j + 1) i g2 _ (by omega) (by omega) e3 hM (fun r hr => (va_up_ne _ _ hr).trans (hrw r hr)) (fun i' j' h1 h2 => by show upd (a2 16) (20 * i + j) _ (20 * i' + j') = _; rw [pk_un (by omega)]; exact hold i' j' h1 h2) (fun j' h1 => if c9 : j' = j then (by rw [c9]; show upd (a2 16) (20 * i + j) _ (20 * i + j) = _; rw [pk_us, hO]; rfl) else (by show upd (a2 16) (20 * i + j) _ (20 * i + j') = _; rw [pk_un (by omega)]; exact hcur j' (by omega))) K
        · have b3 := zb_i1 b3
          refine zj_aload_n C dc_M_outlines_134 rfl 5 rfl ?_
          refine zj_iload_n C dc_M_outlines_135 rfl 6 rfl ?_
          refine zj_iload_n C dc_M_outlines_136 rfl 7 rfl ?_
          refine zj_iload C dc_M_outlines_137 2 rfl ?_
          refine zj_iadd C dc_M_outlines_139 ?_
          refine zj_topi (nI_add _ _) ?_
          refine zj_Vi C (ct_M_pitch _ hst z ad N _ _ _ _ _ _ hN hM.1 t (pl + j) R ht (by omega) ((congrFun (hrw 3 (by decide)) _).trans hR) hR1 hR9) gv_M_70 rfl rfl rfl hd_M_pitch ⟨(Nat.le_of_ble_eq_true rfl), (Nat.le_of_ble_eq_true rfl)⟩ (by omega) hM.1.1 rfl rfl rfl (Nat.le_of_ble_eq_true rfl) ⟨(Nat.le_of_ble_eq_true rfl), (Nat.le_of_ble_eq_true rfl)⟩ dc_M_outlines_140 (fun r1 g9 h1 => ?_)
          obtain ⟨hv9, hg9⟩ := h1
          rw [hg9, hv9, hrw 4 (by decide)]
          refine zj_aload_n C dc_M_outlines_143 rfl 5 rfl ?_
          refine zj_get (k := 8) C (by omega) hM.1.1 rfl (by decide) fw_M fl_M_29 rfl rfl dc_M_outlines_144 ?_
          refine zj_iload C dc_M_outlines_147 3 rfl ?_
          refine zj_iald C (by omega) hM.1.2.2.2.2.2.2.2.1 rfl (by omega) (by decide) dc_M_outlines_149 ?_
          refine zj_topi ((congrFun (hrw 6 (by decide)) _)) ?_
          refine zj_isub C dc_M_outlines_150 ?_
          refine zj_iload C dc_M_outlines_151 4 rfl ?_
          refine zj_icmp_ne C dc_M_outlines_153 rfl (fun b4 => ?_) (fun b4 => ?_)
          · have hO : zo_M (fun i j => decide ((zm_f a 4 t R) (pl + j) - a 6 i = (zm_f a 4 t R) pl - a 6 0)) k i j = false := by rw [zo_MV, b3]; exact decide_eq_false b4
            refine zj_iconst (v := 0) C dc_M_outlines_160 (by decide) ?_
            refine zj_zast C (by omega) hM.1.2.2.2.2.2.2.2.2.2.2.2.2.2.2.2.2.2 rfl (by omega) (by decide) dc_M_outlines_161 ?_
            refine zM_k16 hM (fun g2 hM => ?_)
            refine zj_iinc C dc_M_outlines_162 2 rfl (zn_inc j) (by decide) rfl ?_
            refine zj_goto C dc_M_outlines_165 rfl ?_
            refine zj_loc (L' := [(7, .int (nI (j + 1))), (6, .int (nI i)), (5, .int ((zm_f a 4 t R) pl - a 6 0)), (0, .ref (ad 108)), (1, .int (nI t)), (2, .int (nI pl)), (3, .int (nI sp)), (4, .int (nI k))]) [0, 3, 4, 5, 6, 7, 8, 9] rfl ?_
            exact ih (j + 1) i g2 _ (by omega) (by omega) e3 hM (fun r hr => (va_up_ne _ _ hr).trans (hrw r hr)) (fun i' j' h1 h2 => by show upd (a2 16) (20 * i + j) _ (20 * i' + j') = _; rw [pk_un (by omega)]; exact hold i' j' h1 h2) (fun j' h1 => if c9 : j' = j then (by rw [c9]; show upd (a2 16) (20 * i + j) _ (20 * i + j) = _; rw [pk_us, hO]; rfl) else (by show upd (a2 16) (20 * i + j) _ (20 * i + j') = _; rw [pk_un (by omega)]; exact hcur j' (by omega))) K
          · have hO : zo_M (fun i j => decide ((zm_f a 4 t R) (pl + j) - a 6 i = (zm_f a 4 t R) pl - a 6 0)) k i j = true := by rw [zo_MV, b3]; exact decide_eq_true b4
            refine zj_iconst (v := 1) C dc_M_outlines_156 (by decide) ?_
            refine zj_goto C dc_M_outlines_157 rfl ?_
            refine zj_zast C (by omega) hM.1.2.2.2.2.2.2.2.2.2.2.2.2.2.2.2.2.2 rfl (by omega) (by decide) dc_M_outlines_161 ?_
            refine zM_k16 hM (fun g2 hM => ?_)
            refine zj_iinc C dc_M_outlines_162 2 rfl (zn_inc j) (by decide) rfl ?_
            refine zj_goto C dc_M_outlines_165 rfl ?_
            refine zj_loc (L' := [(7, .int (nI (j + 1))), (6, .int (nI i)), (5, .int ((zm_f a 4 t R) pl - a 6 0)), (0, .ref (ad 108)), (1, .int (nI t)), (2, .int (nI pl)), (3, .int (nI sp)), (4, .int (nI k))]) [0, 3, 4, 5, 6, 7, 8, 9] rfl ?_
            exact ih (j + 1) i g2 _ (by omega) (by omega) e3 hM (fun r hr => (va_up_ne _ _ hr).trans (hrw r hr)) (fun i' j' h1 h2 => by show upd (a2 16) (20 * i + j) _ (20 * i' + j') = _; rw [pk_un (by omega)]; exact hold i' j' h1 h2) (fun j' h1 => if c9 : j' = j then (by rw [c9]; show upd (a2 16) (20 * i + j) _ (20 * i + j) = _; rw [pk_us, hO]; rfl) else (by show upd (a2 16) (20 * i + j) _ (20 * i + j') = _; rw [pk_un (by omega)]; exact hcur j' (by omega))) K
      · have b1 := (zn_e0 (by omega)).mp b1
        refine zj_iload C dc_M_outlines_41 0 rfl ?_
        refine zj_if_ne C dc_M_outlines_43 rfl (fun b2 => ?_) (fun b2 => ?_)
        · have hV : (zo_V (fun i j => decide ((zm_f a 4 t R) (pl + j) - a 6 i = (zm_f a 4 t R) pl - a 6 0)) k i j 0) = false := by subst b1; exact decide_eq_false (fun e => b2 ((zn_e0 (by omega)).mpr e))
          refine zj_iconst (v := 0) C dc_M_outlines_50 (by decide) ?_
          refine zj_istore C dc_M_outlines_51 (by decide) rfl ?_
          refine zj_iload C dc_M_outlines_53 1 rfl ?_
          refine zj_iconst (v := 1) C dc_M_outlines_55 (by decide) ?_
          refine zj_isub C dc_M_outlines_56 ?_
          refine zj_istore C dc_M_outlines_57 (by decide) rfl ?_
          refine zj_loc (L' := [(9, .int (nI (j - 0) - 1)), (8, .int (zb_i (zo_V (fun i j => decide ((zm_f a 4 t R) (pl + j) - a 6 i = (zm_f a 4 t R) pl - a 6 0)) k i j 0))), (7, .int (nI j)), (6, .int (nI i)), (5, .int ((zm_f a 4 t R) pl - a 6 0)), (0, .ref (ad 108)), (1, .int (nI t)), (2, .int (nI pl)), (3, .int (nI sp)), (4, .int (nI k))]) [0, 1, 2, 3, 4, 5, 6, 7, 8, 9] (by rw [hV]; rfl) ?_
          refine bl (k + 1) 0 i j g2 a2 rfl (by omega) (by omega) e3 (by omega) hM hrw hold (fun x9 => ?_)
          refine zj_aload_n C dc_M_outlines_117 rfl 5 rfl ?_
          refine zj_get (k := 20) C (by omega) hM.1.1 rfl (by decide) fw_M fl_M_59 rfl rfl dc_M_outlines_118 ?_
          refine zj_bipush (v := 20) C dc_M_outlines_121 (by decide) ?_
          refine zj_iload C dc_M_outlines_123 3 rfl ?_
          refine zj_imul C dc_M_outlines_125 ?_
          refine zj_topi ((show (20 : Int32) * nI i = nI (20 * i) from pk_mul 20 _)) ?_
          refine zj_iload C dc_M_outlines_126 2 rfl ?_
          refine zj_iadd C dc_M_outlines_128 ?_
          refine zj_topi (nI_add _ _) ?_
          refine zj_iload C dc_M_outlines_129 1 rfl ?_
          refine zj_if_eq C dc_M_outlines_131 rfl (fun b3 => ?_) (fun b3 => ?_)
          · have hO : zo_M (fun i j => decide ((zm_f a 4 t R) (pl + j) - a 6 i = (zm_f a 4 t R) pl - a 6 0)) k i j = false := by rw [zo_MV, zb_i0 b3]; rfl
            refine zj_iconst (v := 0) C dc_M_outlines_160 (by decide) ?_
            refine zj_zast C (by omega) hM.1.2.2.2.2.2.2.2.2.2.2.2.2.2.2.2.2.2 rfl (by omega) (by decide) dc_M_outlines_161 ?_
            refine zM_k16 hM (fun g2 hM => ?_)
            refine zj_iinc C dc_M_outlines_162 2 rfl (zn_inc j) (by decide) rfl ?_
            refine zj_goto C dc_M_outlines_165 rfl ?_
            refine zj_loc (L' := [(7, .int (nI (j + 1))), (6, .int (nI i)), (5, .int ((zm_f a 4 t R) pl - a 6 0)), (0, .ref (ad 108)), (1, .int (nI t)), (2, .int (nI pl)), (3, .int (nI sp)), (4, .int (nI k))]) [0, 3, 4, 5, 6, 7, 8, 9] rfl ?_
            exact ih (j + 1) i g2 _ (by omega) (by omega) e3 hM (fun r hr => (va_up_ne _ _ hr).trans (hrw r hr)) (fun i' j' h1 h2 => by show upd (a2 16) (20 * i + j) _ (20 * i' + j') = _; rw [pk_un (by omega)]; exact hold i' j' h1 h2) (fun j' h1 => if c9 : j' = j then (by rw [c9]; show upd (a2 16) (20 * i + j) _ (20 * i + j) = _; rw [pk_us, hO]; rfl) else (by show upd (a2 16) (20 * i + j) _ (20 * i + j') = _; rw [pk_un (by omega)]; exact hcur j' (by omega))) K
          · have b3 := zb_i1 b3
            refine zj_aload_n C dc_M_outlines_134 rfl 5 rfl ?_
            refine zj_iload_n C dc_M_outlines_135 rfl 6 rfl ?_
            refine zj_iload_n C dc_M_outlines_136 rfl 7 rfl ?_
            refine zj_iload C dc_M_outlines_137 2 rfl ?_
            refine zj_iadd C dc_M_outlines_139 ?_
            refine zj_topi (nI_add _ _) ?_
            refine zj_Vi C (ct_M_pitch _ hst z ad N _ _ _ _ _ _ hN hM.1 t (pl + j) R ht (by omega) ((congrFun (hrw 3 (by decide)) _).trans hR) hR1 hR9) gv_M_70 rfl rfl rfl hd_M_pitch ⟨(Nat.le_of_ble_eq_true rfl), (Nat.le_of_ble_eq_true rfl)⟩ (by omega) hM.1.1 rfl rfl rfl (Nat.le_of_ble_eq_true rfl) ⟨(Nat.le_of_ble_eq_true rfl), (Nat.le_of_ble_eq_true rfl)⟩ dc_M_outlines_140 (fun r1 g9 h1 => ?_)
            obtain ⟨hv9, hg9⟩ := h1
            rw [hg9, hv9, hrw 4 (by decide)]
            refine zj_aload_n C dc_M_outlines_143 rfl 5 rfl ?_
            refine zj_get (k := 8) C (by omega) hM.1.1 rfl (by decide) fw_M fl_M_29 rfl rfl dc_M_outlines_144 ?_
            refine zj_iload C dc_M_outlines_147 3 rfl ?_
            refine zj_iald C (by omega) hM.1.2.2.2.2.2.2.2.1 rfl (by omega) (by decide) dc_M_outlines_149 ?_
            refine zj_topi ((congrFun (hrw 6 (by decide)) _)) ?_
            refine zj_isub C dc_M_outlines_150 ?_
            refine zj_iload C dc_M_outlines_151 4 rfl ?_
            refine zj_icmp_ne C dc_M_outlines_153 rfl (fun b4 => ?_) (fun b4 => ?_)
            · have hO : zo_M (fun i j => decide ((zm_f a 4 t R) (pl + j) - a 6 i = (zm_f a 4 t R) pl - a 6 0)) k i j = false := by rw [zo_MV, b3]; exact decide_eq_false b4
              refine zj_iconst (v := 0) C dc_M_outlines_160 (by decide) ?_
              refine zj_zast C (by omega) hM.1.2.2.2.2.2.2.2.2.2.2.2.2.2.2.2.2.2 rfl (by omega) (by decide) dc_M_outlines_161 ?_
              refine zM_k16 hM (fun g2 hM => ?_)
              refine zj_iinc C dc_M_outlines_162 2 rfl (zn_inc j) (by decide) rfl ?_
              refine zj_goto C dc_M_outlines_165 rfl ?_
              refine zj_loc (L' := [(7, .int (nI (j + 1))), (6, .int (nI i)), (5, .int ((zm_f a 4 t R) pl - a 6 0)), (0, .ref (ad 108)), (1, .int (nI t)), (2, .int (nI pl)), (3, .int (nI sp)), (4, .int (nI k))]) [0, 3, 4, 5, 6, 7, 8, 9] rfl ?_
              exact ih (j + 1) i g2 _ (by omega) (by omega) e3 hM (fun r hr => (va_up_ne _ _ hr).trans (hrw r hr)) (fun i' j' h1 h2 => by show upd (a2 16) (20 * i + j) _ (20 * i' + j') = _; rw [pk_un (by omega)]; exact hold i' j' h1 h2) (fun j' h1 => if c9 : j' = j then (by rw [c9]; show upd (a2 16) (20 * i + j) _ (20 * i + j) = _; rw [pk_us, hO]; rfl) else (by show upd (a2 16) (20 * i + j) _ (20 * i + j') = _; rw [pk_un (by omega)]; exact hcur j' (by omega))) K
            · have hO : zo_M (fun i j => decide ((zm_f a 4 t R) (pl + j) - a 6 i = (zm_f a 4 t R) pl - a 6 0)) k i j = true := by rw [zo_MV, b3]; exact decide_eq_true b4
              refine zj_iconst (v := 1) C dc_M_outlines_156 (by decide) ?_
              refine zj_goto C dc_M_outlines_157 rfl ?_
              refine zj_zast C (by omega) hM.1.2.2.2.2.2.2.2.2.2.2.2.2.2.2.2.2.2 rfl (by omega) (by decide) dc_M_outlines_161 ?_
              refine zM_k16 hM (fun g2 hM => ?_)
              refine zj_iinc C dc_M_outlines_162 2 rfl (zn_inc j) (by decide) rfl ?_
              refine zj_goto C dc_M_outlines_165 rfl ?_
              refine zj_loc (L' := [(7, .int (nI (j + 1))), (6, .int (nI i)), (5, .int ((zm_f a 4 t R) pl - a 6 0)), (0, .ref (ad 108)), (1, .int (nI t)), (2, .int (nI pl)), (3, .int (nI sp)), (4, .int (nI k))]) [0, 3, 4, 5, 6, 7, 8, 9] rfl ?_
              exact ih (j + 1) i g2 _ (by omega) (by omega) e3 hM (fun r hr => (va_up_ne _ _ hr).trans (hrw r hr)) (fun i' j' h1 h2 => by show upd (a2 16) (20 * i + j) _ (20 * i' + j') = _; rw [pk_un (by omega)]; exact hold i' j' h1 h2) (fun j' h1 => if c9 : j' = j then (by rw [c9]; show upd (a2 16) (20 * i + j) _ (20 * i + j) = _; rw [pk_us, hO]; rfl) else (by show upd (a2 16) (20 * i + j) _ (20 * i + j') = _; rw [pk_un (by omega)]; exact hcur j' (by omega))) K
        · have hV : (zo_V (fun i j => decide ((zm_f a 4 t R) (pl + j) - a 6 i = (zm_f a 4 t R) pl - a 6 0)) k i j 0) = true := by subst b1; exact decide_eq_true ((zn_e0 (by omega)).mp b2)
          refine zj_iconst (v := 1) C dc_M_outlines_46 (by decide) ?_
          refine zj_goto C dc_M_outlines_47 rfl ?_
          refine zj_istore C dc_M_outlines_51 (by decide) rfl ?_
          refine zj_iload C dc_M_outlines_53 1 rfl ?_
          refine zj_iconst (v := 1) C dc_M_outlines_55 (by decide) ?_
          refine zj_isub C dc_M_outlines_56 ?_
          refine zj_istore C dc_M_outlines_57 (by decide) rfl ?_
          refine zj_loc (L' := [(9, .int (nI (j - 0) - 1)), (8, .int (zb_i (zo_V (fun i j => decide ((zm_f a 4 t R) (pl + j) - a 6 i = (zm_f a 4 t R) pl - a 6 0)) k i j 0))), (7, .int (nI j)), (6, .int (nI i)), (5, .int ((zm_f a 4 t R) pl - a 6 0)), (0, .ref (ad 108)), (1, .int (nI t)), (2, .int (nI pl)), (3, .int (nI sp)), (4, .int (nI k))]) [0, 1, 2, 3, 4, 5, 6, 7, 8, 9] (by rw [hV]; rfl) ?_
          refine bl (k + 1) 0 i j g2 a2 rfl (by omega) (by omega) e3 (by omega) hM hrw hold (fun x9 => ?_)
          refine zj_aload_n C dc_M_outlines_117 rfl 5 rfl ?_
          refine zj_get (k := 20) C (by omega) hM.1.1 rfl (by decide) fw_M fl_M_59 rfl rfl dc_M_outlines_118 ?_
          refine zj_bipush (v := 20) C dc_M_outlines_121 (by decide) ?_
          refine zj_iload C dc_M_outlines_123 3 rfl ?_
          refine zj_imul C dc_M_outlines_125 ?_
          refine zj_topi ((show (20 : Int32) * nI i = nI (20 * i) from pk_mul 20 _)) ?_
          refine zj_iload C dc_M_outlines_126 2 rfl ?_
          refine zj_iadd C dc_M_outlines_128 ?_
          refine zj_topi (nI_add _ _) ?_
          refine zj_iload C dc_M_outlines_129 1 rfl ?_
          refine zj_if_eq C dc_M_outlines_131 rfl (fun b3 => ?_) (fun b3 => ?_)
          · have hO : zo_M (fun i j => decide ((zm_f a 4 t R) (pl + j) - a 6 i = (zm_f a 4 t R) pl - a 6 0)) k i j = false := by rw [zo_MV, zb_i0 b3]; rfl
            refine zj_iconst (v := 0) C dc_M_outlines_160 (by decide) ?_
            refine zj_zast C (by omega) hM.1.2.2.2.2.2.2.2.2.2.2.2.2.2.2.2.2.2 rfl (by omega) (by decide) dc_M_outlines_161 ?_
            refine zM_k16 hM (fun g2 hM => ?_)
            refine zj_iinc C dc_M_outlines_162 2 rfl (zn_inc j) (by decide) rfl ?_
            refine zj_goto C dc_M_outlines_165 rfl ?_
            refine zj_loc (L' := [(7, .int (nI (j + 1))), (6, .int (nI i)), (5, .int ((zm_f a 4 t R) pl - a 6 0)), (0, .ref (ad 108)), (1, .int (nI t)), (2, .int (nI pl)), (3, .int (nI sp)), (4, .int (nI k))]) [0, 3, 4, 5, 6, 7, 8, 9] rfl ?_
            exact ih (j + 1) i g2 _ (by omega) (by omega) e3 hM (fun r hr => (va_up_ne _ _ hr).trans (hrw r hr)) (fun i' j' h1 h2 => by show upd (a2 16) (20 * i + j) _ (20 * i' + j') = _; rw [pk_un (by omega)]; exact hold i' j' h1 h2) (fun j' h1 => if c9 : j' = j then (by rw [c9]; show upd (a2 16) (20 * i + j) _ (20 * i + j) = _; rw [pk_us, hO]; rfl) else (by show upd (a2 16) (20 * i + j) _ (20 * i + j') = _; rw [pk_un (by omega)]; exact hcur j' (by omega))) K
          · have b3 := zb_i1 b3
            refine zj_aload_n C dc_M_outlines_134 rfl 5 rfl ?_
            refine zj_iload_n C dc_M_outlines_135 rfl 6 rfl ?_
            refine zj_iload_n C dc_M_outlines_136 rfl 7 rfl ?_
            refine zj_iload C dc_M_outlines_137 2 rfl ?_
            refine zj_iadd C dc_M_outlines_139 ?_
            refine zj_topi (nI_add _ _) ?_
            refine zj_Vi C (ct_M_pitch _ hst z ad N _ _ _ _ _ _ hN hM.1 t (pl + j) R ht (by omega) ((congrFun (hrw 3 (by decide)) _).trans hR) hR1 hR9) gv_M_70 rfl rfl rfl hd_M_pitch ⟨(Nat.le_of_ble_eq_true rfl), (Nat.le_of_ble_eq_true rfl)⟩ (by omega) hM.1.1 rfl rfl rfl (Nat.le_of_ble_eq_true rfl) ⟨(Nat.le_of_ble_eq_true rfl), (Nat.le_of_ble_eq_true rfl)⟩ dc_M_outlines_140 (fun r1 g9 h1 => ?_)
            obtain ⟨hv9, hg9⟩ := h1
            rw [hg9, hv9, hrw 4 (by decide)]
            refine zj_aload_n C dc_M_outlines_143 rfl 5 rfl ?_
            refine zj_get (k := 8) C (by omega) hM.1.1 rfl (by decide) fw_M fl_M_29 rfl rfl dc_M_outlines_144 ?_
            refine zj_iload C dc_M_outlines_147 3 rfl ?_
            refine zj_iald C (by omega) hM.1.2.2.2.2.2.2.2.1 rfl (by omega) (by decide) dc_M_outlines_149 ?_
            refine zj_topi ((congrFun (hrw 6 (by decide)) _)) ?_
            refine zj_isub C dc_M_outlines_150 ?_
            refine zj_iload C dc_M_outlines_151 4 rfl ?_
            refine zj_icmp_ne C dc_M_outlines_153 rfl (fun b4 => ?_) (fun b4 => ?_)
            · have hO : zo_M (fun i j => decide ((zm_f a 4 t R) (pl + j) - a 6 i = (zm_f a 4 t R) pl - a 6 0)) k i j = false := by rw [zo_MV, b3]; exact decide_eq_false b4
              refine zj_iconst (v := 0) C dc_M_outlines_160 (by decide) ?_
              refine zj_zast C (by omega) hM.1.2.2.2.2.2.2.2.2.2.2.2.2.2.2.2.2.2 rfl (by omega) (by decide) dc_M_outlines_161 ?_
              refine zM_k16 hM (fun g2 hM => ?_)
              refine zj_iinc C dc_M_outlines_162 2 rfl (zn_inc j) (by decide) rfl ?_
              refine zj_goto C dc_M_outlines_165 rfl ?_
              refine zj_loc (L' := [(7, .int (nI (j + 1))), (6, .int (nI i)), (5, .int ((zm_f a 4 t R) pl - a 6 0)), (0, .ref (ad 108)), (1, .int (nI t)), (2, .int (nI pl)), (3, .int (nI sp)), (4, .int (nI k))]) [0, 3, 4, 5, 6, 7, 8, 9] rfl ?_
              exact ih (j + 1) i g2 _ (by omega) (by omega) e3 hM (fun r hr => (va_up_ne _ _ hr).trans (hrw r hr)) (fun i' j' h1 h2 => by show upd (a2 16) (20 * i + j) _ (20 * i' + j') = _; rw [pk_un (by omega)]; exact hold i' j' h1 h2) (fun j' h1 => if c9 : j' = j then (by rw [c9]; show upd (a2 16) (20 * i + j) _ (20 * i + j) = _; rw [pk_us, hO]; rfl) else (by show upd (a2 16) (20 * i + j) _ (20 * i + j') = _; rw [pk_un (by omega)]; exact hcur j' (by omega))) K
            · have hO : zo_M (fun i j => decide ((zm_f a 4 t R) (pl + j) - a 6 i = (zm_f a 4 t R) pl - a 6 0)) k i j = true := by rw [zo_MV, b3]; exact decide_eq_true b4
              refine zj_iconst (v := 1) C dc_M_outlines_156 (by decide) ?_
              refine zj_goto C dc_M_outlines_157 rfl ?_
              refine zj_zast C (by omega) hM.1.2.2.2.2.2.2.2.2.2.2.2.2.2.2.2.2.2 rfl (by omega) (by decide) dc_M_outlines_161 ?_
              refine zM_k16 hM (fun g2 hM => ?_)
              refine zj_iinc C dc_M_outlines_162 2 rfl (zn_inc j) (by decide) rfl ?_
              refine zj_goto C dc_M_outlines_165 rfl ?_
              refine zj_loc (L' := [(7, .int (nI (j + 1))), (6, .int (nI i)), (5, .int ((zm_f a 4 t R) pl - a 6 0)), (0, .ref (ad 108)), (1, .int (nI t)), (2, .int (nI pl)), (3, .int (nI sp)), (4, .int (nI k))]) [0, 3, 4, 5, 6, 7, 8, 9] rfl ?_
              exact ih (j + 1) i g2 _ (by omega) (by omega) e3 hM (fun r hr => (va_up_ne _ _ hr).trans (hrw r hr)) (fun i' j' h1 h2 => by show upd (a2 16) (20 * i + j) _ (20 * i' + j') = _; rw [pk_un (by omega)]; exact hold i' j' h1 h2) (fun j' h1 => if c9 : j' = j then (by rw [c9]; show upd (a2 16) (20 * i + j) _ (20 * i + j) = _; rw [pk_us, hO]; rfl) else (by show upd (a2 16) (20 * i + j) _ (20 * i + j') = _; rw [pk_un (by omega)]; exact hcur j' (by omega))) K
  have outl : ∀ (n : Nat) (i : Nat) (g2 : Nat → va_E) (a2 : Nat → Nat → Int32), qc - i = n → i ≤ qc → zm_M z ad g g2 c (nI qc) fo kp a2 → (∀ r, r ≠ 16 → a2 r = a r) → (∀ i' j', i' < i → j' < sp → a2 16 (20 * i' + j') = zb_i (zo_M (fun i j => decide ((zm_f a 4 t R) (pl + j) - a 6 i = (zm_f a 4 t R) pl - a 6 0)) k i' j')) → zj_J X 0 0 (zj_Qi X 0 0 ad N (fun r g1 => ∃ a1, r = zb_i (zo_M (fun i j => decide ((zm_f a 4 t R) (pl + j) - a 6 i = (zm_f a 4 t R) pl - a 6 0)) k (qc - 1) (sp - 1)) ∧ zm_M z ad g g1 c (nI qc) fo kp a1 ∧ ∀ r, r ≠ 16 → a1 r = a r)) ad N g2 18 [(6, .int (nI i)), (5, .int ((zm_f a 4 t R) pl - a 6 0)), (0, .ref (ad 108)), (1, .int (nI t)), (2, .int (nI pl)), (3, .int (nI sp)), (4, .int (nI k))] [] := by
    intro n
    induction n with
    | zero =>
      intro i g2 a2 e1 e2 hM hrw hold
      refine zj_iload C dc_M_outlines_18 0 rfl ?_
      refine zj_aload_n C dc_M_outlines_20 rfl 2 rfl ?_
      refine zj_get (k := 7) C (by omega) hM.1.1 rfl (by decide) fw_M fl_M_89 rfl rfl dc_M_outlines_21 ?_
      refine zj_icmp_ge C dc_M_outlines_24 rfl (fun _ => ?_) (fun h => absurd h (not_not_intro ((nI_leI (by omega) (by omega)).mpr (by omega))))
      refine zj_aload_n C dc_M_outlines_174 rfl 2 rfl ?_
      refine zj_get (k := 20) C (by omega) hM.1.1 rfl (by decide) fw_M fl_M_59 rfl rfl dc_M_outlines_175 ?_
      refine zj_bipush (v := 20) C dc_M_outlines_178 (by decide) ?_
      refine zj_aload_n C dc_M_outlines_180 rfl 2 rfl ?_
      refine zj_get (k := 7) C (by omega) hM.1.1 rfl (by decide) fw_M fl_M_89 rfl rfl dc_M_outlines_181 ?_
      refine zj_iconst (v := 1) C dc_M_outlines_184 (by decide) ?_
      refine zj_isub C dc_M_outlines_185 ?_
      refine zj_topi (zn_m1 (by omega)) ?_
      refine zj_imul C dc_M_outlines_186 ?_
      refine zj_topi ((show (20 : Int32) * nI (qc - 1) = nI (20 * (qc - 1)) from pk_mul 20 _)) ?_
      refine zj_iload_n C dc_M_outlines_187 rfl 5 rfl ?_
      refine zj_iadd C dc_M_outlines_188 ?_
      refine zj_topi (nI_add _ _) ?_
      refine zj_iconst (v := 1) C dc_M_outlines_189 (by decide) ?_
      refine zj_isub C dc_M_outlines_190 ?_
      refine zj_topi ((zn_m1 (by omega)).trans (by rw [Nat.add_sub_assoc (by omega)])) ?_
      refine zj_zald C (by omega) hM.1.2.2.2.2.2.2.2.2.2.2.2.2.2.2.2.2.2 rfl (by omega) (by decide) dc_M_outlines_191 ?_
      refine zj_topi (hold (qc - 1) (sp - 1) (by omega) (by omega)) ?_
      exact zj_zret C dc_M_outlines_192 (by first | rfl | (unfold zb_i; split <;> rfl)) ⟨a2, rfl, hM, hrw⟩
    | succ n ih =>
      intro i g2 a2 e1 e2 hM hrw hold
      refine zj_iload C dc_M_outlines_18 0 rfl ?_
      refine zj_aload_n C dc_M_outlines_20 rfl 2 rfl ?_
      refine zj_get (k := 7) C (by omega) hM.1.1 rfl (by decide) fw_M fl_M_89 rfl rfl dc_M_outlines_21 ?_
      refine zj_icmp_ge C dc_M_outlines_24 rfl (fun h => absurd h (((zn_nle (by omega) (by omega)).mpr (by omega)))) (fun _ => ?_)
      refine zj_iconst (v := 0) C dc_M_outlines_27 (by decide) ?_
      refine zj_istore C dc_M_outlines_28 (by decide) rfl ?_
      refine zj_loc (L' := [(7, .int (nI 0)), (6, .int (nI i)), (5, .int ((zm_f a 4 t R) pl - a 6 0)), (0, .ref (ad 108)), (1, .int (nI t)), (2, .int (nI pl)), (3, .int (nI sp)), (4, .int (nI k))]) [0, 1, 2, 3, 4, 5, 6, 7] rfl ?_
      refine inn sp 0 i g2 a2 rfl (by omega) (by omega) hM hrw hold (fun j' h => absurd h (Nat.not_lt_zero j')) (fun x7 g2 a2 hM hrw hold => ?_)
      refine zj_iinc C dc_M_outlines_168 1 rfl (zn_inc i) (by decide) rfl ?_
      refine zj_goto C dc_M_outlines_171 rfl ?_
      refine zj_loc (L' := [(6, .int (nI (i + 1))), (5, .int ((zm_f a 4 t R) pl - a 6 0)), (0, .ref (ad 108)), (1, .int (nI t)), (2, .int (nI pl)), (3, .int (nI sp)), (4, .int (nI k))]) [0, 2, 3, 4, 5, 6, 7] rfl ?_
      exact ih (i + 1) g2 a2 (by omega) (by omega) hM hrw hold
  refine zj_aload_n C dc_M_outlines_0 rfl 0 rfl ?_
  refine zj_iload_n C dc_M_outlines_1 rfl 1 rfl ?_
  refine zj_iload_n C dc_M_outlines_2 rfl 2 rfl ?_
  refine zj_Vi C (ct_M_pitch _ hst z ad N _ _ _ _ _ _ hN hM.1 (t) (pl) (R) (by omega) (by omega) hR hR1 hR9) gv_M_70 rfl rfl rfl hd_M_pitch ⟨(Nat.le_of_ble_eq_true rfl), (Nat.le_of_ble_eq_true rfl)⟩ (by omega) hM.1.1 rfl rfl rfl (Nat.le_of_ble_eq_true rfl) ⟨(Nat.le_of_ble_eq_true rfl), (Nat.le_of_ble_eq_true rfl)⟩ dc_M_outlines_3 (fun r1 g9 h1 => ?_)
  obtain ⟨rfl, hg9⟩ := h1
  rw [hg9]
  refine zj_aload_n C dc_M_outlines_6 rfl 0 rfl ?_
  refine zj_get (k := 8) C (by omega) hM.1.1 rfl (by decide) fw_M fl_M_29 rfl rfl dc_M_outlines_7 ?_
  refine zj_iconst (v := 0) C dc_M_outlines_10 (by decide) ?_
  refine zj_topi (nI_0.symm) ?_
  refine zj_iald C (by omega) hM.1.2.2.2.2.2.2.2.1 rfl (by omega) (by decide) dc_M_outlines_11 ?_
  refine zj_isub C dc_M_outlines_12 ?_
  refine zj_istore C dc_M_outlines_13 (by decide) rfl ?_
  refine zj_iconst (v := 0) C dc_M_outlines_15 (by decide) ?_
  refine zj_istore C dc_M_outlines_16 (by decide) rfl ?_
  refine zj_loc (L' := [(6, .int (nI 0)), (5, .int ((zm_f a 4 t R) pl - a 6 0)), (0, .ref (ad 108)), (1, .int (nI t)), (2, .int (nI pl)), (3, .int (nI sp)), (4, .int (nI k))]) [0, 1, 2, 3, 4, 5, 6] rfl ?_
  exact outl qc 0 g a rfl (by omega) hM (fun r _ => rfl) (fun i' j' h => absurd h (Nat.not_lt_zero i'))
end ZMS
