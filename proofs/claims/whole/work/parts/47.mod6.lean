section ZMT
/-- the ways to a cell of the table: paired, then one more of the query, then one more of the tune -/
def zp_W (same : Nat → Nat → Bool) (i j : Nat) : Nat → Nat × Nat
  | 0 => zp_dg (same (i - 1) (j - 1)) (zp_dp same (i - 1) (j - 1))
  | 1 => zp_mn (zp_dg (same (i - 1) (j - 1)) (zp_dp same (i - 1) (j - 1))) (zp_inc (zp_dp same (i - 1) j))
  | _ => zp_mn (zp_mn (zp_dg (same (i - 1) (j - 1)) (zp_dp same (i - 1) (j - 1))) (zp_inc (zp_dp same (i - 1) j))) (zp_inc (zp_dp same i (j - 1)))
theorem zp_W2 {same : Nat → Nat → Bool} {i j : Nat} (hi : 0 < i) (hj : 0 < j) : zp_W same i j 2 = zp_dp same i j := by
  obtain ⟨i, rfl⟩ : ∃ i9, i = i9 + 1 := ⟨i - 1, by omega⟩
  obtain ⟨j, rfl⟩ : ∃ j9, j = j9 + 1 := ⟨j - 1, by omega⟩
  rw [zp_dpS]
  rfl
theorem zp_dp_b (same : Nat → Nat → Bool) {i j : Nat} (hi : i < 8) (hj : j < 20) : (zp_dp same i j).1 ≤ 40 ∧ (zp_dp same i j).2 ≤ 40 := by
  have h1 := zp_dp_up same i j
  have h2 := zp_dp_le same i j
  omega
set_option maxHeartbeats 4000000 in
set_option maxRecDepth 100000 in
theorem ct_M_distance (l : Launch) (hst : l.stackTraces = false) (z : zv_T) (ad : Nat → Nat) (N : Nat) (g : Nat → va_E) (c as fo kp : Int32) (a : Nat → Nat → Int32) (hN : 126 ≤ N) (hM0 : zs_M z ad g c as fo kp a) (qc t R : Nat) (has : as = nI qc) (hqc : 2 ≤ qc) (hqc8 : qc ≤ 8) (ht : t < 8) (hR : a 3 t = nI R) (hR1 : 1 ≤ R) (hR9 : R ≤ 9) (pl sp : Nat) (hsp : 1 ≤ sp) (hpl : pl + sp ≤ 20) : zm_i l mn_M_distance ws_M_distance rm_M_distance z ad N g [.ref (ad 108), .int (nI t), .int (nI pl), .int (nI sp)] (fun r g1 => ∃ a1, r = nI (zp_dp (zp_sm (a 6) (zm_f a 4 t R) pl) (qc - 1) (sp - 1)).1 ∧ a1 15 (20 * (qc - 1) + (sp - 1)) = nI (zp_dp (zp_sm (a 6) (zm_f a 4 t R) pl) (qc - 1) (sp - 1)).2 ∧ zm_M z ad g g1 c (nI qc) fo kp a1 ∧ ∀ r, r ≠ 14 → r ≠ 15 → a1 r = a r) := by
  have hM : zm_M z ad g g c as fo kp a := ⟨hM0, fun _ _ => rfl⟩
  subst has
  refine zm_ofi hst pn_M_distance rfl (Nat.le_of_ble_eq_true rfl) (fun X hX C => ?_)
  subst hX
  show zj_J X 0 0 _ ad N g 0 [(0, .ref (ad 108)), (1, .int (nI t)), (2, .int (nI pl)), (3, .int (nI sp))] []
  have way : ∀ (n : Nat) (w i j : Nat) (Pp : Nat × Nat) (g2 : Nat → va_E) (a2 : Nat → Nat → Int32), 2 - w = n → w ≤ 2 → 0 < i → 0 < j → i < qc → j < sp → zm_M z ad g g2 c (nI qc) fo kp a2 → (∀ r, r ≠ 14 → r ≠ 15 → a2 r = a r) → (a2 14 (20 * (i - 1) + j) = nI (zp_dp (zp_sm (a 6) (zm_f a 4 t R) pl) ((i - 1)) (j)).1 ∧ a2 15 (20 * (i - 1) + j) = nI (zp_dp (zp_sm (a 6) (zm_f a 4 t R) pl) ((i - 1)) (j)).2) → (a2 14 (20 * i + (j - 1)) = nI (zp_dp (zp_sm (a 6) (zm_f a 4 t R) pl) (i) ((j - 1))).1 ∧ a2 15 (20 * i + (j - 1)) = nI (zp_dp (zp_sm (a 6) (zm_f a 4 t R) pl) (i) ((j - 1))).2) → Pp = (zp_W (zp_sm (a 6) (zm_f a 4 t R) pl) i j w) → Pp.1 ≤ 60 → Pp.2 ≤ 60 → (∀ x9 : Int32, zj_J X 0 0 (zj_Qi X 0 0 ad N (fun r g1 => ∃ a1, r = nI (zp_dp (zp_sm (a 6) (zm_f a 4 t R) pl) (qc - 1) (sp - 1)).1 ∧ a1 15 (20 * (qc - 1) + (sp - 1)) = nI (zp_dp (zp_sm (a 6) (zm_f a 4 t R) pl) (qc - 1) (sp - 1)).2 ∧ zm_M z ad g g1 c (nI qc) fo kp a1 ∧ ∀ r, r ≠ 14 → r ≠ 15 → a1 r = a r)) ad N g2 259 [(9, .int x9), (7, .int (nI (zp_W (zp_sm (a 6) (zm_f a 4 t R) pl) i j 2).2)), (6, .int (nI (zp_W (zp_sm (a 6) (zm_f a 4 t R) pl) i j 2).1)), (5, .int (nI j)), (4, .int (nI i)), (0, .ref (ad 108)), (1, .int (nI t)), (2, .int (nI pl)), (3, .int (nI sp))] []) → zj_J X 0 0 (zj_Qi X 0 0 ad N (fun r g1 => ∃ a1, r = nI (zp_dp (zp_sm (a 6) (zm_f a 4 t R) pl) (qc - 1) (sp - 1)).1 ∧ a1 15 (20 * (qc - 1) + (sp - 1)) = nI (zp_dp (zp_sm (a 6) (zm_f a 4 t R) pl) (qc - 1) (sp - 1)).2 ∧ zm_M z ad g g1 c (nI qc) fo kp a1 ∧ ∀ r, r ≠ 14 → r ≠ 15 → a1 r = a r)) ad N g2 150 [(9, .int (nI w)), (7, .int (nI Pp.2)), (6, .int (nI Pp.1)), (5, .int (nI j)), (4, .int (nI i)), (0, .ref (ad 108)), (1, .int (nI t)), (2, .int (nI pl)), (3, .int (nI sp))] [] := by
    intro n
    induction n with
    | zero =>
      intro w i j Pp g2 a2 e1 e2 e3 e4 e5 e6 hM hrw hup hle hP hb1 hb2 K
      refine zj_iload C dc_M_distance_150 0 rfl ?_
      refine zj_iconst (v := 2) C dc_M_distance_152 (by decide) ?_
      refine zj_icmp_ge C dc_M_distance_153 rfl (fun _ => ?_) (fun h => absurd h (not_not_intro ((nI_leI (a := 2) (by omega) (by omega)).mpr (by omega))))
      refine zj_loc [0, 1, 2, 3, 4, 5, 6, 7, 8] rfl ?_
      exact (show Pp = _ by rw [hP, show w = 2 by omega]) ▸ K _
    | succ n ih =>
      intro w i j Pp g2 a2 e1 e2 e3 e4 e5 e6 hM hrw hup hle hP hb1 hb2 K
      refine zj_iload C dc_M_distance_150 0 rfl ?_
      refine zj_iconst (v := 2) C dc_M_distance_152 (by decide) ?_
      refine zj_icmp_ge C dc_M_distance_153 rfl (fun h => absurd h (((zn_nle (a := 2) (by omega) (by omega)).mpr (by omega)))) (fun _ => ?_)
      refine zj_iload C dc_M_distance_156 0 rfl ?_
      refine zj_if_ne C dc_M_distance_158 rfl (fun b0 => ?_) (fun b0 => ?_)
      · have b0 : ¬ w = 0 := fun e => b0 ((zn_e0 (by omega)).mpr e)
        obtain rfl : w = 1 := by omega
        obtain ⟨cc, hcc⟩ : ∃ cc : Nat × Nat, cc = (zp_dp (zp_sm (a 6) (zm_f a 4 t R) pl) (i) (j - 1)) := ⟨_, rfl⟩
        have hc1 : a2 14 _ = _ := hle.1
        have hc2 : a2 15 _ = _ := hle.2
        have hcb := zp_dp_b (zp_sm (a 6) (zm_f a 4 t R) pl) (i := i) (j := j - 1) (by omega) (by omega)
        rw [← hcc] at hc1 hc2 hcb
        have hW : (zp_W (zp_sm (a 6) (zm_f a 4 t R) pl) i j 2) = zp_mn Pp (zp_inc cc) := by rw [hP, hcc]; rfl
        refine zj_bipush (v := 20) C dc_M_distance_174 (by decide) ?_
        refine zj_iload C dc_M_distance_176 4 rfl ?_
        refine zj_imul C dc_M_distance_178 ?_
        refine zj_topi (show (20 : Int32) * nI i = nI (20 * i) from pk_mul 20 _) ?_
        refine zj_iload C dc_M_distance_179 3 rfl ?_
        refine zj_iadd C dc_M_distance_181 ?_
        refine zj_topi (nI_add _ _) ?_
        refine zj_iconst (v := 1) C dc_M_distance_182 (by decide) ?_
        refine zj_isub C dc_M_distance_183 ?_
        refine zj_topi ((zn_m1 (by omega)).trans (congrArg nI (Nat.add_sub_assoc (by omega) _))) ?_
        refine zj_istore C dc_M_distance_184 (by decide) rfl ?_
        refine zj_aload_n C dc_M_distance_186 rfl 6 rfl ?_
        refine zj_get (k := 18) C (by omega) hM.1.1 rfl (by decide) fw_M fl_M_53 rfl rfl dc_M_distance_187 ?_
        refine zj_iload C dc_M_distance_190 0 rfl ?_
        refine zj_iald C (by omega) hM.1.2.2.2.2.2.2.2.2.2.2.2.2.2.2.2.1 rfl (by omega) (by decide) dc_M_distance_192 ?_
        refine zj_topi (hc1) ?_
        refine zj_iconst (v := 1) C dc_M_distance_193 (by decide) ?_
        refine zj_iadd C dc_M_distance_194 ?_
        refine zj_topi (nI_1 _) ?_
        refine zj_istore C dc_M_distance_195 (by decide) rfl ?_
        refine zj_iload C dc_M_distance_197 0 rfl ?_
        refine zj_iload C dc_M_distance_199 4 rfl ?_
        refine zj_icmp_lt C dc_M_distance_201 rfl (fun b1 => ?_) (fun b1 => ?_)
        · skip
          refine zj_aload_n C dc_M_distance_223 rfl 7 rfl ?_
          refine zj_get (k := 19) C (by omega) hM.1.1 rfl (by decide) fw_M fl_M_56 rfl rfl dc_M_distance_224 ?_
          refine zj_iload C dc_M_distance_227 1 rfl ?_
          refine zj_iald C (by omega) hM.1.2.2.2.2.2.2.2.2.2.2.2.2.2.2.2.2.1 rfl (by omega) (by decide) dc_M_distance_229 ?_
          refine zj_topi (hc2) ?_
          refine zj_goto C dc_M_distance_230 rfl ?_
          refine zj_istore C dc_M_distance_235 (by decide) rfl ?_
          refine zj_iload C dc_M_distance_237 1 rfl ?_
          refine zj_iload C dc_M_distance_239 4 rfl ?_
          refine zj_icmp_ge C dc_M_distance_241 rfl (fun h => absurd b1 (Int32.not_lt.mpr h)) (fun _ => ?_)
          refine zj_iload C dc_M_distance_244 1 rfl ?_
          refine zj_goto C dc_M_distance_246 rfl ?_
          refine zj_istore C dc_M_distance_251 (by decide) rfl ?_
          refine zj_iinc C dc_M_distance_253 4 rfl (zn_inc _) (by decide) rfl ?_
          refine zj_goto C dc_M_distance_256 rfl ?_
          refine zj_loc (L' := [(9, .int (nI (1 + 1))), (7, .int (nI (cc.1 + 1, cc.2).2)), (6, .int (nI (cc.1 + 1, cc.2).1)), (5, .int (nI j)), (4, .int (nI i)), (0, .ref (ad 108)), (1, .int (nI t)), (2, .int (nI pl)), (3, .int (nI sp))]) [0, 2, 1, 5, 6, 7, 8, 9, 10] rfl ?_
          exact ih _ i j (cc.1 + 1, cc.2) g2 a2 (by omega) (by omega) e3 e4 e5 e6 hM hrw hup hle (hW.trans (if_pos (Or.inl ((nI_ltI (by omega) (by omega)).mp b1)))).symm (by show cc.1 + 1 ≤ 60; omega) (by show cc.2 ≤ 60; omega) K
        · skip
          refine zj_iload C dc_M_distance_204 0 rfl ?_
          refine zj_iload C dc_M_distance_206 4 rfl ?_
          refine zj_icmp_ne C dc_M_distance_208 rfl (fun b2 => ?_) (fun b2 => ?_)
          · skip
            refine zj_iload C dc_M_distance_233 3 rfl ?_
            refine zj_istore C dc_M_distance_235 (by decide) rfl ?_
            refine zj_iload C dc_M_distance_237 1 rfl ?_
            refine zj_iload C dc_M_distance_239 4 rfl ?_
            refine zj_icmp_ge C dc_M_distance_241 rfl (fun _ => ?_) (fun h => absurd (Int32.not_lt.mp b1) h)
            refine zj_iload C dc_M_distance_249 4 rfl ?_
            refine zj_istore C dc_M_distance_251 (by decide) rfl ?_
            refine zj_iinc C dc_M_distance_253 4 rfl (zn_inc _) (by decide) rfl ?_
            refine zj_goto C dc_M_distance_256 rfl ?_
            refine zj_loc (L' := [(9, .int (nI (1 + 1))), (7, .int (nI Pp.2)), (6, .int (nI Pp.1)), (5, .int (nI j)), (4, .int (nI i)), (0, .ref (ad 108)), (1, .int (nI t)), (2, .int (nI pl)), (3, .int (nI sp))]) [0, 2, 1, 5, 6, 7, 8, 9, 10] rfl ?_
            exact ih _ i j Pp g2 a2 (by omega) (by omega) e3 e4 e5 e6 hM hrw hup hle (hW.trans (if_neg (fun h => by have h : cc.1 + 1 < Pp.1 ∨ (cc.1 + 1 = Pp.1 ∧ Pp.2 < cc.2) := h; have q1 := (zn_nlt (by omega) (by omega)).mp b1; have q2 := (zn_ne (by omega) (by omega)).mp b2; omega))).symm hb1 hb2 K
          · skip
            refine zj_aload_n C dc_M_distance_211 rfl 7 rfl ?_
            refine zj_get (k := 19) C (by omega) hM.1.1 rfl (by decide) fw_M fl_M_56 rfl rfl dc_M_distance_212 ?_
            refine zj_iload C dc_M_distance_215 1 rfl ?_
            refine zj_iald C (by omega) hM.1.2.2.2.2.2.2.2.2.2.2.2.2.2.2.2.2.1 rfl (by omega) (by decide) dc_M_distance_217 ?_
            refine zj_topi (hc2) ?_
            refine zj_iload C dc_M_distance_218 3 rfl ?_
            refine zj_icmp_le C dc_M_distance_220 rfl (fun b3 => ?_) (fun b3 => ?_)
            · skip
              refine zj_iload C dc_M_distance_233 3 rfl ?_
              refine zj_istore C dc_M_distance_235 (by decide) rfl ?_
              refine zj_iload C dc_M_distance_237 1 rfl ?_
              refine zj_iload C dc_M_distance_239 4 rfl ?_
              refine zj_icmp_ge C dc_M_distance_241 rfl (fun _ => ?_) (fun h => absurd (Int32.not_lt.mp b1) h)
              refine zj_iload C dc_M_distance_249 4 rfl ?_
              refine zj_istore C dc_M_distance_251 (by decide) rfl ?_
              refine zj_iinc C dc_M_distance_253 4 rfl (zn_inc _) (by decide) rfl ?_
              refine zj_goto C dc_M_distance_256 rfl ?_
              refine zj_loc (L' := [(9, .int (nI (1 + 1))), (7, .int (nI Pp.2)), (6, .int (nI Pp.1)), (5, .int (nI j)), (4, .int (nI i)), (0, .ref (ad 108)), (1, .int (nI t)), (2, .int (nI pl)), (3, .int (nI sp))]) [0, 2, 1, 5, 6, 7, 8, 9, 10] rfl ?_
              exact ih _ i j Pp g2 a2 (by omega) (by omega) e3 e4 e5 e6 hM hrw hup hle (hW.trans (if_neg (fun h => by have h : cc.1 + 1 < Pp.1 ∨ (cc.1 + 1 = Pp.1 ∧ Pp.2 < cc.2) := h; have q1 := (zn_nlt (by omega) (by omega)).mp b1; have q3 := (nI_leI (by omega) (by omega)).mp b3; omega))).symm hb1 hb2 K
            · skip
              refine zj_aload_n C dc_M_distance_223 rfl 7 rfl ?_
              refine zj_get (k := 19) C (by omega) hM.1.1 rfl (by decide) fw_M fl_M_56 rfl rfl dc_M_distance_224 ?_
              refine zj_iload C dc_M_distance_227 1 rfl ?_
              refine zj_iald C (by omega) hM.1.2.2.2.2.2.2.2.2.2.2.2.2.2.2.2.2.1 rfl (by omega) (by decide) dc_M_distance_229 ?_
              refine zj_topi (hc2) ?_
              refine zj_goto C dc_M_distance_230 rfl ?_
              refine zj_istore C dc_M_distance_235 (by decide) rfl ?_
              refine zj_iload C dc_M_distance_237 1 rfl ?_
              refine zj_iload C dc_M_distance_239 4 rfl ?_
              refine zj_icmp_ge C dc_M_distance_241 rfl (fun _ => ?_) (fun h => absurd (Int32.not_lt.mp b1) h)
              refine zj_iload C dc_M_distance_249 4 rfl ?_
              refine zj_istore C dc_M_distance_251 (by decide) rfl ?_
              refine zj_iinc C dc_M_distance_253 4 rfl (zn_inc _) (by decide) rfl ?_
              refine zj_goto C dc_M_distance_256 rfl ?_
              refine zj_loc (L' := [(9, .int (nI (1 + 1))), (7, .int (nI (Pp.1, cc.2).2)), (6, .int (nI (Pp.1, cc.2).1)), (5, .int (nI j)), (4, .int (nI i)), (0, .ref (ad 108)), (1, .int (nI t)), (2, .int (nI pl)), (3, .int (nI sp))]) [0, 2, 1, 5, 6, 7, 8, 9, 10] rfl ?_
              exact ih _ i j (Pp.1, cc.2) g2 a2 (by omega) (by omega) e3 e4 e5 e6 hM hrw hup hle ((hW.trans (if_pos (Or.inr ⟨(show cc.1 + 1 = Pp.1 from (nI_eq (by omega) (by omega)).mp b2), (show Pp.2 < cc.2 from (zn_nle (by omega) (by omega)).mp b3)⟩))).trans (by show (cc.1 + 1, cc.2) = _; rw [(show cc.1 + 1 = Pp.1 from (nI_eq (by omega) (by omega)).mp b2)])).symm hb1 (by show cc.2 ≤ 60; omega) K
      · have b0 : w = 0 := (zn_e0 (by omega)).mp b0
        obtain rfl : w = 0 := by omega
        obtain ⟨cc, hcc⟩ : ∃ cc : Nat × Nat, cc = (zp_dp (zp_sm (a 6) (zm_f a 4 t R) pl) (i - 1) (j)) := ⟨_, rfl⟩
        have hc1 : a2 14 _ = _ := hup.1
        have hc2 : a2 15 _ = _ := hup.2
        have hcb := zp_dp_b (zp_sm (a 6) (zm_f a 4 t R) pl) (i := i - 1) (j := j) (by omega) (by omega)
        rw [← hcc] at hc1 hc2 hcb
        have hW : (zp_W (zp_sm (a 6) (zm_f a 4 t R) pl) i j 1) = zp_mn Pp (zp_inc cc) := by rw [hP, hcc]; rfl
        refine zj_bipush (v := 20) C dc_M_distance_161 (by decide) ?_
        refine zj_iload C dc_M_distance_163 4 rfl ?_
        refine zj_iconst (v := 1) C dc_M_distance_165 (by decide) ?_
        refine zj_isub C dc_M_distance_166 ?_
        refine zj_topi (zn_m1 e3) ?_
        refine zj_imul C dc_M_distance_167 ?_
        refine zj_topi (show (20 : Int32) * nI (i - 1) = nI (20 * (i - 1)) from pk_mul 20 _) ?_
        refine zj_iload C dc_M_distance_168 3 rfl ?_
        refine zj_iadd C dc_M_distance_170 ?_
        refine zj_topi (nI_add _ _) ?_
        refine zj_goto C dc_M_distance_171 rfl ?_
        refine zj_istore C dc_M_distance_184 (by decide) rfl ?_
        refine zj_aload_n C dc_M_distance_186 rfl 6 rfl ?_
        refine zj_get (k := 18) C (by omega) hM.1.1 rfl (by decide) fw_M fl_M_53 rfl rfl dc_M_distance_187 ?_
        refine zj_iload C dc_M_distance_190 0 rfl ?_
        refine zj_iald C (by omega) hM.1.2.2.2.2.2.2.2.2.2.2.2.2.2.2.2.1 rfl (by omega) (by decide) dc_M_distance_192 ?_
        refine zj_topi (hc1) ?_
        refine zj_iconst (v := 1) C dc_M_distance_193 (by decide) ?_
        refine zj_iadd C dc_M_distance_194 ?_
        refine zj_topi (nI_1 _) ?_
        refine zj_istore C dc_M_distance_195 (by decide) rfl ?_
        refine zj_iload C dc_M_distance_197 0 rfl ?_
        refine zj_iload C dc_M_distance_199 4 rfl ?_
        refine zj_icmp_lt C dc_M_distance_201 rfl (fun b1 => ?_) (fun b1 => ?_)
        · skip
          refine zj_aload_n C dc_M_distance_223 rfl 7 rfl ?_
          refine zj_get (k := 19) C (by omega) hM.1.1 rfl (by decide) fw_M fl_M_56 rfl rfl dc_M_distance_224 ?_
          refine zj_iload C dc_M_distance_227 1 rfl ?_
          refine zj_iald C (by omega) hM.1.2.2.2.2.2.2.2.2.2.2.2.2.2.2.2.2.1 rfl (by omega) (by decide) dc_M_distance_229 ?_
          refine zj_topi (hc2) ?_
          refine zj_goto C dc_M_distance_230 rfl ?_
          refine zj_istore C dc_M_distance_235 (by decide) rfl ?_
          refine zj_iload C dc_M_distance_237 1 rfl ?_
          refine zj_iload C dc_M_distance_239 4 rfl ?_
          refine zj_icmp_ge C dc_M_distance_241 rfl (fun h => absurd b1 (Int32.not_lt.mpr h)) (fun _ => ?_)
          refine zj_iload C dc_M_distance_244 1 rfl ?_
          refine zj_goto C dc_M_distance_246 rfl ?_
          refine zj_istore C dc_M_distance_251 (by decide) rfl ?_
          refine zj_iinc C dc_M_distance_253 4 rfl (zn_inc _) (by decide) rfl ?_
          refine zj_goto C dc_M_distance_256 rfl ?_
          refine zj_loc (L' := [(9, .int (nI (0 + 1))), (7, .int (nI (cc.1 + 1, cc.2).2)), (6, .int (nI (cc.1 + 1, cc.2).1)), (5, .int (nI j)), (4, .int (nI i)), (0, .ref (ad 108)), (1, .int (nI t)), (2, .int (nI pl)), (3, .int (nI sp))]) [0, 2, 1, 5, 6, 7, 8, 9, 10] rfl ?_
          exact ih _ i j (cc.1 + 1, cc.2) g2 a2 (by omega) (by omega) e3 e4 e5 e6 hM hrw hup hle (hW.trans (if_pos (Or.inl ((nI_ltI (by omega) (by omega)).mp b1)))).symm (by show cc.1 + 1 ≤ 60; omega) (by show cc.2 ≤ 60; omega) K
        · skip
          refine zj_iload C dc_M_distance_204 0 rfl ?_
          refine zj_iload C dc_M_distance_206 4 rfl ?_
          refine zj_icmp_ne C dc_M_distance_208 rfl (fun b2 => ?_) (fun b2 => ?_)
          · skip
            refine zj_iload C dc_M_distance_233 3 rfl ?_
            refine zj_istore C dc_M_distance_235 (by decide) rfl ?_
            refine zj_iload C dc_M_distance_237 1 rfl ?_
            refine zj_iload C dc_M_distance_239 4 rfl ?_
            refine zj_icmp_ge C dc_M_distance_241 rfl (fun _ => ?_) (fun h => absurd (Int32.not_lt.mp b1) h)
            refine zj_iload C dc_M_distance_249 4 rfl ?_
            refine zj_istore C dc_M_distance_251 (by decide) rfl ?_
            refine zj_iinc C dc_M_distance_253 4 rfl (zn_inc _) (by decide) rfl ?_
            refine zj_goto C dc_M_distance_256 rfl ?_
            refine zj_loc (L' := [(9, .int (nI (0 + 1))), (7, .int (nI Pp.2)), (6, .int (nI Pp.1)), (5, .int (nI j)), (4, .int (nI i)), (0, .ref (ad 108)), (1, .int (nI t)), (2, .int (nI pl)), (3, .int (nI sp))]) [0, 2, 1, 5, 6, 7, 8, 9, 10] rfl ?_
            exact ih _ i j Pp g2 a2 (by omega) (by omega) e3 e4 e5 e6 hM hrw hup hle (hW.trans (if_neg (fun h => by have h : cc.1 + 1 < Pp.1 ∨ (cc.1 + 1 = Pp.1 ∧ Pp.2 < cc.2) := h; have q1 := (zn_nlt (by omega) (by omega)).mp b1; have q2 := (zn_ne (by omega) (by omega)).mp b2; omega))).symm hb1 hb2 K
          · skip
            refine zj_aload_n C dc_M_distance_211 rfl 7 rfl ?_
            refine zj_get (k := 19) C (by omega) hM.1.1 rfl (by decide) fw_M fl_M_56 rfl rfl dc_M_distance_212 ?_
            refine zj_iload C dc_M_distance_215 1 rfl ?_
            refine zj_iald C (by omega) hM.1.2.2.2.2.2.2.2.2.2.2.2.2.2.2.2.2.1 rfl (by omega) (by decide) dc_M_distance_217 ?_
            refine zj_topi (hc2) ?_
            refine zj_iload C dc_M_distance_218 3 rfl ?_
            refine zj_icmp_le C dc_M_distance_220 rfl (fun b3 => ?_) (fun b3 => ?_)
            · skip
              refine zj_iload C dc_M_distance_233 3 rfl ?_
              refine zj_istore C dc_M_distance_235 (by decide) rfl ?_
              refine zj_iload C dc_M_distance_237 1 rfl ?_
              refine zj_iload C dc_M_distance_239 4 rfl ?_
              refine zj_icmp_ge C dc_M_distance_241 rfl (fun _ => ?_) (fun h => absurd (Int32.not_lt.mp b1) h)
              refine zj_iload C dc_M_distance_249 4 rfl ?_
              refine zj_istore C dc_M_distance_251 (by decide) rfl ?_
              refine zj_iinc C dc_M_distance_253 4 rfl (zn_inc _) (by decide) rfl ?_
              refine zj_goto C dc_M_distance_256 rfl ?_
              refine zj_loc (L' := [(9, .int (nI (0 + 1))), (7, .int (nI Pp.2)), (6, .int (nI Pp.1)), (5, .int (nI j)), (4, .int (nI i)), (0, .ref (ad 108)), (1, .int (nI t)), (2, .int (nI pl)), (3, .int (nI sp))]) [0, 2, 1, 5, 6, 7, 8, 9, 10] rfl ?_
              exact ih _ i j Pp g2 a2 (by omega) (by omega) e3 e4 e5 e6 hM hrw hup hle (hW.trans (if_neg (fun h => by have h : cc.1 + 1 < Pp.1 ∨ (cc.1 + 1 = Pp.1 ∧ Pp.2 < cc.2) := h; have q1 := (zn_nlt (by omega) (by omega)).mp b1; have q3 := (nI_leI (by omega) (by omega)).mp b3; omega))).symm hb1 hb2 K
            · skip
              refine zj_aload_n C dc_M_distance_223 rfl 7 rfl ?_
              refine zj_get (k := 19) C (by omega) hM.1.1 rfl (by decide) fw_M fl_M_56 rfl rfl dc_M_distance_224 ?_
              refine zj_iload C dc_M_distance_227 1 rfl ?_
              refine zj_iald C (by omega) hM.1.2.2.2.2.2.2.2.2.2.2.2.2.2.2.2.2.1 rfl (by omega) (by decide) dc_M_distance_229 ?_
              refine zj_topi (hc2) ?_
              refine zj_goto C dc_M_distance_230 rfl ?_
              refine zj_istore C dc_M_distance_235 (by decide) rfl ?_
              refine zj_iload C dc_M_distance_237 1 rfl ?_
              refine zj_iload C dc_M_distance_239 4 rfl ?_
              refine zj_icmp_ge C dc_M_distance_241 rfl (fun _ => ?_) (fun h => absurd (Int32.not_lt.mp b1) h)
              refine zj_iload C dc_M_distance_249 4 rfl ?_
              refine zj_istore C dc_M_distance_251 (by decide) rfl ?_
              refine zj_iinc C dc_M_distance_253 4 rfl (zn_inc _) (by decide) rfl ?_
              refine zj_goto C dc_M_distance_256 rfl ?_
              refine zj_loc (L' := [(9, .int (nI (0 + 1))), (7, .int (nI (Pp.1, cc.2).2)), (6, .int (nI (Pp.1, cc.2).1)), (5, .int (nI j)), (4, .int (nI i)), (0, .ref (ad 108)), (1, .int (nI t)), (2, .int (nI pl)), (3, .int (nI sp))]) [0, 2, 1, 5, 6, 7, 8, 9, 10] rfl ?_
              exact ih _ i j (Pp.1, cc.2) g2 a2 (by omega) (by omega) e3 e4 e5 e6 hM hrw hup hle ((hW.trans (if_pos (Or.inr ⟨(show cc.1 + 1 = Pp.1 from (nI_eq (by omega) (by omega)).mp b2), (show Pp.2 < cc.2 from (zn_nle (by omega) (by omega)).mp b3)⟩))).trans (by show (cc.1 + 1, cc.2) = _; rw [(show cc.1 + 1 = Pp.1 from (nI_eq (by omega) (by omega)).mp b2)])).symm hb1 (by show cc.2 ≤ 60; omega) K
  have inn : ∀ (n : Nat) (j i : Nat) (g2 : Nat → va_E) (a2 : Nat → Nat → Int32), sp - j = n → j ≤ sp → i < qc → zm_M z ad g g2 c (nI qc) fo kp a2 → (∀ r, r ≠ 14 → r ≠ 15 → a2 r = a r) → (∀ i' j', i' < i → j' < sp → a2 14 (20 * i' + j') = nI (zp_dp (zp_sm (a 6) (zm_f a 4 t R) pl) (i') (j')).1 ∧ a2 15 (20 * i' + j') = nI (zp_dp (zp_sm (a 6) (zm_f a 4 t R) pl) (i') (j')).2) → (∀ j', j' < j → a2 14 (20 * i + j') = nI (zp_dp (zp_sm (a 6) (zm_f a 4 t R) pl) (i) (j')).1 ∧ a2 15 (20 * i + j') = nI (zp_dp (zp_sm (a 6) (zm_f a 4 t R) pl) (i) (j')).2) → (∀ (x5 : Int32) (g2 : Nat → va_E) (a2 : Nat → Nat → Int32), zm_M z ad g g2 c (nI qc) fo kp a2 → (∀ r, r ≠ 14 → r ≠ 15 → a2 r = a r) → (∀ i' j', i' < (i + 1) → j' < sp → a2 14 (20 * i' + j') = nI (zp_dp (zp_sm (a 6) (zm_f a 4 t R) pl) (i') (j')).1 ∧ a2 15 (20 * i' + j') = nI (zp_dp (zp_sm (a 6) (zm_f a 4 t R) pl) (i') (j')).2) → zj_J X 0 0 (zj_Qi X 0 0 ad N (fun r g1 => ∃ a1, r = nI (zp_dp (zp_sm (a 6) (zm_f a 4 t R) pl) (qc - 1) (sp - 1)).1 ∧ a1 15 (20 * (qc - 1) + (sp - 1)) = nI (zp_dp (zp_sm (a 6) (zm_f a 4 t R) pl) (qc - 1) (sp - 1)).2 ∧ zm_M z ad g g1 c (nI qc) fo kp a1 ∧ ∀ r, r ≠ 14 → r ≠ 15 → a1 r = a r)) ad N g2 295 [(5, .int x5), (4, .int (nI i)), (0, .ref (ad 108)), (1, .int (nI t)), (2, .int (nI pl)), (3, .int (nI sp))] []) → zj_J X 0 0 (zj_Qi X 0 0 ad N (fun r g1 => ∃ a1, r = nI (zp_dp (zp_sm (a 6) (zm_f a 4 t R) pl) (qc - 1) (sp - 1)).1 ∧ a1 15 (20 * (qc - 1) + (sp - 1)) = nI (zp_dp (zp_sm (a 6) (zm_f a 4 t R) pl) (qc - 1) (sp - 1)).2 ∧ zm_M z ad g g1 c (nI qc) fo kp a1 ∧ ∀ r, r ≠ 14 → r ≠ 15 → a1 r = a r)) ad N g2 15 [(5, .int (nI j)), (4, .int (nI i)), (0, .ref (ad 108)), (1, .int (nI t)), (2, .int (nI pl)), (3, .int (nI sp))] [] := by
    intro n
    induction n with
    | zero =>
      intro j i g2 a2 e1 e2 e3 hM hrw hold hcur K
      refine zj_iload C dc_M_distance_15 0 rfl ?_
      refine zj_iload_n C dc_M_distance_17 rfl 5 rfl ?_
      refine zj_icmp_ge C dc_M_distance_18 rfl (fun _ => ?_) (fun h => absurd h (not_not_intro ((nI_leI (by omega) (by omega)).mpr (by omega))))
      refine zj_loc [0, 1, 2, 3, 4, 5] rfl ?_
      exact K _ g2 a2 hM hrw (fun i' j' h1 h2 => if c9 : i' = i then c9 ▸ hcur j' (by omega) else hold i' j' (by omega) h2)
    | succ n ih =>
      intro j i g2 a2 e1 e2 e3 hM hrw hold hcur K
      refine zj_iload C dc_M_distance_15 0 rfl ?_
      refine zj_iload_n C dc_M_distance_17 rfl 5 rfl ?_
      refine zj_icmp_ge C dc_M_distance_18 rfl (fun h => absurd h (((zn_nle (by omega) (by omega)).mpr (by omega)))) (fun _ => ?_)
      refine zj_iload C dc_M_distance_21 1 rfl ?_
      refine zj_if_ne C dc_M_distance_23 rfl (fun b1 => ?_) (fun b1 => ?_)
      · have hi : 0 < i := Nat.pos_of_ne_zero (fun e => b1 ((zn_e0 (by omega)).mpr e))
        refine zj_iload C dc_M_distance_31 0 rfl ?_
        refine zj_if_ne C dc_M_distance_33 rfl (fun b2 => ?_) (fun b2 => ?_)
        · have hj : 0 < j := Nat.pos_of_ne_zero (fun e => b2 ((zn_e0 (by omega)).mpr e))
          have hcd := hold (i - 1) (j - 1) (by omega) (by omega)
          have hcb := zp_dp_b (zp_sm (a 6) (zm_f a 4 t R) pl) (i := i - 1) (j := j - 1) (by omega) (by omega)
          refine zj_bipush (v := 99) C dc_M_distance_41 (by decide) ?_
          refine zj_istore C dc_M_distance_43 (by decide) rfl ?_
          refine zj_iconst (v := 0) C dc_M_distance_45 (by decide) ?_
          refine zj_istore C dc_M_distance_46 (by decide) rfl ?_
          refine zj_iload C dc_M_distance_48 3 rfl ?_
          refine zj_if_le C dc_M_distance_50 rfl (fun h => absurd h (fun h => absurd ((zn_le0 (by omega)).mp h) (by omega))) (fun _ => ?_)
          refine zj_iload C dc_M_distance_53 2 rfl ?_
          refine zj_if_le C dc_M_distance_55 rfl (fun h => absurd h (fun h => absurd ((zn_le0 (by omega)).mp h) (by omega))) (fun _ => ?_)
          refine zj_aload_n C dc_M_distance_58 rfl 4 rfl ?_
          refine zj_iload C dc_M_distance_59 3 rfl ?_
          refine zj_iconst (v := 1) C dc_M_distance_61 (by decide) ?_
          refine zj_isub C dc_M_distance_62 ?_
          refine zj_topi (zn_m1 hi) ?_
          refine zj_Vi C (ct_M_askedStep _ hst z ad N _ _ _ _ _ _ hN hM.1 (i - 1) (by omega)) gv_M_92 rfl rfl rfl hd_M_askedStep ⟨(Nat.le_of_ble_eq_true rfl), (Nat.le_of_ble_eq_true rfl)⟩ (by omega) hM.1.1 rfl rfl rfl (Nat.le_of_ble_eq_true rfl) ⟨(Nat.le_of_ble_eq_true rfl), (Nat.le_of_ble_eq_true rfl)⟩ dc_M_distance_63 (fun r1 g9 h1 => ?_)
          obtain ⟨hv9, hg9⟩ := h1
          rw [hg9, hv9, hrw 6 (by decide) (by decide)]
          refine zj_aload_n C dc_M_distance_66 rfl 4 rfl ?_
          refine zj_iload_n C dc_M_distance_67 rfl 5 rfl ?_
          refine zj_iload_n C dc_M_distance_68 rfl 6 rfl ?_
          refine zj_iload C dc_M_distance_69 2 rfl ?_
          refine zj_iadd C dc_M_distance_71 ?_
          refine zj_topi (nI_add _ _) ?_
          refine zj_iconst (v := 1) C dc_M_distance_72 (by decide) ?_
          refine zj_isub C dc_M_distance_73 ?_
          refine zj_topi ((zn_m1 (by omega)).trans (congrArg nI (Nat.add_sub_assoc (by omega) _))) ?_
          refine zj_Vi C (ct_M_step _ hst z ad N _ _ _ _ _ _ hN hM.1 t (pl + (j - 1)) R ht (by omega) ((congrFun (hrw 3 (by decide) (by decide)) _).trans hR) hR1 hR9) gv_M_82 rfl rfl rfl hd_M_step ⟨(Nat.le_of_ble_eq_true rfl), (Nat.le_of_ble_eq_true rfl)⟩ (by omega) hM.1.1 rfl rfl rfl (Nat.le_of_ble_eq_true rfl) ⟨(Nat.le_of_ble_eq_true rfl), (Nat.le_of_ble_eq_true rfl)⟩ dc_M_distance_74 (fun r1 g9 h1 => ?_)
          obtain ⟨hv9, hg9⟩ := h1
          rw [hg9, hv9, hrw 4 (by decide) (by decide)]
          refine zj_icmp_ne C dc_M_distance_77 rfl (fun c1 => ?_) (fun c1 => ?_)
          · have hsm : (zp_sm (a 6) (zm_f a 4 t R) pl) (i - 1) (j - 1) = false := decide_eq_false c1
            have hW0 : (zp_W (zp_sm (a 6) (zm_f a 4 t R) pl) i j 0) = ((zp_dp (zp_sm (a 6) (zm_f a 4 t R) pl) (i - 1) (j - 1)).1 + 1, (zp_dp (zp_sm (a 6) (zm_f a 4 t R) pl) (i - 1) (j - 1)).2) := by show zp_dg _ _ = _; rw [hsm]; rfl
            refine zj_iconst (v := 0) C dc_M_distance_84 (by decide) ?_
            refine zj_istore C dc_M_distance_85 (by decide) rfl ?_
            refine zj_aload_n C dc_M_distance_87 rfl 5 rfl ?_
            refine zj_get (k := 18) C (by omega) hM.1.1 rfl (by decide) fw_M fl_M_53 rfl rfl dc_M_distance_88 ?_
            refine zj_bipush (v := 20) C dc_M_distance_91 (by decide) ?_
            refine zj_iload C dc_M_distance_93 4 rfl ?_
            refine zj_iconst (v := 1) C dc_M_distance_95 (by decide) ?_
            refine zj_isub C dc_M_distance_96 ?_
            refine zj_topi (zn_m1 hi) ?_
            refine zj_imul C dc_M_distance_97 ?_
            refine zj_topi (show (20 : Int32) * nI (i - 1) = nI (20 * (i - 1)) from pk_mul 20 _) ?_
            refine zj_iload C dc_M_distance_98 3 rfl ?_
            refine zj_iadd C dc_M_distance_100 ?_
            refine zj_topi (nI_add _ _) ?_
            refine zj_iconst (v := 1) C dc_M_distance_101 (by decide) ?_
            refine zj_isub C dc_M_distance_102 ?_
            refine zj_topi ((zn_m1 (by omega)).trans (congrArg nI (Nat.add_sub_assoc (by omega) _))) ?_
            refine zj_iald C (by omega) hM.1.2.2.2.2.2.2.2.2.2.2.2.2.2.2.2.1 rfl (by omega) (by decide) dc_M_distance_103 ?_
            refine zj_topi (hcd.1) ?_
            refine zj_iload C dc_M_distance_104 0 rfl ?_
            refine zj_if_eq C dc_M_distance_106 rfl (fun _ => ?_) (fun h => absurd h (by decide))
            refine zj_iconst (v := 1) C dc_M_distance_113 (by decide) ?_
            refine zj_iadd C dc_M_distance_114 ?_
            refine zj_topi (nI_1 _) ?_
            refine zj_istore C dc_M_distance_115 (by decide) rfl ?_
            refine zj_aload_n C dc_M_distance_117 rfl 5 rfl ?_
            refine zj_get (k := 19) C (by omega) hM.1.1 rfl (by decide) fw_M fl_M_56 rfl rfl dc_M_distance_118 ?_
            refine zj_bipush (v := 20) C dc_M_distance_121 (by decide) ?_
            refine zj_iload C dc_M_distance_123 4 rfl ?_
            refine zj_iconst (v := 1) C dc_M_distance_125 (by decide) ?_
            refine zj_isub C dc_M_distance_126 ?_
            refine zj_topi (zn_m1 hi) ?_
            refine zj_imul C dc_M_distance_127 ?_
            refine zj_topi (show (20 : Int32) * nI (i - 1) = nI (20 * (i - 1)) from pk_mul 20 _) ?_
            refine zj_iload C dc_M_distance_128 3 rfl ?_
            refine zj_iadd C dc_M_distance_130 ?_
            refine zj_topi (nI_add _ _) ?_
            refine zj_iconst (v := 1) C dc_M_distance_131 (by decide) ?_
            refine zj_isub C dc_M_distance_132 ?_
            refine zj_topi ((zn_m1 (by omega)).trans (congrArg nI (Nat.add_sub_assoc (by omega) _))) ?_
            refine zj_iald C (by omega) hM.1.2.2.2.2.2.2.2.2.2.2.2.2.2.2.2.2.1 rfl (by omega) (by decide) dc_M_distance_133 ?_
            refine zj_topi (hcd.2) ?_
            refine zj_iload C dc_M_distance_134 1 rfl ?_
            refine zj_if_eq C dc_M_distance_136 rfl (fun _ => ?_) (fun h => absurd h (by decide))
            refine zj_iconst (v := 0) C dc_M_distance_143 (by decide) ?_
            refine zj_iadd C dc_M_distance_144 ?_
            refine zj_topi (Int32.add_zero _) ?_
            refine zj_istore C dc_M_distance_145 (by decide) rfl ?_
            refine zj_iconst (v := 0) C dc_M_distance_147 (by decide) ?_
            refine zj_istore C dc_M_distance_148 (by decide) rfl ?_
            refine zj_loc (L' := [(9, .int (nI 0)), (7, .int (nI (zp_W (zp_sm (a 6) (zm_f a 4 t R) pl) i j 0).2)), (6, .int (nI (zp_W (zp_sm (a 6) (zm_f a 4 t R) pl) i j 0).1)), (5, .int (nI j)), (4, .int (nI i)), (0, .ref (ad 108)), (1, .int (nI t)), (2, .int (nI pl)), (3, .int (nI sp))]) [0, 1, 2, 4, 5, 6, 7, 8, 9] (by rw [hW0]; rfl) ?_
            refine way 2 0 i j (zp_W (zp_sm (a 6) (zm_f a 4 t R) pl) i j 0) g2 a2 rfl (by omega) hi hj (by omega) (by omega) hM hrw (hold (i - 1) j (by omega) (by omega)) (hcur (j - 1) (by omega)) rfl (by rw [hW0]; have := hcb.1; have := hcb.2; simp; omega) (by rw [hW0]; have := hcb.1; have := hcb.2; simp; omega) (fun x9 => ?_)
            have hd1 : nI (zp_W (zp_sm (a 6) (zm_f a 4 t R) pl) i j 2).1 = nI (zp_dp (zp_sm (a 6) (zm_f a 4 t R) pl) (i) (j)).1 := by rw [zp_W2 hi hj]
            have hd2 : nI (zp_W (zp_sm (a 6) (zm_f a 4 t R) pl) i j 2).2 = nI (zp_dp (zp_sm (a 6) (zm_f a 4 t R) pl) (i) (j)).2 := by rw [zp_W2 hi hj]
            refine zj_aload_n C dc_M_distance_259 rfl 5 rfl ?_
            refine zj_get (k := 18) C (by omega) hM.1.1 rfl (by decide) fw_M fl_M_53 rfl rfl dc_M_distance_260 ?_
            refine zj_bipush (v := 20) C dc_M_distance_263 (by decide) ?_
            refine zj_iload C dc_M_distance_265 4 rfl ?_
            refine zj_imul C dc_M_distance_267 ?_
            refine zj_topi (show (20 : Int32) * nI i = nI (20 * i) from pk_mul 20 _) ?_
            refine zj_iload C dc_M_distance_268 3 rfl ?_
            refine zj_iadd C dc_M_distance_270 ?_
            refine zj_topi (nI_add _ _) ?_
            refine zj_iload C dc_M_distance_271 2 rfl ?_
            refine zj_topi (hd1) ?_
            refine zj_iast C (by omega) hM.1.2.2.2.2.2.2.2.2.2.2.2.2.2.2.2.1 rfl (by omega) (by decide) dc_M_distance_273 ?_
            refine zM_k14 hM (fun g2 hM => ?_)
            refine zj_aload_n C dc_M_distance_274 rfl 5 rfl ?_
            refine zj_get (k := 19) C (by omega) hM.1.1 rfl (by decide) fw_M fl_M_56 rfl rfl dc_M_distance_275 ?_
            refine zj_bipush (v := 20) C dc_M_distance_278 (by decide) ?_
            refine zj_iload C dc_M_distance_280 4 rfl ?_
            refine zj_imul C dc_M_distance_282 ?_
            refine zj_topi (show (20 : Int32) * nI i = nI (20 * i) from pk_mul 20 _) ?_
            refine zj_iload C dc_M_distance_283 3 rfl ?_
            refine zj_iadd C dc_M_distance_285 ?_
            refine zj_topi (nI_add _ _) ?_
            refine zj_iload C dc_M_distance_286 1 rfl ?_
            refine zj_topi (hd2) ?_
            refine zj_iast C (by omega) hM.1.2.2.2.2.2.2.2.2.2.2.2.2.2.2.2.2.1 rfl (by omega) (by decide) dc_M_distance_288 ?_
            refine zM_k15 hM (fun g2 hM => ?_)
            refine zj_iinc C dc_M_distance_289 3 rfl (zn_inc j) (by decide) rfl ?_
            refine zj_goto C dc_M_distance_292 rfl ?_
            refine zj_loc (L' := [(5, .int (nI (j + 1))), (4, .int (nI i)), (0, .ref (ad 108)), (1, .int (nI t)), (2, .int (nI pl)), (3, .int (nI sp))]) [0, 4, 5, 6, 7, 8] rfl ?_
            exact ih (j + 1) i g2 _ (by omega) (by omega) e3 hM (fun r h1 h2 => (va_up_ne _ _ h2).trans ((va_up_ne _ _ h1).trans (hrw r h1 h2))) (fun i' j' h1 h2 => ⟨(by show upd (a2 14) (20 * i + j) _ (20 * i' + j') = _; rw [pk_un (by omega)]; exact (hold i' j' h1 h2).1), (by show upd (a2 15) (20 * i + j) _ (20 * i' + j') = _; rw [pk_un (by omega)]; exact (hold i' j' h1 h2).2)⟩) (fun j' h1 => if c9 : j' = j then ⟨(by rw [c9]; show upd (a2 14) (20 * i + j) _ (20 * i + j) = _; rw [pk_us]), (by rw [c9]; show upd (a2 15) (20 * i + j) _ (20 * i + j) = _; rw [pk_us])⟩ else ⟨(by show upd (a2 14) (20 * i + j) _ (20 * i + j') = _; rw [pk_un (by omega)]; exact (hcur j' (by omega)).1), (by show upd (a2 15) (20 * i + j) _ (20 * i + j') = _; rw [pk_un (by omega)]; exact (hcur j' (by omega)).2)⟩) K
          · have hsm : (zp_sm (a 6) (zm_f a 4 t R) pl) (i - 1) (j - 1) = true := decide_eq_true c1
            have hW0 : (zp_W (zp_sm (a 6) (zm_f a 4 t R) pl) i j 0) = ((zp_dp (zp_sm (a 6) (zm_f a 4 t R) pl) (i - 1) (j - 1)).1, (zp_dp (zp_sm (a 6) (zm_f a 4 t R) pl) (i - 1) (j - 1)).2 + 1) := by show zp_dg _ _ = _; rw [hsm]; rfl
            refine zj_iconst (v := 1) C dc_M_distance_80 (by decide) ?_
            refine zj_goto C dc_M_distance_81 rfl ?_
            refine zj_istore C dc_M_distance_85 (by decide) rfl ?_
            refine zj_aload_n C dc_M_distance_87 rfl 5 rfl ?_
            refine zj_get (k := 18) C (by omega) hM.1.1 rfl (by decide) fw_M fl_M_53 rfl rfl dc_M_distance_88 ?_
            refine zj_bipush (v := 20) C dc_M_distance_91 (by decide) ?_
            refine zj_iload C dc_M_distance_93 4 rfl ?_
            refine zj_iconst (v := 1) C dc_M_distance_95 (by decide) ?_
            refine zj_isub C dc_M_distance_96 ?_
            refine zj_topi (zn_m1 hi) ?_
            refine zj_imul C dc_M_distance_97 ?_
            refine zj_topi (show (20 : Int32) * nI (i - 1) = nI (20 * (i - 1)) from pk_mul 20 _) ?_
            refine zj_iload C dc_M_distance_98 3 rfl ?_
            refine zj_iadd C dc_M_distance_100 ?_
            refine zj_topi (nI_add _ _) ?_
            refine zj_iconst (v := 1) C dc_M_distance_101 (by decide) ?_
            refine zj_isub C dc_M_distance_102 ?_
            refine zj_topi ((zn_m1 (by omega)).trans (congrArg nI (Nat.add_sub_assoc (by omega) _))) ?_
            refine zj_iald C (by omega) hM.1.2.2.2.2.2.2.2.2.2.2.2.2.2.2.2.1 rfl (by omega) (by decide) dc_M_distance_103 ?_
            refine zj_topi (hcd.1) ?_
            refine zj_iload C dc_M_distance_104 0 rfl ?_
            refine zj_if_eq C dc_M_distance_106 rfl (fun h => absurd h (by decide)) (fun _ => ?_)
            refine zj_iconst (v := 0) C dc_M_distance_109 (by decide) ?_
            refine zj_goto C dc_M_distance_110 rfl ?_
            refine zj_iadd C dc_M_distance_114 ?_
            refine zj_topi (Int32.add_zero _) ?_
            refine zj_istore C dc_M_distance_115 (by decide) rfl ?_
            refine zj_aload_n C dc_M_distance_117 rfl 5 rfl ?_
            refine zj_get (k := 19) C (by omega) hM.1.1 rfl (by decide) fw_M fl_M_56 rfl rfl dc_M_distance_118 ?_
            refine zj_bipush (v := 20) C dc_M_distance_121 (by decide) ?_
            refine zj_iload C dc_M_distance_123 4 rfl ?_
            refine zj_iconst (v := 1) C dc_M_distance_125 (by decide) ?_
            refine zj_isub C dc_M_distance_126 ?_
            refine zj_topi (zn_m1 hi) ?_
            refine zj_imul C dc_M_distance_127 ?_
            refine zj_topi (show (20 : Int32) * nI (i - 1) = nI (20 * (i - 1)) from pk_mul 20 _) ?_
            refine zj_iload C dc_M_distance_128 3 rfl ?_
            refine zj_iadd C dc_M_distance_130 ?_
            refine zj_topi (nI_add _ _) ?_
            refine zj_iconst (v := 1) C dc_M_distance_131 (by decide) ?_
            refine zj_isub C dc_M_distance_132 ?_
            refine zj_topi ((zn_m1 (by omega)).trans (congrArg nI (Nat.add_sub_assoc (by omega) _))) ?_
            refine zj_iald C (by omega) hM.1.2.2.2.2.2.2.2.2.2.2.2.2.2.2.2.2.1 rfl (by omega) (by decide) dc_M_distance_133 ?_
            refine zj_topi (hcd.2) ?_
            refine zj_iload C dc_M_distance_134 1 rfl ?_
            refine zj_if_eq C dc_M_distance_136 rfl (fun h => absurd h (by decide)) (fun _ => ?_)
            refine zj_iconst (v := 1) C dc_M_distance_139 (by decide) ?_
            refine zj_goto C dc_M_distance_140 rfl ?_
            refine zj_iadd C dc_M_distance_144 ?_
            refine zj_topi (nI_1 _) ?_
            refine zj_istore C dc_M_distance_145 (by decide) rfl ?_
            refine zj_iconst (v := 0) C dc_M_distance_147 (by decide) ?_
            refine zj_istore C dc_M_distance_148 (by decide) rfl ?_
            refine zj_loc (L' := [(9, .int (nI 0)), (7, .int (nI (zp_W (zp_sm (a 6) (zm_f a 4 t R) pl) i j 0).2)), (6, .int (nI (zp_W (zp_sm (a 6) (zm_f a 4 t R) pl) i j 0).1)), (5, .int (nI j)), (4, .int (nI i)), (0, .ref (ad 108)), (1, .int (nI t)), (2, .int (nI pl)), (3, .int (nI sp))]) [0, 1, 2, 4, 5, 6, 7, 8, 9] (by rw [hW0]; rfl) ?_
            refine way 2 0 i j (zp_W (zp_sm (a 6) (zm_f a 4 t R) pl) i j 0) g2 a2 rfl (by omega) hi hj (by omega) (by omega) hM hrw (hold (i - 1) j (by omega) (by omega)) (hcur (j - 1) (by omega)) rfl (by rw [hW0]; have := hcb.1; have := hcb.2; simp; omega) (by rw [hW0]; have := hcb.1; have := hcb.2; simp; omega) (fun x9 => ?_)
            have hd1 : nI (zp_W (zp_sm (a 6) (zm_f a 4 t R) pl) i j 2).1 = nI (zp_dp (zp_sm (a 6) (zm_f a 4 t R) pl) (i) (j)).1 := by rw [zp_W2 hi hj]
            have hd2 : nI (zp_W (zp_sm (a 6) (zm_f a 4 t R) pl) i j 2).2 = nI (zp_dp (zp_sm (a 6) (zm_f a 4 t R) pl) (i) (j)).2 := by rw [zp_W2 hi hj]
            refine zj_aload_n C dc_M_distance_259 rfl 5 rfl ?_
            refine zj_get (k := 18) C (by omega) hM.1.1 rfl (by decide) fw_M fl_M_53 rfl rfl dc_M_distance_260 ?_
            refine zj_bipush (v := 20) C dc_M_distance_263 (by decide) ?_
            refine zj_iload C dc_M_distance_265 4 rfl ?_
            refine zj_imul C dc_M_distance_267 ?_
            refine zj_topi (show (20 : Int32) * nI i = nI (20 * i) from pk_mul 20 _) ?_
            refine zj_iload C dc_M_distance_268 3 rfl ?_
            refine zj_iadd C dc_M_distance_270 ?_
            refine zj_topi (nI_add _ _) ?_
            refine zj_iload C dc_M_distance_271 2 rfl ?_
            refine zj_topi (hd1) ?_
            refine zj_iast C (by omega) hM.1.2.2.2.2.2.2.2.2.2.2.2.2.2.2.2.1 rfl (by omega) (by decide) dc_M_distance_273 ?_
            refine zM_k14 hM (fun g2 hM => ?_)
            refine zj_aload_n C dc_M_distance_274 rfl 5 rfl ?_
            refine zj_get (k := 19) C (by omega) hM.1.1 rfl (by decide) fw_M fl_M_56 rfl rfl dc_M_distance_275 ?_
            refine zj_bipush (v := 20) C dc_M_distance_278 (by decide) ?_
            refine zj_iload C dc_M_distance_280 4 rfl ?_
            refine zj_imul C dc_M_distance_282 ?_
            refine zj_topi (show (20 : Int32) * nI i = nI (20 * i) from pk_mul 20 _) ?_
            refine zj_iload C dc_M_distance_283 3 rfl ?_
            refine zj_iadd C dc_M_distance_285 ?_
            refine zj_topi (nI_add _ _) ?_
            refine zj_iload C dc_M_distance_286 1 rfl ?_
            refine zj_topi (hd2) ?_
            refine zj_iast C (by omega) hM.1.2.2.2.2.2.2.2.2.2.2.2.2.2.2.2.2.1 rfl (by omega) (by decide) dc_M_distance_288 ?_
            refine zM_k15 hM (fun g2 hM => ?_)
            refine zj_iinc C dc_M_distance_289 3 rfl (zn_inc j) (by decide) rfl ?_
            refine zj_goto C dc_M_distance_292 rfl ?_
            refine zj_loc (L' := [(5, .int (nI (j + 1))), (4, .int (nI i)), (0, .ref (ad 108)), (1, .int (nI t)), (2, .int (nI pl)), (3, .int (nI sp))]) [0, 4, 5, 6, 7, 8] rfl ?_
            exact ih (j + 1) i g2 _ (by omega) (by omega) e3 hM (fun r h1 h2 => (va_up_ne _ _ h2).trans ((va_up_ne _ _ h1).trans (hrw r h1 h2))) (fun i' j' h1 h2 => ⟨(by show upd (a2 14) (20 * i + j) _ (20 * i' + j') = _; rw [pk_un (by omega)]; exact (hold i' j' h1 h2).1), (by show upd (a2 15) (20 * i + j) _ (20 * i' + j') = _; rw [pk_un (by omega)]; exact (hold i' j' h1 h2).2)⟩) (fun j' h1 => if c9 : j' = j then ⟨(by rw [c9]; show upd (a2 14) (20 * i + j) _ (20 * i + j) = _; rw [pk_us]), (by rw [c9]; show upd (a2 15) (20 * i + j) _ (20 * i + j) = _; rw [pk_us])⟩ else ⟨(by show upd (a2 14) (20 * i + j) _ (20 * i + j') = _; rw [pk_un (by omega)]; exact (hcur j' (by omega)).1), (by show upd (a2 15) (20 * i + j) _ (20 * i + j') = _; rw [pk_un (by omega)]; exact (hcur j' (by omega)).2)⟩) K
        · have hj0 : j = 0 := (zn_e0 (by omega)).mp b2
          have hd1 : nI i = nI (zp_dp (zp_sm (a 6) (zm_f a 4 t R) pl) (i) (j)).1 := by rw [hj0, zp_dpi]
          have hd2 : (0 : Int32) = nI (zp_dp (zp_sm (a 6) (zm_f a 4 t R) pl) (i) (j)).2 := by rw [hj0, zp_dpi]; rfl
          refine zj_iload C dc_M_distance_36 1 rfl ?_
          refine zj_goto C dc_M_distance_38 rfl ?_
          refine zj_istore C dc_M_distance_43 (by decide) rfl ?_
          refine zj_iconst (v := 0) C dc_M_distance_45 (by decide) ?_
          refine zj_istore C dc_M_distance_46 (by decide) rfl ?_
          refine zj_iload C dc_M_distance_48 3 rfl ?_
          refine zj_if_le C dc_M_distance_50 rfl (fun h => absurd h (fun h => absurd ((zn_le0 (by omega)).mp h) (by omega))) (fun _ => ?_)
          refine zj_iload C dc_M_distance_53 2 rfl ?_
          refine zj_if_le C dc_M_distance_55 rfl (fun _ => ?_) (fun h => absurd ((zn_le0 (by omega)).mpr hj0) h)
          refine zj_aload_n C dc_M_distance_259 rfl 4 rfl ?_
          refine zj_get (k := 18) C (by omega) hM.1.1 rfl (by decide) fw_M fl_M_53 rfl rfl dc_M_distance_260 ?_
          refine zj_bipush (v := 20) C dc_M_distance_263 (by decide) ?_
          refine zj_iload C dc_M_distance_265 3 rfl ?_
          refine zj_imul C dc_M_distance_267 ?_
          refine zj_topi (show (20 : Int32) * nI i = nI (20 * i) from pk_mul 20 _) ?_
          refine zj_iload C dc_M_distance_268 2 rfl ?_
          refine zj_iadd C dc_M_distance_270 ?_
          refine zj_topi (nI_add _ _) ?_
          refine zj_iload C dc_M_distance_271 1 rfl ?_
          refine zj_topi (hd1) ?_
          refine zj_iast C (by omega) hM.1.2.2.2.2.2.2.2.2.2.2.2.2.2.2.2.1 rfl (by omega) (by decide) dc_M_distance_273 ?_
          refine zM_k14 hM (fun g2 hM => ?_)
          refine zj_aload_n C dc_M_distance_274 rfl 4 rfl ?_
          refine zj_get (k := 19) C (by omega) hM.1.1 rfl (by decide) fw_M fl_M_56 rfl rfl dc_M_distance_275 ?_
          refine zj_bipush (v := 20) C dc_M_distance_278 (by decide) ?_
          refine zj_iload C dc_M_distance_280 3 rfl ?_
          refine zj_imul C dc_M_distance_282 ?_
          refine zj_topi (show (20 : Int32) * nI i = nI (20 * i) from pk_mul 20 _) ?_
          refine zj_iload C dc_M_distance_283 2 rfl ?_
          refine zj_iadd C dc_M_distance_285 ?_
          refine zj_topi (nI_add _ _) ?_
          refine zj_iload C dc_M_distance_286 0 rfl ?_
          refine zj_topi (hd2) ?_
          refine zj_iast C (by omega) hM.1.2.2.2.2.2.2.2.2.2.2.2.2.2.2.2.2.1 rfl (by omega) (by decide) dc_M_distance_288 ?_
          refine zM_k15 hM (fun g2 hM => ?_)
          refine zj_iinc C dc_M_distance_289 2 rfl (zn_inc j) (by decide) rfl ?_
          refine zj_goto C dc_M_distance_292 rfl ?_
          refine zj_loc (L' := [(5, .int (nI (j + 1))), (4, .int (nI i)), (0, .ref (ad 108)), (1, .int (nI t)), (2, .int (nI pl)), (3, .int (nI sp))]) [0, 3, 4, 5, 6, 7] rfl ?_
          exact ih (j + 1) i g2 _ (by omega) (by omega) e3 hM (fun r h1 h2 => (va_up_ne _ _ h2).trans ((va_up_ne _ _ h1).trans (hrw r h1 h2))) (fun i' j' h1 h2 => ⟨(by show upd (a2 14) (20 * i + j) _ (20 * i' + j') = _; rw [pk_un (by omega)]; exact (hold i' j' h1 h2).1), (by show upd (a2 15) (20 * i + j) _ (20 * i' + j') = _; rw [pk_un (by omega)]; exact (hold i' j' h1 h2).2)⟩) (fun j' h1 => if c9 : j' = j then ⟨(by rw [c9]; show upd (a2 14) (20 * i + j) _ (20 * i + j) = _; rw [pk_us]), (by rw [c9]; show upd (a2 15) (20 * i + j) _ (20 * i + j) = _; rw [pk_us])⟩ else ⟨(by show upd (a2 14) (20 * i + j) _ (20 * i + j') = _; rw [pk_un (by omega)]; exact (hcur j' (by omega)).1), (by show upd (a2 15) (20 * i + j) _ (20 * i + j') = _; rw [pk_un (by omega)]; exact (hcur j' (by omega)).2)⟩) K
      · have hi0 : i = 0 := (zn_e0 (by omega)).mp b1
        have hd1 : nI j = nI (zp_dp (zp_sm (a 6) (zm_f a 4 t R) pl) (i) (j)).1 := by rw [hi0]; rfl
        have hd2 : (0 : Int32) = nI (zp_dp (zp_sm (a 6) (zm_f a 4 t R) pl) (i) (j)).2 := by rw [hi0]; rfl
        refine zj_iload C dc_M_distance_26 0 rfl ?_
        refine zj_goto C dc_M_distance_28 rfl ?_
        refine zj_istore C dc_M_distance_43 (by decide) rfl ?_
        refine zj_iconst (v := 0) C dc_M_distance_45 (by decide) ?_
        refine zj_istore C dc_M_distance_46 (by decide) rfl ?_
        refine zj_iload C dc_M_distance_48 3 rfl ?_
        refine zj_if_le C dc_M_distance_50 rfl (fun _ => ?_) (fun h => absurd ((zn_le0 (by omega)).mpr hi0) h)
        refine zj_aload_n C dc_M_distance_259 rfl 4 rfl ?_
        refine zj_get (k := 18) C (by omega) hM.1.1 rfl (by decide) fw_M fl_M_53 rfl rfl dc_M_distance_260 ?_
        refine zj_bipush (v := 20) C dc_M_distance_263 (by decide) ?_
        refine zj_iload C dc_M_distance_265 3 rfl ?_
        refine zj_imul C dc_M_distance_267 ?_
        refine zj_topi (show (20 : Int32) * nI i = nI (20 * i) from pk_mul 20 _) ?_
        refine zj_iload C dc_M_distance_268 2 rfl ?_
        refine zj_iadd C dc_M_distance_270 ?_
        refine zj_topi (nI_add _ _) ?_
        refine zj_iload C dc_M_distance_271 1 rfl ?_
        refine zj_topi (hd1) ?_
        refine zj_iast C (by omega) hM.1.2.2.2.2.2.2.2.2.2.2.2.2.2.2.2.1 rfl (by omega) (by decide) dc_M_distance_273 ?_
        refine zM_k14 hM (fun g2 hM => ?_)
        refine zj_aload_n C dc_M_distance_274 rfl 4 rfl ?_
        refine zj_get (k := 19) C (by omega) hM.1.1 rfl (by decide) fw_M fl_M_56 rfl rfl dc_M_distance_275 ?_
        refine zj_bipush (v := 20) C dc_M_distance_278 (by decide) ?_
        refine zj_iload C dc_M_distance_280 3 rfl ?_
        refine zj_imul C dc_M_distance_282 ?_
        refine zj_topi (show (20 : Int32) * nI i = nI (20 * i) from pk_mul 20 _) ?_
        refine zj_iload C dc_M_distance_283 2 rfl ?_
        refine zj_iadd C dc_M_distance_285 ?_
        refine zj_topi (nI_add _ _) ?_
        refine zj_iload C dc_M_distance_286 0 rfl ?_
        refine zj_topi (hd2) ?_
        refine zj_iast C (by omega) hM.1.2.2.2.2.2.2.2.2.2.2.2.2.2.2.2.2.1 rfl (by omega) (by decide) dc_M_distance_288 ?_
        refine zM_k15 hM (fun g2 hM => ?_)
        refine zj_iinc C dc_M_distance_289 2 rfl (zn_inc j) (by decide) rfl ?_
        refine zj_goto C dc_M_distance_292 rfl ?_
        refine zj_loc (L' := [(5, .int (nI (j + 1))), (4, .int (nI i)), (0, .ref (ad 108)), (1, .int (nI t)), (2, .int (nI pl)), (3, .int (nI sp))]) [0, 3, 4, 5, 6, 7] rfl ?_
        exact ih (j + 1) i g2 _ (by omega) (by omega) e3 hM (fun r h1 h2 => (va_up_ne _ _ h2).trans ((va_up_ne _ _ h1).trans (hrw r h1 h2))) (fun i' j' h1 h2 => ⟨(by show upd (a2 14) (20 * i + j) _ (20 * i' + j') = _; rw [pk_un (by omega)]; exact (hold i' j' h1 h2).1), (by show upd (a2 15) (20 * i + j) _ (20 * i' + j') = _; rw [pk_un (by omega)]; exact (hold i' j' h1 h2).2)⟩) (fun j' h1 => if c9 : j' = j then ⟨(by rw [c9]; show upd (a2 14) (20 * i + j) _ (20 * i + j) = _; rw [pk_us]), (by rw [c9]; show upd (a2 15) (20 * i + j) _ (20 * i + j) = _; rw [pk_us])⟩ else ⟨(by show upd (a2 14) (20 * i + j) _ (20 * i + j') = _; rw [pk_un (by omega)]; exact (hcur j' (by omega)).1), (by show upd (a2 15) (20 * i + j) _ (20 * i + j') = _; rw [pk_un (by omega)]; exact (hcur j' (by omega)).2)⟩) K
  have outl : ∀ (n : Nat) (i : Nat) (g2 : Nat → va_E) (a2 : Nat → Nat → Int32), qc - i = n → i ≤ qc → zm_M z ad g g2 c (nI qc) fo kp a2 → (∀ r, r ≠ 14 → r ≠ 15 → a2 r = a r) → (∀ i' j', i' < i → j' < sp → a2 14 (20 * i' + j') = nI (zp_dp (zp_sm (a 6) (zm_f a 4 t R) pl) (i') (j')).1 ∧ a2 15 (20 * i' + j') = nI (zp_dp (zp_sm (a 6) (zm_f a 4 t R) pl) (i') (j')).2) → zj_J X 0 0 (zj_Qi X 0 0 ad N (fun r g1 => ∃ a1, r = nI (zp_dp (zp_sm (a 6) (zm_f a 4 t R) pl) (qc - 1) (sp - 1)).1 ∧ a1 15 (20 * (qc - 1) + (sp - 1)) = nI (zp_dp (zp_sm (a 6) (zm_f a 4 t R) pl) (qc - 1) (sp - 1)).2 ∧ zm_M z ad g g1 c (nI qc) fo kp a1 ∧ ∀ r, r ≠ 14 → r ≠ 15 → a1 r = a r)) ad N g2 3 [(4, .int (nI i)), (0, .ref (ad 108)), (1, .int (nI t)), (2, .int (nI pl)), (3, .int (nI sp))] [] := by
    intro n
    induction n with
    | zero =>
      intro i g2 a2 e1 e2 hM hrw hold
      refine zj_iload C dc_M_distance_3 0 rfl ?_
      refine zj_aload_n C dc_M_distance_5 rfl 1 rfl ?_
      refine zj_get (k := 7) C (by omega) hM.1.1 rfl (by decide) fw_M fl_M_89 rfl rfl dc_M_distance_6 ?_
      refine zj_icmp_ge C dc_M_distance_9 rfl (fun _ => ?_) (fun h => absurd h (not_not_intro ((nI_leI (by omega) (by omega)).mpr (by omega))))
      refine zj_aload_n C dc_M_distance_301 rfl 1 rfl ?_
      refine zj_get (k := 18) C (by omega) hM.1.1 rfl (by decide) fw_M fl_M_53 rfl rfl dc_M_distance_302 ?_
      refine zj_bipush (v := 20) C dc_M_distance_305 (by decide) ?_
      refine zj_aload_n C dc_M_distance_307 rfl 1 rfl ?_
      refine zj_get (k := 7) C (by omega) hM.1.1 rfl (by decide) fw_M fl_M_89 rfl rfl dc_M_distance_308 ?_
      refine zj_iconst (v := 1) C dc_M_distance_311 (by decide) ?_
      refine zj_isub C dc_M_distance_312 ?_
      refine zj_topi (zn_m1 (by omega)) ?_
      refine zj_imul C dc_M_distance_313 ?_
      refine zj_topi (show (20 : Int32) * nI (qc - 1) = nI (20 * (qc - 1)) from pk_mul 20 _) ?_
      refine zj_iload_n C dc_M_distance_314 rfl 4 rfl ?_
      refine zj_iadd C dc_M_distance_315 ?_
      refine zj_topi (nI_add _ _) ?_
      refine zj_iconst (v := 1) C dc_M_distance_316 (by decide) ?_
      refine zj_isub C dc_M_distance_317 ?_
      refine zj_topi ((zn_m1 (by omega)).trans (congrArg nI (Nat.add_sub_assoc (by omega) _))) ?_
      refine zj_iald C (by omega) hM.1.2.2.2.2.2.2.2.2.2.2.2.2.2.2.2.1 rfl (by omega) (by decide) dc_M_distance_318 ?_
      refine zj_topi ((hold (qc - 1) (sp - 1) (by omega) (by omega)).1) ?_
      exact zj_iret C dc_M_distance_319 ⟨a2, rfl, (hold (qc - 1) (sp - 1) (by omega) (by omega)).2, hM, hrw⟩
    | succ n ih =>
      intro i g2 a2 e1 e2 hM hrw hold
      refine zj_iload C dc_M_distance_3 0 rfl ?_
      refine zj_aload_n C dc_M_distance_5 rfl 1 rfl ?_
      refine zj_get (k := 7) C (by omega) hM.1.1 rfl (by decide) fw_M fl_M_89 rfl rfl dc_M_distance_6 ?_
      refine zj_icmp_ge C dc_M_distance_9 rfl (fun h => absurd h (((zn_nle (by omega) (by omega)).mpr (by omega)))) (fun _ => ?_)
      refine zj_iconst (v := 0) C dc_M_distance_12 (by decide) ?_
      refine zj_istore C dc_M_distance_13 (by decide) rfl ?_
      refine zj_loc (L' := [(5, .int (nI 0)), (4, .int (nI i)), (0, .ref (ad 108)), (1, .int (nI t)), (2, .int (nI pl)), (3, .int (nI sp))]) [0, 1, 2, 3, 4, 5] rfl ?_
      refine inn sp 0 i g2 a2 rfl (by omega) (by omega) hM hrw hold (fun j' h => absurd h (Nat.not_lt_zero j')) (fun x5 g2 a2 hM hrw hold => ?_)
      refine zj_iinc C dc_M_distance_295 1 rfl (zn_inc i) (by decide) rfl ?_
      refine zj_goto C dc_M_distance_298 rfl ?_
      refine zj_loc (L' := [(4, .int (nI (i + 1))), (0, .ref (ad 108)), (1, .int (nI t)), (2, .int (nI pl)), (3, .int (nI sp))]) [0, 2, 3, 4, 5] rfl ?_
      exact ih (i + 1) g2 a2 (by omega) (by omega) hM hrw hold
  refine zj_iconst (v := 0) C dc_M_distance_0 (by decide) ?_
  refine zj_istore C dc_M_distance_1 (by decide) rfl ?_
  refine zj_loc (L' := [(4, .int (nI 0)), (0, .ref (ad 108)), (1, .int (nI t)), (2, .int (nI pl)), (3, .int (nI sp))]) [0, 1, 2, 3, 4] rfl ?_
  exact outl qc 0 g a rfl (by omega) hM (fun r _ _ => rfl) (fun i' j' h => absurd h (Nat.not_lt_zero i'))
end ZMT
