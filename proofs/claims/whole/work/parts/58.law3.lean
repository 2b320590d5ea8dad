section ZLO
theorem zl_kp (F : List zq_I) : zq_kp F ≤ 30 := by
  show (if 30 < F.length then 30 else F.length) ≤ 30
  split <;> omega
set_option maxHeartbeats 4000000 in
set_option maxRecDepth 100000 in
theorem zl_tune {X : zj_T} {z : zv_T} {b n : Nat} {xs : Nat → Int32} {rt : Option FieldType} (C : zj_C X z code 7 cn_L room_1 rt) (hX : zl_X X b n xs) (hst : X.2.1.stackTraces = false) {Q : State → Prop} {ad : Nat → Nat} {g : Nat → va_E} {i c0 s0 : Nat} (hi : i + 5 ≤ n) (hn : n ≤ 2560) (hc : c0 + 4 ≤ 601024 ∧ s0 + 24 ≤ 7293034) {k0 : Int32} (hG : zz_G z ad g k0) {lw : Nat → Int64} (hlw : g 126 = ze_l z 1 lw)
    (K : ∀ (g2 : Nat → va_E) (k2 : Int32) (lw2 : Nat → Int64), zz_G z ad g2 k2 → g2 126 = ze_l z 1 lw2 → zj_J X (c0 + 4) (s0 + 24) Q ad 127 g2 1227 [(4, .int (nI i)), (0, .ref b), (1, .ref (ad 0)), (2, .ref (ad 108)), (3, .ref (ad 126))] []) : zj_J X c0 s0 Q ad 127 g 120 [(4, .int (nI i)), (0, .ref b), (1, .ref (ad 0)), (2, .ref (ad 108)), (3, .ref (ad 126))] [] := by
  obtain ⟨ts, qc, qp, qq, as0, F, fo, kp, a, sh, Cn, Rn, hC, hMc, hA, hQ, hF⟩ := hG
  have hC9 := hC
  obtain ⟨c1, c2, c3, ⟨hh, ee, mo, lo, wt, hr, bh, c4⟩, ⟨b1, b2, b3, cm, c5⟩, s9, c6⟩ := hC9
  refine zj_aload_n C dc_L_law_120 rfl 2 rfl ?_
  refine zj_aload_n C dc_L_law_121 rfl 1 rfl ?_
  refine zj_iload C dc_L_law_122 0 rfl ?_
  refine zj_iconst (v := 1) C dc_L_law_124 (by decide) ?_
  refine zj_iadd C dc_L_law_125 ?_
  refine zj_topi (nI_1 _) ?_
  refine zl_sld C hX rfl (by omega) (by omega) dc_L_law_126 ?_
  refine zl_Si C (ct_L_tune _ hst z ad 127 g ts (xs (i + 1)) (by omega) c1 lw hlw) gs_L_tune rfl rfl rfl hd_L_tune ⟨(Nat.le_of_ble_eq_true rfl), (Nat.le_of_ble_eq_true rfl)⟩ rfl rfl (Nat.le_of_ble_eq_true rfl) ⟨by show _ ≤ 601024; omega, by show _ ≤ 7293034; omega⟩ dc_L_law_127 (fun k1 g1 h1 => ?_)
  obtain ⟨hk1, ⟨lw1, hlw1⟩, hf1⟩ := h1
  have hMc := zs_M_fr hMc (fun j h1 h2 => hf1 j h1 h2)
  refine zj_istore C dc_L_law_130 (by decide) rfl ?_
  refine zj_aload_n C dc_L_law_132 rfl 4 rfl ?_
  refine zj_aload_n C dc_L_law_133 rfl 2 rfl ?_
  refine zj_iload C dc_L_law_134 1 rfl ?_
  refine zj_iconst (v := 1) C dc_L_law_136 (by decide) ?_
  refine zj_iadd C dc_L_law_137 ?_
  refine zj_topi (nI_1 _) ?_
  refine zl_sld C hX rfl (by omega) (by omega) dc_L_law_138 ?_
  refine zj_Vv C (ct_M_tune _ hst z ad 127 _ _ _ _ _ _ (by omega) hMc _ sh Cn Rn hA.1 (xs (i + 1))) gv_L_78 rfl rfl rfl hd_M_tune ⟨(Nat.le_of_ble_eq_true rfl), (Nat.le_of_ble_eq_true rfl)⟩ (by omega) hMc.1 rfl rfl rfl (Nat.le_of_ble_eq_true rfl) ⟨by show _ ≤ 601024; omega, by show _ ≤ 7293034; omega⟩ dc_L_law_139 (fun g2 h2 => ?_)
  have hf2 : g2 126 = g1 126 := by rcases h2 with ⟨u, _, _, _, hM⟩ | ⟨_, hM⟩ | ⟨_, hM⟩ <;> exact hM.2 126 (Or.inr (Nat.le_refl _))
  have hlw2 := hf2.trans hlw1
  have hG2 := zz_tune (v := 0) (r := 0) (xs (i + 1)) hC hA hQ hF hk1 h2
  have hG3 := hG2
  obtain ⟨_, _, _, _, _, _, _, _, _, _, _, _, _, hMc, _⟩ := hG3
  refine zj_aload_n C dc_L_law_142 rfl 4 rfl ?_
  refine zj_Vi C (ct_M_thrown _ hst z ad 127 _ _ _ _ _ _ (by omega) hMc) gv_L_79 rfl rfl rfl hd_M_thrown ⟨(Nat.le_of_ble_eq_true rfl), (Nat.le_of_ble_eq_true rfl)⟩ (by omega) hMc.1 rfl rfl rfl (Nat.le_of_ble_eq_true rfl) ⟨by show _ ≤ 601024; omega, by show _ ≤ 7293034; omega⟩ dc_L_law_143 (fun r1 g9 h1 => ?_)
  obtain ⟨hv9, hg9⟩ := h1
  rw [hg9, hv9]
  refine zj_iload C dc_L_law_146 0 rfl ?_
  refine zj_icmp_eq C dc_L_law_148 rfl (fun _ => ?_) (fun h => absurd h (not_not_intro rfl))
  refine zj_goto C dc_L_law_153 rfl ?_
  refine zj_loc (L' := [(4, .int (nI i)), (0, .ref b), (1, .ref (ad 0)), (2, .ref (ad 108)), (3, .ref (ad 126))]) [1, 2, 3, 4, 5] rfl ?_
  exact zj_wid (by omega) (by omega) (K g2 k1 lw1 hG2 hlw2)
set_option maxHeartbeats 4000000 in
set_option maxRecDepth 100000 in
theorem zl_drop {X : zj_T} {z : zv_T} {b n : Nat} {xs : Nat → Int32} {rt : Option FieldType} (C : zj_C X z code 7 cn_L room_1 rt) (hX : zl_X X b n xs) (hst : X.2.1.stackTraces = false) {Q : State → Prop} {ad : Nat → Nat} {g : Nat → va_E} {i c0 s0 : Nat} (hi : i + 5 ≤ n) (hn : n ≤ 2560) (hc : c0 + 4 ≤ 601024 ∧ s0 + 24 ≤ 7293034) {k0 : Int32} (hG : zz_G z ad g k0) {lw : Nat → Int64} (hlw : g 126 = ze_l z 1 lw)
    (K : ∀ (g2 : Nat → va_E) (k2 : Int32) (lw2 : Nat → Int64), zz_G z ad g2 k2 → g2 126 = ze_l z 1 lw2 → zj_J X (c0 + 4) (s0 + 24) Q ad 127 g2 1227 [(4, .int (nI i)), (0, .ref b), (1, .ref (ad 0)), (2, .ref (ad 108)), (3, .ref (ad 126))] []) : zj_J X c0 s0 Q ad 127 g 156 [(4, .int (nI i)), (0, .ref b), (1, .ref (ad 0)), (2, .ref (ad 108)), (3, .ref (ad 126))] [] := by
  obtain ⟨ts, qc, qp, qq, as0, F, fo, kp, a, sh, Cn, Rn, hC, hMc, hA, hQ, hF⟩ := hG
  have hC9 := hC
  obtain ⟨c1, c2, c3, ⟨hh, ee, mo, lo, wt, hr, bh, c4⟩, ⟨b1, b2, b3, cm, c5⟩, s9, c6⟩ := hC9
  refine zj_aload_n C dc_L_law_156 rfl 2 rfl ?_
  refine zj_aload_n C dc_L_law_157 rfl 1 rfl ?_
  refine zj_iload C dc_L_law_158 0 rfl ?_
  refine zj_iconst (v := 1) C dc_L_law_160 (by decide) ?_
  refine zj_iadd C dc_L_law_161 ?_
  refine zj_topi (nI_1 _) ?_
  refine zl_sld C hX rfl (by omega) (by omega) dc_L_law_162 ?_
  refine zl_Si C (ct_L_drop _ hst z ad 127 g ts (xs (i + 1)) (by omega) c1 lw hlw) gs_L_drop rfl rfl rfl hd_L_drop ⟨(Nat.le_of_ble_eq_true rfl), (Nat.le_of_ble_eq_true rfl)⟩ rfl rfl (Nat.le_of_ble_eq_true rfl) ⟨by show _ ≤ 601024; omega, by show _ ≤ 7293034; omega⟩ dc_L_law_163 (fun k1 g1 h1 => ?_)
  obtain ⟨hk1, ⟨lw1, hlw1⟩, hf1⟩ := h1
  have hMc := zs_M_fr hMc (fun j h1 h2 => hf1 j h1 h2)
  refine zj_istore C dc_L_law_166 (by decide) rfl ?_
  refine zj_aload_n C dc_L_law_168 rfl 4 rfl ?_
  refine zj_aload_n C dc_L_law_169 rfl 2 rfl ?_
  refine zj_iload C dc_L_law_170 1 rfl ?_
  refine zj_iconst (v := 1) C dc_L_law_172 (by decide) ?_
  refine zj_iadd C dc_L_law_173 ?_
  refine zj_topi (nI_1 _) ?_
  refine zl_sld C hX rfl (by omega) (by omega) dc_L_law_174 ?_
  refine zj_Vv C (ct_M_drop _ hst z ad 127 _ _ _ _ _ _ (by omega) hMc _ sh Cn Rn hA.1 (xs (i + 1))) gv_L_85 rfl rfl rfl hd_M_drop ⟨(Nat.le_of_ble_eq_true rfl), (Nat.le_of_ble_eq_true rfl)⟩ (by omega) hMc.1 rfl rfl rfl (Nat.le_of_ble_eq_true rfl) ⟨by show _ ≤ 601024; omega, by show _ ≤ 7293034; omega⟩ dc_L_law_175 (fun g2 h2 => ?_)
  have hf2 : g2 126 = g1 126 := by rcases h2 with ⟨u, _, hM⟩ | ⟨_, hM⟩ <;> exact hM.2 126 (Or.inr (Nat.le_refl _))
  have hlw2 := hf2.trans hlw1
  have hG2 := zz_drop (v := 0) (r := 0) (xs (i + 1)) hC hA hQ hF hk1 h2
  have hG3 := hG2
  obtain ⟨_, _, _, _, _, _, _, _, _, _, _, _, _, hMc, _⟩ := hG3
  refine zj_aload_n C dc_L_law_178 rfl 4 rfl ?_
  refine zj_Vi C (ct_M_thrown _ hst z ad 127 _ _ _ _ _ _ (by omega) hMc) gv_L_79 rfl rfl rfl hd_M_thrown ⟨(Nat.le_of_ble_eq_true rfl), (Nat.le_of_ble_eq_true rfl)⟩ (by omega) hMc.1 rfl rfl rfl (Nat.le_of_ble_eq_true rfl) ⟨by show _ ≤ 601024; omega, by show _ ≤ 7293034; omega⟩ dc_L_law_179 (fun r1 g9 h1 => ?_)
  obtain ⟨hv9, hg9⟩ := h1
  rw [hg9, hv9]
  refine zj_iload C dc_L_law_182 0 rfl ?_
  refine zj_icmp_eq C dc_L_law_184 rfl (fun _ => ?_) (fun h => absurd h (not_not_intro rfl))
  refine zj_goto C dc_L_law_189 rfl ?_
  refine zj_loc (L' := [(4, .int (nI i)), (0, .ref b), (1, .ref (ad 0)), (2, .ref (ad 108)), (3, .ref (ad 126))]) [1, 2, 3, 4, 5] rfl ?_
  exact zj_wid (by omega) (by omega) (K g2 k1 lw1 hG2 hlw2)
set_option maxHeartbeats 4000000 in
set_option maxRecDepth 100000 in
theorem zl_note {X : zj_T} {z : zv_T} {b n : Nat} {xs : Nat → Int32} {rt : Option FieldType} (C : zj_C X z code 7 cn_L room_1 rt) (hX : zl_X X b n xs) (hst : X.2.1.stackTraces = false) {Q : State → Prop} {ad : Nat → Nat} {g : Nat → va_E} {i c0 s0 : Nat} (hi : i + 5 ≤ n) (hn : n ≤ 2560) (hc : c0 + 4 ≤ 601024 ∧ s0 + 24 ≤ 7293034) {k0 : Int32} (hG : zz_G z ad g k0) {lw : Nat → Int64} (hlw : g 126 = ze_l z 1 lw)
    (K : ∀ (g2 : Nat → va_E) (k2 : Int32) (lw2 : Nat → Int64), zz_G z ad g2 k2 → g2 126 = ze_l z 1 lw2 → zj_J X (c0 + 4) (s0 + 24) Q ad 127 g2 1227 [(4, .int (nI i)), (0, .ref b), (1, .ref (ad 0)), (2, .ref (ad 108)), (3, .ref (ad 126))] []) : zj_J X c0 s0 Q ad 127 g 192 [(4, .int (nI i)), (0, .ref b), (1, .ref (ad 0)), (2, .ref (ad 108)), (3, .ref (ad 126))] [] := by
  obtain ⟨ts, qc, qp, qq, as0, F, fo, kp, a, sh, Cn, Rn, hC, hMc, hA, hQ, hF⟩ := hG
  have hC9 := hC
  obtain ⟨c1, c2, c3, ⟨hh, ee, mo, lo, wt, hr, bh, c4⟩, ⟨b1, b2, b3, cm, c5⟩, s9, c6⟩ := hC9
  refine zj_aload_n C dc_L_law_192 rfl 2 rfl ?_
  refine zj_aload_n C dc_L_law_193 rfl 1 rfl ?_
  refine zj_iload C dc_L_law_194 0 rfl ?_
  refine zj_iconst (v := 1) C dc_L_law_196 (by decide) ?_
  refine zj_iadd C dc_L_law_197 ?_
  refine zj_topi (nI_1 _) ?_
  refine zl_sld C hX rfl (by omega) (by omega) dc_L_law_198 ?_
  refine zj_aload_n C dc_L_law_199 rfl 1 rfl ?_
  refine zj_iload C dc_L_law_200 0 rfl ?_
  refine zj_iconst (v := 2) C dc_L_law_202 (by decide) ?_
  refine zj_iadd C dc_L_law_203 ?_
  refine zj_topi (show nI i + (2 : Int32) = nI (i + 2) from nI_add _ 2) ?_
  refine zl_sld C hX rfl (by omega) (by omega) dc_L_law_204 ?_
  refine zj_aload_n C dc_L_law_205 rfl 1 rfl ?_
  refine zj_iload C dc_L_law_206 0 rfl ?_
  refine zj_iconst (v := 3) C dc_L_law_208 (by decide) ?_
  refine zj_iadd C dc_L_law_209 ?_
  refine zj_topi (show nI i + (3 : Int32) = nI (i + 3) from nI_add _ 3) ?_
  refine zl_sld C hX rfl (by omega) (by omega) dc_L_law_210 ?_
  refine zj_aload_n C dc_L_law_211 rfl 4 rfl ?_
  refine zl_Si C (ct_L_note _ hst z ad 127 g ts (xs (i + 1)) (by omega) c1 (xs (i + 2)) (xs (i + 3)) (zz_cn hA).1 (zz_cn hA).2.1 lw hlw) gs_L_note rfl rfl rfl hd_L_note ⟨(Nat.le_of_ble_eq_true rfl), (Nat.le_of_ble_eq_true rfl)⟩ rfl rfl (Nat.le_of_ble_eq_true rfl) ⟨by show _ ≤ 601024; omega, by show _ ≤ 7293034; omega⟩ dc_L_law_212 (fun k1 g1 h1 => ?_)
  obtain ⟨v, hk1, ⟨lw1, hlw1, hv1⟩, hf1⟩ := h1
  have hMc := zs_M_fr hMc (fun j h1 h2 => hf1 j h1 h2)
  refine zj_istore C dc_L_law_215 (by decide) rfl ?_
  refine zj_aload_n C dc_L_law_217 rfl 4 rfl ?_
  refine zj_aload_n C dc_L_law_218 rfl 2 rfl ?_
  refine zj_iload C dc_L_law_219 1 rfl ?_
  refine zj_iconst (v := 1) C dc_L_law_221 (by decide) ?_
  refine zj_iadd C dc_L_law_222 ?_
  refine zj_topi (nI_1 _) ?_
  refine zl_sld C hX rfl (by omega) (by omega) dc_L_law_223 ?_
  refine zj_aload_n C dc_L_law_224 rfl 2 rfl ?_
  refine zj_iload C dc_L_law_225 1 rfl ?_
  refine zj_iconst (v := 2) C dc_L_law_227 (by decide) ?_
  refine zj_iadd C dc_L_law_228 ?_
  refine zj_topi (show nI i + (2 : Int32) = nI (i + 2) from nI_add _ 2) ?_
  refine zl_sld C hX rfl (by omega) (by omega) dc_L_law_229 ?_
  refine zj_aload_n C dc_L_law_230 rfl 2 rfl ?_
  refine zj_iload C dc_L_law_231 1 rfl ?_
  refine zj_iconst (v := 3) C dc_L_law_233 (by decide) ?_
  refine zj_iadd C dc_L_law_234 ?_
  refine zj_topi (show nI i + (3 : Int32) = nI (i + 3) from nI_add _ 3) ?_
  refine zl_sld C hX rfl (by omega) (by omega) dc_L_law_235 ?_
  refine zj_Vi C (ct_M_note _ hst z ad 127 _ _ _ _ _ _ (by omega) hMc _ sh Cn Rn hA.1 (xs (i + 1)) (xs (i + 2)) (xs (i + 3))) gv_L_89 rfl rfl rfl hd_M_note ⟨(Nat.le_of_ble_eq_true rfl), (Nat.le_of_ble_eq_true rfl)⟩ (by omega) hMc.1 rfl rfl rfl (Nat.le_of_ble_eq_true rfl) ⟨by show _ ≤ 601024; omega, by show _ ≤ 7293034; omega⟩ dc_L_law_236 (fun r2 g2 h2 => ?_)
  have hf2 : g2 126 = g1 126 := by rcases h2 with ⟨u, _, _, _, _, _, _, hM⟩ | ⟨_, hM⟩ | ⟨_, _, hM⟩ | ⟨_, _, hM⟩ <;> exact hM.2 126 (Or.inr (Nat.le_refl _))
  have hlw2 := hf2.trans hlw1
  obtain ⟨hG2, hv2⟩ := zz_note (xs (i + 1)) (xs (i + 2)) (xs (i + 3)) hC hA hQ hF hk1 h2
  have hG3 := hG2
  obtain ⟨_, _, _, _, _, _, _, _, _, _, _, _, _, hMc, _⟩ := hG3
  refine zj_istore C dc_L_law_239 (by decide) rfl ?_
  refine zj_aload_n C dc_L_law_241 rfl 5 rfl ?_
  refine zj_Vi C (ct_M_thrown _ hst z ad 127 _ _ _ _ _ _ (by omega) hMc) gv_L_79 rfl rfl rfl hd_M_thrown ⟨(Nat.le_of_ble_eq_true rfl), (Nat.le_of_ble_eq_true rfl)⟩ (by omega) hMc.1 rfl rfl rfl (Nat.le_of_ble_eq_true rfl) ⟨by show _ ≤ 601024; omega, by show _ ≤ 7293034; omega⟩ dc_L_law_242 (fun r1 g9 h1 => ?_)
  obtain ⟨hv9, hg9⟩ := h1
  rw [hg9, hv9]
  refine zj_iload C dc_L_law_245 1 rfl ?_
  refine zj_icmp_eq C dc_L_law_247 rfl (fun _ => ?_) (fun h => absurd h (not_not_intro rfl))
  refine zj_iload C dc_L_law_252 1 rfl ?_
  refine zj_if_ne C dc_L_law_254 rfl (fun hk0 => ?_) (fun hk0 => ?_)
  · skip
    refine zj_goto C dc_L_law_269 rfl ?_
    refine zj_loc (L' := [(4, .int (nI i)), (0, .ref b), (1, .ref (ad 0)), (2, .ref (ad 108)), (3, .ref (ad 126))]) [2, 3, 4, 5, 6] rfl ?_
    exact zj_wid (by omega) (by omega) (K g2 k1 lw1 hG2 hlw2)
  · skip
    refine zj_aload_n C dc_L_law_257 rfl 6 rfl ?_
    refine zj_iconst (v := 0) C dc_L_law_258 (by decide) ?_
    refine zj_topi (nI_0.symm) ?_
    refine zj_lald C (by omega) hlw2 rfl (by decide) (by decide) dc_L_law_259 ?_
    refine zj_iload C dc_L_law_260 0 rfl ?_
    refine zj_i2l C dc_L_law_262 ?_
    refine zj_lcmp C dc_L_law_263 ?_
    refine zj_topi (zl_cmp0 (by rw [hv1 hk0, hv2 hk0])) ?_
    refine zj_if_eq C dc_L_law_264 rfl (fun _ => ?_) (fun h => absurd h (not_not_intro rfl))
    refine zj_goto C dc_L_law_269 rfl ?_
    refine zj_loc (L' := [(4, .int (nI i)), (0, .ref b), (1, .ref (ad 0)), (2, .ref (ad 108)), (3, .ref (ad 126))]) [2, 3, 4, 5, 6] rfl ?_
    exact zj_wid (by omega) (by omega) (K g2 k1 lw1 hG2 hlw2)
set_option maxHeartbeats 4000000 in
set_option maxRecDepth 100000 in
theorem zl_show {X : zj_T} {z : zv_T} {b n : Nat} {xs : Nat → Int32} {rt : Option FieldType} (C : zj_C X z code 7 cn_L room_1 rt) (hX : zl_X X b n xs) (hst : X.2.1.stackTraces = false) {Q : State → Prop} {ad : Nat → Nat} {g : Nat → va_E} {i c0 s0 : Nat} (hi : i + 5 ≤ n) (hn : n ≤ 2560) (hc : c0 + 4 ≤ 601024 ∧ s0 + 24 ≤ 7293034) {k0 : Int32} (hG : zz_G z ad g k0) {lw : Nat → Int64} (hlw : g 126 = ze_l z 1 lw)
    (K : ∀ (g2 : Nat → va_E) (k2 : Int32) (lw2 : Nat → Int64), zz_G z ad g2 k2 → g2 126 = ze_l z 1 lw2 → zj_J X (c0 + 4) (s0 + 24) Q ad 127 g2 1227 [(4, .int (nI i)), (0, .ref b), (1, .ref (ad 0)), (2, .ref (ad 108)), (3, .ref (ad 126))] []) : zj_J X c0 s0 Q ad 127 g 272 [(4, .int (nI i)), (0, .ref b), (1, .ref (ad 0)), (2, .ref (ad 108)), (3, .ref (ad 126))] [] := by
  obtain ⟨ts, qc, qp, qq, as0, F, fo, kp, a, sh, Cn, Rn, hC, hMc, hA, hQ, hF⟩ := hG
  have hC9 := hC
  obtain ⟨c1, c2, c3, ⟨hh, ee, mo, lo, wt, hr, bh, c4⟩, ⟨b1, b2, b3, cm, c5⟩, s9, c6⟩ := hC9
  refine zj_aload_n C dc_L_law_272 rfl 2 rfl ?_
  refine zj_aload_n C dc_L_law_273 rfl 1 rfl ?_
  refine zj_iload C dc_L_law_274 0 rfl ?_
  refine zj_iconst (v := 1) C dc_L_law_276 (by decide) ?_
  refine zj_iadd C dc_L_law_277 ?_
  refine zj_topi (nI_1 _) ?_
  refine zl_sld C hX rfl (by omega) (by omega) dc_L_law_278 ?_
  refine zj_aload_n C dc_L_law_279 rfl 1 rfl ?_
  refine zj_iload C dc_L_law_280 0 rfl ?_
  refine zj_iconst (v := 2) C dc_L_law_282 (by decide) ?_
  refine zj_iadd C dc_L_law_283 ?_
  refine zj_topi (show nI i + (2 : Int32) = nI (i + 2) from nI_add _ 2) ?_
  refine zl_sld C hX rfl (by omega) (by omega) dc_L_law_284 ?_
  refine zj_if_eq C dc_L_law_285 rfl (fun hon => ?_) (fun hon => ?_)
  · skip
    refine zj_iconst (v := 0) C dc_L_law_292 (by decide) ?_
    refine zl_Si C (ct_L_show _ hst z ad 127 g ts (xs (i + 1)) (by omega) c1 false (zz_cn hA).1 lw hlw) gs_L_show rfl rfl rfl hd_L_show ⟨(Nat.le_of_ble_eq_true rfl), (Nat.le_of_ble_eq_true rfl)⟩ rfl rfl (Nat.le_of_ble_eq_true rfl) ⟨by show _ ≤ 601024; omega, by show _ ≤ 7293034; omega⟩ dc_L_law_293 (fun k1 g1 h1 => ?_)
    obtain ⟨hk1, ⟨lw1, hlw1⟩, hf1⟩ := h1
    have hMc := zs_M_fr hMc (fun j h1 h2 => hf1 j h1 h2)
    refine zj_istore C dc_L_law_296 (by decide) rfl ?_
    refine zj_aload_n C dc_L_law_298 rfl 4 rfl ?_
    refine zj_aload_n C dc_L_law_299 rfl 2 rfl ?_
    refine zj_iload C dc_L_law_300 1 rfl ?_
    refine zj_iconst (v := 1) C dc_L_law_302 (by decide) ?_
    refine zj_iadd C dc_L_law_303 ?_
    refine zj_topi (nI_1 _) ?_
    refine zl_sld C hX rfl (by omega) (by omega) dc_L_law_304 ?_
    refine zj_aload_n C dc_L_law_305 rfl 2 rfl ?_
    refine zj_iload C dc_L_law_306 1 rfl ?_
    refine zj_iconst (v := 2) C dc_L_law_308 (by decide) ?_
    refine zj_iadd C dc_L_law_309 ?_
    refine zj_topi (show nI i + (2 : Int32) = nI (i + 2) from nI_add _ 2) ?_
    refine zl_sld C hX rfl (by omega) (by omega) dc_L_law_310 ?_
    refine zj_if_eq C dc_L_law_311 rfl (fun _ => ?_) (fun h => absurd hon h)
    refine zj_iconst (v := 0) C dc_L_law_318 (by decide) ?_
    refine zj_Vv C (ct_M_show _ hst z ad 127 _ _ _ _ _ _ (by omega) hMc _ sh Cn Rn hA.1 (xs (i + 1)) false) gv_L_93 rfl rfl rfl hd_M_show ⟨(Nat.le_of_ble_eq_true rfl), (Nat.le_of_ble_eq_true rfl)⟩ (by omega) hMc.1 rfl rfl rfl (Nat.le_of_ble_eq_true rfl) ⟨by show _ ≤ 601024; omega, by show _ ≤ 7293034; omega⟩ dc_L_law_319 (fun g2 h2 => ?_)
    have hf2 : g2 126 = g1 126 := by rcases h2 with ⟨u, _, _, _, hM⟩ | ⟨_, hM⟩ | ⟨_, hM⟩ <;> exact hM.2 126 (Or.inr (Nat.le_refl _))
    have hlw2 := hf2.trans hlw1
    have hG2 := zz_show (v := 0) (r := 0) (xs (i + 1)) false hC hA hQ hF hk1 h2
    have hG3 := hG2
    obtain ⟨_, _, _, _, _, _, _, _, _, _, _, _, _, hMc, _⟩ := hG3
    refine zj_aload_n C dc_L_law_322 rfl 4 rfl ?_
    refine zj_Vi C (ct_M_thrown _ hst z ad 127 _ _ _ _ _ _ (by omega) hMc) gv_L_79 rfl rfl rfl hd_M_thrown ⟨(Nat.le_of_ble_eq_true rfl), (Nat.le_of_ble_eq_true rfl)⟩ (by omega) hMc.1 rfl rfl rfl (Nat.le_of_ble_eq_true rfl) ⟨by show _ ≤ 601024; omega, by show _ ≤ 7293034; omega⟩ dc_L_law_323 (fun r1 g9 h1 => ?_)
    obtain ⟨hv9, hg9⟩ := h1
    rw [hg9, hv9]
    refine zj_iload C dc_L_law_326 0 rfl ?_
    refine zj_icmp_eq C dc_L_law_328 rfl (fun _ => ?_) (fun h => absurd h (not_not_intro rfl))
    refine zj_goto C dc_L_law_333 rfl ?_
    refine zj_loc (L' := [(4, .int (nI i)), (0, .ref b), (1, .ref (ad 0)), (2, .ref (ad 108)), (3, .ref (ad 126))]) [1, 2, 3, 4, 5] rfl ?_
    exact zj_wid (by omega) (by omega) (K g2 k1 lw1 hG2 hlw2)
  · skip
    refine zj_iconst (v := 1) C dc_L_law_288 (by decide) ?_
    refine zj_goto C dc_L_law_289 rfl ?_
    refine zl_Si C (ct_L_show _ hst z ad 127 g ts (xs (i + 1)) (by omega) c1 true (zz_cn hA).1 lw hlw) gs_L_show rfl rfl rfl hd_L_show ⟨(Nat.le_of_ble_eq_true rfl), (Nat.le_of_ble_eq_true rfl)⟩ rfl rfl (Nat.le_of_ble_eq_true rfl) ⟨by show _ ≤ 601024; omega, by show _ ≤ 7293034; omega⟩ dc_L_law_293 (fun k1 g1 h1 => ?_)
    obtain ⟨hk1, ⟨lw1, hlw1⟩, hf1⟩ := h1
    have hMc := zs_M_fr hMc (fun j h1 h2 => hf1 j h1 h2)
    refine zj_istore C dc_L_law_296 (by decide) rfl ?_
    refine zj_aload_n C dc_L_law_298 rfl 4 rfl ?_
    refine zj_aload_n C dc_L_law_299 rfl 2 rfl ?_
    refine zj_iload C dc_L_law_300 1 rfl ?_
    refine zj_iconst (v := 1) C dc_L_law_302 (by decide) ?_
    refine zj_iadd C dc_L_law_303 ?_
    refine zj_topi (nI_1 _) ?_
    refine zl_sld C hX rfl (by omega) (by omega) dc_L_law_304 ?_
    refine zj_aload_n C dc_L_law_305 rfl 2 rfl ?_
    refine zj_iload C dc_L_law_306 1 rfl ?_
    refine zj_iconst (v := 2) C dc_L_law_308 (by decide) ?_
    refine zj_iadd C dc_L_law_309 ?_
    refine zj_topi (show nI i + (2 : Int32) = nI (i + 2) from nI_add _ 2) ?_
    refine zl_sld C hX rfl (by omega) (by omega) dc_L_law_310 ?_
    refine zj_if_eq C dc_L_law_311 rfl (fun h => absurd h hon) (fun _ => ?_)
    refine zj_iconst (v := 1) C dc_L_law_314 (by decide) ?_
    refine zj_goto C dc_L_law_315 rfl ?_
    refine zj_Vv C (ct_M_show _ hst z ad 127 _ _ _ _ _ _ (by omega) hMc _ sh Cn Rn hA.1 (xs (i + 1)) true) gv_L_93 rfl rfl rfl hd_M_show ⟨(Nat.le_of_ble_eq_true rfl), (Nat.le_of_ble_eq_true rfl)⟩ (by omega) hMc.1 rfl rfl rfl (Nat.le_of_ble_eq_true rfl) ⟨by show _ ≤ 601024; omega, by show _ ≤ 7293034; omega⟩ dc_L_law_319 (fun g2 h2 => ?_)
    have hf2 : g2 126 = g1 126 := by rcases h2 with ⟨u, _, _, _, hM⟩ | ⟨_, hM⟩ | ⟨_, hM⟩ <;> exact hM.2 126 (Or.inr (Nat.le_refl _))
    have hlw2 := hf2.trans hlw1
    have hG2 := zz_show (v := 0) (r := 0) (xs (i + 1)) true hC hA hQ hF hk1 h2
    have hG3 := hG2
    obtain ⟨_, _, _, _, _, _, _, _, _, _, _, _, _, hMc, _⟩ := hG3
    refine zj_aload_n C dc_L_law_322 rfl 4 rfl ?_
    refine zj_Vi C (ct_M_thrown _ hst z ad 127 _ _ _ _ _ _ (by omega) hMc) gv_L_79 rfl rfl rfl hd_M_thrown ⟨(Nat.le_of_ble_eq_true rfl), (Nat.le_of_ble_eq_true rfl)⟩ (by omega) hMc.1 rfl rfl rfl (Nat.le_of_ble_eq_true rfl) ⟨by show _ ≤ 601024; omega, by show _ ≤ 7293034; omega⟩ dc_L_law_323 (fun r1 g9 h1 => ?_)
    obtain ⟨hv9, hg9⟩ := h1
    rw [hg9, hv9]
    refine zj_iload C dc_L_law_326 0 rfl ?_
    refine zj_icmp_eq C dc_L_law_328 rfl (fun _ => ?_) (fun h => absurd h (not_not_intro rfl))
    refine zj_goto C dc_L_law_333 rfl ?_
    refine zj_loc (L' := [(4, .int (nI i)), (0, .ref b), (1, .ref (ad 0)), (2, .ref (ad 108)), (3, .ref (ad 126))]) [1, 2, 3, 4, 5] rfl ?_
    exact zj_wid (by omega) (by omega) (K g2 k1 lw1 hG2 hlw2)
set_option maxHeartbeats 4000000 in
set_option maxRecDepth 100000 in
theorem zl_correct {X : zj_T} {z : zv_T} {b n : Nat} {xs : Nat → Int32} {rt : Option FieldType} (C : zj_C X z code 7 cn_L room_1 rt) (hX : zl_X X b n xs) (hst : X.2.1.stackTraces = false) {Q : State → Prop} {ad : Nat → Nat} {g : Nat → va_E} {i c0 s0 : Nat} (hi : i + 5 ≤ n) (hn : n ≤ 2560) (hc : c0 + 4 ≤ 601024 ∧ s0 + 24 ≤ 7293034) {k0 : Int32} (hG : zz_G z ad g k0) {lw : Nat → Int64} (hlw : g 126 = ze_l z 1 lw)
    (K : ∀ (g2 : Nat → va_E) (k2 : Int32) (lw2 : Nat → Int64), zz_G z ad g2 k2 → g2 126 = ze_l z 1 lw2 → zj_J X (c0 + 4) (s0 + 24) Q ad 127 g2 1227 [(4, .int (nI i)), (0, .ref b), (1, .ref (ad 0)), (2, .ref (ad 108)), (3, .ref (ad 126))] []) : zj_J X c0 s0 Q ad 127 g 336 [(4, .int (nI i)), (0, .ref b), (1, .ref (ad 0)), (2, .ref (ad 108)), (3, .ref (ad 126))] [] := by
  obtain ⟨ts, qc, qp, qq, as0, F, fo, kp, a, sh, Cn, Rn, hC, hMc, hA, hQ, hF⟩ := hG
  have hC9 := hC
  obtain ⟨c1, c2, c3, ⟨hh, ee, mo, lo, wt, hr, bh, c4⟩, ⟨b1, b2, b3, cm, c5⟩, s9, c6⟩ := hC9
  refine zj_aload_n C dc_L_law_336 rfl 2 rfl ?_
  refine zj_aload_n C dc_L_law_337 rfl 1 rfl ?_
  refine zj_iload C dc_L_law_338 0 rfl ?_
  refine zj_iconst (v := 1) C dc_L_law_340 (by decide) ?_
  refine zj_iadd C dc_L_law_341 ?_
  refine zj_topi (nI_1 _) ?_
  refine zl_sld C hX rfl (by omega) (by omega) dc_L_law_342 ?_
  refine zj_aload_n C dc_L_law_343 rfl 1 rfl ?_
  refine zj_iload C dc_L_law_344 0 rfl ?_
  refine zj_iconst (v := 2) C dc_L_law_346 (by decide) ?_
  refine zj_iadd C dc_L_law_347 ?_
  refine zj_topi (show nI i + (2 : Int32) = nI (i + 2) from nI_add _ 2) ?_
  refine zl_sld C hX rfl (by omega) (by omega) dc_L_law_348 ?_
  refine zj_aload_n C dc_L_law_349 rfl 1 rfl ?_
  refine zj_iload C dc_L_law_350 0 rfl ?_
  refine zj_iconst (v := 3) C dc_L_law_352 (by decide) ?_
  refine zj_iadd C dc_L_law_353 ?_
  refine zj_topi (show nI i + (3 : Int32) = nI (i + 3) from nI_add _ 3) ?_
  refine zl_sld C hX rfl (by omega) (by omega) dc_L_law_354 ?_
  refine zj_aload_n C dc_L_law_355 rfl 1 rfl ?_
  refine zj_iload C dc_L_law_356 0 rfl ?_
  refine zj_iconst (v := 4) C dc_L_law_358 (by decide) ?_
  refine zj_iadd C dc_L_law_359 ?_
  refine zj_topi (show nI i + (4 : Int32) = nI (i + 4) from nI_add _ 4) ?_
  refine zl_sld C hX rfl (by omega) (by omega) dc_L_law_360 ?_
  refine zj_aload_n C dc_L_law_361 rfl 4 rfl ?_
  refine zl_Si C (ct_L_correct _ hst z ad 127 g ts (xs (i + 1)) (by omega) c1 (xs (i + 2)) (xs (i + 3)) (xs (i + 4)) (zz_cn hA).1 (zz_cn hA).2.1 lw hlw) gs_L_correct rfl rfl rfl hd_L_correct ⟨(Nat.le_of_ble_eq_true rfl), (Nat.le_of_ble_eq_true rfl)⟩ rfl rfl (Nat.le_of_ble_eq_true rfl) ⟨by show _ ≤ 601024; omega, by show _ ≤ 7293034; omega⟩ dc_L_law_362 (fun k1 g1 h1 => ?_)
  obtain ⟨v, hk1, ⟨lw1, hlw1, hv1⟩, hf1⟩ := h1
  have hMc := zs_M_fr hMc (fun j h1 h2 => hf1 j h1 h2)
  refine zj_istore C dc_L_law_365 (by decide) rfl ?_
  refine zj_aload_n C dc_L_law_367 rfl 4 rfl ?_
  refine zj_aload_n C dc_L_law_368 rfl 2 rfl ?_
  refine zj_iload C dc_L_law_369 1 rfl ?_
  refine zj_iconst (v := 1) C dc_L_law_371 (by decide) ?_
  refine zj_iadd C dc_L_law_372 ?_
  refine zj_topi (nI_1 _) ?_
  refine zl_sld C hX rfl (by omega) (by omega) dc_L_law_373 ?_
  refine zj_aload_n C dc_L_law_374 rfl 2 rfl ?_
  refine zj_iload C dc_L_law_375 1 rfl ?_
  refine zj_iconst (v := 2) C dc_L_law_377 (by decide) ?_
  refine zj_iadd C dc_L_law_378 ?_
  refine zj_topi (show nI i + (2 : Int32) = nI (i + 2) from nI_add _ 2) ?_
  refine zl_sld C hX rfl (by omega) (by omega) dc_L_law_379 ?_
  refine zj_aload_n C dc_L_law_380 rfl 2 rfl ?_
  refine zj_iload C dc_L_law_381 1 rfl ?_
  refine zj_iconst (v := 3) C dc_L_law_383 (by decide) ?_
  refine zj_iadd C dc_L_law_384 ?_
  refine zj_topi (show nI i + (3 : Int32) = nI (i + 3) from nI_add _ 3) ?_
  refine zl_sld C hX rfl (by omega) (by omega) dc_L_law_385 ?_
  refine zj_aload_n C dc_L_law_386 rfl 2 rfl ?_
  refine zj_iload C dc_L_law_387 1 rfl ?_
  refine zj_iconst (v := 4) C dc_L_law_389 (by decide) ?_
  refine zj_iadd C dc_L_law_390 ?_
  refine zj_topi (show nI i + (4 : Int32) = nI (i + 4) from nI_add _ 4) ?_
  refine zl_sld C hX rfl (by omega) (by omega) dc_L_law_391 ?_
  refine zj_Vi C (ct_M_correct _ hst z ad 127 _ _ _ _ _ _ (by omega) hMc _ sh Cn Rn hA.1 (xs (i + 1)) (xs (i + 2)) (xs (i + 3)) (xs (i + 4))) gv_L_97 rfl rfl rfl hd_M_correct ⟨(Nat.le_of_ble_eq_true rfl), (Nat.le_of_ble_eq_true rfl)⟩ (by omega) hMc.1 rfl rfl rfl (Nat.le_of_ble_eq_true rfl) ⟨by show _ ≤ 601024; omega, by show _ ≤ 7293034; omega⟩ dc_L_law_392 (fun r2 g2 h2 => ?_)
  have hf2 : g2 126 = g1 126 := by rcases h2 with ⟨u, pl', a1, _, _, _, _, _, _, hM, _⟩ | ⟨_, hM⟩ | ⟨_, _, hM⟩ | ⟨_, _, hM⟩ <;> exact hM.2 126 (Or.inr (Nat.le_refl _))
  have hlw2 := hf2.trans hlw1
  obtain ⟨hG2, hv2⟩ := zz_correct (xs (i + 1)) (xs (i + 2)) (xs (i + 3)) (xs (i + 4)) hC hA hQ hF hk1 h2
  have hG3 := hG2
  obtain ⟨_, _, _, _, _, _, _, _, _, _, _, _, _, hMc, _⟩ := hG3
  refine zj_istore C dc_L_law_395 (by decide) rfl ?_
  refine zj_aload_n C dc_L_law_397 rfl 5 rfl ?_
  refine zj_Vi C (ct_M_thrown _ hst z ad 127 _ _ _ _ _ _ (by omega) hMc) gv_L_79 rfl rfl rfl hd_M_thrown ⟨(Nat.le_of_ble_eq_true rfl), (Nat.le_of_ble_eq_true rfl)⟩ (by omega) hMc.1 rfl rfl rfl (Nat.le_of_ble_eq_true rfl) ⟨by show _ ≤ 601024; omega, by show _ ≤ 7293034; omega⟩ dc_L_law_398 (fun r1 g9 h1 => ?_)
  obtain ⟨hv9, hg9⟩ := h1
  rw [hg9, hv9]
  refine zj_iload C dc_L_law_401 1 rfl ?_
  refine zj_icmp_eq C dc_L_law_403 rfl (fun _ => ?_) (fun h => absurd h (not_not_intro rfl))
  refine zj_iload C dc_L_law_408 1 rfl ?_
  refine zj_if_ne C dc_L_law_410 rfl (fun hk0 => ?_) (fun hk0 => ?_)
  · skip
    refine zj_goto C dc_L_law_425 rfl ?_
    refine zj_loc (L' := [(4, .int (nI i)), (0, .ref b), (1, .ref (ad 0)), (2, .ref (ad 108)), (3, .ref (ad 126))]) [2, 3, 4, 5, 6] rfl ?_
    exact zj_wid (by omega) (by omega) (K g2 k1 lw1 hG2 hlw2)
  · skip
    refine zj_aload_n C dc_L_law_413 rfl 6 rfl ?_
    refine zj_iconst (v := 0) C dc_L_law_414 (by decide) ?_
    refine zj_topi (nI_0.symm) ?_
    refine zj_lald C (by omega) hlw2 rfl (by decide) (by decide) dc_L_law_415 ?_
    refine zj_iload C dc_L_law_416 0 rfl ?_
    refine zj_i2l C dc_L_law_418 ?_
    refine zj_lcmp C dc_L_law_419 ?_
    refine zj_topi (zl_cmp0 (by rw [hv1 hk0, hv2 hk0])) ?_
    refine zj_if_eq C dc_L_law_420 rfl (fun _ => ?_) (fun h => absurd h (not_not_intro rfl))
    refine zj_goto C dc_L_law_425 rfl ?_
    refine zj_loc (L' := [(4, .int (nI i)), (0, .ref b), (1, .ref (ad 0)), (2, .ref (ad 108)), (3, .ref (ad 126))]) [2, 3, 4, 5, 6] rfl ?_
    exact zj_wid (by omega) (by omega) (K g2 k1 lw1 hG2 hlw2)
set_option maxHeartbeats 4000000 in
set_option maxRecDepth 100000 in
theorem zl_restore {X : zj_T} {z : zv_T} {b n : Nat} {xs : Nat → Int32} {rt : Option FieldType} (C : zj_C X z code 7 cn_L room_1 rt) (hX : zl_X X b n xs) (hst : X.2.1.stackTraces = false) {Q : State → Prop} {ad : Nat → Nat} {g : Nat → va_E} {i c0 s0 : Nat} (hi : i + 5 ≤ n) (hn : n ≤ 2560) (hc : c0 + 4 ≤ 601024 ∧ s0 + 24 ≤ 7293034) {k0 : Int32} (hG : zz_G z ad g k0) {lw : Nat → Int64} (hlw : g 126 = ze_l z 1 lw)
    (K : ∀ (g2 : Nat → va_E) (k2 : Int32) (lw2 : Nat → Int64), zz_G z ad g2 k2 → g2 126 = ze_l z 1 lw2 → zj_J X (c0 + 4) (s0 + 24) Q ad 127 g2 1227 [(4, .int (nI i)), (0, .ref b), (1, .ref (ad 0)), (2, .ref (ad 108)), (3, .ref (ad 126))] []) : zj_J X c0 s0 Q ad 127 g 428 [(4, .int (nI i)), (0, .ref b), (1, .ref (ad 0)), (2, .ref (ad 108)), (3, .ref (ad 126))] [] := by
  obtain ⟨ts, qc, qp, qq, as0, F, fo, kp, a, sh, Cn, Rn, hC, hMc, hA, hQ, hF⟩ := hG
  have hC9 := hC
  obtain ⟨c1, c2, c3, ⟨hh, ee, mo, lo, wt, hr, bh, c4⟩, ⟨b1, b2, b3, cm, c5⟩, s9, c6⟩ := hC9
  refine zj_aload_n C dc_L_law_428 rfl 2 rfl ?_
  refine zj_aload_n C dc_L_law_429 rfl 1 rfl ?_
  refine zj_iload C dc_L_law_430 0 rfl ?_
  refine zj_iconst (v := 1) C dc_L_law_432 (by decide) ?_
  refine zj_iadd C dc_L_law_433 ?_
  refine zj_topi (nI_1 _) ?_
  refine zl_sld C hX rfl (by omega) (by omega) dc_L_law_434 ?_
  refine zj_aload_n C dc_L_law_435 rfl 1 rfl ?_
  refine zj_iload C dc_L_law_436 0 rfl ?_
  refine zj_iconst (v := 2) C dc_L_law_438 (by decide) ?_
  refine zj_iadd C dc_L_law_439 ?_
  refine zj_topi (show nI i + (2 : Int32) = nI (i + 2) from nI_add _ 2) ?_
  refine zl_sld C hX rfl (by omega) (by omega) dc_L_law_440 ?_
  refine zl_Si C (ct_L_restore _ hst z ad 127 g ts (xs (i + 1)) (by omega) c1 (xs (i + 2)) (zz_cn hA).2.1 (zz_cn hA).2.2 lw hlw) gs_L_restore rfl rfl rfl hd_L_restore ⟨(Nat.le_of_ble_eq_true rfl), (Nat.le_of_ble_eq_true rfl)⟩ rfl rfl (Nat.le_of_ble_eq_true rfl) ⟨by show _ ≤ 601024; omega, by show _ ≤ 7293034; omega⟩ dc_L_law_441 (fun k1 g1 h1 => ?_)
  obtain ⟨hk1, ⟨lw1, hlw1⟩, hf1⟩ := h1
  have hMc := zs_M_fr hMc (fun j h1 h2 => hf1 j h1 h2)
  refine zj_istore C dc_L_law_444 (by decide) rfl ?_
  refine zj_aload_n C dc_L_law_446 rfl 4 rfl ?_
  refine zj_aload_n C dc_L_law_447 rfl 2 rfl ?_
  refine zj_iload C dc_L_law_448 1 rfl ?_
  refine zj_iconst (v := 1) C dc_L_law_450 (by decide) ?_
  refine zj_iadd C dc_L_law_451 ?_
  refine zj_topi (nI_1 _) ?_
  refine zl_sld C hX rfl (by omega) (by omega) dc_L_law_452 ?_
  refine zj_aload_n C dc_L_law_453 rfl 2 rfl ?_
  refine zj_iload C dc_L_law_454 1 rfl ?_
  refine zj_iconst (v := 2) C dc_L_law_456 (by decide) ?_
  refine zj_iadd C dc_L_law_457 ?_
  refine zj_topi (show nI i + (2 : Int32) = nI (i + 2) from nI_add _ 2) ?_
  refine zl_sld C hX rfl (by omega) (by omega) dc_L_law_458 ?_
  refine zj_Vv C (ct_M_restore _ hst z ad 127 _ _ _ _ _ _ (by omega) hMc _ sh Cn Rn hA.1 (xs (i + 1)) (xs (i + 2))) gv_L_101 rfl rfl rfl hd_M_restore ⟨(Nat.le_of_ble_eq_true rfl), (Nat.le_of_ble_eq_true rfl)⟩ (by omega) hMc.1 rfl rfl rfl (Nat.le_of_ble_eq_true rfl) ⟨by show _ ≤ 601024; omega, by show _ ≤ 7293034; omega⟩ dc_L_law_459 (fun g2 h2 => ?_)
  have hf2 : g2 126 = g1 126 := by rcases h2 with ⟨u, r', _, _, _, hM⟩ | ⟨_, hM⟩ <;> exact hM.2 126 (Or.inr (Nat.le_refl _))
  have hlw2 := hf2.trans hlw1
  have hG2 := zz_restore (v := 0) (r := 0) (xs (i + 1)) (xs (i + 2)) hC hA hQ hF hk1 h2
  have hG3 := hG2
  obtain ⟨_, _, _, _, _, _, _, _, _, _, _, _, _, hMc, _⟩ := hG3
  refine zj_aload_n C dc_L_law_462 rfl 4 rfl ?_
  refine zj_Vi C (ct_M_thrown _ hst z ad 127 _ _ _ _ _ _ (by omega) hMc) gv_L_79 rfl rfl rfl hd_M_thrown ⟨(Nat.le_of_ble_eq_true rfl), (Nat.le_of_ble_eq_true rfl)⟩ (by omega) hMc.1 rfl rfl rfl (Nat.le_of_ble_eq_true rfl) ⟨by show _ ≤ 601024; omega, by show _ ≤ 7293034; omega⟩ dc_L_law_463 (fun r1 g9 h1 => ?_)
  obtain ⟨hv9, hg9⟩ := h1
  rw [hg9, hv9]
  refine zj_iload C dc_L_law_466 0 rfl ?_
  refine zj_icmp_eq C dc_L_law_468 rfl (fun _ => ?_) (fun h => absurd h (not_not_intro rfl))
  refine zj_goto C dc_L_law_473 rfl ?_
  refine zj_loc (L' := [(4, .int (nI i)), (0, .ref b), (1, .ref (ad 0)), (2, .ref (ad 108)), (3, .ref (ad 126))]) [1, 2, 3, 4, 5] rfl ?_
  exact zj_wid (by omega) (by omega) (K g2 k1 lw1 hG2 hlw2)
set_option maxHeartbeats 4000000 in
set_option maxRecDepth 100000 in
theorem zl_at {X : zj_T} {z : zv_T} {b n : Nat} {xs : Nat → Int32} {rt : Option FieldType} (C : zj_C X z code 7 cn_L room_1 rt) (hX : zl_X X b n xs) (hst : X.2.1.stackTraces = false) {Q : State → Prop} {ad : Nat → Nat} {g : Nat → va_E} {i c0 s0 : Nat} (hi : i + 5 ≤ n) (hn : n ≤ 2560) (hc : c0 + 4 ≤ 601024 ∧ s0 + 24 ≤ 7293034) {k0 : Int32} (hG : zz_G z ad g k0) {lw : Nat → Int64} (hlw : g 126 = ze_l z 1 lw)
    (K : ∀ (g2 : Nat → va_E) (k2 : Int32) (lw2 : Nat → Int64), zz_G z ad g2 k2 → g2 126 = ze_l z 1 lw2 → zj_J X (c0 + 4) (s0 + 24) Q ad 127 g2 1227 [(4, .int (nI i)), (0, .ref b), (1, .ref (ad 0)), (2, .ref (ad 108)), (3, .ref (ad 126))] []) : zj_J X c0 s0 Q ad 127 g 476 [(4, .int (nI i)), (0, .ref b), (1, .ref (ad 0)), (2, .ref (ad 108)), (3, .ref (ad 126))] [] := by
  obtain ⟨ts, qc, qp, qq, as0, F, fo, kp, a, sh, Cn, Rn, hC, hMc, hA, hQ, hF⟩ := hG
  have hC9 := hC
  obtain ⟨c1, c2, c3, ⟨hh, ee, mo, lo, wt, hr, bh, c4⟩, ⟨b1, b2, b3, cm, c5⟩, s9, c6⟩ := hC9
  refine zj_aload_n C dc_L_law_476 rfl 2 rfl ?_
  refine zj_aload_n C dc_L_law_477 rfl 1 rfl ?_
  refine zj_iload C dc_L_law_478 0 rfl ?_
  refine zj_iconst (v := 1) C dc_L_law_480 (by decide) ?_
  refine zj_iadd C dc_L_law_481 ?_
  refine zj_topi (nI_1 _) ?_
  refine zl_sld C hX rfl (by omega) (by omega) dc_L_law_482 ?_
  refine zj_aload_n C dc_L_law_483 rfl 1 rfl ?_
  refine zj_iload C dc_L_law_484 0 rfl ?_
  refine zj_iconst (v := 2) C dc_L_law_486 (by decide) ?_
  refine zj_iadd C dc_L_law_487 ?_
  refine zj_topi (show nI i + (2 : Int32) = nI (i + 2) from nI_add _ 2) ?_
  refine zl_sld C hX rfl (by omega) (by omega) dc_L_law_488 ?_
  refine zj_aload_n C dc_L_law_489 rfl 1 rfl ?_
  refine zj_iload C dc_L_law_490 0 rfl ?_
  refine zj_iconst (v := 3) C dc_L_law_492 (by decide) ?_
  refine zj_iadd C dc_L_law_493 ?_
  refine zj_topi (show nI i + (3 : Int32) = nI (i + 3) from nI_add _ 3) ?_
  refine zl_sld C hX rfl (by omega) (by omega) dc_L_law_494 ?_
  refine zj_aload_n C dc_L_law_495 rfl 1 rfl ?_
  refine zj_iload C dc_L_law_496 0 rfl ?_
  refine zj_iconst (v := 4) C dc_L_law_498 (by decide) ?_
  refine zj_iadd C dc_L_law_499 ?_
  refine zj_topi (show nI i + (4 : Int32) = nI (i + 4) from nI_add _ 4) ?_
  refine zl_sld C hX rfl (by omega) (by omega) dc_L_law_500 ?_
  refine zj_aload_n C dc_L_law_501 rfl 4 rfl ?_
  refine zl_Si C (ct_L_at _ hst z ad 127 g ts (xs (i + 1)) (by omega) c1 (xs (i + 2)) (xs (i + 3)) (xs (i + 4)) (zz_cn hA).1 (zz_cn hA).2.1 lw hlw) gs_L_at rfl rfl rfl hd_L_at ⟨(Nat.le_of_ble_eq_true rfl), (Nat.le_of_ble_eq_true rfl)⟩ rfl rfl (Nat.le_of_ble_eq_true rfl) ⟨by show _ ≤ 601024; omega, by show _ ≤ 7293034; omega⟩ dc_L_law_502 (fun k1 g1 h1 => ?_)
  obtain ⟨v, hk1, ⟨lw1, hlw1, hv1⟩, hf1⟩ := h1
  have hMc := zs_M_fr hMc (fun j h1 h2 => hf1 j h1 h2)
  refine zj_istore C dc_L_law_505 (by decide) rfl ?_
  refine zj_aload_n C dc_L_law_507 rfl 4 rfl ?_
  refine zj_aload_n C dc_L_law_508 rfl 2 rfl ?_
  refine zj_iload C dc_L_law_509 1 rfl ?_
  refine zj_iconst (v := 1) C dc_L_law_511 (by decide) ?_
  refine zj_iadd C dc_L_law_512 ?_
  refine zj_topi (nI_1 _) ?_
  refine zl_sld C hX rfl (by omega) (by omega) dc_L_law_513 ?_
  refine zj_aload_n C dc_L_law_514 rfl 2 rfl ?_
  refine zj_iload C dc_L_law_515 1 rfl ?_
  refine zj_iconst (v := 2) C dc_L_law_517 (by decide) ?_
  refine zj_iadd C dc_L_law_518 ?_
  refine zj_topi (show nI i + (2 : Int32) = nI (i + 2) from nI_add _ 2) ?_
  refine zl_sld C hX rfl (by omega) (by omega) dc_L_law_519 ?_
  refine zj_aload_n C dc_L_law_520 rfl 2 rfl ?_
  refine zj_iload C dc_L_law_521 1 rfl ?_
  refine zj_iconst (v := 3) C dc_L_law_523 (by decide) ?_
  refine zj_iadd C dc_L_law_524 ?_
  refine zj_topi (show nI i + (3 : Int32) = nI (i + 3) from nI_add _ 3) ?_
  refine zl_sld C hX rfl (by omega) (by omega) dc_L_law_525 ?_
  refine zj_aload_n C dc_L_law_526 rfl 2 rfl ?_
  refine zj_iload C dc_L_law_527 1 rfl ?_
  refine zj_iconst (v := 4) C dc_L_law_529 (by decide) ?_
  refine zj_iadd C dc_L_law_530 ?_
  refine zj_topi (show nI i + (4 : Int32) = nI (i + 4) from nI_add _ 4) ?_
  refine zl_sld C hX rfl (by omega) (by omega) dc_L_law_531 ?_
  refine zj_Vi C (ct_M_at _ hst z ad 127 _ _ _ _ _ _ (by omega) hMc _ sh Cn Rn hA.1 (xs (i + 1)) (xs (i + 2)) (xs (i + 3)) (xs (i + 4))) gv_L_104 rfl rfl rfl hd_M_at ⟨(Nat.le_of_ble_eq_true rfl), (Nat.le_of_ble_eq_true rfl)⟩ (by omega) hMc.1 rfl rfl rfl (Nat.le_of_ble_eq_true rfl) ⟨by show _ ≤ 601024; omega, by show _ ≤ 7293034; omega⟩ dc_L_law_532 (fun r2 g2 h2 => ?_)
  have hf2 : g2 126 = g1 126 := by rcases h2 with ⟨_, hM⟩ | ⟨_, hM⟩ | ⟨_, _, hM⟩ <;> exact hM.2 126 (Or.inr (Nat.le_refl _))
  have hlw2 := hf2.trans hlw1
  obtain ⟨hG2, hv2⟩ := zz_at (xs (i + 1)) (xs (i + 2)) (xs (i + 3)) (xs (i + 4)) hC hA hQ hF hk1 h2
  have hG3 := hG2
  obtain ⟨_, _, _, _, _, _, _, _, _, _, _, _, _, hMc, _⟩ := hG3
  refine zj_istore C dc_L_law_535 (by decide) rfl ?_
  refine zj_aload_n C dc_L_law_537 rfl 5 rfl ?_
  refine zj_Vi C (ct_M_thrown _ hst z ad 127 _ _ _ _ _ _ (by omega) hMc) gv_L_79 rfl rfl rfl hd_M_thrown ⟨(Nat.le_of_ble_eq_true rfl), (Nat.le_of_ble_eq_true rfl)⟩ (by omega) hMc.1 rfl rfl rfl (Nat.le_of_ble_eq_true rfl) ⟨by show _ ≤ 601024; omega, by show _ ≤ 7293034; omega⟩ dc_L_law_538 (fun r1 g9 h1 => ?_)
  obtain ⟨hv9, hg9⟩ := h1
  rw [hg9, hv9]
  refine zj_iload C dc_L_law_541 1 rfl ?_
  refine zj_icmp_eq C dc_L_law_543 rfl (fun _ => ?_) (fun h => absurd h (not_not_intro rfl))
  refine zj_iload C dc_L_law_548 1 rfl ?_
  refine zj_if_ne C dc_L_law_550 rfl (fun hk0 => ?_) (fun hk0 => ?_)
  · skip
    refine zj_goto C dc_L_law_565 rfl ?_
    refine zj_loc (L' := [(4, .int (nI i)), (0, .ref b), (1, .ref (ad 0)), (2, .ref (ad 108)), (3, .ref (ad 126))]) [2, 3, 4, 5, 6] rfl ?_
    exact zj_wid (by omega) (by omega) (K g2 k1 lw1 hG2 hlw2)
  · skip
    refine zj_aload_n C dc_L_law_553 rfl 6 rfl ?_
    refine zj_iconst (v := 0) C dc_L_law_554 (by decide) ?_
    refine zj_topi (nI_0.symm) ?_
    refine zj_lald C (by omega) hlw2 rfl (by decide) (by decide) dc_L_law_555 ?_
    refine zj_iload C dc_L_law_556 0 rfl ?_
    refine zj_i2l C dc_L_law_558 ?_
    refine zj_lcmp C dc_L_law_559 ?_
    refine zj_topi (zl_cmp0 (by rw [hv1 hk0, hv2 hk0])) ?_
    refine zj_if_eq C dc_L_law_560 rfl (fun _ => ?_) (fun h => absurd h (not_not_intro rfl))
    refine zj_goto C dc_L_law_565 rfl ?_
    refine zj_loc (L' := [(4, .int (nI i)), (0, .ref b), (1, .ref (ad 0)), (2, .ref (ad 108)), (3, .ref (ad 126))]) [2, 3, 4, 5, 6] rfl ?_
    exact zj_wid (by omega) (by omega) (K g2 k1 lw1 hG2 hlw2)
set_option maxHeartbeats 4000000 in
set_option maxRecDepth 100000 in
theorem zl_about {X : zj_T} {z : zv_T} {b n : Nat} {xs : Nat → Int32} {rt : Option FieldType} (C : zj_C X z code 7 cn_L room_1 rt) (hX : zl_X X b n xs) (hst : X.2.1.stackTraces = false) {Q : State → Prop} {ad : Nat → Nat} {g : Nat → va_E} {i c0 s0 : Nat} (hi : i + 5 ≤ n) (hn : n ≤ 2560) (hc : c0 + 4 ≤ 601024 ∧ s0 + 24 ≤ 7293034) {k0 : Int32} (hG : zz_G z ad g k0) {lw : Nat → Int64} (hlw : g 126 = ze_l z 1 lw)
    (K : ∀ (g2 : Nat → va_E) (k2 : Int32) (lw2 : Nat → Int64), zz_G z ad g2 k2 → g2 126 = ze_l z 1 lw2 → zj_J X (c0 + 4) (s0 + 24) Q ad 127 g2 1227 [(4, .int (nI i)), (0, .ref b), (1, .ref (ad 0)), (2, .ref (ad 108)), (3, .ref (ad 126))] []) : zj_J X c0 s0 Q ad 127 g 568 [(4, .int (nI i)), (0, .ref b), (1, .ref (ad 0)), (2, .ref (ad 108)), (3, .ref (ad 126))] [] := by
  obtain ⟨ts, qc, qp, qq, as0, F, fo, kp, a, sh, Cn, Rn, hC, hMc, hA, hQ, hF⟩ := hG
  have hC9 := hC
  obtain ⟨c1, c2, c3, ⟨hh, ee, mo, lo, wt, hr, bh, c4⟩, ⟨b1, b2, b3, cm, c5⟩, s9, c6⟩ := hC9
  refine zj_aload_n C dc_L_law_568 rfl 2 rfl ?_
  refine zj_aload_n C dc_L_law_569 rfl 1 rfl ?_
  refine zj_iload C dc_L_law_570 0 rfl ?_
  refine zj_iconst (v := 1) C dc_L_law_572 (by decide) ?_
  refine zj_iadd C dc_L_law_573 ?_
  refine zj_topi (nI_1 _) ?_
  refine zl_sld C hX rfl (by omega) (by omega) dc_L_law_574 ?_
  refine zj_aload_n C dc_L_law_575 rfl 1 rfl ?_
  refine zj_iload C dc_L_law_576 0 rfl ?_
  refine zj_iconst (v := 2) C dc_L_law_578 (by decide) ?_
  refine zj_iadd C dc_L_law_579 ?_
  refine zj_topi (show nI i + (2 : Int32) = nI (i + 2) from nI_add _ 2) ?_
  refine zl_sld C hX rfl (by omega) (by omega) dc_L_law_580 ?_
  refine zj_aload_n C dc_L_law_581 rfl 4 rfl ?_
  refine zl_Si C (ct_L_about _ hst z ad 127 g ts (xs (i + 1)) (by omega) c1 (xs (i + 2)) lw hlw) gs_L_about rfl rfl rfl hd_L_about ⟨(Nat.le_of_ble_eq_true rfl), (Nat.le_of_ble_eq_true rfl)⟩ rfl rfl (Nat.le_of_ble_eq_true rfl) ⟨by show _ ≤ 601024; omega, by show _ ≤ 7293034; omega⟩ dc_L_law_582 (fun k1 g1 h1 => ?_)
  obtain ⟨v, hk1, ⟨lw1, hlw1, hv1⟩, hf1⟩ := h1
  have hMc := zs_M_fr hMc (fun j h1 h2 => hf1 j h1 h2)
  refine zj_istore C dc_L_law_585 (by decide) rfl ?_
  refine zj_aload_n C dc_L_law_587 rfl 4 rfl ?_
  refine zj_aload_n C dc_L_law_588 rfl 2 rfl ?_
  refine zj_iload C dc_L_law_589 1 rfl ?_
  refine zj_iconst (v := 1) C dc_L_law_591 (by decide) ?_
  refine zj_iadd C dc_L_law_592 ?_
  refine zj_topi (nI_1 _) ?_
  refine zl_sld C hX rfl (by omega) (by omega) dc_L_law_593 ?_
  refine zj_aload_n C dc_L_law_594 rfl 2 rfl ?_
  refine zj_iload C dc_L_law_595 1 rfl ?_
  refine zj_iconst (v := 2) C dc_L_law_597 (by decide) ?_
  refine zj_iadd C dc_L_law_598 ?_
  refine zj_topi (show nI i + (2 : Int32) = nI (i + 2) from nI_add _ 2) ?_
  refine zl_sld C hX rfl (by omega) (by omega) dc_L_law_599 ?_
  refine zj_Vi C (ct_M_about _ hst z ad 127 _ _ _ _ _ _ (by omega) hMc _ sh Cn Rn hA.1 (xs (i + 1)) (xs (i + 2))) gv_L_108 rfl rfl rfl hd_M_about ⟨(Nat.le_of_ble_eq_true rfl), (Nat.le_of_ble_eq_true rfl)⟩ (by omega) hMc.1 rfl rfl rfl (Nat.le_of_ble_eq_true rfl) ⟨by show _ ≤ 601024; omega, by show _ ≤ 7293034; omega⟩ dc_L_law_600 (fun r2 g2 h2 => ?_)
  have hf2 : g2 126 = g1 126 := by rcases h2 with ⟨_, hM⟩ | ⟨_, hM⟩ | ⟨_, _, hM⟩ <;> exact hM.2 126 (Or.inr (Nat.le_refl _))
  have hlw2 := hf2.trans hlw1
  obtain ⟨hG2, hv2⟩ := zz_about (xs (i + 1)) (xs (i + 2)) hC hA hQ hF hk1 h2
  have hG3 := hG2
  obtain ⟨_, _, _, _, _, _, _, _, _, _, _, _, _, hMc, _⟩ := hG3
  refine zj_istore C dc_L_law_603 (by decide) rfl ?_
  refine zj_aload_n C dc_L_law_605 rfl 5 rfl ?_
  refine zj_Vi C (ct_M_thrown _ hst z ad 127 _ _ _ _ _ _ (by omega) hMc) gv_L_79 rfl rfl rfl hd_M_thrown ⟨(Nat.le_of_ble_eq_true rfl), (Nat.le_of_ble_eq_true rfl)⟩ (by omega) hMc.1 rfl rfl rfl (Nat.le_of_ble_eq_true rfl) ⟨by show _ ≤ 601024; omega, by show _ ≤ 7293034; omega⟩ dc_L_law_606 (fun r1 g9 h1 => ?_)
  obtain ⟨hv9, hg9⟩ := h1
  rw [hg9, hv9]
  refine zj_iload C dc_L_law_609 1 rfl ?_
  refine zj_icmp_eq C dc_L_law_611 rfl (fun _ => ?_) (fun h => absurd h (not_not_intro rfl))
  refine zj_iload C dc_L_law_616 1 rfl ?_
  refine zj_if_ne C dc_L_law_618 rfl (fun hk0 => ?_) (fun hk0 => ?_)
  · skip
    refine zj_goto C dc_L_law_633 rfl ?_
    refine zj_loc (L' := [(4, .int (nI i)), (0, .ref b), (1, .ref (ad 0)), (2, .ref (ad 108)), (3, .ref (ad 126))]) [2, 3, 4, 5, 6] rfl ?_
    exact zj_wid (by omega) (by omega) (K g2 k1 lw1 hG2 hlw2)
  · skip
    refine zj_aload_n C dc_L_law_621 rfl 6 rfl ?_
    refine zj_iconst (v := 0) C dc_L_law_622 (by decide) ?_
    refine zj_topi (nI_0.symm) ?_
    refine zj_lald C (by omega) hlw2 rfl (by decide) (by decide) dc_L_law_623 ?_
    refine zj_iload C dc_L_law_624 0 rfl ?_
    refine zj_i2l C dc_L_law_626 ?_
    refine zj_lcmp C dc_L_law_627 ?_
    refine zj_topi (zl_cmp0 (by rw [hv1 hk0, hv2 hk0])) ?_
    refine zj_if_eq C dc_L_law_628 rfl (fun _ => ?_) (fun h => absurd h (not_not_intro rfl))
    refine zj_goto C dc_L_law_633 rfl ?_
    refine zj_loc (L' := [(4, .int (nI i)), (0, .ref b), (1, .ref (ad 0)), (2, .ref (ad 108)), (3, .ref (ad 126))]) [2, 3, 4, 5, 6] rfl ?_
    exact zj_wid (by omega) (by omega) (K g2 k1 lw1 hG2 hlw2)
set_option maxHeartbeats 4000000 in
set_option maxRecDepth 100000 in
theorem zl_contour {X : zj_T} {z : zv_T} {b n : Nat} {xs : Nat → Int32} {rt : Option FieldType} (C : zj_C X z code 7 cn_L room_1 rt) (hX : zl_X X b n xs) (hst : X.2.1.stackTraces = false) {Q : State → Prop} {ad : Nat → Nat} {g : Nat → va_E} {i c0 s0 : Nat} (hi : i + 5 ≤ n) (hn : n ≤ 2560) (hc : c0 + 4 ≤ 601024 ∧ s0 + 24 ≤ 7293034) {k0 : Int32} (hG : zz_G z ad g k0) {lw : Nat → Int64} (hlw : g 126 = ze_l z 1 lw)
    (K : ∀ (g2 : Nat → va_E) (k2 : Int32) (lw2 : Nat → Int64), zz_G z ad g2 k2 → g2 126 = ze_l z 1 lw2 → zj_J X (c0 + 4) (s0 + 24) Q ad 127 g2 1227 [(4, .int (nI i)), (0, .ref b), (1, .ref (ad 0)), (2, .ref (ad 108)), (3, .ref (ad 126))] []) : zj_J X c0 s0 Q ad 127 g 636 [(4, .int (nI i)), (0, .ref b), (1, .ref (ad 0)), (2, .ref (ad 108)), (3, .ref (ad 126))] [] := by
  obtain ⟨ts, qc, qp, qq, as0, F, fo, kp, a, sh, Cn, Rn, hC, hMc, hA, hQ, hF⟩ := hG
  have hC9 := hC
  obtain ⟨c1, c2, c3, ⟨hh, ee, mo, lo, wt, hr, bh, c4⟩, ⟨b1, b2, b3, cm, c5⟩, s9, c6⟩ := hC9
  refine zj_aload_n C dc_L_law_636 rfl 2 rfl ?_
  refine zj_aload_n C dc_L_law_637 rfl 1 rfl ?_
  refine zj_iload C dc_L_law_638 0 rfl ?_
  refine zj_iconst (v := 1) C dc_L_law_640 (by decide) ?_
  refine zj_iadd C dc_L_law_641 ?_
  refine zj_topi (nI_1 _) ?_
  refine zl_sld C hX rfl (by omega) (by omega) dc_L_law_642 ?_
  refine zj_aload_n C dc_L_law_643 rfl 1 rfl ?_
  refine zj_iload C dc_L_law_644 0 rfl ?_
  refine zj_iconst (v := 2) C dc_L_law_646 (by decide) ?_
  refine zj_iadd C dc_L_law_647 ?_
  refine zj_topi (show nI i + (2 : Int32) = nI (i + 2) from nI_add _ 2) ?_
  refine zl_sld C hX rfl (by omega) (by omega) dc_L_law_648 ?_
  refine zj_aload_n C dc_L_law_649 rfl 4 rfl ?_
  refine zl_Si C (ct_L_contour _ hst z ad 127 g ts (xs (i + 1)) (by omega) c1 (xs (i + 2)) (zz_cn hA).1 lw hlw) gs_L_contour rfl rfl rfl hd_L_contour ⟨(Nat.le_of_ble_eq_true rfl), (Nat.le_of_ble_eq_true rfl)⟩ rfl rfl (Nat.le_of_ble_eq_true rfl) ⟨by show _ ≤ 601024; omega, by show _ ≤ 7293034; omega⟩ dc_L_law_650 (fun k1 g1 h1 => ?_)
  obtain ⟨v, hk1, ⟨lw1, hlw1, hv1⟩, hf1⟩ := h1
  have hMc := zs_M_fr hMc (fun j h1 h2 => hf1 j h1 h2)
  refine zj_istore C dc_L_law_653 (by decide) rfl ?_
  refine zj_aload_n C dc_L_law_655 rfl 4 rfl ?_
  refine zj_aload_n C dc_L_law_656 rfl 2 rfl ?_
  refine zj_iload C dc_L_law_657 1 rfl ?_
  refine zj_iconst (v := 1) C dc_L_law_659 (by decide) ?_
  refine zj_iadd C dc_L_law_660 ?_
  refine zj_topi (nI_1 _) ?_
  refine zl_sld C hX rfl (by omega) (by omega) dc_L_law_661 ?_
  refine zj_aload_n C dc_L_law_662 rfl 2 rfl ?_
  refine zj_iload C dc_L_law_663 1 rfl ?_
  refine zj_iconst (v := 2) C dc_L_law_665 (by decide) ?_
  refine zj_iadd C dc_L_law_666 ?_
  refine zj_topi (show nI i + (2 : Int32) = nI (i + 2) from nI_add _ 2) ?_
  refine zl_sld C hX rfl (by omega) (by omega) dc_L_law_667 ?_
  refine zj_Vi C (ct_M_contour _ hst z ad 127 _ _ _ _ _ _ (by omega) hMc _ sh Cn Rn hA.1 (xs (i + 1)) (xs (i + 2))) gv_L_111 rfl rfl rfl hd_M_contour ⟨(Nat.le_of_ble_eq_true rfl), (Nat.le_of_ble_eq_true rfl)⟩ (by omega) hMc.1 rfl rfl rfl (Nat.le_of_ble_eq_true rfl) ⟨by show _ ≤ 601024; omega, by show _ ≤ 7293034; omega⟩ dc_L_law_668 (fun r2 g2 h2 => ?_)
  have hf2 : g2 126 = g1 126 := by rcases h2 with ⟨_, hM⟩ | ⟨_, hM⟩ <;> exact hM.2 126 (Or.inr (Nat.le_refl _))
  have hlw2 := hf2.trans hlw1
  obtain ⟨hG2, hv2⟩ := zz_contour (xs (i + 1)) (xs (i + 2)) hC hA hQ hF hk1 h2
  have hG3 := hG2
  obtain ⟨_, _, _, _, _, _, _, _, _, _, _, _, _, hMc, _⟩ := hG3
  refine zj_istore C dc_L_law_671 (by decide) rfl ?_
  refine zj_aload_n C dc_L_law_673 rfl 5 rfl ?_
  refine zj_Vi C (ct_M_thrown _ hst z ad 127 _ _ _ _ _ _ (by omega) hMc) gv_L_79 rfl rfl rfl hd_M_thrown ⟨(Nat.le_of_ble_eq_true rfl), (Nat.le_of_ble_eq_true rfl)⟩ (by omega) hMc.1 rfl rfl rfl (Nat.le_of_ble_eq_true rfl) ⟨by show _ ≤ 601024; omega, by show _ ≤ 7293034; omega⟩ dc_L_law_674 (fun r1 g9 h1 => ?_)
  obtain ⟨hv9, hg9⟩ := h1
  rw [hg9, hv9]
  refine zj_iload C dc_L_law_677 1 rfl ?_
  refine zj_icmp_eq C dc_L_law_679 rfl (fun _ => ?_) (fun h => absurd h (not_not_intro rfl))
  refine zj_iload C dc_L_law_684 1 rfl ?_
  refine zj_if_ne C dc_L_law_686 rfl (fun hk0 => ?_) (fun hk0 => ?_)
  · skip
    refine zj_goto C dc_L_law_701 rfl ?_
    refine zj_loc (L' := [(4, .int (nI i)), (0, .ref b), (1, .ref (ad 0)), (2, .ref (ad 108)), (3, .ref (ad 126))]) [2, 3, 4, 5, 6] rfl ?_
    exact zj_wid (by omega) (by omega) (K g2 k1 lw1 hG2 hlw2)
  · skip
    refine zj_aload_n C dc_L_law_689 rfl 6 rfl ?_
    refine zj_iconst (v := 0) C dc_L_law_690 (by decide) ?_
    refine zj_topi (nI_0.symm) ?_
    refine zj_lald C (by omega) hlw2 rfl (by decide) (by decide) dc_L_law_691 ?_
    refine zj_iload C dc_L_law_692 0 rfl ?_
    refine zj_i2l C dc_L_law_694 ?_
    refine zj_lcmp C dc_L_law_695 ?_
    refine zj_topi (zl_cmp0 (by rw [hv1 hk0, hv2 hk0])) ?_
    refine zj_if_eq C dc_L_law_696 rfl (fun _ => ?_) (fun h => absurd h (not_not_intro rfl))
    refine zj_goto C dc_L_law_701 rfl ?_
    refine zj_loc (L' := [(4, .int (nI i)), (0, .ref b), (1, .ref (ad 0)), (2, .ref (ad 108)), (3, .ref (ad 126))]) [2, 3, 4, 5, 6] rfl ?_
    exact zj_wid (by omega) (by omega) (K g2 k1 lw1 hG2 hlw2)
set_option maxHeartbeats 4000000 in
set_option maxRecDepth 100000 in
theorem zl_ask {X : zj_T} {z : zv_T} {b n : Nat} {xs : Nat → Int32} {rt : Option FieldType} (C : zj_C X z code 7 cn_L room_1 rt) (hX : zl_X X b n xs) (hst : X.2.1.stackTraces = false) {Q : State → Prop} {ad : Nat → Nat} {g : Nat → va_E} {i c0 s0 : Nat} (hi : i + 5 ≤ n) (hn : n ≤ 2560) (hc : c0 + 4 ≤ 601024 ∧ s0 + 24 ≤ 7293034) {k0 : Int32} (hG : zz_G z ad g k0) {lw : Nat → Int64} (hlw : g 126 = ze_l z 1 lw)
    (K : ∀ (g2 : Nat → va_E) (k2 : Int32) (lw2 : Nat → Int64), zz_G z ad g2 k2 → g2 126 = ze_l z 1 lw2 → zj_J X (c0 + 4) (s0 + 24) Q ad 127 g2 1227 [(4, .int (nI i)), (0, .ref b), (1, .ref (ad 0)), (2, .ref (ad 108)), (3, .ref (ad 126))] []) : zj_J X c0 s0 Q ad 127 g 704 [(4, .int (nI i)), (0, .ref b), (1, .ref (ad 0)), (2, .ref (ad 108)), (3, .ref (ad 126))] [] := by
  obtain ⟨ts, qc, qp, qq, as0, F, fo, kp, a, sh, Cn, Rn, hC, hMc, hA, hQ, hF⟩ := hG
  have hC9 := hC
  obtain ⟨c1, c2, c3, ⟨hh, ee, mo, lo, wt, hr, bh, c4⟩, ⟨b1, b2, b3, cm, c5⟩, s9, c6⟩ := hC9
  refine zj_aload_n C dc_L_law_704 rfl 2 rfl ?_
  refine zj_aload_n C dc_L_law_705 rfl 1 rfl ?_
  refine zj_iload C dc_L_law_706 0 rfl ?_
  refine zj_iconst (v := 1) C dc_L_law_708 (by decide) ?_
  refine zj_iadd C dc_L_law_709 ?_
  refine zj_topi (nI_1 _) ?_
  refine zl_sld C hX rfl (by omega) (by omega) dc_L_law_710 ?_
  refine zj_aload_n C dc_L_law_711 rfl 1 rfl ?_
  refine zj_iload C dc_L_law_712 0 rfl ?_
  refine zj_iconst (v := 2) C dc_L_law_714 (by decide) ?_
  refine zj_iadd C dc_L_law_715 ?_
  refine zj_topi (show nI i + (2 : Int32) = nI (i + 2) from nI_add _ 2) ?_
  refine zl_sld C hX rfl (by omega) (by omega) dc_L_law_716 ?_
  refine zj_aload_n C dc_L_law_717 rfl 4 rfl ?_
  refine zl_Si C (ct_L_ask _ hst z ad 127 g ts qc qp qq (by omega) c1 c2 (xs (i + 1)) (xs (i + 2)) hQ.2.2.1 lw hlw) gs_L_ask rfl rfl rfl hd_L_ask ⟨(Nat.le_of_ble_eq_true rfl), (Nat.le_of_ble_eq_true rfl)⟩ rfl rfl (Nat.le_of_ble_eq_true rfl) ⟨by show _ ≤ 601024; omega, by show _ ≤ 7293034; omega⟩ dc_L_law_718 (fun k1 g1 h1 => ?_)
  obtain ⟨v, hk1, ⟨lw1, hlw1, hv1⟩, hf1⟩ := h1
  have hMc := zs_M_fr hMc (fun j h1 h2 => hf1 j h1 h2)
  refine zj_istore C dc_L_law_721 (by decide) rfl ?_
  refine zj_aload_n C dc_L_law_723 rfl 4 rfl ?_
  refine zj_aload_n C dc_L_law_724 rfl 2 rfl ?_
  refine zj_iload C dc_L_law_725 1 rfl ?_
  refine zj_iconst (v := 1) C dc_L_law_727 (by decide) ?_
  refine zj_iadd C dc_L_law_728 ?_
  refine zj_topi (nI_1 _) ?_
  refine zl_sld C hX rfl (by omega) (by omega) dc_L_law_729 ?_
  refine zj_aload_n C dc_L_law_730 rfl 2 rfl ?_
  refine zj_iload C dc_L_law_731 1 rfl ?_
  refine zj_iconst (v := 2) C dc_L_law_733 (by decide) ?_
  refine zj_iadd C dc_L_law_734 ?_
  refine zj_topi (show nI i + (2 : Int32) = nI (i + 2) from nI_add _ 2) ?_
  refine zl_sld C hX rfl (by omega) (by omega) dc_L_law_735 ?_
  refine zj_Vi C (ct_M_ask _ hst z ad 127 _ _ _ _ _ _ (by omega) hMc qc rfl hQ.2.2.1 (xs (i + 1)) (xs (i + 2))) gv_L_114 rfl rfl rfl hd_M_ask ⟨(Nat.le_of_ble_eq_true rfl), (Nat.le_of_ble_eq_true rfl)⟩ (by omega) hMc.1 rfl rfl rfl (Nat.le_of_ble_eq_true rfl) ⟨by show _ ≤ 601024; omega, by show _ ≤ 7293034; omega⟩ dc_L_law_736 (fun r2 g2 h2 => ?_)
  have hf2 : g2 126 = g1 126 := by rcases h2 with ⟨_, _, _, hM⟩ | ⟨_, hM⟩ | ⟨_, _, hM⟩ <;> exact hM.2 126 (Or.inr (Nat.le_refl _))
  have hlw2 := hf2.trans hlw1
  obtain ⟨hG2, hv2⟩ := zz_ask (xs (i + 1)) (xs (i + 2)) hC hA hQ hF hk1 h2
  have hG3 := hG2
  obtain ⟨_, _, _, _, _, _, _, _, _, _, _, _, _, hMc, _⟩ := hG3
  refine zj_istore C dc_L_law_739 (by decide) rfl ?_
  refine zj_aload_n C dc_L_law_741 rfl 5 rfl ?_
  refine zj_Vi C (ct_M_thrown _ hst z ad 127 _ _ _ _ _ _ (by omega) hMc) gv_L_79 rfl rfl rfl hd_M_thrown ⟨(Nat.le_of_ble_eq_true rfl), (Nat.le_of_ble_eq_true rfl)⟩ (by omega) hMc.1 rfl rfl rfl (Nat.le_of_ble_eq_true rfl) ⟨by show _ ≤ 601024; omega, by show _ ≤ 7293034; omega⟩ dc_L_law_742 (fun r1 g9 h1 => ?_)
  obtain ⟨hv9, hg9⟩ := h1
  rw [hg9, hv9]
  refine zj_iload C dc_L_law_745 1 rfl ?_
  refine zj_icmp_eq C dc_L_law_747 rfl (fun _ => ?_) (fun h => absurd h (not_not_intro rfl))
  refine zj_iload C dc_L_law_752 1 rfl ?_
  refine zj_if_ne C dc_L_law_754 rfl (fun hk0 => ?_) (fun hk0 => ?_)
  · skip
    refine zj_goto C dc_L_law_769 rfl ?_
    refine zj_loc (L' := [(4, .int (nI i)), (0, .ref b), (1, .ref (ad 0)), (2, .ref (ad 108)), (3, .ref (ad 126))]) [2, 3, 4, 5, 6] rfl ?_
    exact zj_wid (by omega) (by omega) (K g2 k1 lw1 hG2 hlw2)
  · skip
    refine zj_aload_n C dc_L_law_757 rfl 6 rfl ?_
    refine zj_iconst (v := 0) C dc_L_law_758 (by decide) ?_
    refine zj_topi (nI_0.symm) ?_
    refine zj_lald C (by omega) hlw2 rfl (by decide) (by decide) dc_L_law_759 ?_
    refine zj_iload C dc_L_law_760 0 rfl ?_
    refine zj_i2l C dc_L_law_762 ?_
    refine zj_lcmp C dc_L_law_763 ?_
    refine zj_topi (zl_cmp0 (by rw [hv1 hk0, hv2 hk0])) ?_
    refine zj_if_eq C dc_L_law_764 rfl (fun _ => ?_) (fun h => absurd h (not_not_intro rfl))
    refine zj_goto C dc_L_law_769 rfl ?_
    refine zj_loc (L' := [(4, .int (nI i)), (0, .ref b), (1, .ref (ad 0)), (2, .ref (ad 108)), (3, .ref (ad 126))]) [2, 3, 4, 5, 6] rfl ?_
    exact zj_wid (by omega) (by omega) (K g2 k1 lw1 hG2 hlw2)
set_option maxHeartbeats 4000000 in
set_option maxRecDepth 100000 in
theorem zl_forget {X : zj_T} {z : zv_T} {b n : Nat} {xs : Nat → Int32} {rt : Option FieldType} (C : zj_C X z code 7 cn_L room_1 rt) (hX : zl_X X b n xs) (hst : X.2.1.stackTraces = false) {Q : State → Prop} {ad : Nat → Nat} {g : Nat → va_E} {i c0 s0 : Nat} (hi : i + 5 ≤ n) (hn : n ≤ 2560) (hc : c0 + 4 ≤ 601024 ∧ s0 + 24 ≤ 7293034) {k0 : Int32} (hG : zz_G z ad g k0) {lw : Nat → Int64} (hlw : g 126 = ze_l z 1 lw)
    (K : ∀ (g2 : Nat → va_E) (k2 : Int32) (lw2 : Nat → Int64), zz_G z ad g2 k2 → g2 126 = ze_l z 1 lw2 → zj_J X (c0 + 4) (s0 + 24) Q ad 127 g2 1227 [(4, .int (nI i)), (0, .ref b), (1, .ref (ad 0)), (2, .ref (ad 108)), (3, .ref (ad 126))] []) : zj_J X c0 s0 Q ad 127 g 772 [(4, .int (nI i)), (0, .ref b), (1, .ref (ad 0)), (2, .ref (ad 108)), (3, .ref (ad 126))] [] := by
  obtain ⟨ts, qc, qp, qq, as0, F, fo, kp, a, sh, Cn, Rn, hC, hMc, hA, hQ, hF⟩ := hG
  have hC9 := hC
  obtain ⟨c1, c2, c3, ⟨hh, ee, mo, lo, wt, hr, bh, c4⟩, ⟨b1, b2, b3, cm, c5⟩, s9, c6⟩ := hC9
  refine zj_aload_n C dc_L_law_772 rfl 2 rfl ?_
  refine zj_Vv C (ct_T_forget _ hst z ad 127 g ts qc qp qq (by omega) c1 c2) gv_L_115 rfl rfl rfl hd_T_forget ⟨(Nat.le_of_ble_eq_true rfl), (Nat.le_of_ble_eq_true rfl)⟩ (by omega) c1.1 rfl rfl rfl (Nat.le_of_ble_eq_true rfl) ⟨by show _ ≤ 601024; omega, by show _ ≤ 7293034; omega⟩ dc_L_law_773 (fun g1 h1 => ?_)
  have hMc := zs_M_fr hMc (fun j k1 k2 => h1.2 j (by omega))
  refine zj_aload_n C dc_L_law_776 rfl 3 rfl ?_
  refine zj_Vv C (ct_M_forget _ hst z ad 127 _ _ _ _ _ _ (by omega) hMc) gv_L_118 rfl rfl rfl hd_M_forget ⟨(Nat.le_of_ble_eq_true rfl), (Nat.le_of_ble_eq_true rfl)⟩ (by omega) hMc.1 rfl rfl rfl (Nat.le_of_ble_eq_true rfl) ⟨by show _ ≤ 601024; omega, by show _ ≤ 7293034; omega⟩ dc_L_law_777 (fun g2 h2 => ?_)
  have hlw2 : g2 126 = ze_l z 1 lw := ((h2.2 126 (Or.inr (Nat.le_refl _))).trans (h1.2 126 (by omega))).trans hlw
  have hG2 := zz_forget hC hA hQ hF h1.1 h1.2 h2
  refine zj_goto C dc_L_law_780 rfl ?_
  refine zj_loc (L' := [(4, .int (nI i)), (0, .ref b), (1, .ref (ad 0)), (2, .ref (ad 108)), (3, .ref (ad 126))]) [0, 1, 2, 3, 4] rfl ?_
  exact zj_wid (by omega) (by omega) (K g2 0 lw hG2 hlw2)
set_option maxHeartbeats 4000000 in
set_option maxRecDepth 100000 in
theorem zl_search {X : zj_T} {z : zv_T} {b n : Nat} {xs : Nat → Int32} {rt : Option FieldType} (C : zj_C X z code 7 cn_L room_1 rt) (hX : zl_X X b n xs) (hst : X.2.1.stackTraces = false) {Q : State → Prop} {ad : Nat → Nat} {g : Nat → va_E} {i c0 s0 : Nat} (hi : i + 5 ≤ n) (hn : n ≤ 2560) (hc : c0 + 4 ≤ 601024 ∧ s0 + 24 ≤ 7293034) {k0 : Int32} (hG : zz_G z ad g k0) {lw : Nat → Int64} (hlw : g 126 = ze_l z 1 lw)
    (K : ∀ (g2 : Nat → va_E) (k2 : Int32) (lw2 : Nat → Int64), zz_G z ad g2 k2 → g2 126 = ze_l z 1 lw2 → zj_J X (c0 + 4) (s0 + 24) Q ad 127 g2 1227 [(4, .int (nI i)), (0, .ref b), (1, .ref (ad 0)), (2, .ref (ad 108)), (3, .ref (ad 126))] []) : zj_J X c0 s0 Q ad 127 g 783 [(4, .int (nI i)), (0, .ref b), (1, .ref (ad 0)), (2, .ref (ad 108)), (3, .ref (ad 126))] [] := by
  obtain ⟨ts, qc, qp, qq, as0, F, fo, kp, a, sh, Cn, Rn, hC, hMc, hA, hQ, hF⟩ := hG
  have hC9 := hC
  obtain ⟨c1, c2, c3, ⟨hh, ee, mo, lo, wt, hr, bh, c4⟩, ⟨b1, b2, b3, cm, c5⟩, s9, c6⟩ := hC9
  refine zj_aload_n C dc_L_law_783 rfl 2 rfl ?_
  refine zj_aload_n C dc_L_law_784 rfl 1 rfl ?_
  refine zj_iload C dc_L_law_785 0 rfl ?_
  refine zj_iconst (v := 1) C dc_L_law_787 (by decide) ?_
  refine zj_iadd C dc_L_law_788 ?_
  refine zj_topi (nI_1 _) ?_
  refine zl_sld C hX rfl (by omega) (by omega) dc_L_law_789 ?_
  refine zj_aload_n C dc_L_law_790 rfl 1 rfl ?_
  refine zj_iload C dc_L_law_791 0 rfl ?_
  refine zj_iconst (v := 2) C dc_L_law_793 (by decide) ?_
  refine zj_iadd C dc_L_law_794 ?_
  refine zj_topi (show nI i + (2 : Int32) = nI (i + 2) from nI_add _ 2) ?_
  refine zl_sld C hX rfl (by omega) (by omega) dc_L_law_795 ?_
  refine zj_aload_n C dc_L_law_796 rfl 4 rfl ?_
  refine zl_Si C (ct_L_search _ hst z ad 127 g ts qc as0 qp qq F (xs (i + 1)) (xs (i + 2)) (by omega) c1 c2 c3 hh ee mo lo wt hr bh c4 hQ.2.2.1 (zz_cn hA).1 lw hlw) gs_L_search rfl rfl rfl hd_L_search ⟨(Nat.le_of_ble_eq_true rfl), (Nat.le_of_ble_eq_true rfl)⟩ rfl rfl (Nat.le_of_ble_eq_true rfl) ⟨by show _ ≤ 601024; omega, by show _ ≤ 7293034; omega⟩ dc_L_law_797 (fun k1 g1 h1 => ?_)
  obtain ⟨v, hk1, ⟨lw1, hlw1, hv1⟩, hf1⟩ := h1
  have hMc := zs_M_fr hMc (fun j h1 h2 => hf1 j h1 h2)
  refine zj_istore C dc_L_law_800 (by decide) rfl ?_
  refine zj_aload_n C dc_L_law_802 rfl 4 rfl ?_
  refine zj_aload_n C dc_L_law_803 rfl 2 rfl ?_
  refine zj_iload C dc_L_law_804 1 rfl ?_
  refine zj_iconst (v := 1) C dc_L_law_806 (by decide) ?_
  refine zj_iadd C dc_L_law_807 ?_
  refine zj_topi (nI_1 _) ?_
  refine zl_sld C hX rfl (by omega) (by omega) dc_L_law_808 ?_
  refine zj_aload_n C dc_L_law_809 rfl 2 rfl ?_
  refine zj_iload C dc_L_law_810 1 rfl ?_
  refine zj_iconst (v := 2) C dc_L_law_812 (by decide) ?_
  refine zj_iadd C dc_L_law_813 ?_
  refine zj_topi (show nI i + (2 : Int32) = nI (i + 2) from nI_add _ 2) ?_
  refine zl_sld C hX rfl (by omega) (by omega) dc_L_law_814 ?_
  refine zj_Vi C (ct_M_search _ hst z ad 127 _ _ _ _ _ _ (by omega) hMc _ sh Cn Rn hA.1 qc rfl hQ.2.2.1 (xs (i + 1)) (xs (i + 2))) gv_L_121 rfl rfl rfl hd_M_search ⟨(Nat.le_of_ble_eq_true rfl), (Nat.le_of_ble_eq_true rfl)⟩ (by omega) hMc.1 rfl rfl rfl (Nat.le_of_ble_eq_true rfl) ⟨by show _ ≤ 601024; omega, by show _ ≤ 7293034; omega⟩ dc_L_law_815 (fun r2 g2 h2 => ?_)
  have hf2 : g2 126 = g1 126 := by rcases h2 with ⟨k1, k2, a1, s, _, _, _, _, _, _, hM, _⟩ | ⟨_, hM⟩ | ⟨_, _, hM⟩ <;> exact hM.2 126 (Or.inr (Nat.le_refl _))
  have hlw2 := hf2.trans hlw1
  obtain ⟨hG2, hv2⟩ := zz_search (xs (i + 1)) (xs (i + 2)) hC hA hQ hF hk1 h2
  have hG3 := hG2
  obtain ⟨_, _, _, _, _, _, _, _, _, _, _, _, _, hMc, _⟩ := hG3
  refine zj_istore C dc_L_law_818 (by decide) rfl ?_
  refine zj_aload_n C dc_L_law_820 rfl 5 rfl ?_
  refine zj_Vi C (ct_M_thrown _ hst z ad 127 _ _ _ _ _ _ (by omega) hMc) gv_L_79 rfl rfl rfl hd_M_thrown ⟨(Nat.le_of_ble_eq_true rfl), (Nat.le_of_ble_eq_true rfl)⟩ (by omega) hMc.1 rfl rfl rfl (Nat.le_of_ble_eq_true rfl) ⟨by show _ ≤ 601024; omega, by show _ ≤ 7293034; omega⟩ dc_L_law_821 (fun r1 g9 h1 => ?_)
  obtain ⟨hv9, hg9⟩ := h1
  rw [hg9, hv9]
  refine zj_iload C dc_L_law_824 1 rfl ?_
  refine zj_icmp_eq C dc_L_law_826 rfl (fun _ => ?_) (fun h => absurd h (not_not_intro rfl))
  refine zj_iload C dc_L_law_831 1 rfl ?_
  refine zj_if_ne C dc_L_law_833 rfl (fun hk0 => ?_) (fun hk0 => ?_)
  · skip
    refine zj_goto C dc_L_law_848 rfl ?_
    refine zj_loc (L' := [(4, .int (nI i)), (0, .ref b), (1, .ref (ad 0)), (2, .ref (ad 108)), (3, .ref (ad 126))]) [2, 3, 4, 5, 6] rfl ?_
    exact zj_wid (by omega) (by omega) (K g2 k1 lw1 hG2 hlw2)
  · skip
    refine zj_aload_n C dc_L_law_836 rfl 6 rfl ?_
    refine zj_iconst (v := 0) C dc_L_law_837 (by decide) ?_
    refine zj_topi (nI_0.symm) ?_
    refine zj_lald C (by omega) hlw2 rfl (by decide) (by decide) dc_L_law_838 ?_
    refine zj_iload C dc_L_law_839 0 rfl ?_
    refine zj_i2l C dc_L_law_841 ?_
    refine zj_lcmp C dc_L_law_842 ?_
    refine zj_topi (zl_cmp0 (by rw [hv1 hk0, hv2 hk0])) ?_
    refine zj_if_eq C dc_L_law_843 rfl (fun _ => ?_) (fun h => absurd h (not_not_intro rfl))
    refine zj_goto C dc_L_law_848 rfl ?_
    refine zj_loc (L' := [(4, .int (nI i)), (0, .ref b), (1, .ref (ad 0)), (2, .ref (ad 108)), (3, .ref (ad 126))]) [2, 3, 4, 5, 6] rfl ?_
    exact zj_wid (by omega) (by omega) (K g2 k1 lw1 hG2 hlw2)
set_option maxHeartbeats 4000000 in
set_option maxRecDepth 100000 in
theorem zl_match {X : zj_T} {z : zv_T} {b n : Nat} {xs : Nat → Int32} {rt : Option FieldType} (C : zj_C X z code 7 cn_L room_1 rt) (hX : zl_X X b n xs) (hst : X.2.1.stackTraces = false) {Q : State → Prop} {ad : Nat → Nat} {g : Nat → va_E} {i c0 s0 : Nat} (hi : i + 5 ≤ n) (hn : n ≤ 2560) (hc : c0 + 4 ≤ 601024 ∧ s0 + 24 ≤ 7293034) {k0 : Int32} (hG : zz_G z ad g k0) {lw : Nat → Int64} (hlw : g 126 = ze_l z 1 lw)
    (K : ∀ (g2 : Nat → va_E) (k2 : Int32) (lw2 : Nat → Int64), zz_G z ad g2 k2 → g2 126 = ze_l z 1 lw2 → zj_J X (c0 + 4) (s0 + 24) Q ad 127 g2 1227 [(4, .int (nI i)), (0, .ref b), (1, .ref (ad 0)), (2, .ref (ad 108)), (3, .ref (ad 126))] []) : zj_J X c0 s0 Q ad 127 g 851 [(4, .int (nI i)), (0, .ref b), (1, .ref (ad 0)), (2, .ref (ad 108)), (3, .ref (ad 126))] [] := by
  obtain ⟨ts, qc, qp, qq, as0, F, fo, kp, a, sh, Cn, Rn, hC, hMc, hA, hQ, hF⟩ := hG
  have hC9 := hC
  obtain ⟨c1, c2, c3, ⟨hh, ee, mo, lo, wt, hr, bh, c4⟩, ⟨b1, b2, b3, cm, c5⟩, s9, c6⟩ := hC9
  refine zj_aload_n C dc_L_law_851 rfl 2 rfl ?_
  refine zj_aload_n C dc_L_law_852 rfl 1 rfl ?_
  refine zj_iload C dc_L_law_853 0 rfl ?_
  refine zj_iconst (v := 1) C dc_L_law_855 (by decide) ?_
  refine zj_iadd C dc_L_law_856 ?_
  refine zj_topi (nI_1 _) ?_
  refine zl_sld C hX rfl (by omega) (by omega) dc_L_law_857 ?_
  refine zj_aload_n C dc_L_law_858 rfl 1 rfl ?_
  refine zj_iload C dc_L_law_859 0 rfl ?_
  refine zj_iconst (v := 2) C dc_L_law_861 (by decide) ?_
  refine zj_iadd C dc_L_law_862 ?_
  refine zj_topi (show nI i + (2 : Int32) = nI (i + 2) from nI_add _ 2) ?_
  refine zl_sld C hX rfl (by omega) (by omega) dc_L_law_863 ?_
  refine zj_aload_n C dc_L_law_864 rfl 4 rfl ?_
  refine zl_Si C (ct_L_match _ hst z ad 127 g ts F as0 (xs (i + 1)) (xs (i + 2)) (by omega) c1 c3 hF.1 hF.2.2.1 hF.2.1 lw hlw) gs_L_match rfl rfl rfl hd_L_match ⟨(Nat.le_of_ble_eq_true rfl), (Nat.le_of_ble_eq_true rfl)⟩ rfl rfl (Nat.le_of_ble_eq_true rfl) ⟨by show _ ≤ 601024; omega, by show _ ≤ 7293034; omega⟩ dc_L_law_865 (fun k1 g1 h1 => ?_)
  obtain ⟨v, hk1, ⟨lw1, hlw1, hv1⟩, hf1⟩ := h1
  have hMc := zs_M_fr hMc (fun j h1 h2 => hf1 j h1 h2)
  refine zj_istore C dc_L_law_868 (by decide) rfl ?_
  refine zj_aload_n C dc_L_law_870 rfl 4 rfl ?_
  refine zj_aload_n C dc_L_law_871 rfl 2 rfl ?_
  refine zj_iload C dc_L_law_872 1 rfl ?_
  refine zj_iconst (v := 1) C dc_L_law_874 (by decide) ?_
  refine zj_iadd C dc_L_law_875 ?_
  refine zj_topi (nI_1 _) ?_
  refine zl_sld C hX rfl (by omega) (by omega) dc_L_law_876 ?_
  refine zj_aload_n C dc_L_law_877 rfl 2 rfl ?_
  refine zj_iload C dc_L_law_878 1 rfl ?_
  refine zj_iconst (v := 2) C dc_L_law_880 (by decide) ?_
  refine zj_iadd C dc_L_law_881 ?_
  refine zj_topi (show nI i + (2 : Int32) = nI (i + 2) from nI_add _ 2) ?_
  refine zl_sld C hX rfl (by omega) (by omega) dc_L_law_882 ?_
  refine zj_Vi C (ct_M_match _ hst z ad 127 _ _ _ _ _ _ (by omega) hMc (zq_kp F) hF.2.2.2.1 (zl_kp F) (xs (i + 1)) (xs (i + 2))) gv_L_124 rfl rfl rfl hd_M_match ⟨(Nat.le_of_ble_eq_true rfl), (Nat.le_of_ble_eq_true rfl)⟩ (by omega) hMc.1 rfl rfl rfl (Nat.le_of_ble_eq_true rfl) ⟨by show _ ≤ 601024; omega, by show _ ≤ 7293034; omega⟩ dc_L_law_883 (fun r2 g2 h2 => ?_)
  have hf2 : g2 126 = g1 126 := by rcases h2 with ⟨jq, w9, _, _, _, _, _, hM⟩ | ⟨_, hM⟩ | ⟨_, _, hM⟩ <;> exact hM.2 126 (Or.inr (Nat.le_refl _))
  have hlw2 := hf2.trans hlw1
  obtain ⟨hG2, hv2⟩ := zz_match (xs (i + 1)) (xs (i + 2)) hC hA hQ hF hk1 h2
  have hG3 := hG2
  obtain ⟨_, _, _, _, _, _, _, _, _, _, _, _, _, hMc, _⟩ := hG3
  refine zj_istore C dc_L_law_886 (by decide) rfl ?_
  refine zj_aload_n C dc_L_law_888 rfl 5 rfl ?_
  refine zj_Vi C (ct_M_thrown _ hst z ad 127 _ _ _ _ _ _ (by omega) hMc) gv_L_79 rfl rfl rfl hd_M_thrown ⟨(Nat.le_of_ble_eq_true rfl), (Nat.le_of_ble_eq_true rfl)⟩ (by omega) hMc.1 rfl rfl rfl (Nat.le_of_ble_eq_true rfl) ⟨by show _ ≤ 601024; omega, by show _ ≤ 7293034; omega⟩ dc_L_law_889 (fun r1 g9 h1 => ?_)
  obtain ⟨hv9, hg9⟩ := h1
  rw [hg9, hv9]
  refine zj_iload C dc_L_law_892 1 rfl ?_
  refine zj_icmp_eq C dc_L_law_894 rfl (fun _ => ?_) (fun h => absurd h (not_not_intro rfl))
  refine zj_iload C dc_L_law_899 1 rfl ?_
  refine zj_if_ne C dc_L_law_901 rfl (fun hk0 => ?_) (fun hk0 => ?_)
  · skip
    refine zj_goto C dc_L_law_916 rfl ?_
    refine zj_loc (L' := [(4, .int (nI i)), (0, .ref b), (1, .ref (ad 0)), (2, .ref (ad 108)), (3, .ref (ad 126))]) [2, 3, 4, 5, 6] rfl ?_
    exact zj_wid (by omega) (by omega) (K g2 k1 lw1 hG2 hlw2)
  · skip
    refine zj_aload_n C dc_L_law_904 rfl 6 rfl ?_
    refine zj_iconst (v := 0) C dc_L_law_905 (by decide) ?_
    refine zj_topi (nI_0.symm) ?_
    refine zj_lald C (by omega) hlw2 rfl (by decide) (by decide) dc_L_law_906 ?_
    refine zj_iload C dc_L_law_907 0 rfl ?_
    refine zj_i2l C dc_L_law_909 ?_
    refine zj_lcmp C dc_L_law_910 ?_
    refine zj_topi (zl_cmp0 (by rw [hv1 hk0, hv2 hk0])) ?_
    refine zj_if_eq C dc_L_law_911 rfl (fun _ => ?_) (fun h => absurd h (not_not_intro rfl))
    refine zj_goto C dc_L_law_916 rfl ?_
    refine zj_loc (L' := [(4, .int (nI i)), (0, .ref b), (1, .ref (ad 0)), (2, .ref (ad 108)), (3, .ref (ad 126))]) [2, 3, 4, 5, 6] rfl ?_
    exact zj_wid (by omega) (by omega) (K g2 k1 lw1 hG2 hlw2)
set_option maxHeartbeats 4000000 in
set_option maxRecDepth 100000 in
theorem zl_repeats {X : zj_T} {z : zv_T} {b n : Nat} {xs : Nat → Int32} {rt : Option FieldType} (C : zj_C X z code 7 cn_L room_1 rt) (hX : zl_X X b n xs) (hst : X.2.1.stackTraces = false) {Q : State → Prop} {ad : Nat → Nat} {g : Nat → va_E} {i c0 s0 : Nat} (hi : i + 5 ≤ n) (hn : n ≤ 2560) (hc : c0 + 4 ≤ 601024 ∧ s0 + 24 ≤ 7293034) {k0 : Int32} (hG : zz_G z ad g k0) {lw : Nat → Int64} (hlw : g 126 = ze_l z 1 lw)
    (K : ∀ (g2 : Nat → va_E) (k2 : Int32) (lw2 : Nat → Int64), zz_G z ad g2 k2 → g2 126 = ze_l z 1 lw2 → zj_J X (c0 + 4) (s0 + 24) Q ad 127 g2 1227 [(4, .int (nI i)), (0, .ref b), (1, .ref (ad 0)), (2, .ref (ad 108)), (3, .ref (ad 126))] []) : zj_J X c0 s0 Q ad 127 g 919 [(4, .int (nI i)), (0, .ref b), (1, .ref (ad 0)), (2, .ref (ad 108)), (3, .ref (ad 126))] [] := by
  obtain ⟨ts, qc, qp, qq, as0, F, fo, kp, a, sh, Cn, Rn, hC, hMc, hA, hQ, hF⟩ := hG
  have hC9 := hC
  obtain ⟨c1, c2, c3, ⟨hh, ee, mo, lo, wt, hr, bh, c4⟩, ⟨b1, b2, b3, cm, c5⟩, s9, c6⟩ := hC9
  refine zj_aload_n C dc_L_law_919 rfl 2 rfl ?_
  refine zj_aload_n C dc_L_law_920 rfl 1 rfl ?_
  refine zj_iload C dc_L_law_921 0 rfl ?_
  refine zj_iconst (v := 1) C dc_L_law_923 (by decide) ?_
  refine zj_iadd C dc_L_law_924 ?_
  refine zj_topi (nI_1 _) ?_
  refine zl_sld C hX rfl (by omega) (by omega) dc_L_law_925 ?_
  refine zj_aload_n C dc_L_law_926 rfl 1 rfl ?_
  refine zj_iload C dc_L_law_927 0 rfl ?_
  refine zj_iconst (v := 2) C dc_L_law_929 (by decide) ?_
  refine zj_iadd C dc_L_law_930 ?_
  refine zj_topi (show nI i + (2 : Int32) = nI (i + 2) from nI_add _ 2) ?_
  refine zl_sld C hX rfl (by omega) (by omega) dc_L_law_931 ?_
  refine zj_aload_n C dc_L_law_932 rfl 4 rfl ?_
  refine zl_Si C (ct_L_repeats _ hst z ad 127 g ts (xs (i + 1)) (by omega) c1 (xs (i + 2)) (zz_cn hA).1 b1 b2 b3 cm c5 lw hlw) gs_L_repeats rfl rfl rfl hd_L_repeats ⟨(Nat.le_of_ble_eq_true rfl), (Nat.le_of_ble_eq_true rfl)⟩ rfl rfl (Nat.le_of_ble_eq_true rfl) ⟨by show _ ≤ 601024; omega, by show _ ≤ 7293034; omega⟩ dc_L_law_933 (fun k1 g1 h1 => ?_)
  obtain ⟨v, hk1, ⟨lw1, hlw1, hv1⟩, hf1⟩ := h1
  have hMc := zs_M_fr hMc (fun j h1 h2 => hf1 j h1 h2)
  refine zj_istore C dc_L_law_936 (by decide) rfl ?_
  refine zj_aload_n C dc_L_law_938 rfl 4 rfl ?_
  refine zj_aload_n C dc_L_law_939 rfl 2 rfl ?_
  refine zj_iload C dc_L_law_940 1 rfl ?_
  refine zj_iconst (v := 1) C dc_L_law_942 (by decide) ?_
  refine zj_iadd C dc_L_law_943 ?_
  refine zj_topi (nI_1 _) ?_
  refine zl_sld C hX rfl (by omega) (by omega) dc_L_law_944 ?_
  refine zj_aload_n C dc_L_law_945 rfl 2 rfl ?_
  refine zj_iload C dc_L_law_946 1 rfl ?_
  refine zj_iconst (v := 2) C dc_L_law_948 (by decide) ?_
  refine zj_iadd C dc_L_law_949 ?_
  refine zj_topi (show nI i + (2 : Int32) = nI (i + 2) from nI_add _ 2) ?_
  refine zl_sld C hX rfl (by omega) (by omega) dc_L_law_950 ?_
  refine zj_Vi C (ct_M_repeats _ hst z ad 127 _ _ _ _ _ _ (by omega) hMc _ sh Cn Rn hA.1 (xs (i + 1)) (xs (i + 2))) gv_L_127 rfl rfl rfl hd_M_repeats ⟨(Nat.le_of_ble_eq_true rfl), (Nat.le_of_ble_eq_true rfl)⟩ (by omega) hMc.1 rfl rfl rfl (Nat.le_of_ble_eq_true rfl) ⟨by show _ ≤ 601024; omega, by show _ ≤ 7293034; omega⟩ dc_L_law_951 (fun r2 g2 h2 => ?_)
  have hf2 : g2 126 = g1 126 := by rcases h2 with ⟨u, lq, _, _, _, _, _, hM⟩ | ⟨_, hM⟩ | ⟨_, _, hM⟩ <;> exact hM.2 126 (Or.inr (Nat.le_refl _))
  have hlw2 := hf2.trans hlw1
  obtain ⟨hG2, hv2⟩ := zz_repeats (xs (i + 1)) (xs (i + 2)) hC hA hQ hF hk1 h2
  have hG3 := hG2
  obtain ⟨_, _, _, _, _, _, _, _, _, _, _, _, _, hMc, _⟩ := hG3
  refine zj_istore C dc_L_law_954 (by decide) rfl ?_
  refine zj_aload_n C dc_L_law_956 rfl 5 rfl ?_
  refine zj_Vi C (ct_M_thrown _ hst z ad 127 _ _ _ _ _ _ (by omega) hMc) gv_L_79 rfl rfl rfl hd_M_thrown ⟨(Nat.le_of_ble_eq_true rfl), (Nat.le_of_ble_eq_true rfl)⟩ (by omega) hMc.1 rfl rfl rfl (Nat.le_of_ble_eq_true rfl) ⟨by show _ ≤ 601024; omega, by show _ ≤ 7293034; omega⟩ dc_L_law_957 (fun r1 g9 h1 => ?_)
  obtain ⟨hv9, hg9⟩ := h1
  rw [hg9, hv9]
  refine zj_iload C dc_L_law_960 1 rfl ?_
  refine zj_icmp_eq C dc_L_law_962 rfl (fun _ => ?_) (fun h => absurd h (not_not_intro rfl))
  refine zj_iload C dc_L_law_967 1 rfl ?_
  refine zj_if_ne C dc_L_law_969 rfl (fun hk0 => ?_) (fun hk0 => ?_)
  · skip
    refine zj_goto C dc_L_law_984 rfl ?_
    refine zj_loc (L' := [(4, .int (nI i)), (0, .ref b), (1, .ref (ad 0)), (2, .ref (ad 108)), (3, .ref (ad 126))]) [2, 3, 4, 5, 6] rfl ?_
    exact zj_wid (by omega) (by omega) (K g2 k1 lw1 hG2 hlw2)
  · skip
    refine zj_aload_n C dc_L_law_972 rfl 6 rfl ?_
    refine zj_iconst (v := 0) C dc_L_law_973 (by decide) ?_
    refine zj_topi (nI_0.symm) ?_
    refine zj_lald C (by omega) hlw2 rfl (by decide) (by decide) dc_L_law_974 ?_
    refine zj_iload C dc_L_law_975 0 rfl ?_
    refine zj_i2l C dc_L_law_977 ?_
    refine zj_lcmp C dc_L_law_978 ?_
    refine zj_topi (zl_cmp0 (by rw [hv1 hk0, hv2 hk0])) ?_
    refine zj_if_eq C dc_L_law_979 rfl (fun _ => ?_) (fun h => absurd h (not_not_intro rfl))
    refine zj_goto C dc_L_law_984 rfl ?_
    refine zj_loc (L' := [(4, .int (nI i)), (0, .ref b), (1, .ref (ad 0)), (2, .ref (ad 108)), (3, .ref (ad 126))]) [2, 3, 4, 5, 6] rfl ?_
    exact zj_wid (by omega) (by omega) (K g2 k1 lw1 hG2 hlw2)
set_option maxHeartbeats 4000000 in
set_option maxRecDepth 100000 in
theorem zl_repeat {X : zj_T} {z : zv_T} {b n : Nat} {xs : Nat → Int32} {rt : Option FieldType} (C : zj_C X z code 7 cn_L room_1 rt) (hX : zl_X X b n xs) (hst : X.2.1.stackTraces = false) {Q : State → Prop} {ad : Nat → Nat} {g : Nat → va_E} {i c0 s0 : Nat} (hi : i + 5 ≤ n) (hn : n ≤ 2560) (hc : c0 + 4 ≤ 601024 ∧ s0 + 24 ≤ 7293034) {k0 : Int32} (hG : zz_G z ad g k0) {lw : Nat → Int64} (hlw : g 126 = ze_l z 1 lw)
    (K : ∀ (g2 : Nat → va_E) (k2 : Int32) (lw2 : Nat → Int64), zz_G z ad g2 k2 → g2 126 = ze_l z 1 lw2 → zj_J X (c0 + 4) (s0 + 24) Q ad 127 g2 1227 [(4, .int (nI i)), (0, .ref b), (1, .ref (ad 0)), (2, .ref (ad 108)), (3, .ref (ad 126))] []) : zj_J X c0 s0 Q ad 127 g 987 [(4, .int (nI i)), (0, .ref b), (1, .ref (ad 0)), (2, .ref (ad 108)), (3, .ref (ad 126))] [] := by
  obtain ⟨ts, qc, qp, qq, as0, F, fo, kp, a, sh, Cn, Rn, hC, hMc, hA, hQ, hF⟩ := hG
  have hC9 := hC
  obtain ⟨c1, c2, c3, ⟨hh, ee, mo, lo, wt, hr, bh, c4⟩, ⟨b1, b2, b3, cm, c5⟩, s9, c6⟩ := hC9
  refine zj_aload_n C dc_L_law_987 rfl 2 rfl ?_
  refine zj_aload_n C dc_L_law_988 rfl 1 rfl ?_
  refine zj_iload C dc_L_law_989 0 rfl ?_
  refine zj_iconst (v := 1) C dc_L_law_991 (by decide) ?_
  refine zj_iadd C dc_L_law_992 ?_
  refine zj_topi (nI_1 _) ?_
  refine zl_sld C hX rfl (by omega) (by omega) dc_L_law_993 ?_
  refine zj_aload_n C dc_L_law_994 rfl 1 rfl ?_
  refine zj_iload C dc_L_law_995 0 rfl ?_
  refine zj_iconst (v := 2) C dc_L_law_997 (by decide) ?_
  refine zj_iadd C dc_L_law_998 ?_
  refine zj_topi (show nI i + (2 : Int32) = nI (i + 2) from nI_add _ 2) ?_
  refine zl_sld C hX rfl (by omega) (by omega) dc_L_law_999 ?_
  refine zj_aload_n C dc_L_law_1000 rfl 1 rfl ?_
  refine zj_iload C dc_L_law_1001 0 rfl ?_
  refine zj_iconst (v := 3) C dc_L_law_1003 (by decide) ?_
  refine zj_iadd C dc_L_law_1004 ?_
  refine zj_topi (show nI i + (3 : Int32) = nI (i + 3) from nI_add _ 3) ?_
  refine zl_sld C hX rfl (by omega) (by omega) dc_L_law_1005 ?_
  refine zj_aload_n C dc_L_law_1006 rfl 1 rfl ?_
  refine zj_iload C dc_L_law_1007 0 rfl ?_
  refine zj_iconst (v := 4) C dc_L_law_1009 (by decide) ?_
  refine zj_iadd C dc_L_law_1010 ?_
  refine zj_topi (show nI i + (4 : Int32) = nI (i + 4) from nI_add _ 4) ?_
  refine zl_sld C hX rfl (by omega) (by omega) dc_L_law_1011 ?_
  refine zj_aload_n C dc_L_law_1012 rfl 4 rfl ?_
  refine zl_Si C (ct_L_repeat _ hst z ad 127 g ts (xs (i + 1)) (by omega) c1 (xs (i + 2)) (zz_cn hA).1 b1 b2 b3 cm c5 (xs (i + 3)) (xs (i + 4)) lw hlw) gs_L_repeat rfl rfl rfl hd_L_repeat ⟨(Nat.le_of_ble_eq_true rfl), (Nat.le_of_ble_eq_true rfl)⟩ rfl rfl (Nat.le_of_ble_eq_true rfl) ⟨by show _ ≤ 601024; omega, by show _ ≤ 7293034; omega⟩ dc_L_law_1013 (fun k1 g1 h1 => ?_)
  obtain ⟨v, hk1, ⟨lw1, hlw1, hv1⟩, hf1⟩ := h1
  have hMc := zs_M_fr hMc (fun j h1 h2 => hf1 j h1 h2)
  refine zj_istore C dc_L_law_1016 (by decide) rfl ?_
  refine zj_aload_n C dc_L_law_1018 rfl 4 rfl ?_
  refine zj_aload_n C dc_L_law_1019 rfl 2 rfl ?_
  refine zj_iload C dc_L_law_1020 1 rfl ?_
  refine zj_iconst (v := 1) C dc_L_law_1022 (by decide) ?_
  refine zj_iadd C dc_L_law_1023 ?_
  refine zj_topi (nI_1 _) ?_
  refine zl_sld C hX rfl (by omega) (by omega) dc_L_law_1024 ?_
  refine zj_aload_n C dc_L_law_1025 rfl 2 rfl ?_
  refine zj_iload C dc_L_law_1026 1 rfl ?_
  refine zj_iconst (v := 2) C dc_L_law_1028 (by decide) ?_
  refine zj_iadd C dc_L_law_1029 ?_
  refine zj_topi (show nI i + (2 : Int32) = nI (i + 2) from nI_add _ 2) ?_
  refine zl_sld C hX rfl (by omega) (by omega) dc_L_law_1030 ?_
  refine zj_aload_n C dc_L_law_1031 rfl 2 rfl ?_
  refine zj_iload C dc_L_law_1032 1 rfl ?_
  refine zj_iconst (v := 3) C dc_L_law_1034 (by decide) ?_
  refine zj_iadd C dc_L_law_1035 ?_
  refine zj_topi (show nI i + (3 : Int32) = nI (i + 3) from nI_add _ 3) ?_
  refine zl_sld C hX rfl (by omega) (by omega) dc_L_law_1036 ?_
  refine zj_aload_n C dc_L_law_1037 rfl 2 rfl ?_
  refine zj_iload C dc_L_law_1038 1 rfl ?_
  refine zj_iconst (v := 4) C dc_L_law_1040 (by decide) ?_
  refine zj_iadd C dc_L_law_1041 ?_
  refine zj_topi (show nI i + (4 : Int32) = nI (i + 4) from nI_add _ 4) ?_
  refine zl_sld C hX rfl (by omega) (by omega) dc_L_law_1042 ?_
  refine zj_Vi C (ct_M_repeat _ hst z ad 127 _ _ _ _ _ _ (by omega) hMc _ sh Cn Rn hA.1 (xs (i + 1)) (xs (i + 2)) (xs (i + 3)) (xs (i + 4))) gv_L_130 rfl rfl rfl hd_M_repeat ⟨(Nat.le_of_ble_eq_true rfl), (Nat.le_of_ble_eq_true rfl)⟩ (by omega) hMc.1 rfl rfl rfl (Nat.le_of_ble_eq_true rfl) ⟨by show _ ≤ 601024; omega, by show _ ≤ 7293034; omega⟩ dc_L_law_1043 (fun r2 g2 h2 => ?_)
  have hf2 : g2 126 = g1 126 := by rcases h2 with ⟨u, lq, _, _, _, _, _, _, hM⟩ | ⟨_, hM⟩ | ⟨_, _, hM⟩ <;> exact hM.2 126 (Or.inr (Nat.le_refl _))
  have hlw2 := hf2.trans hlw1
  obtain ⟨hG2, hv2⟩ := zz_repeat (xs (i + 1)) (xs (i + 2)) (xs (i + 3)) (xs (i + 4)) hC hA hQ hF hk1 h2
  have hG3 := hG2
  obtain ⟨_, _, _, _, _, _, _, _, _, _, _, _, _, hMc, _⟩ := hG3
  refine zj_istore C dc_L_law_1046 (by decide) rfl ?_
  refine zj_aload_n C dc_L_law_1048 rfl 5 rfl ?_
  refine zj_Vi C (ct_M_thrown _ hst z ad 127 _ _ _ _ _ _ (by omega) hMc) gv_L_79 rfl rfl rfl hd_M_thrown ⟨(Nat.le_of_ble_eq_true rfl), (Nat.le_of_ble_eq_true rfl)⟩ (by omega) hMc.1 rfl rfl rfl (Nat.le_of_ble_eq_true rfl) ⟨by show _ ≤ 601024; omega, by show _ ≤ 7293034; omega⟩ dc_L_law_1049 (fun r1 g9 h1 => ?_)
  obtain ⟨hv9, hg9⟩ := h1
  rw [hg9, hv9]
  refine zj_iload C dc_L_law_1052 1 rfl ?_
  refine zj_icmp_eq C dc_L_law_1054 rfl (fun _ => ?_) (fun h => absurd h (not_not_intro rfl))
  refine zj_iload C dc_L_law_1059 1 rfl ?_
  refine zj_if_ne C dc_L_law_1061 rfl (fun hk0 => ?_) (fun hk0 => ?_)
  · skip
    refine zj_goto C dc_L_law_1076 rfl ?_
    refine zj_loc (L' := [(4, .int (nI i)), (0, .ref b), (1, .ref (ad 0)), (2, .ref (ad 108)), (3, .ref (ad 126))]) [2, 3, 4, 5, 6] rfl ?_
    exact zj_wid (by omega) (by omega) (K g2 k1 lw1 hG2 hlw2)
  · skip
    refine zj_aload_n C dc_L_law_1064 rfl 6 rfl ?_
    refine zj_iconst (v := 0) C dc_L_law_1065 (by decide) ?_
    refine zj_topi (nI_0.symm) ?_
    refine zj_lald C (by omega) hlw2 rfl (by decide) (by decide) dc_L_law_1066 ?_
    refine zj_iload C dc_L_law_1067 0 rfl ?_
    refine zj_i2l C dc_L_law_1069 ?_
    refine zj_lcmp C dc_L_law_1070 ?_
    refine zj_topi (zl_cmp0 (by rw [hv1 hk0, hv2 hk0])) ?_
    refine zj_if_eq C dc_L_law_1071 rfl (fun _ => ?_) (fun h => absurd h (not_not_intro rfl))
    refine zj_goto C dc_L_law_1076 rfl ?_
    refine zj_loc (L' := [(4, .int (nI i)), (0, .ref b), (1, .ref (ad 0)), (2, .ref (ad 108)), (3, .ref (ad 126))]) [2, 3, 4, 5, 6] rfl ?_
    exact zj_wid (by omega) (by omega) (K g2 k1 lw1 hG2 hlw2)
set_option maxHeartbeats 4000000 in
set_option maxRecDepth 100000 in
theorem zl_canon {X : zj_T} {z : zv_T} {b n : Nat} {xs : Nat → Int32} {rt : Option FieldType} (C : zj_C X z code 7 cn_L room_1 rt) (hX : zl_X X b n xs) (hst : X.2.1.stackTraces = false) {Q : State → Prop} {ad : Nat → Nat} {g : Nat → va_E} {i c0 s0 : Nat} (hi : i + 5 ≤ n) (hn : n ≤ 2560) (hc : c0 + 4 ≤ 601024 ∧ s0 + 24 ≤ 7293034) {k0 : Int32} (hG : zz_G z ad g k0) {lw : Nat → Int64} (hlw : g 126 = ze_l z 1 lw)
    (K : ∀ (g2 : Nat → va_E) (k2 : Int32) (lw2 : Nat → Int64), zz_G z ad g2 k2 → g2 126 = ze_l z 1 lw2 → zj_J X (c0 + 4) (s0 + 24) Q ad 127 g2 1227 [(4, .int (nI i)), (0, .ref b), (1, .ref (ad 0)), (2, .ref (ad 108)), (3, .ref (ad 126))] []) : zj_J X c0 s0 Q ad 127 g 1079 [(4, .int (nI i)), (0, .ref b), (1, .ref (ad 0)), (2, .ref (ad 108)), (3, .ref (ad 126))] [] := by
  obtain ⟨ts, qc, qp, qq, as0, F, fo, kp, a, sh, Cn, Rn, hC, hMc, hA, hQ, hF⟩ := hG
  have hC9 := hC
  obtain ⟨c1, c2, c3, ⟨hh, ee, mo, lo, wt, hr, bh, c4⟩, ⟨b1, b2, b3, cm, c5⟩, s9, c6⟩ := hC9
  refine zj_aload_n C dc_L_law_1079 rfl 2 rfl ?_
  refine zj_aload_n C dc_L_law_1080 rfl 1 rfl ?_
  refine zj_iload C dc_L_law_1081 0 rfl ?_
  refine zj_iconst (v := 1) C dc_L_law_1083 (by decide) ?_
  refine zj_iadd C dc_L_law_1084 ?_
  refine zj_topi (nI_1 _) ?_
  refine zl_sld C hX rfl (by omega) (by omega) dc_L_law_1085 ?_
  refine zj_aload_n C dc_L_law_1086 rfl 1 rfl ?_
  refine zj_iload C dc_L_law_1087 0 rfl ?_
  refine zj_iconst (v := 2) C dc_L_law_1089 (by decide) ?_
  refine zj_iadd C dc_L_law_1090 ?_
  refine zj_topi (show nI i + (2 : Int32) = nI (i + 2) from nI_add _ 2) ?_
  refine zl_sld C hX rfl (by omega) (by omega) dc_L_law_1091 ?_
  refine zj_aload_n C dc_L_law_1092 rfl 1 rfl ?_
  refine zj_iload C dc_L_law_1093 0 rfl ?_
  refine zj_iconst (v := 3) C dc_L_law_1095 (by decide) ?_
  refine zj_iadd C dc_L_law_1096 ?_
  refine zj_topi (show nI i + (3 : Int32) = nI (i + 3) from nI_add _ 3) ?_
  refine zl_sld C hX rfl (by omega) (by omega) dc_L_law_1097 ?_
  refine zj_aload_n C dc_L_law_1098 rfl 4 rfl ?_
  refine zl_Si C (ct_L_canon _ hst z ad 127 g ts (xs (i + 1)) (by omega) c1 (xs (i + 2)) (xs (i + 3)) (zz_cn hA).1 lw hlw) gs_L_canon rfl rfl rfl hd_L_canon ⟨(Nat.le_of_ble_eq_true rfl), (Nat.le_of_ble_eq_true rfl)⟩ rfl rfl (Nat.le_of_ble_eq_true rfl) ⟨by show _ ≤ 601024; omega, by show _ ≤ 7293034; omega⟩ dc_L_law_1099 (fun k1 g1 h1 => ?_)
  obtain ⟨v, hk1, ⟨lw1, hlw1, hv1⟩, hf1⟩ := h1
  have hMc := zs_M_fr hMc (fun j h1 h2 => hf1 j h1 h2)
  refine zj_istore C dc_L_law_1102 (by decide) rfl ?_
  refine zj_aload_n C dc_L_law_1104 rfl 4 rfl ?_
  refine zj_aload_n C dc_L_law_1105 rfl 2 rfl ?_
  refine zj_iload C dc_L_law_1106 1 rfl ?_
  refine zj_iconst (v := 1) C dc_L_law_1108 (by decide) ?_
  refine zj_iadd C dc_L_law_1109 ?_
  refine zj_topi (nI_1 _) ?_
  refine zl_sld C hX rfl (by omega) (by omega) dc_L_law_1110 ?_
  refine zj_aload_n C dc_L_law_1111 rfl 2 rfl ?_
  refine zj_iload C dc_L_law_1112 1 rfl ?_
  refine zj_iconst (v := 2) C dc_L_law_1114 (by decide) ?_
  refine zj_iadd C dc_L_law_1115 ?_
  refine zj_topi (show nI i + (2 : Int32) = nI (i + 2) from nI_add _ 2) ?_
  refine zl_sld C hX rfl (by omega) (by omega) dc_L_law_1116 ?_
  refine zj_aload_n C dc_L_law_1117 rfl 2 rfl ?_
  refine zj_iload C dc_L_law_1118 1 rfl ?_
  refine zj_iconst (v := 3) C dc_L_law_1120 (by decide) ?_
  refine zj_iadd C dc_L_law_1121 ?_
  refine zj_topi (show nI i + (3 : Int32) = nI (i + 3) from nI_add _ 3) ?_
  refine zl_sld C hX rfl (by omega) (by omega) dc_L_law_1122 ?_
  refine zj_Vi C (ct_M_canon _ hst z ad 127 _ _ _ _ _ _ (by omega) hMc _ sh Cn Rn hA.1 (xs (i + 1)) (xs (i + 2)) (xs (i + 3))) gv_L_133 rfl rfl rfl hd_M_canon ⟨(Nat.le_of_ble_eq_true rfl), (Nat.le_of_ble_eq_true rfl)⟩ (by omega) hMc.1 rfl rfl rfl (Nat.le_of_ble_eq_true rfl) ⟨by show _ ≤ 601024; omega, by show _ ≤ 7293034; omega⟩ dc_L_law_1123 (fun r2 g2 h2 => ?_)
  have hf2 : g2 126 = g1 126 := by rcases h2 with ⟨u, oq, lq, _, _, _, _, _, _, hM⟩ | ⟨_, hM⟩ | ⟨_, _, _, hM⟩ <;> exact hM.2 126 (Or.inr (Nat.le_refl _))
  have hlw2 := hf2.trans hlw1
  obtain ⟨hG2, hv2⟩ := zz_canon (xs (i + 1)) (xs (i + 2)) (xs (i + 3)) hC hA hQ hF hk1 h2
  have hG3 := hG2
  obtain ⟨_, _, _, _, _, _, _, _, _, _, _, _, _, hMc, _⟩ := hG3
  refine zj_istore C dc_L_law_1126 (by decide) rfl ?_
  refine zj_aload_n C dc_L_law_1128 rfl 5 rfl ?_
  refine zj_Vi C (ct_M_thrown _ hst z ad 127 _ _ _ _ _ _ (by omega) hMc) gv_L_79 rfl rfl rfl hd_M_thrown ⟨(Nat.le_of_ble_eq_true rfl), (Nat.le_of_ble_eq_true rfl)⟩ (by omega) hMc.1 rfl rfl rfl (Nat.le_of_ble_eq_true rfl) ⟨by show _ ≤ 601024; omega, by show _ ≤ 7293034; omega⟩ dc_L_law_1129 (fun r1 g9 h1 => ?_)
  obtain ⟨hv9, hg9⟩ := h1
  rw [hg9, hv9]
  refine zj_iload C dc_L_law_1132 1 rfl ?_
  refine zj_icmp_eq C dc_L_law_1134 rfl (fun _ => ?_) (fun h => absurd h (not_not_intro rfl))
  refine zj_iload C dc_L_law_1139 1 rfl ?_
  refine zj_if_ne C dc_L_law_1141 rfl (fun hk0 => ?_) (fun hk0 => ?_)
  · skip
    refine zj_goto C dc_L_law_1156 rfl ?_
    refine zj_loc (L' := [(4, .int (nI i)), (0, .ref b), (1, .ref (ad 0)), (2, .ref (ad 108)), (3, .ref (ad 126))]) [2, 3, 4, 5, 6] rfl ?_
    exact zj_wid (by omega) (by omega) (K g2 k1 lw1 hG2 hlw2)
  · skip
    refine zj_aload_n C dc_L_law_1144 rfl 6 rfl ?_
    refine zj_iconst (v := 0) C dc_L_law_1145 (by decide) ?_
    refine zj_topi (nI_0.symm) ?_
    refine zj_lald C (by omega) hlw2 rfl (by decide) (by decide) dc_L_law_1146 ?_
    refine zj_iload C dc_L_law_1147 0 rfl ?_
    refine zj_i2l C dc_L_law_1149 ?_
    refine zj_lcmp C dc_L_law_1150 ?_
    refine zj_topi (zl_cmp0 (by rw [hv1 hk0, hv2 hk0])) ?_
    refine zj_if_eq C dc_L_law_1151 rfl (fun _ => ?_) (fun h => absurd h (not_not_intro rfl))
    refine zj_goto C dc_L_law_1156 rfl ?_
    refine zj_loc (L' := [(4, .int (nI i)), (0, .ref b), (1, .ref (ad 0)), (2, .ref (ad 108)), (3, .ref (ad 126))]) [2, 3, 4, 5, 6] rfl ?_
    exact zj_wid (by omega) (by omega) (K g2 k1 lw1 hG2 hlw2)
set_option maxHeartbeats 4000000 in
set_option maxRecDepth 100000 in
theorem zl_opening {X : zj_T} {z : zv_T} {b n : Nat} {xs : Nat → Int32} {rt : Option FieldType} (C : zj_C X z code 7 cn_L room_1 rt) (hX : zl_X X b n xs) (hst : X.2.1.stackTraces = false) {Q : State → Prop} {ad : Nat → Nat} {g : Nat → va_E} {i c0 s0 : Nat} (hi : i + 5 ≤ n) (hn : n ≤ 2560) (hc : c0 + 4 ≤ 601024 ∧ s0 + 24 ≤ 7293034) {k0 : Int32} (hG : zz_G z ad g k0) {lw : Nat → Int64} (hlw : g 126 = ze_l z 1 lw)
    (K : ∀ (g2 : Nat → va_E) (k2 : Int32) (lw2 : Nat → Int64), zz_G z ad g2 k2 → g2 126 = ze_l z 1 lw2 → zj_J X (c0 + 4) (s0 + 24) Q ad 127 g2 1227 [(4, .int (nI i)), (0, .ref b), (1, .ref (ad 0)), (2, .ref (ad 108)), (3, .ref (ad 126))] []) : zj_J X c0 s0 Q ad 127 g 1159 [(4, .int (nI i)), (0, .ref b), (1, .ref (ad 0)), (2, .ref (ad 108)), (3, .ref (ad 126))] [] := by
  obtain ⟨ts, qc, qp, qq, as0, F, fo, kp, a, sh, Cn, Rn, hC, hMc, hA, hQ, hF⟩ := hG
  have hC9 := hC
  obtain ⟨c1, c2, c3, ⟨hh, ee, mo, lo, wt, hr, bh, c4⟩, ⟨b1, b2, b3, cm, c5⟩, s9, c6⟩ := hC9
  refine zj_aload_n C dc_L_law_1159 rfl 2 rfl ?_
  refine zj_aload_n C dc_L_law_1160 rfl 1 rfl ?_
  refine zj_iload C dc_L_law_1161 0 rfl ?_
  refine zj_iconst (v := 1) C dc_L_law_1163 (by decide) ?_
  refine zj_iadd C dc_L_law_1164 ?_
  refine zj_topi (nI_1 _) ?_
  refine zl_sld C hX rfl (by omega) (by omega) dc_L_law_1165 ?_
  refine zj_aload_n C dc_L_law_1166 rfl 1 rfl ?_
  refine zj_iload C dc_L_law_1167 0 rfl ?_
  refine zj_iconst (v := 2) C dc_L_law_1169 (by decide) ?_
  refine zj_iadd C dc_L_law_1170 ?_
  refine zj_topi (show nI i + (2 : Int32) = nI (i + 2) from nI_add _ 2) ?_
  refine zl_sld C hX rfl (by omega) (by omega) dc_L_law_1171 ?_
  refine zj_aload_n C dc_L_law_1172 rfl 4 rfl ?_
  refine zl_Si C (ct_L_opening _ hst z ad 127 g ts (xs (i + 1)) (by omega) c1 (xs (i + 2)) (zz_cn hA).1 s9 c6 lw hlw) gs_L_opening rfl rfl rfl hd_L_opening ⟨(Nat.le_of_ble_eq_true rfl), (Nat.le_of_ble_eq_true rfl)⟩ rfl rfl (Nat.le_of_ble_eq_true rfl) ⟨by show _ ≤ 601024; omega, by show _ ≤ 7293034; omega⟩ dc_L_law_1173 (fun k1 g1 h1 => ?_)
  obtain ⟨v, hk1, ⟨lw1, hlw1, hv1⟩, hf1⟩ := h1
  have hMc := zs_M_fr hMc (fun j h1 h2 => hf1 j h1 h2)
  refine zj_istore C dc_L_law_1176 (by decide) rfl ?_
  refine zj_aload_n C dc_L_law_1178 rfl 4 rfl ?_
  refine zj_aload_n C dc_L_law_1179 rfl 2 rfl ?_
  refine zj_iload C dc_L_law_1180 1 rfl ?_
  refine zj_iconst (v := 1) C dc_L_law_1182 (by decide) ?_
  refine zj_iadd C dc_L_law_1183 ?_
  refine zj_topi (nI_1 _) ?_
  refine zl_sld C hX rfl (by omega) (by omega) dc_L_law_1184 ?_
  refine zj_aload_n C dc_L_law_1185 rfl 2 rfl ?_
  refine zj_iload C dc_L_law_1186 1 rfl ?_
  refine zj_iconst (v := 2) C dc_L_law_1188 (by decide) ?_
  refine zj_iadd C dc_L_law_1189 ?_
  refine zj_topi (show nI i + (2 : Int32) = nI (i + 2) from nI_add _ 2) ?_
  refine zl_sld C hX rfl (by omega) (by omega) dc_L_law_1190 ?_
  refine zj_Vi C (ct_M_opening _ hst z ad 127 _ _ _ _ _ _ (by omega) hMc _ sh Cn Rn hA.1 (xs (i + 1)) (xs (i + 2))) gv_L_136 rfl rfl rfl hd_M_opening ⟨(Nat.le_of_ble_eq_true rfl), (Nat.le_of_ble_eq_true rfl)⟩ (by omega) hMc.1 rfl rfl rfl (Nat.le_of_ble_eq_true rfl) ⟨by show _ ≤ 601024; omega, by show _ ≤ 7293034; omega⟩ dc_L_law_1191 (fun r2 g2 h2 => ?_)
  have hf2 : g2 126 = g1 126 := by rcases h2 with ⟨u, S, _, _, _, hM⟩ | ⟨_, hM⟩ <;> exact hM.2 126 (Or.inr (Nat.le_refl _))
  have hlw2 := hf2.trans hlw1
  obtain ⟨hG2, hv2⟩ := zz_opening (xs (i + 1)) (xs (i + 2)) hC hA hQ hF hk1 h2
  have hG3 := hG2
  obtain ⟨_, _, _, _, _, _, _, _, _, _, _, _, _, hMc, _⟩ := hG3
  refine zj_istore C dc_L_law_1194 (by decide) rfl ?_
  refine zj_aload_n C dc_L_law_1196 rfl 5 rfl ?_
  refine zj_Vi C (ct_M_thrown _ hst z ad 127 _ _ _ _ _ _ (by omega) hMc) gv_L_79 rfl rfl rfl hd_M_thrown ⟨(Nat.le_of_ble_eq_true rfl), (Nat.le_of_ble_eq_true rfl)⟩ (by omega) hMc.1 rfl rfl rfl (Nat.le_of_ble_eq_true rfl) ⟨by show _ ≤ 601024; omega, by show _ ≤ 7293034; omega⟩ dc_L_law_1197 (fun r1 g9 h1 => ?_)
  obtain ⟨hv9, hg9⟩ := h1
  rw [hg9, hv9]
  refine zj_iload C dc_L_law_1200 1 rfl ?_
  refine zj_icmp_eq C dc_L_law_1202 rfl (fun _ => ?_) (fun h => absurd h (not_not_intro rfl))
  refine zj_iload C dc_L_law_1207 1 rfl ?_
  refine zj_if_ne C dc_L_law_1209 rfl (fun hk0 => ?_) (fun hk0 => ?_)
  · skip
    refine zj_goto C dc_L_law_1224 rfl ?_
    refine zj_loc (L' := [(4, .int (nI i)), (0, .ref b), (1, .ref (ad 0)), (2, .ref (ad 108)), (3, .ref (ad 126))]) [2, 3, 4, 5, 6] rfl ?_
    exact zj_wid (by omega) (by omega) (K g2 k1 lw1 hG2 hlw2)
  · skip
    refine zj_aload_n C dc_L_law_1212 rfl 6 rfl ?_
    refine zj_iconst (v := 0) C dc_L_law_1213 (by decide) ?_
    refine zj_topi (nI_0.symm) ?_
    refine zj_lald C (by omega) hlw2 rfl (by decide) (by decide) dc_L_law_1214 ?_
    refine zj_iload C dc_L_law_1215 0 rfl ?_
    refine zj_i2l C dc_L_law_1217 ?_
    refine zj_lcmp C dc_L_law_1218 ?_
    refine zj_topi (zl_cmp0 (by rw [hv1 hk0, hv2 hk0])) ?_
    refine zj_if_eq C dc_L_law_1219 rfl (fun _ => ?_) (fun h => absurd h (not_not_intro rfl))
    refine zj_goto C dc_L_law_1224 rfl ?_
    refine zj_loc (L' := [(4, .int (nI i)), (0, .ref b), (1, .ref (ad 0)), (2, .ref (ad 108)), (3, .ref (ad 126))]) [2, 3, 4, 5, 6] rfl ?_
    exact zj_wid (by omega) (by omega) (K g2 k1 lw1 hG2 hlw2)
end ZLO
