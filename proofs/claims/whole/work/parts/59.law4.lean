section ZLP
theorem zl_gt {i n : Nat} (hi : i ≤ 3000) (hn : n ≤ 2560) : nI n - 5 < nI i ↔ ¬ i + 5 ≤ n := by
  rw [Int32.lt_iff_toInt_lt, show nI n - 5 = nI n - nI 5 from rfl, pk_sub_toInt (by omega) (by omega), nI_toInt (by omega)]
  omega
theorem zl_sw (x : Int32) : ∃ w : Nat, w < 32 ∧ x &&& 31 = nI w := pk_andE x 5 rfl
set_option maxHeartbeats 4000000 in
set_option maxRecDepth 100000 in
theorem zl_head {X : zj_T} {z : zv_T} {b n : Nat} {xs : Nat → Int32} {rt : Option FieldType} (C : zj_C X z code 7 cn_L room_1 rt) (hX : zl_X X b n xs) (hst : X.2.1.stackTraces = false) {Q : State → Prop} {ad : Nat → Nat} {g : Nat → va_E} {i c0 s0 : Nat} (hi3 : i ≤ 3000) (hn : n ≤ 2560) (hc : c0 + 4 ≤ 601024 ∧ s0 + 24 ≤ 7293034) {k0 : Int32} (hG : zz_G z ad g k0) {lw : Nat → Int64} (hlw : g 126 = ze_l z 1 lw)
    (K : i + 5 ≤ n → ∀ (g2 : Nat → va_E) (k2 : Int32) (lw2 : Nat → Int64), zz_G z ad g2 k2 → g2 126 = ze_l z 1 lw2 → zj_J X (c0 + 4) (s0 + 24) Q ad 127 g2 1227 [(4, .int (nI i)), (0, .ref b), (1, .ref (ad 0)), (2, .ref (ad 108)), (3, .ref (ad 126))] []) (hx : ¬ i + 5 ≤ n → zj_J X c0 s0 Q ad 127 g 1233 [(4, .int (nI i)), (0, .ref b), (1, .ref (ad 0)), (2, .ref (ad 108)), (3, .ref (ad 126))] []) : zj_J X c0 s0 Q ad 127 g 23 [(4, .int (nI i)), (0, .ref b), (1, .ref (ad 0)), (2, .ref (ad 108)), (3, .ref (ad 126))] [] := by
  refine zj_iload C dc_L_law_23 0 rfl ?_
  refine zj_aload_n C dc_L_law_25 rfl 1 rfl ?_
  refine zl_slen C hX dc_L_law_26 ?_
  refine zj_iconst (v := 5) C dc_L_law_27 (by decide) ?_
  refine zj_isub C dc_L_law_28 ?_
  refine zj_icmp_gt C dc_L_law_29 rfl (fun h => hx (fun e => (zl_gt hi3 hn).mp h e)) (fun h => ?_)
  have hi : i + 5 ≤ n := Classical.not_not.mp (fun e => h ((zl_gt hi3 hn).mpr e))
  refine zj_aload_n C dc_L_law_32 rfl 1 rfl ?_
  refine zj_iload C dc_L_law_33 0 rfl ?_
  refine zl_sld C hX rfl (by omega) (by omega) dc_L_law_35 ?_
  refine zj_bipush (v := 31) C dc_L_law_36 (by decide) ?_
  refine zj_iand C dc_L_law_38 ?_
  obtain ⟨w, hw, hw2⟩ := zl_sw (xs i)
  refine zj_topi hw2 ?_
  have hcs : w = 0 ∨ w = 1 ∨ w = 2 ∨ w = 3 ∨ w = 4 ∨ w = 5 ∨ w = 6 ∨ w = 7 ∨ w = 8 ∨ w = 9 ∨ w = 10 ∨ w = 11 ∨ w = 12 ∨ w = 13 ∨ w = 14 ∨ w = 15 ∨ w = 16 ∨ 16 < w := by omega
  rcases hcs with rfl | rfl | rfl | rfl | rfl | rfl | rfl | rfl | rfl | rfl | rfl | rfl | rfl | rfl | rfl | rfl | rfl | hw3
  · exact zj_tableIn C dc_L_law_39 (by decide) (by decide) rfl rfl (zl_tune C hX hst hi hn hc hG hlw (K hi))
  · exact zj_tableIn C dc_L_law_39 (by decide) (by decide) rfl rfl (zl_drop C hX hst hi hn hc hG hlw (K hi))
  · exact zj_tableIn C dc_L_law_39 (by decide) (by decide) rfl rfl (zl_note C hX hst hi hn hc hG hlw (K hi))
  · exact zj_tableIn C dc_L_law_39 (by decide) (by decide) rfl rfl (zl_show C hX hst hi hn hc hG hlw (K hi))
  · exact zj_tableIn C dc_L_law_39 (by decide) (by decide) rfl rfl (zl_correct C hX hst hi hn hc hG hlw (K hi))
  · exact zj_tableIn C dc_L_law_39 (by decide) (by decide) rfl rfl (zl_restore C hX hst hi hn hc hG hlw (K hi))
  · exact zj_tableIn C dc_L_law_39 (by decide) (by decide) rfl rfl (zl_at C hX hst hi hn hc hG hlw (K hi))
  · exact zj_tableIn C dc_L_law_39 (by decide) (by decide) rfl rfl (zl_about C hX hst hi hn hc hG hlw (K hi))
  · exact zj_tableIn C dc_L_law_39 (by decide) (by decide) rfl rfl (zl_contour C hX hst hi hn hc hG hlw (K hi))
  · exact zj_tableIn C dc_L_law_39 (by decide) (by decide) rfl rfl (zl_ask C hX hst hi hn hc hG hlw (K hi))
  · exact zj_tableIn C dc_L_law_39 (by decide) (by decide) rfl rfl (zl_forget C hX hst hi hn hc hG hlw (K hi))
  · exact zj_tableIn C dc_L_law_39 (by decide) (by decide) rfl rfl (zl_search C hX hst hi hn hc hG hlw (K hi))
  · exact zj_tableIn C dc_L_law_39 (by decide) (by decide) rfl rfl (zl_match C hX hst hi hn hc hG hlw (K hi))
  · exact zj_tableIn C dc_L_law_39 (by decide) (by decide) rfl rfl (zl_repeats C hX hst hi hn hc hG hlw (K hi))
  · exact zj_tableIn C dc_L_law_39 (by decide) (by decide) rfl rfl (zl_repeat C hX hst hi hn hc hG hlw (K hi))
  · exact zj_tableIn C dc_L_law_39 (by decide) (by decide) rfl rfl (zl_canon C hX hst hi hn hc hG hlw (K hi))
  · exact zj_tableIn C dc_L_law_39 (by decide) (by decide) rfl rfl (zl_opening C hX hst hi hn hc hG hlw (K hi))
  · refine zj_tableOut C dc_L_law_39 (Or.inr (by rw [nI_toInt (by omega)]; omega)) rfl ?_
    exact zj_wid (by omega) (by omega) (K hi g k0 lw hG hlw)
theorem zl_inc (i : Nat) : nI i + Int32.ofInt 5 = nI (i + 5) := nI_add i 5
set_option maxHeartbeats 4000000 in
set_option maxRecDepth 100000 in
theorem zl_loop {X : zj_T} {z : zv_T} {b n : Nat} {xs : Nat → Int32} {rt : Option FieldType} (C : zj_C X z code 7 cn_L room_1 rt) (hX : zl_X X b n xs) (hst : X.2.1.stackTraces = false) {Q : State → Prop} {ad : Nat → Nat} (hn : n ≤ 2560) (hx : ∀ (g : Nat → va_E) (i c0 s0 : Nat), c0 ≤ 601024 → s0 ≤ 7293034 → zj_J X c0 s0 Q ad 127 g 1233 [(4, .int (nI i)), (0, .ref b), (1, .ref (ad 0)), (2, .ref (ad 108)), (3, .ref (ad 126))] []) : ∀ (m i c0 s0 : Nat) (g : Nat → va_E) (k0 : Int32) (lw : Nat → Int64), n < i + 5 * m → c0 + 4 * m + 4 ≤ 601024 → s0 + 24 * m + 24 ≤ 7293034 → i ≤ 3000 → zz_G z ad g k0 → g 126 = ze_l z 1 lw → zj_J X c0 s0 Q ad 127 g 23 [(4, .int (nI i)), (0, .ref b), (1, .ref (ad 0)), (2, .ref (ad 108)), (3, .ref (ad 126))] [] := by
  intro m
  induction m with
  | zero =>
    intro i c0 s0 g k0 lw h1 h2 h3 h4 hG hlw
    exact zl_head C hX hst h4 hn ⟨by omega, by omega⟩ hG hlw (fun hi => absurd hi (by omega)) (fun _ => hx g i c0 s0 (by omega) (by omega))
  | succ m ih =>
    intro i c0 s0 g k0 lw h1 h2 h3 h4 hG hlw
    refine zl_head C hX hst h4 hn ⟨by omega, by omega⟩ hG hlw (fun hi g2 k2 lw2 hG2 hlw2 => ?_) (fun _ => hx g i c0 s0 (by omega) (by omega))
    refine zj_iinc C dc_L_law_1227 0 rfl (zl_inc i) (by decide) rfl ?_
    refine zj_goto C dc_L_law_1230 rfl ?_
    exact ih (i + 5) (c0 + 4) (s0 + 24) g2 k2 lw2 (by omega) (by omega) (by omega) (by omega) hG2 hlw2
end ZLP
