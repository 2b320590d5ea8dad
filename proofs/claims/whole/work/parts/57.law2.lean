section ZLH
set_option maxHeartbeats 4000000 in
set_option maxRecDepth 100000 in
theorem ct_L_tune (l : Launch) (hst : l.stackTraces = false) (z : zv_T) (ad : Nat → Nat) (N : Nat) (g : Nat → va_E) (ts : Nat → zu_S) (id : Int32) (hN : 127 ≤ N) (hs : zs_A z ad g ts) (lw : Nat → Int64) (hlw : g 126 = ze_l z 1 lw) : zx_i l mn_L_tune ws_L_tune rm_L_tune z ad N g [.ref (ad 0), .int id] 1 6 (fun k gA => ((k = 0 ∧ ∃ g9 : Nat → va_E, (∃ t, t < 8 ∧ id = nI t ∧ zu_th (ts t) = false ∧ zs_A z ad g9 (zp_ts ts t (true, false, 0, 0, zu_p (ts t), zu_q (ts t), zu_pr (ts t), zu_rp (ts t), zu_rq (ts t))) ∧ ∀ j, 66 ≤ j → g9 j = g j) ∧ ∀ j, j < 126 → gA j = g9 j) ∨ (k = 1 ∧ ∃ g9 : Nat → va_E, (g9 = g ∧ (("java/lang/IndexOutOfBoundsException" = "java/lang/IndexOutOfBoundsException" ∧ ∀ t, t < 8 → ¬ id = nI t) ∨ ("java/lang/IndexOutOfBoundsException" = "java/lang/IllegalStateException" ∧ ∃ t, t < 8 ∧ id = nI t ∧ zu_th (ts t) = true))) ∧ ∀ j, j < 126 → gA j = g9 j) ∨ (k = 2 ∧ ∃ g9 : Nat → va_E, (g9 = g ∧ (("java/lang/IllegalStateException" = "java/lang/IndexOutOfBoundsException" ∧ ∀ t, t < 8 → ¬ id = nI t) ∨ ("java/lang/IllegalStateException" = "java/lang/IllegalStateException" ∧ ∃ t, t < 8 ∧ id = nI t ∧ zu_th (ts t) = true))) ∧ ∀ j, j < 126 → gA j = g9 j)) ∧ (∃ lo1, gA 126 = ze_l z 1 lo1) ∧ ∀ j, 108 ≤ j → j < 126 → gA j = g j) (fun _ _ => False) := by
  refine zl_ofi hst pn_L_tune rfl (Nat.le_of_ble_eq_true rfl) (fun X hX C hH => ?_)
  subst hX
  show zj_J X 0 0 _ ad N g 0 [(0, .ref (ad 0)), (1, .int id)] []
  refine zj_aload_n C dc_L_tune_0 rfl 0 rfl ?_
  refine zj_iload_n C dc_L_tune_1 rfl 1 rfl ?_
  refine zx_Vv C (ct_T_tune _ hst z ad N g ts id (by omega) hs) gv_L_7 rfl rfl rfl hd_T_tune ⟨(Nat.le_of_ble_eq_true rfl), (Nat.le_of_ble_eq_true rfl)⟩ (by omega) hs.1 rfl rfl rfl (Nat.le_of_ble_eq_true rfl) ⟨(Nat.le_of_ble_eq_true rfl), (Nat.le_of_ble_eq_true rfl)⟩ dc_L_tune_2 (fun E9 g9 h9 => ?_) (fun g9 h1 => ?_)
  · have hE : E9 = "java/lang/IndexOutOfBoundsException" ∨ E9 = "java/lang/IllegalStateException" := by
      rcases h9 with ⟨-, ⟨h, -⟩ | ⟨h, -⟩⟩
      · exact Or.inl h
      · exact Or.inr h
    have hg9 : g9 = g := h9.1
    rcases hE with rfl | rfl
    · refine zl_catch C hH [] ⟨0, 5, 8, 13⟩ [⟨0, 5, 11, 15⟩] rfl (fun _ h => absurd h List.not_mem_nil) rfl (by decide) cl_L_13 ins_IndexOutOfBoundsException (fun q9 => ?_)
      refine zj_astore_n C dc_L_tune_8 rfl (by decide) rfl ?_
      refine zj_iconst (v := 1) C dc_L_tune_9 (by decide) ?_
      exact zx_iret C ⟨(Nat.le_of_ble_eq_true rfl), (Nat.le_of_ble_eq_true rfl)⟩ dc_L_tune_10 ⟨(Or.inr (Or.inl ⟨rfl, g9, h9, fun _ _ => rfl⟩)), ⟨lw, by rw [hg9]; exact hlw⟩, fun j _ _ => by rw [hg9]⟩
    · refine zl_catch C hH [⟨0, 5, 8, 13⟩] ⟨0, 5, 11, 15⟩ [] rfl (List.forall_mem_cons.mpr ⟨⟨by decide, _, cl_L_13, fun U h => h.2.2.1⟩, (fun _ h => absurd h List.not_mem_nil)⟩) rfl (by decide) cl_L_15 ins_IllegalStateException (fun q9 => ?_)
      refine zj_astore_n C dc_L_tune_11 rfl (by decide) rfl ?_
      refine zj_iconst (v := 2) C dc_L_tune_12 (by decide) ?_
      exact zx_iret C ⟨(Nat.le_of_ble_eq_true rfl), (Nat.le_of_ble_eq_true rfl)⟩ dc_L_tune_13 ⟨(Or.inr (Or.inr ⟨rfl, g9, h9, fun _ _ => rfl⟩)), ⟨lw, by rw [hg9]; exact hlw⟩, fun j _ _ => by rw [hg9]⟩
  · have hfr9 : ∀ j, 108 ≤ j → g9 j = g j := by
        have h1' := h1
        obtain ⟨t9, _, _, _, _, hfr⟩ := h1'
        exact fun j hj => hfr j (by omega)
    have hout : g9 126 = ze_l z 1 lw := (hfr9 126 (by omega)).trans hlw
    refine zj_goto C dc_L_tune_5 rfl ?_
    refine zj_iconst (v := 0) C dc_L_tune_14 (by decide) ?_
    exact zx_iret C ⟨(Nat.le_of_ble_eq_true rfl), (Nat.le_of_ble_eq_true rfl)⟩ dc_L_tune_15 ⟨Or.inl ⟨rfl, g9, h1, fun _ _ => rfl⟩, ⟨lw, hout⟩, fun j h1 h2 => hfr9 j h1⟩
set_option maxHeartbeats 4000000 in
set_option maxRecDepth 100000 in
theorem ct_L_drop (l : Launch) (hst : l.stackTraces = false) (z : zv_T) (ad : Nat → Nat) (N : Nat) (g : Nat → va_E) (ts : Nat → zu_S) (id : Int32) (hN : 127 ≤ N) (hs : zs_A z ad g ts) (lw : Nat → Int64) (hlw : g 126 = ze_l z 1 lw) : zx_i l mn_L_drop ws_L_drop rm_L_drop z ad N g [.ref (ad 0), .int id] 1 6 (fun k gA => ((k = 0 ∧ ∃ g9 : Nat → va_E, (∃ t, zp_is ts id t ∧ zs_A z ad g9 (zp_ts ts t (false, false, (ts t).2.2)) ∧ ∀ j, 66 ≤ j → g9 j = g j) ∧ ∀ j, j < 126 → gA j = g9 j) ∨ (k = 1 ∧ ∃ g9 : Nat → va_E, (g9 = g ∧ "java/lang/IndexOutOfBoundsException" = "java/lang/IndexOutOfBoundsException" ∧ ∀ t, ¬ zp_is ts id t) ∧ ∀ j, j < 126 → gA j = g9 j)) ∧ (∃ lo1, gA 126 = ze_l z 1 lo1) ∧ ∀ j, 108 ≤ j → j < 126 → gA j = g j) (fun _ _ => False) := by
  refine zl_ofi hst pn_L_drop rfl (Nat.le_of_ble_eq_true rfl) (fun X hX C hH => ?_)
  subst hX
  show zj_J X 0 0 _ ad N g 0 [(0, .ref (ad 0)), (1, .int id)] []
  refine zj_aload_n C dc_L_drop_0 rfl 0 rfl ?_
  refine zj_iload_n C dc_L_drop_1 rfl 1 rfl ?_
  refine zx_Vv C (ct_T_drop _ hst z ad N g ts id (by omega) hs) gv_L_17 rfl rfl rfl hd_T_drop ⟨(Nat.le_of_ble_eq_true rfl), (Nat.le_of_ble_eq_true rfl)⟩ (by omega) hs.1 rfl rfl rfl (Nat.le_of_ble_eq_true rfl) ⟨(Nat.le_of_ble_eq_true rfl), (Nat.le_of_ble_eq_true rfl)⟩ dc_L_drop_2 (fun E9 g9 h9 => ?_) (fun g9 h1 => ?_)
  · have hE : E9 = "java/lang/IndexOutOfBoundsException" := by
      exact h9.2.1
    have hg9 : g9 = g := h9.1
    rcases hE with rfl
    · refine zl_catch C hH [] ⟨0, 5, 8, 13⟩ [] rfl (fun _ h => absurd h List.not_mem_nil) rfl (by decide) cl_L_13 ins_IndexOutOfBoundsException (fun q9 => ?_)
      refine zj_astore_n C dc_L_drop_8 rfl (by decide) rfl ?_
      refine zj_iconst (v := 1) C dc_L_drop_9 (by decide) ?_
      exact zx_iret C ⟨(Nat.le_of_ble_eq_true rfl), (Nat.le_of_ble_eq_true rfl)⟩ dc_L_drop_10 ⟨(Or.inr ⟨rfl, g9, h9, fun _ _ => rfl⟩), ⟨lw, by rw [hg9]; exact hlw⟩, fun j _ _ => by rw [hg9]⟩
  · have hfr9 : ∀ j, 108 ≤ j → g9 j = g j := by
        have h1' := h1
        obtain ⟨t9, _, _, hfr⟩ := h1'
        exact fun j hj => hfr j (by omega)
    have hout : g9 126 = ze_l z 1 lw := (hfr9 126 (by omega)).trans hlw
    refine zj_goto C dc_L_drop_5 rfl ?_
    refine zj_iconst (v := 0) C dc_L_drop_11 (by decide) ?_
    exact zx_iret C ⟨(Nat.le_of_ble_eq_true rfl), (Nat.le_of_ble_eq_true rfl)⟩ dc_L_drop_12 ⟨Or.inl ⟨rfl, g9, h1, fun _ _ => rfl⟩, ⟨lw, hout⟩, fun j h1 h2 => hfr9 j h1⟩
set_option maxHeartbeats 4000000 in
set_option maxRecDepth 100000 in
theorem ct_L_note (l : Launch) (hst : l.stackTraces = false) (z : zv_T) (ad : Nat → Nat) (N : Nat) (g : Nat → va_E) (ts : Nat → zu_S) (id : Int32) (hN : 127 ≤ N) (hs : zs_A z ad g ts) (x y : Int32) (hcn : ∀ t, t < 8 → zu_cn (ts t) ≤ 20) (hlr : ∀ t, t < 8 → zu_lr (ts t) ≤ 8) (lw : Nat → Int64) (hlw : g 126 = ze_l z 1 lw) : zx_i l mn_L_note ws_L_note rm_L_note z ad N g [.ref (ad 0), .int id, .int x, .int y, .ref (ad 126)] 3 18 (fun k gA => ∃ v : Int32, ((k = 0 ∧ ∃ g9 : Nat → va_E, (∃ t, zp_is ts id t ∧ zp_no x y ∧ zu_sh (ts t) = false ∧ zu_lr (ts t) = 0 ∧ zu_cn (ts t) < 20 ∧ v = nI (zu_cn (ts t) + 1) ∧ zs_A z ad g9 (zp_ts ts t ((ts t).1, (ts t).2.1, zu_lr (ts t), zu_cn (ts t) + 1, upd (zu_p (ts t)) (zu_cn (ts t)) x, upd (zu_q (ts t)) (zu_cn (ts t)) y, (ts t).2.2.2.2.2.2)) ∧ ∀ j, 66 ≤ j → g9 j = g j) ∧ ∀ j, j < 126 → gA j = g9 j) ∨ (k = 1 ∧ ∃ g9 : Nat → va_E, (g9 = g ∧ (("java/lang/IndexOutOfBoundsException" = "java/lang/IndexOutOfBoundsException" ∧ ∀ t, ¬ zp_is ts id t) ∨ ("java/lang/IndexOutOfBoundsException" = "java/lang/IllegalArgumentException" ∧ (∃ t, zp_is ts id t) ∧ ¬ zp_no x y) ∨ ("java/lang/IndexOutOfBoundsException" = "java/lang/IllegalStateException" ∧ (∃ t, zp_is ts id t ∧ (zu_sh (ts t) = true ∨ 0 < zu_lr (ts t) ∨ 20 ≤ zu_cn (ts t))) ∧ zp_no x y))) ∧ ∀ j, j < 126 → gA j = g9 j) ∨ (k = 2 ∧ ∃ g9 : Nat → va_E, (g9 = g ∧ (("java/lang/IllegalArgumentException" = "java/lang/IndexOutOfBoundsException" ∧ ∀ t, ¬ zp_is ts id t) ∨ ("java/lang/IllegalArgumentException" = "java/lang/IllegalArgumentException" ∧ (∃ t, zp_is ts id t) ∧ ¬ zp_no x y) ∨ ("java/lang/IllegalArgumentException" = "java/lang/IllegalStateException" ∧ (∃ t, zp_is ts id t ∧ (zu_sh (ts t) = true ∨ 0 < zu_lr (ts t) ∨ 20 ≤ zu_cn (ts t))) ∧ zp_no x y))) ∧ ∀ j, j < 126 → gA j = g9 j) ∨ (k = 3 ∧ ∃ g9 : Nat → va_E, (g9 = g ∧ (("java/lang/IllegalStateException" = "java/lang/IndexOutOfBoundsException" ∧ ∀ t, ¬ zp_is ts id t) ∨ ("java/lang/IllegalStateException" = "java/lang/IllegalArgumentException" ∧ (∃ t, zp_is ts id t) ∧ ¬ zp_no x y) ∨ ("java/lang/IllegalStateException" = "java/lang/IllegalStateException" ∧ (∃ t, zp_is ts id t ∧ (zu_sh (ts t) = true ∨ 0 < zu_lr (ts t) ∨ 20 ≤ zu_cn (ts t))) ∧ zp_no x y))) ∧ ∀ j, j < 126 → gA j = g9 j)) ∧ (∃ lo1, gA 126 = ze_l z 1 lo1 ∧ (k = 0 → lo1 0 = v.toInt64)) ∧ ∀ j, 108 ≤ j → j < 126 → gA j = g j) (fun _ _ => False) := by
  refine zl_ofi hst pn_L_note rfl (Nat.le_of_ble_eq_true rfl) (fun X hX C hH => ?_)
  subst hX
  show zj_J X 0 0 _ ad N g 0 [(0, .ref (ad 0)), (1, .int id), (2, .int x), (3, .int y), (4, .ref (ad 126))] []
  refine zj_aload C dc_L_note_0 4 rfl ?_
  refine zj_iconst (v := 0) C dc_L_note_2 (by decide) ?_
  refine zj_topi (nI_0.symm) ?_
  refine zj_aload_n C dc_L_note_3 rfl 0 rfl ?_
  refine zj_iload_n C dc_L_note_4 rfl 1 rfl ?_
  refine zj_iload_n C dc_L_note_5 rfl 2 rfl ?_
  refine zj_iload_n C dc_L_note_6 rfl 3 rfl ?_
  refine zx_Vi C (ct_T_note _ hst z ad N g ts id (by omega) hs x y hcn hlr) gv_L_20 rfl rfl rfl hd_T_note ⟨(Nat.le_of_ble_eq_true rfl), (Nat.le_of_ble_eq_true rfl)⟩ (by omega) hs.1 rfl rfl rfl (Nat.le_of_ble_eq_true rfl) ⟨(Nat.le_of_ble_eq_true rfl), (Nat.le_of_ble_eq_true rfl)⟩ dc_L_note_7 (fun E9 g9 h9 => ?_) (fun r1 g9 h1 => ?_)
  · have hE : E9 = "java/lang/IndexOutOfBoundsException" ∨ E9 = "java/lang/IllegalArgumentException" ∨ E9 = "java/lang/IllegalStateException" := by
      rcases h9 with ⟨-, ⟨h, -⟩ | ⟨h, -⟩ | ⟨h, -⟩⟩
      · exact Or.inl h
      · exact Or.inr (Or.inl h)
      · exact Or.inr (Or.inr h)
    have hg9 : g9 = g := h9.1
    rcases hE with rfl | rfl | rfl
    · refine zl_catch C hH [] ⟨0, 12, 15, 13⟩ [⟨0, 12, 19, 24⟩, ⟨0, 12, 23, 15⟩] rfl (fun _ h => absurd h List.not_mem_nil) rfl (by decide) cl_L_13 ins_IndexOutOfBoundsException (fun q9 => ?_)
      refine zj_astore C dc_L_note_15 (by decide) rfl ?_
      refine zj_iconst (v := 1) C dc_L_note_17 (by decide) ?_
      exact zx_iret C ⟨(Nat.le_of_ble_eq_true rfl), (Nat.le_of_ble_eq_true rfl)⟩ dc_L_note_18 ⟨0, (Or.inr (Or.inl ⟨rfl, g9, h9, fun _ _ => rfl⟩)), ⟨lw, by rw [hg9]; exact hlw, fun h => absurd h (by decide)⟩, fun j _ _ => by rw [hg9]⟩
    · refine zl_catch C hH [⟨0, 12, 15, 13⟩] ⟨0, 12, 19, 24⟩ [⟨0, 12, 23, 15⟩] rfl (List.forall_mem_cons.mpr ⟨⟨by decide, _, cl_L_13, fun U h => h.2.2.2.1⟩, (fun _ h => absurd h List.not_mem_nil)⟩) rfl (by decide) cl_L_24 ins_IllegalArgumentException (fun q9 => ?_)
      refine zj_astore C dc_L_note_19 (by decide) rfl ?_
      refine zj_iconst (v := 2) C dc_L_note_21 (by decide) ?_
      exact zx_iret C ⟨(Nat.le_of_ble_eq_true rfl), (Nat.le_of_ble_eq_true rfl)⟩ dc_L_note_22 ⟨0, (Or.inr (Or.inr (Or.inl ⟨rfl, g9, h9, fun _ _ => rfl⟩))), ⟨lw, by rw [hg9]; exact hlw, fun h => absurd h (by decide)⟩, fun j _ _ => by rw [hg9]⟩
    · refine zl_catch C hH [⟨0, 12, 15, 13⟩, ⟨0, 12, 19, 24⟩] ⟨0, 12, 23, 15⟩ [] rfl (List.forall_mem_cons.mpr ⟨⟨by decide, _, cl_L_13, fun U h => h.2.2.1⟩, (List.forall_mem_cons.mpr ⟨⟨by decide, _, cl_L_24, fun U h => h.2.2.2.2.1⟩, (fun _ h => absurd h List.not_mem_nil)⟩)⟩) rfl (by decide) cl_L_15 ins_IllegalStateException (fun q9 => ?_)
      refine zj_astore C dc_L_note_23 (by decide) rfl ?_
      refine zj_iconst (v := 3) C dc_L_note_25 (by decide) ?_
      exact zx_iret C ⟨(Nat.le_of_ble_eq_true rfl), (Nat.le_of_ble_eq_true rfl)⟩ dc_L_note_26 ⟨0, (Or.inr (Or.inr (Or.inr ⟨rfl, g9, h9, fun _ _ => rfl⟩))), ⟨lw, by rw [hg9]; exact hlw, fun h => absurd h (by decide)⟩, fun j _ _ => by rw [hg9]⟩
  · have hfr9 : ∀ j, 108 ≤ j → g9 j = g j := by
        have h1' := h1
        obtain ⟨t9, _, _, _, _, _, _, _, hfr⟩ := h1'
        exact fun j hj => hfr j (by omega)
    have hout : g9 126 = ze_l z 1 lw := (hfr9 126 (by omega)).trans hlw
    refine zj_i2l C dc_L_note_10 ?_
    refine zj_last C (by omega) hout rfl (by decide) (by decide) dc_L_note_11 ?_
    refine zj_goto C dc_L_note_12 rfl ?_
    refine zj_iconst (v := 0) C dc_L_note_27 (by decide) ?_
    exact zx_iret C ⟨(Nat.le_of_ble_eq_true rfl), (Nat.le_of_ble_eq_true rfl)⟩ dc_L_note_28 ⟨r1, Or.inl ⟨rfl, g9, h1, fun j hj => va_up_ne _ _ (by omega)⟩, ⟨_, va_up_self _ _ _, fun _ => pk_uLs⟩, fun j h1 h2 => (va_up_ne _ _ (by omega)).trans (hfr9 j h1)⟩
set_option maxHeartbeats 4000000 in
set_option maxRecDepth 100000 in
theorem ct_L_show (l : Launch) (hst : l.stackTraces = false) (z : zv_T) (ad : Nat → Nat) (N : Nat) (g : Nat → va_E) (ts : Nat → zu_S) (id : Int32) (hN : 127 ≤ N) (hs : zs_A z ad g ts) (on : Bool) (hcn : ∀ t, t < 8 → zu_cn (ts t) ≤ 20) (lw : Nat → Int64) (hlw : g 126 = ze_l z 1 lw) : zx_i l mn_L_show ws_L_show rm_L_show z ad N g [.ref (ad 0), .int id, .int (zb_i on)] 2 12 (fun k gA => ((k = 0 ∧ ∃ g9 : Nat → va_E, (∃ t, zp_is ts id t ∧ ¬ zu_sh (ts t) = on ∧ 2 ≤ zu_cn (ts t) ∧ zs_A z ad g9 (zp_ts ts t ((ts t).1, on, (ts t).2.2)) ∧ ∀ j, 66 ≤ j → g9 j = g j) ∧ ∀ j, j < 126 → gA j = g9 j) ∨ (k = 1 ∧ ∃ g9 : Nat → va_E, (g9 = g ∧ (("java/lang/IndexOutOfBoundsException" = "java/lang/IndexOutOfBoundsException" ∧ ∀ t, ¬ zp_is ts id t) ∨ ("java/lang/IndexOutOfBoundsException" = "java/lang/IllegalStateException" ∧ ∃ t, zp_is ts id t ∧ (zu_sh (ts t) = on ∨ zu_cn (ts t) < 2)))) ∧ ∀ j, j < 126 → gA j = g9 j) ∨ (k = 2 ∧ ∃ g9 : Nat → va_E, (g9 = g ∧ (("java/lang/IllegalStateException" = "java/lang/IndexOutOfBoundsException" ∧ ∀ t, ¬ zp_is ts id t) ∨ ("java/lang/IllegalStateException" = "java/lang/IllegalStateException" ∧ ∃ t, zp_is ts id t ∧ (zu_sh (ts t) = on ∨ zu_cn (ts t) < 2)))) ∧ ∀ j, j < 126 → gA j = g9 j)) ∧ (∃ lo1, gA 126 = ze_l z 1 lo1) ∧ ∀ j, 108 ≤ j → j < 126 → gA j = g j) (fun _ _ => False) := by
  refine zl_ofi hst pn_L_show rfl (Nat.le_of_ble_eq_true rfl) (fun X hX C hH => ?_)
  subst hX
  show zj_J X 0 0 _ ad N g 0 [(0, .ref (ad 0)), (1, .int id), (2, .int (zb_i on))] []
  refine zj_aload_n C dc_L_show_0 rfl 0 rfl ?_
  refine zj_iload_n C dc_L_show_1 rfl 1 rfl ?_
  refine zj_iload_n C dc_L_show_2 rfl 2 rfl ?_
  refine zx_Vv C (ct_T_show _ hst z ad N g ts id (by omega) hs on hcn) gv_L_26 rfl rfl rfl hd_T_show ⟨(Nat.le_of_ble_eq_true rfl), (Nat.le_of_ble_eq_true rfl)⟩ (by omega) hs.1 rfl rfl rfl (Nat.le_of_ble_eq_true rfl) ⟨(Nat.le_of_ble_eq_true rfl), (Nat.le_of_ble_eq_true rfl)⟩ dc_L_show_3 (fun E9 g9 h9 => ?_) (fun g9 h1 => ?_)
  · have hE : E9 = "java/lang/IndexOutOfBoundsException" ∨ E9 = "java/lang/IllegalStateException" := by
      rcases h9 with ⟨-, ⟨h, -⟩ | ⟨h, -⟩⟩
      · exact Or.inl h
      · exact Or.inr h
    have hg9 : g9 = g := h9.1
    rcases hE with rfl | rfl
    · refine zl_catch C hH [] ⟨0, 6, 9, 13⟩ [⟨0, 6, 12, 15⟩] rfl (fun _ h => absurd h List.not_mem_nil) rfl (by decide) cl_L_13 ins_IndexOutOfBoundsException (fun q9 => ?_)
      refine zj_astore_n C dc_L_show_9 rfl (by decide) rfl ?_
      refine zj_iconst (v := 1) C dc_L_show_10 (by decide) ?_
      exact zx_iret C ⟨(Nat.le_of_ble_eq_true rfl), (Nat.le_of_ble_eq_true rfl)⟩ dc_L_show_11 ⟨(Or.inr (Or.inl ⟨rfl, g9, h9, fun _ _ => rfl⟩)), ⟨lw, by rw [hg9]; exact hlw⟩, fun j _ _ => by rw [hg9]⟩
    · refine zl_catch C hH [⟨0, 6, 9, 13⟩] ⟨0, 6, 12, 15⟩ [] rfl (List.forall_mem_cons.mpr ⟨⟨by decide, _, cl_L_13, fun U h => h.2.2.1⟩, (fun _ h => absurd h List.not_mem_nil)⟩) rfl (by decide) cl_L_15 ins_IllegalStateException (fun q9 => ?_)
      refine zj_astore_n C dc_L_show_12 rfl (by decide) rfl ?_
      refine zj_iconst (v := 2) C dc_L_show_13 (by decide) ?_
      exact zx_iret C ⟨(Nat.le_of_ble_eq_true rfl), (Nat.le_of_ble_eq_true rfl)⟩ dc_L_show_14 ⟨(Or.inr (Or.inr ⟨rfl, g9, h9, fun _ _ => rfl⟩)), ⟨lw, by rw [hg9]; exact hlw⟩, fun j _ _ => by rw [hg9]⟩
  · have hfr9 : ∀ j, 108 ≤ j → g9 j = g j := by
        have h1' := h1
        obtain ⟨t9, _, _, _, _, hfr⟩ := h1'
        exact fun j hj => hfr j (by omega)
    have hout : g9 126 = ze_l z 1 lw := (hfr9 126 (by omega)).trans hlw
    refine zj_goto C dc_L_show_6 rfl ?_
    refine zj_iconst (v := 0) C dc_L_show_15 (by decide) ?_
    exact zx_iret C ⟨(Nat.le_of_ble_eq_true rfl), (Nat.le_of_ble_eq_true rfl)⟩ dc_L_show_16 ⟨Or.inl ⟨rfl, g9, h1, fun _ _ => rfl⟩, ⟨lw, hout⟩, fun j h1 h2 => hfr9 j h1⟩
set_option maxHeartbeats 4000000 in
set_option maxRecDepth 100000 in
theorem ct_L_correct (l : Launch) (hst : l.stackTraces = false) (z : zv_T) (ad : Nat → Nat) (N : Nat) (g : Nat → va_E) (ts : Nat → zu_S) (id : Int32) (hN : 127 ≤ N) (hs : zs_A z ad g ts) (p x y : Int32) (hcn : ∀ t, t < 8 → zu_cn (ts t) ≤ 20) (hlr : ∀ t, t < 8 → zu_lr (ts t) ≤ 8) (lw : Nat → Int64) (hlw : g 126 = ze_l z 1 lw) : zx_i l mn_L_correct ws_L_correct rm_L_correct z ad N g [.ref (ad 0), .int id, .int p, .int x, .int y, .ref (ad 126)] 4 24 (fun k gA => ∃ v : Int32, ((k = 0 ∧ ∃ g9 : Nat → va_E, (∃ t k, zp_is ts id t ∧ k < zu_cn (ts t) ∧ p = nI k ∧ zp_no x y ∧ zu_lr (ts t) < 8 ∧ v = nI (zu_lr (ts t) + 1) ∧ zs_A z ad g9 (zp_ts ts t ((ts t).1, (ts t).2.1, zu_lr (ts t) + 1, zu_cn (ts t), upd (zu_p (ts t)) k x, upd (zu_q (ts t)) k y, upd (zu_pr (ts t)) (zu_lr (ts t)) (nI k), upd (zu_rp (ts t)) (zu_lr (ts t)) (zu_p (ts t) k), upd (zu_rq (ts t)) (zu_lr (ts t)) (zu_q (ts t) k))) ∧ ∀ j, 66 ≤ j → g9 j = g j) ∧ ∀ j, j < 126 → gA j = g9 j) ∨ (k = 1 ∧ ∃ g9 : Nat → va_E, (g9 = g ∧ (("java/lang/IndexOutOfBoundsException" = "java/lang/IndexOutOfBoundsException" ∧ ((∀ t, ¬ zp_is ts id t) ∨ ∃ t, zp_is ts id t ∧ ∀ k, k < zu_cn (ts t) → ¬ p = nI k)) ∨ ("java/lang/IndexOutOfBoundsException" = "java/lang/IllegalArgumentException" ∧ (∃ t k, zp_is ts id t ∧ k < zu_cn (ts t) ∧ p = nI k) ∧ ¬ zp_no x y) ∨ ("java/lang/IndexOutOfBoundsException" = "java/lang/IllegalStateException" ∧ ∃ t k, zp_is ts id t ∧ k < zu_cn (ts t) ∧ p = nI k ∧ zp_no x y ∧ zu_lr (ts t) = 8))) ∧ ∀ j, j < 126 → gA j = g9 j) ∨ (k = 2 ∧ ∃ g9 : Nat → va_E, (g9 = g ∧ (("java/lang/IllegalArgumentException" = "java/lang/IndexOutOfBoundsException" ∧ ((∀ t, ¬ zp_is ts id t) ∨ ∃ t, zp_is ts id t ∧ ∀ k, k < zu_cn (ts t) → ¬ p = nI k)) ∨ ("java/lang/IllegalArgumentException" = "java/lang/IllegalArgumentException" ∧ (∃ t k, zp_is ts id t ∧ k < zu_cn (ts t) ∧ p = nI k) ∧ ¬ zp_no x y) ∨ ("java/lang/IllegalArgumentException" = "java/lang/IllegalStateException" ∧ ∃ t k, zp_is ts id t ∧ k < zu_cn (ts t) ∧ p = nI k ∧ zp_no x y ∧ zu_lr (ts t) = 8))) ∧ ∀ j, j < 126 → gA j = g9 j) ∨ (k = 3 ∧ ∃ g9 : Nat → va_E, (g9 = g ∧ (("java/lang/IllegalStateException" = "java/lang/IndexOutOfBoundsException" ∧ ((∀ t, ¬ zp_is ts id t) ∨ ∃ t, zp_is ts id t ∧ ∀ k, k < zu_cn (ts t) → ¬ p = nI k)) ∨ ("java/lang/IllegalStateException" = "java/lang/IllegalArgumentException" ∧ (∃ t k, zp_is ts id t ∧ k < zu_cn (ts t) ∧ p = nI k) ∧ ¬ zp_no x y) ∨ ("java/lang/IllegalStateException" = "java/lang/IllegalStateException" ∧ ∃ t k, zp_is ts id t ∧ k < zu_cn (ts t) ∧ p = nI k ∧ zp_no x y ∧ zu_lr (ts t) = 8))) ∧ ∀ j, j < 126 → gA j = g9 j)) ∧ (∃ lo1, gA 126 = ze_l z 1 lo1 ∧ (k = 0 → lo1 0 = v.toInt64)) ∧ ∀ j, 108 ≤ j → j < 126 → gA j = g j) (fun _ _ => False) := by
  refine zl_ofi hst pn_L_correct rfl (Nat.le_of_ble_eq_true rfl) (fun X hX C hH => ?_)
  subst hX
  show zj_J X 0 0 _ ad N g 0 [(0, .ref (ad 0)), (1, .int id), (2, .int p), (3, .int x), (4, .int y), (5, .ref (ad 126))] []
  refine zj_aload C dc_L_correct_0 5 rfl ?_
  refine zj_iconst (v := 0) C dc_L_correct_2 (by decide) ?_
  refine zj_topi (nI_0.symm) ?_
  refine zj_aload_n C dc_L_correct_3 rfl 0 rfl ?_
  refine zj_iload_n C dc_L_correct_4 rfl 1 rfl ?_
  refine zj_iload_n C dc_L_correct_5 rfl 2 rfl ?_
  refine zj_iload_n C dc_L_correct_6 rfl 3 rfl ?_
  refine zj_iload C dc_L_correct_7 4 rfl ?_
  refine zx_Vi C (ct_T_correct _ hst z ad N g ts id (by omega) hs p x y hcn hlr) gv_L_30 rfl rfl rfl hd_T_correct ⟨(Nat.le_of_ble_eq_true rfl), (Nat.le_of_ble_eq_true rfl)⟩ (by omega) hs.1 rfl rfl rfl (Nat.le_of_ble_eq_true rfl) ⟨(Nat.le_of_ble_eq_true rfl), (Nat.le_of_ble_eq_true rfl)⟩ dc_L_correct_9 (fun E9 g9 h9 => ?_) (fun r1 g9 h1 => ?_)
  · have hE : E9 = "java/lang/IndexOutOfBoundsException" ∨ E9 = "java/lang/IllegalArgumentException" ∨ E9 = "java/lang/IllegalStateException" := by
      rcases h9 with ⟨-, ⟨h, -⟩ | ⟨h, -⟩ | ⟨h, -⟩⟩
      · exact Or.inl h
      · exact Or.inr (Or.inl h)
      · exact Or.inr (Or.inr h)
    have hg9 : g9 = g := h9.1
    rcases hE with rfl | rfl | rfl
    · refine zl_catch C hH [] ⟨0, 14, 17, 13⟩ [⟨0, 14, 21, 24⟩, ⟨0, 14, 25, 15⟩] rfl (fun _ h => absurd h List.not_mem_nil) rfl (by decide) cl_L_13 ins_IndexOutOfBoundsException (fun q9 => ?_)
      refine zj_astore C dc_L_correct_17 (by decide) rfl ?_
      refine zj_iconst (v := 1) C dc_L_correct_19 (by decide) ?_
      exact zx_iret C ⟨(Nat.le_of_ble_eq_true rfl), (Nat.le_of_ble_eq_true rfl)⟩ dc_L_correct_20 ⟨0, (Or.inr (Or.inl ⟨rfl, g9, h9, fun _ _ => rfl⟩)), ⟨lw, by rw [hg9]; exact hlw, fun h => absurd h (by decide)⟩, fun j _ _ => by rw [hg9]⟩
    · refine zl_catch C hH [⟨0, 14, 17, 13⟩] ⟨0, 14, 21, 24⟩ [⟨0, 14, 25, 15⟩] rfl (List.forall_mem_cons.mpr ⟨⟨by decide, _, cl_L_13, fun U h => h.2.2.2.1⟩, (fun _ h => absurd h List.not_mem_nil)⟩) rfl (by decide) cl_L_24 ins_IllegalArgumentException (fun q9 => ?_)
      refine zj_astore C dc_L_correct_21 (by decide) rfl ?_
      refine zj_iconst (v := 2) C dc_L_correct_23 (by decide) ?_
      exact zx_iret C ⟨(Nat.le_of_ble_eq_true rfl), (Nat.le_of_ble_eq_true rfl)⟩ dc_L_correct_24 ⟨0, (Or.inr (Or.inr (Or.inl ⟨rfl, g9, h9, fun _ _ => rfl⟩))), ⟨lw, by rw [hg9]; exact hlw, fun h => absurd h (by decide)⟩, fun j _ _ => by rw [hg9]⟩
    · refine zl_catch C hH [⟨0, 14, 17, 13⟩, ⟨0, 14, 21, 24⟩] ⟨0, 14, 25, 15⟩ [] rfl (List.forall_mem_cons.mpr ⟨⟨by decide, _, cl_L_13, fun U h => h.2.2.1⟩, (List.forall_mem_cons.mpr ⟨⟨by decide, _, cl_L_24, fun U h => h.2.2.2.2.1⟩, (fun _ h => absurd h List.not_mem_nil)⟩)⟩) rfl (by decide) cl_L_15 ins_IllegalStateException (fun q9 => ?_)
      refine zj_astore C dc_L_correct_25 (by decide) rfl ?_
      refine zj_iconst (v := 3) C dc_L_correct_27 (by decide) ?_
      exact zx_iret C ⟨(Nat.le_of_ble_eq_true rfl), (Nat.le_of_ble_eq_true rfl)⟩ dc_L_correct_28 ⟨0, (Or.inr (Or.inr (Or.inr ⟨rfl, g9, h9, fun _ _ => rfl⟩))), ⟨lw, by rw [hg9]; exact hlw, fun h => absurd h (by decide)⟩, fun j _ _ => by rw [hg9]⟩
  · have hfr9 : ∀ j, 108 ≤ j → g9 j = g j := by
        have h1' := h1
        obtain ⟨t9, k9, _, _, _, _, _, _, _, hfr⟩ := h1'
        exact fun j hj => hfr j (by omega)
    have hout : g9 126 = ze_l z 1 lw := (hfr9 126 (by omega)).trans hlw
    refine zj_i2l C dc_L_correct_12 ?_
    refine zj_last C (by omega) hout rfl (by decide) (by decide) dc_L_correct_13 ?_
    refine zj_goto C dc_L_correct_14 rfl ?_
    refine zj_iconst (v := 0) C dc_L_correct_29 (by decide) ?_
    exact zx_iret C ⟨(Nat.le_of_ble_eq_true rfl), (Nat.le_of_ble_eq_true rfl)⟩ dc_L_correct_30 ⟨r1, Or.inl ⟨rfl, g9, h1, fun j hj => va_up_ne _ _ (by omega)⟩, ⟨_, va_up_self _ _ _, fun _ => pk_uLs⟩, fun j h1 h2 => (va_up_ne _ _ (by omega)).trans (hfr9 j h1)⟩
set_option maxHeartbeats 4000000 in
set_option maxRecDepth 100000 in
theorem ct_L_restore (l : Launch) (hst : l.stackTraces = false) (z : zv_T) (ad : Nat → Nat) (N : Nat) (g : Nat → va_E) (ts : Nat → zu_S) (id : Int32) (hN : 127 ≤ N) (hs : zs_A z ad g ts) (rd : Int32) (hlr : ∀ t, t < 8 → zu_lr (ts t) ≤ 8) (hpl : ∀ t, t < 8 → ∀ j, j < zu_lr (ts t) → ∃ k, k < 20 ∧ zu_pr (ts t) j = nI k) (lw : Nat → Int64) (hlw : g 126 = ze_l z 1 lw) : zx_i l mn_L_restore ws_L_restore rm_L_restore z ad N g [.ref (ad 0), .int id, .int rd] 2 12 (fun k gA => ((k = 0 ∧ ∃ g9 : Nat → va_E, (∃ t r, zp_is ts id t ∧ r ≤ zu_lr (ts t) ∧ rd = nI r ∧ zs_A z ad g9 (zp_ts ts t ((ts t).1, (ts t).2.1, r, zu_cn (ts t), zp_bk (zu_p (ts t)) (zu_pr (ts t)) (zu_rp (ts t)) (zu_lr (ts t)) (zu_lr (ts t) - r), zp_bk (zu_q (ts t)) (zu_pr (ts t)) (zu_rq (ts t)) (zu_lr (ts t)) (zu_lr (ts t) - r), (ts t).2.2.2.2.2.2)) ∧ ∀ j, 66 ≤ j → g9 j = g j) ∧ ∀ j, j < 126 → gA j = g9 j) ∨ (k = 1 ∧ ∃ g9 : Nat → va_E, (g9 = g ∧ "java/lang/IndexOutOfBoundsException" = "java/lang/IndexOutOfBoundsException" ∧ ((∀ t, ¬ zp_is ts id t) ∨ ∃ t, zp_is ts id t ∧ ∀ k, k ≤ zu_lr (ts t) → ¬ rd = nI k)) ∧ ∀ j, j < 126 → gA j = g9 j)) ∧ (∃ lo1, gA 126 = ze_l z 1 lo1) ∧ ∀ j, 108 ≤ j → j < 126 → gA j = g j) (fun _ _ => False) := by
  refine zl_ofi hst pn_L_restore rfl (Nat.le_of_ble_eq_true rfl) (fun X hX C hH => ?_)
  subst hX
  show zj_J X 0 0 _ ad N g 0 [(0, .ref (ad 0)), (1, .int id), (2, .int rd)] []
  refine zj_aload_n C dc_L_restore_0 rfl 0 rfl ?_
  refine zj_iload_n C dc_L_restore_1 rfl 1 rfl ?_
  refine zj_iload_n C dc_L_restore_2 rfl 2 rfl ?_
  refine zx_Vv C (ct_T_restore _ hst z ad N g ts id (by omega) hs rd hlr hpl) gv_L_34 rfl rfl rfl hd_T_restore ⟨(Nat.le_of_ble_eq_true rfl), (Nat.le_of_ble_eq_true rfl)⟩ (by omega) hs.1 rfl rfl rfl (Nat.le_of_ble_eq_true rfl) ⟨(Nat.le_of_ble_eq_true rfl), (Nat.le_of_ble_eq_true rfl)⟩ dc_L_restore_3 (fun E9 g9 h9 => ?_) (fun g9 h1 => ?_)
  · have hE : E9 = "java/lang/IndexOutOfBoundsException" := by
      exact h9.2.1
    have hg9 : g9 = g := h9.1
    rcases hE with rfl
    · refine zl_catch C hH [] ⟨0, 6, 9, 13⟩ [] rfl (fun _ h => absurd h List.not_mem_nil) rfl (by decide) cl_L_13 ins_IndexOutOfBoundsException (fun q9 => ?_)
      refine zj_astore_n C dc_L_restore_9 rfl (by decide) rfl ?_
      refine zj_iconst (v := 1) C dc_L_restore_10 (by decide) ?_
      exact zx_iret C ⟨(Nat.le_of_ble_eq_true rfl), (Nat.le_of_ble_eq_true rfl)⟩ dc_L_restore_11 ⟨(Or.inr ⟨rfl, g9, h9, fun _ _ => rfl⟩), ⟨lw, by rw [hg9]; exact hlw⟩, fun j _ _ => by rw [hg9]⟩
  · have hfr9 : ∀ j, 108 ≤ j → g9 j = g j := by
        have h1' := h1
        obtain ⟨t9, r9, _, _, _, _, hfr⟩ := h1'
        exact fun j hj => hfr j (by omega)
    have hout : g9 126 = ze_l z 1 lw := (hfr9 126 (by omega)).trans hlw
    refine zj_goto C dc_L_restore_6 rfl ?_
    refine zj_iconst (v := 0) C dc_L_restore_12 (by decide) ?_
    exact zx_iret C ⟨(Nat.le_of_ble_eq_true rfl), (Nat.le_of_ble_eq_true rfl)⟩ dc_L_restore_13 ⟨Or.inl ⟨rfl, g9, h1, fun _ _ => rfl⟩, ⟨lw, hout⟩, fun j h1 h2 => hfr9 j h1⟩
set_option maxHeartbeats 4000000 in
set_option maxRecDepth 100000 in
theorem ct_L_at (l : Launch) (hst : l.stackTraces = false) (z : zv_T) (ad : Nat → Nat) (N : Nat) (g : Nat → va_E) (ts : Nat → zu_S) (id : Int32) (hN : 127 ≤ N) (hs : zs_A z ad g ts) (p w rd : Int32) (hcn : ∀ t, t < 8 → zu_cn (ts t) ≤ 20) (hlr : ∀ t, t < 8 → zu_lr (ts t) ≤ 8) (lw : Nat → Int64) (hlw : g 126 = ze_l z 1 lw) : zx_i l mn_L_at ws_L_at rm_L_at z ad N g [.ref (ad 0), .int id, .int p, .int w, .int rd, .ref (ad 126)] 4 24 (fun k gA => ∃ v : Int32, ((k = 0 ∧ ∃ g9 : Nat → va_E, (∃ t k r, zp_is ts id t ∧ k < zu_cn (ts t) ∧ p = nI k ∧ r ≤ zu_lr (ts t) ∧ ((rd = -1 ∧ r = zu_lr (ts t)) ∨ rd = nI r) ∧ ((w = nI 0 ∧ v = zp_in (zu_p (ts t)) (zu_rp (ts t)) (zp_ra (zu_pr (ts t)) (nI (k)) r (zu_lr (ts t) - r)) (k)) ∨ (w = nI 1 ∧ v = zp_in (zu_q (ts t)) (zu_rq (ts t)) (zp_ra (zu_pr (ts t)) (nI (k)) r (zu_lr (ts t) - r)) (k)) ∨ (w = nI 2 ∧ v = (if k + 1 < zu_cn (ts t) then zp_in (zu_p (ts t)) (zu_rp (ts t)) (zp_ra (zu_pr (ts t)) (nI (k + 1)) r (zu_lr (ts t) - r)) (k + 1) - zp_in (zu_p (ts t)) (zu_rp (ts t)) (zp_ra (zu_pr (ts t)) (nI (k)) r (zu_lr (ts t) - r)) (k) else 0))) ∧ g9 = g) ∧ ∀ j, j < 126 → gA j = g9 j) ∨ (k = 1 ∧ ∃ g9 : Nat → va_E, (g9 = g ∧ (("java/lang/IndexOutOfBoundsException" = "java/lang/IndexOutOfBoundsException" ∧ ((∀ t, ¬ zp_is ts id t) ∨ (∃ t, zp_is ts id t ∧ ∀ k, k < zu_cn (ts t) → ¬ p = nI k) ∨ ∃ t k, zp_is ts id t ∧ k < zu_cn (ts t) ∧ p = nI k ∧ ¬ rd = -1 ∧ ∀ r, r ≤ zu_lr (ts t) → ¬ rd = nI r)) ∨ ("java/lang/IndexOutOfBoundsException" = "java/lang/IllegalArgumentException" ∧ (∃ t k r, zp_is ts id t ∧ k < zu_cn (ts t) ∧ p = nI k ∧ r ≤ zu_lr (ts t) ∧ ((rd = -1 ∧ r = zu_lr (ts t)) ∨ rd = nI r)) ∧ ∀ k, k < 3 → ¬ w = nI k))) ∧ ∀ j, j < 126 → gA j = g9 j) ∨ (k = 2 ∧ ∃ g9 : Nat → va_E, (g9 = g ∧ (("java/lang/IllegalArgumentException" = "java/lang/IndexOutOfBoundsException" ∧ ((∀ t, ¬ zp_is ts id t) ∨ (∃ t, zp_is ts id t ∧ ∀ k, k < zu_cn (ts t) → ¬ p = nI k) ∨ ∃ t k, zp_is ts id t ∧ k < zu_cn (ts t) ∧ p = nI k ∧ ¬ rd = -1 ∧ ∀ r, r ≤ zu_lr (ts t) → ¬ rd = nI r)) ∨ ("java/lang/IllegalArgumentException" = "java/lang/IllegalArgumentException" ∧ (∃ t k r, zp_is ts id t ∧ k < zu_cn (ts t) ∧ p = nI k ∧ r ≤ zu_lr (ts t) ∧ ((rd = -1 ∧ r = zu_lr (ts t)) ∨ rd = nI r)) ∧ ∀ k, k < 3 → ¬ w = nI k))) ∧ ∀ j, j < 126 → gA j = g9 j)) ∧ (∃ lo1, gA 126 = ze_l z 1 lo1 ∧ (k = 0 → lo1 0 = v.toInt64)) ∧ ∀ j, 108 ≤ j → j < 126 → gA j = g j) (fun _ _ => False) := by
  refine zl_ofi hst pn_L_at rfl (Nat.le_of_ble_eq_true rfl) (fun X hX C hH => ?_)
  subst hX
  show zj_J X 0 0 _ ad N g 0 [(0, .ref (ad 0)), (1, .int id), (2, .int p), (3, .int w), (4, .int rd), (5, .ref (ad 126))] []
  refine zj_aload C dc_L_at_0 5 rfl ?_
  refine zj_iconst (v := 0) C dc_L_at_2 (by decide) ?_
  refine zj_topi (nI_0.symm) ?_
  refine zj_aload_n C dc_L_at_3 rfl 0 rfl ?_
  refine zj_iload_n C dc_L_at_4 rfl 1 rfl ?_
  refine zj_iload_n C dc_L_at_5 rfl 2 rfl ?_
  refine zj_iload_n C dc_L_at_6 rfl 3 rfl ?_
  refine zj_iload C dc_L_at_7 4 rfl ?_
  refine zx_Vi C (ct_T_at _ hst z ad N g ts id (by omega) hs p w rd hcn hlr) gv_L_38 rfl rfl rfl hd_T_at ⟨(Nat.le_of_ble_eq_true rfl), (Nat.le_of_ble_eq_true rfl)⟩ (by omega) hs.1 rfl rfl rfl (Nat.le_of_ble_eq_true rfl) ⟨(Nat.le_of_ble_eq_true rfl), (Nat.le_of_ble_eq_true rfl)⟩ dc_L_at_9 (fun E9 g9 h9 => ?_) (fun r1 g9 h1 => ?_)
  · have hE : E9 = "java/lang/IndexOutOfBoundsException" ∨ E9 = "java/lang/IllegalArgumentException" := by
      rcases h9 with ⟨-, ⟨h, -⟩ | ⟨h, -⟩⟩
      · exact Or.inl h
      · exact Or.inr h
    have hg9 : g9 = g := h9.1
    rcases hE with rfl | rfl
    · refine zl_catch C hH [] ⟨0, 14, 17, 13⟩ [⟨0, 14, 21, 24⟩] rfl (fun _ h => absurd h List.not_mem_nil) rfl (by decide) cl_L_13 ins_IndexOutOfBoundsException (fun q9 => ?_)
      refine zj_astore C dc_L_at_17 (by decide) rfl ?_
      refine zj_iconst (v := 1) C dc_L_at_19 (by decide) ?_
      exact zx_iret C ⟨(Nat.le_of_ble_eq_true rfl), (Nat.le_of_ble_eq_true rfl)⟩ dc_L_at_20 ⟨0, (Or.inr (Or.inl ⟨rfl, g9, h9, fun _ _ => rfl⟩)), ⟨lw, by rw [hg9]; exact hlw, fun h => absurd h (by decide)⟩, fun j _ _ => by rw [hg9]⟩
    · refine zl_catch C hH [⟨0, 14, 17, 13⟩] ⟨0, 14, 21, 24⟩ [] rfl (List.forall_mem_cons.mpr ⟨⟨by decide, _, cl_L_13, fun U h => h.2.2.2.1⟩, (fun _ h => absurd h List.not_mem_nil)⟩) rfl (by decide) cl_L_24 ins_IllegalArgumentException (fun q9 => ?_)
      refine zj_astore C dc_L_at_21 (by decide) rfl ?_
      refine zj_iconst (v := 2) C dc_L_at_23 (by decide) ?_
      exact zx_iret C ⟨(Nat.le_of_ble_eq_true rfl), (Nat.le_of_ble_eq_true rfl)⟩ dc_L_at_24 ⟨0, (Or.inr (Or.inr ⟨rfl, g9, h9, fun _ _ => rfl⟩)), ⟨lw, by rw [hg9]; exact hlw, fun h => absurd h (by decide)⟩, fun j _ _ => by rw [hg9]⟩
  · have hfr9 : ∀ j, 108 ≤ j → g9 j = g j := by
        have h1' := h1
        obtain ⟨t9, k9, r9, _, _, _, _, _, _, hfr⟩ := h1'
        exact fun j hj => congrFun hfr j
    have hout : g9 126 = ze_l z 1 lw := (hfr9 126 (by omega)).trans hlw
    refine zj_i2l C dc_L_at_12 ?_
    refine zj_last C (by omega) hout rfl (by decide) (by decide) dc_L_at_13 ?_
    refine zj_goto C dc_L_at_14 rfl ?_
    refine zj_iconst (v := 0) C dc_L_at_25 (by decide) ?_
    exact zx_iret C ⟨(Nat.le_of_ble_eq_true rfl), (Nat.le_of_ble_eq_true rfl)⟩ dc_L_at_26 ⟨r1, Or.inl ⟨rfl, g9, h1, fun j hj => va_up_ne _ _ (by omega)⟩, ⟨_, va_up_self _ _ _, fun _ => pk_uLs⟩, fun j h1 h2 => (va_up_ne _ _ (by omega)).trans (hfr9 j h1)⟩
set_option maxHeartbeats 4000000 in
set_option maxRecDepth 100000 in
theorem ct_L_about (l : Launch) (hst : l.stackTraces = false) (z : zv_T) (ad : Nat → Nat) (N : Nat) (g : Nat → va_E) (ts : Nat → zu_S) (id : Int32) (hN : 127 ≤ N) (hs : zs_A z ad g ts) (w : Int32) (lw : Nat → Int64) (hlw : g 126 = ze_l z 1 lw) : zx_i l mn_L_about ws_L_about rm_L_about z ad N g [.ref (ad 0), .int id, .int w, .ref (ad 126)] 2 12 (fun k gA => ∃ v : Int32, ((k = 0 ∧ ∃ g9 : Nat → va_E, (∃ t, zp_is ts id t ∧ ((w = nI 0 ∧ v = nI (zu_cn (ts t))) ∨ (w = nI 1 ∧ v = zb_i (zu_sh (ts t))) ∨ (w = nI 2 ∧ v = nI (zu_lr (ts t) + 1))) ∧ g9 = g) ∧ ∀ j, j < 126 → gA j = g9 j) ∨ (k = 1 ∧ ∃ g9 : Nat → va_E, (g9 = g ∧ (("java/lang/IndexOutOfBoundsException" = "java/lang/IndexOutOfBoundsException" ∧ ∀ t, ¬ zp_is ts id t) ∨ ("java/lang/IndexOutOfBoundsException" = "java/lang/IllegalArgumentException" ∧ (∃ t, zp_is ts id t) ∧ ∀ k, k < 3 → ¬ w = nI k))) ∧ ∀ j, j < 126 → gA j = g9 j) ∨ (k = 2 ∧ ∃ g9 : Nat → va_E, (g9 = g ∧ (("java/lang/IllegalArgumentException" = "java/lang/IndexOutOfBoundsException" ∧ ∀ t, ¬ zp_is ts id t) ∨ ("java/lang/IllegalArgumentException" = "java/lang/IllegalArgumentException" ∧ (∃ t, zp_is ts id t) ∧ ∀ k, k < 3 → ¬ w = nI k))) ∧ ∀ j, j < 126 → gA j = g9 j)) ∧ (∃ lo1, gA 126 = ze_l z 1 lo1 ∧ (k = 0 → lo1 0 = v.toInt64)) ∧ ∀ j, 108 ≤ j → j < 126 → gA j = g j) (fun _ _ => False) := by
  refine zl_ofi hst pn_L_about rfl (Nat.le_of_ble_eq_true rfl) (fun X hX C hH => ?_)
  subst hX
  show zj_J X 0 0 _ ad N g 0 [(0, .ref (ad 0)), (1, .int id), (2, .int w), (3, .ref (ad 126))] []
  refine zj_aload_n C dc_L_about_0 rfl 3 rfl ?_
  refine zj_iconst (v := 0) C dc_L_about_1 (by decide) ?_
  refine zj_topi (nI_0.symm) ?_
  refine zj_aload_n C dc_L_about_2 rfl 0 rfl ?_
  refine zj_iload_n C dc_L_about_3 rfl 1 rfl ?_
  refine zj_iload_n C dc_L_about_4 rfl 2 rfl ?_
  refine zx_Vi C (ct_T_about _ hst z ad N g ts id (by omega) hs w) gv_L_41 rfl rfl rfl hd_T_about ⟨(Nat.le_of_ble_eq_true rfl), (Nat.le_of_ble_eq_true rfl)⟩ (by omega) hs.1 rfl rfl rfl (Nat.le_of_ble_eq_true rfl) ⟨(Nat.le_of_ble_eq_true rfl), (Nat.le_of_ble_eq_true rfl)⟩ dc_L_about_5 (fun E9 g9 h9 => ?_) (fun r1 g9 h1 => ?_)
  · have hE : E9 = "java/lang/IndexOutOfBoundsException" ∨ E9 = "java/lang/IllegalArgumentException" := by
      rcases h9 with ⟨-, ⟨h, -⟩ | ⟨h, -⟩⟩
      · exact Or.inl h
      · exact Or.inr h
    have hg9 : g9 = g := h9.1
    rcases hE with rfl | rfl
    · refine zl_catch C hH [] ⟨0, 10, 13, 13⟩ [⟨0, 10, 17, 24⟩] rfl (fun _ h => absurd h List.not_mem_nil) rfl (by decide) cl_L_13 ins_IndexOutOfBoundsException (fun q9 => ?_)
      refine zj_astore C dc_L_about_13 (by decide) rfl ?_
      refine zj_iconst (v := 1) C dc_L_about_15 (by decide) ?_
      exact zx_iret C ⟨(Nat.le_of_ble_eq_true rfl), (Nat.le_of_ble_eq_true rfl)⟩ dc_L_about_16 ⟨0, (Or.inr (Or.inl ⟨rfl, g9, h9, fun _ _ => rfl⟩)), ⟨lw, by rw [hg9]; exact hlw, fun h => absurd h (by decide)⟩, fun j _ _ => by rw [hg9]⟩
    · refine zl_catch C hH [⟨0, 10, 13, 13⟩] ⟨0, 10, 17, 24⟩ [] rfl (List.forall_mem_cons.mpr ⟨⟨by decide, _, cl_L_13, fun U h => h.2.2.2.1⟩, (fun _ h => absurd h List.not_mem_nil)⟩) rfl (by decide) cl_L_24 ins_IllegalArgumentException (fun q9 => ?_)
      refine zj_astore C dc_L_about_17 (by decide) rfl ?_
      refine zj_iconst (v := 2) C dc_L_about_19 (by decide) ?_
      exact zx_iret C ⟨(Nat.le_of_ble_eq_true rfl), (Nat.le_of_ble_eq_true rfl)⟩ dc_L_about_20 ⟨0, (Or.inr (Or.inr ⟨rfl, g9, h9, fun _ _ => rfl⟩)), ⟨lw, by rw [hg9]; exact hlw, fun h => absurd h (by decide)⟩, fun j _ _ => by rw [hg9]⟩
  · have hfr9 : ∀ j, 108 ≤ j → g9 j = g j := by
        have h1' := h1
        obtain ⟨t9, _, _, hfr⟩ := h1'
        exact fun j hj => congrFun hfr j
    have hout : g9 126 = ze_l z 1 lw := (hfr9 126 (by omega)).trans hlw
    refine zj_i2l C dc_L_about_8 ?_
    refine zj_last C (by omega) hout rfl (by decide) (by decide) dc_L_about_9 ?_
    refine zj_goto C dc_L_about_10 rfl ?_
    refine zj_iconst (v := 0) C dc_L_about_21 (by decide) ?_
    exact zx_iret C ⟨(Nat.le_of_ble_eq_true rfl), (Nat.le_of_ble_eq_true rfl)⟩ dc_L_about_22 ⟨r1, Or.inl ⟨rfl, g9, h1, fun j hj => va_up_ne _ _ (by omega)⟩, ⟨_, va_up_self _ _ _, fun _ => pk_uLs⟩, fun j h1 h2 => (va_up_ne _ _ (by omega)).trans (hfr9 j h1)⟩
set_option maxHeartbeats 4000000 in
set_option maxRecDepth 100000 in
theorem ct_L_contour (l : Launch) (hst : l.stackTraces = false) (z : zv_T) (ad : Nat → Nat) (N : Nat) (g : Nat → va_E) (ts : Nat → zu_S) (id : Int32) (hN : 127 ≤ N) (hs : zs_A z ad g ts) (i : Int32) (hcn : ∀ t, t < 8 → zu_cn (ts t) ≤ 20) (lw : Nat → Int64) (hlw : g 126 = ze_l z 1 lw) : zx_i l mn_L_contour ws_L_contour rm_L_contour z ad N g [.ref (ad 0), .int id, .int i, .ref (ad 126)] 1 6 (fun k gA => ∃ v : Int32, ((k = 0 ∧ ∃ g9 : Nat → va_E, (∃ t, zp_is ts id t ∧ (((∀ k, k + 1 < zu_cn (ts t) → ¬ i = nI k) ∧ v = -1) ∨ ∃ k, k + 1 < zu_cn (ts t) ∧ i = nI k ∧ v = (if zu_p (ts t) (k + 1) - zu_p (ts t) k = 0 then 115 else if 0 < zu_p (ts t) (k + 1) - zu_p (ts t) k then 117 else 100)) ∧ g9 = g) ∧ ∀ j, j < 126 → gA j = g9 j) ∨ (k = 1 ∧ ∃ g9 : Nat → va_E, (g9 = g ∧ "java/lang/IndexOutOfBoundsException" = "java/lang/IndexOutOfBoundsException" ∧ ∀ t, ¬ zp_is ts id t) ∧ ∀ j, j < 126 → gA j = g9 j)) ∧ (∃ lo1, gA 126 = ze_l z 1 lo1 ∧ (k = 0 → lo1 0 = v.toInt64)) ∧ ∀ j, 108 ≤ j → j < 126 → gA j = g j) (fun _ _ => False) := by
  refine zl_ofi hst pn_L_contour rfl (Nat.le_of_ble_eq_true rfl) (fun X hX C hH => ?_)
  subst hX
  show zj_J X 0 0 _ ad N g 0 [(0, .ref (ad 0)), (1, .int id), (2, .int i), (3, .ref (ad 126))] []
  refine zj_aload_n C dc_L_contour_0 rfl 3 rfl ?_
  refine zj_iconst (v := 0) C dc_L_contour_1 (by decide) ?_
  refine zj_topi (nI_0.symm) ?_
  refine zj_aload_n C dc_L_contour_2 rfl 0 rfl ?_
  refine zj_iload_n C dc_L_contour_3 rfl 1 rfl ?_
  refine zj_iload_n C dc_L_contour_4 rfl 2 rfl ?_
  refine zx_Vi C (ct_T_contour _ hst z ad N g ts id (by omega) hs i hcn) gv_L_45 rfl rfl rfl hd_T_contour ⟨(Nat.le_of_ble_eq_true rfl), (Nat.le_of_ble_eq_true rfl)⟩ (by omega) hs.1 rfl rfl rfl (Nat.le_of_ble_eq_true rfl) ⟨(Nat.le_of_ble_eq_true rfl), (Nat.le_of_ble_eq_true rfl)⟩ dc_L_contour_5 (fun E9 g9 h9 => ?_) (fun r1 g9 h1 => ?_)
  · have hE : E9 = "java/lang/IndexOutOfBoundsException" := by
      exact h9.2.1
    have hg9 : g9 = g := h9.1
    rcases hE with rfl
    · refine zl_catch C hH [] ⟨0, 10, 13, 13⟩ [] rfl (fun _ h => absurd h List.not_mem_nil) rfl (by decide) cl_L_13 ins_IndexOutOfBoundsException (fun q9 => ?_)
      refine zj_astore C dc_L_contour_13 (by decide) rfl ?_
      refine zj_iconst (v := 1) C dc_L_contour_15 (by decide) ?_
      exact zx_iret C ⟨(Nat.le_of_ble_eq_true rfl), (Nat.le_of_ble_eq_true rfl)⟩ dc_L_contour_16 ⟨0, (Or.inr ⟨rfl, g9, h9, fun _ _ => rfl⟩), ⟨lw, by rw [hg9]; exact hlw, fun h => absurd h (by decide)⟩, fun j _ _ => by rw [hg9]⟩
  · have hfr9 : ∀ j, 108 ≤ j → g9 j = g j := by
        have h1' := h1
        obtain ⟨t9, _, _, hfr⟩ := h1'
        exact fun j hj => congrFun hfr j
    have hout : g9 126 = ze_l z 1 lw := (hfr9 126 (by omega)).trans hlw
    refine zj_i2l C dc_L_contour_8 ?_
    refine zj_last C (by omega) hout rfl (by decide) (by decide) dc_L_contour_9 ?_
    refine zj_goto C dc_L_contour_10 rfl ?_
    refine zj_iconst (v := 0) C dc_L_contour_17 (by decide) ?_
    exact zx_iret C ⟨(Nat.le_of_ble_eq_true rfl), (Nat.le_of_ble_eq_true rfl)⟩ dc_L_contour_18 ⟨r1, Or.inl ⟨rfl, g9, h1, fun j hj => va_up_ne _ _ (by omega)⟩, ⟨_, va_up_self _ _ _, fun _ => pk_uLs⟩, fun j h1 h2 => (va_up_ne _ _ (by omega)).trans (hfr9 j h1)⟩
set_option maxHeartbeats 4000000 in
set_option maxRecDepth 100000 in
theorem ct_L_ask (l : Launch) (hst : l.stackTraces = false) (z : zv_T) (ad : Nat → Nat) (N : Nat) (g : Nat → va_E) (ts : Nat → zu_S) (qc : Nat) (qp qq : Nat → Int32) (hN : 127 ≤ N) (hs : zs_A z ad g ts) (hq : zs_N z ad g 66 8 qc qp qq) (x y : Int32) (hqc : qc ≤ 8) (lw : Nat → Int64) (hlw : g 126 = ze_l z 1 lw) : zx_i l mn_L_ask ws_L_ask rm_L_ask z ad N g [.ref (ad 0), .int x, .int y, .ref (ad 126)] 2 12 (fun k gA => ∃ v : Int32, ((k = 0 ∧ ∃ g9 : Nat → va_E, (zp_no x y ∧ qc < 8 ∧ v = nI (qc + 1) ∧ zs_N z ad g9 66 8 (qc + 1) (upd qp qc x) (upd qq qc y) ∧ ∀ j, j < 66 ∨ 69 ≤ j → g9 j = g j) ∧ ∀ j, j < 126 → gA j = g9 j) ∨ (k = 1 ∧ ∃ g9 : Nat → va_E, (g9 = g ∧ (("java/lang/IllegalArgumentException" = "java/lang/IllegalArgumentException" ∧ ¬ zp_no x y) ∨ ("java/lang/IllegalArgumentException" = "java/lang/IllegalStateException" ∧ zp_no x y ∧ qc = 8))) ∧ ∀ j, j < 126 → gA j = g9 j) ∨ (k = 2 ∧ ∃ g9 : Nat → va_E, (g9 = g ∧ (("java/lang/IllegalStateException" = "java/lang/IllegalArgumentException" ∧ ¬ zp_no x y) ∨ ("java/lang/IllegalStateException" = "java/lang/IllegalStateException" ∧ zp_no x y ∧ qc = 8))) ∧ ∀ j, j < 126 → gA j = g9 j)) ∧ (∃ lo1, gA 126 = ze_l z 1 lo1 ∧ (k = 0 → lo1 0 = v.toInt64)) ∧ ∀ j, 108 ≤ j → j < 126 → gA j = g j) (fun _ _ => False) := by
  refine zl_ofi hst pn_L_ask rfl (Nat.le_of_ble_eq_true rfl) (fun X hX C hH => ?_)
  subst hX
  show zj_J X 0 0 _ ad N g 0 [(0, .ref (ad 0)), (1, .int x), (2, .int y), (3, .ref (ad 126))] []
  refine zj_aload_n C dc_L_ask_0 rfl 3 rfl ?_
  refine zj_iconst (v := 0) C dc_L_ask_1 (by decide) ?_
  refine zj_topi (nI_0.symm) ?_
  refine zj_aload_n C dc_L_ask_2 rfl 0 rfl ?_
  refine zj_iload_n C dc_L_ask_3 rfl 1 rfl ?_
  refine zj_iload_n C dc_L_ask_4 rfl 2 rfl ?_
  refine zx_Vi C (ct_T_ask _ hst z ad N g ts qc qp qq (by omega) hs hq x y hqc) gv_L_48 rfl rfl rfl hd_T_ask ⟨(Nat.le_of_ble_eq_true rfl), (Nat.le_of_ble_eq_true rfl)⟩ (by omega) hs.1 rfl rfl rfl (Nat.le_of_ble_eq_true rfl) ⟨(Nat.le_of_ble_eq_true rfl), (Nat.le_of_ble_eq_true rfl)⟩ dc_L_ask_5 (fun E9 g9 h9 => ?_) (fun r1 g9 h1 => ?_)
  · have hE : E9 = "java/lang/IllegalArgumentException" ∨ E9 = "java/lang/IllegalStateException" := by
      rcases h9 with ⟨-, ⟨h, -⟩ | ⟨h, -⟩⟩
      · exact Or.inl h
      · exact Or.inr h
    have hg9 : g9 = g := h9.1
    rcases hE with rfl | rfl
    · refine zl_catch C hH [] ⟨0, 10, 13, 24⟩ [⟨0, 10, 17, 15⟩] rfl (fun _ h => absurd h List.not_mem_nil) rfl (by decide) cl_L_24 ins_IllegalArgumentException (fun q9 => ?_)
      refine zj_astore C dc_L_ask_13 (by decide) rfl ?_
      refine zj_iconst (v := 1) C dc_L_ask_15 (by decide) ?_
      exact zx_iret C ⟨(Nat.le_of_ble_eq_true rfl), (Nat.le_of_ble_eq_true rfl)⟩ dc_L_ask_16 ⟨0, (Or.inr (Or.inl ⟨rfl, g9, h9, fun _ _ => rfl⟩)), ⟨lw, by rw [hg9]; exact hlw, fun h => absurd h (by decide)⟩, fun j _ _ => by rw [hg9]⟩
    · refine zl_catch C hH [⟨0, 10, 13, 24⟩] ⟨0, 10, 17, 15⟩ [] rfl (List.forall_mem_cons.mpr ⟨⟨by decide, _, cl_L_24, fun U h => h.2.2.2.2.1⟩, (fun _ h => absurd h List.not_mem_nil)⟩) rfl (by decide) cl_L_15 ins_IllegalStateException (fun q9 => ?_)
      refine zj_astore C dc_L_ask_17 (by decide) rfl ?_
      refine zj_iconst (v := 2) C dc_L_ask_19 (by decide) ?_
      exact zx_iret C ⟨(Nat.le_of_ble_eq_true rfl), (Nat.le_of_ble_eq_true rfl)⟩ dc_L_ask_20 ⟨0, (Or.inr (Or.inr ⟨rfl, g9, h9, fun _ _ => rfl⟩)), ⟨lw, by rw [hg9]; exact hlw, fun h => absurd h (by decide)⟩, fun j _ _ => by rw [hg9]⟩
  · have hfr9 : ∀ j, 108 ≤ j → g9 j = g j := by
        have h1' := h1
        obtain ⟨_, _, _, _, hfr⟩ := h1'
        exact fun j hj => hfr j (by omega)
    have hout : g9 126 = ze_l z 1 lw := (hfr9 126 (by omega)).trans hlw
    refine zj_i2l C dc_L_ask_8 ?_
    refine zj_last C (by omega) hout rfl (by decide) (by decide) dc_L_ask_9 ?_
    refine zj_goto C dc_L_ask_10 rfl ?_
    refine zj_iconst (v := 0) C dc_L_ask_21 (by decide) ?_
    exact zx_iret C ⟨(Nat.le_of_ble_eq_true rfl), (Nat.le_of_ble_eq_true rfl)⟩ dc_L_ask_22 ⟨r1, Or.inl ⟨rfl, g9, h1, fun j hj => va_up_ne _ _ (by omega)⟩, ⟨_, va_up_self _ _ _, fun _ => pk_uLs⟩, fun j h1 h2 => (va_up_ne _ _ (by omega)).trans (hfr9 j h1)⟩
set_option maxHeartbeats 4000000 in
set_option maxRecDepth 100000 in
theorem ct_L_search (l : Launch) (hst : l.stackTraces = false) (z : zv_T) (ad : Nat → Nat) (N : Nat) (g : Nat → va_E) (ts : Nat → zu_S) (qc as0 : Nat) (qp qq : Nat → Int32) (F0 : List zq_I) (x y : Int32) (hN : 127 ≤ N) (hA' : zs_A z ad g ts) (hq : zs_N z ad g 66 8 qc qp qq) (hF : zq_F z ad g as0 F0) (hh ee mo lo : Nat) (wt hr bh : Nat → Int32) (hR : zs_R z ad g hh ee mo lo wt hr bh) (hqc8 : qc ≤ 8) (hcn : ∀ t, t < 8 → zu_cn (ts t) ≤ 20) (lw : Nat → Int64) (hlw : g 126 = ze_l z 1 lw) : zx_i l mn_L_search ws_L_search rm_L_search z ad N g [.ref (ad 0), .int x, .int y, .ref (ad 126)] 1 6 (fun k gA => ∃ v : Int32, ((k = 0 ∧ ∃ g9 : Nat → va_E, (∃ kd kk, kd ≤ 5 ∧ kk ≤ 4 ∧ x = nI kd ∧ y = nI kk ∧ 2 ≤ qc ∧ v = nI (zq_al ts kd kk qc qp qq 0 8).length ∧ zq_F z ad g9 qc (zq_al ts kd kk qc qp qq 0 8) ∧ (∃ hh ee mo lo wt hr bh, zs_R z ad g9 hh ee mo lo wt hr bh) ∧ ∀ j, j < 69 ∨ 105 ≤ j → g9 j = g j) ∧ ∀ j, j < 126 → gA j = g9 j) ∨ (k = 1 ∧ ∃ g9 : Nat → va_E, (g9 = g ∧ (("java/lang/IllegalArgumentException" = "java/lang/IllegalArgumentException" ∧ ¬ zp_kk x y) ∨ ("java/lang/IllegalArgumentException" = "java/lang/IllegalStateException" ∧ zp_kk x y ∧ qc < 2))) ∧ ∀ j, j < 126 → gA j = g9 j) ∨ (k = 2 ∧ ∃ g9 : Nat → va_E, (g9 = g ∧ (("java/lang/IllegalStateException" = "java/lang/IllegalArgumentException" ∧ ¬ zp_kk x y) ∨ ("java/lang/IllegalStateException" = "java/lang/IllegalStateException" ∧ zp_kk x y ∧ qc < 2))) ∧ ∀ j, j < 126 → gA j = g9 j)) ∧ (∃ lo1, gA 126 = ze_l z 1 lo1 ∧ (k = 0 → lo1 0 = v.toInt64)) ∧ ∀ j, 108 ≤ j → j < 126 → gA j = g j) (fun _ _ => False) := by
  refine zl_ofi hst pn_L_search rfl (Nat.le_of_ble_eq_true rfl) (fun X hX C hH => ?_)
  subst hX
  show zj_J X 0 0 _ ad N g 0 [(0, .ref (ad 0)), (1, .int x), (2, .int y), (3, .ref (ad 126))] []
  refine zj_aload_n C dc_L_search_0 rfl 3 rfl ?_
  refine zj_iconst (v := 0) C dc_L_search_1 (by decide) ?_
  refine zj_topi (nI_0.symm) ?_
  refine zj_aload_n C dc_L_search_2 rfl 0 rfl ?_
  refine zj_iload_n C dc_L_search_3 rfl 1 rfl ?_
  refine zj_iload_n C dc_L_search_4 rfl 2 rfl ?_
  refine zx_Vi C (ct_T_search _ hst z ad N g ts qc as0 qp qq F0 x y (by omega) hA' hq hF hh ee mo lo wt hr bh hR hqc8 hcn) gv_L_51 rfl rfl rfl hd_T_search ⟨(Nat.le_of_ble_eq_true rfl), (Nat.le_of_ble_eq_true rfl)⟩ (by omega) hA'.1 rfl rfl rfl (Nat.le_of_ble_eq_true rfl) ⟨(Nat.le_of_ble_eq_true rfl), (Nat.le_of_ble_eq_true rfl)⟩ dc_L_search_5 (fun E9 g9 h9 => ?_) (fun r1 g9 h1 => ?_)
  · have hE : E9 = "java/lang/IllegalArgumentException" ∨ E9 = "java/lang/IllegalStateException" := by
      rcases h9 with ⟨-, ⟨h, -⟩ | ⟨h, -⟩⟩
      · exact Or.inl h
      · exact Or.inr h
    have hg9 : g9 = g := h9.1
    rcases hE with rfl | rfl
    · refine zl_catch C hH [] ⟨0, 10, 13, 24⟩ [⟨0, 10, 17, 15⟩] rfl (fun _ h => absurd h List.not_mem_nil) rfl (by decide) cl_L_24 ins_IllegalArgumentException (fun q9 => ?_)
      refine zj_astore C dc_L_search_13 (by decide) rfl ?_
      refine zj_iconst (v := 1) C dc_L_search_15 (by decide) ?_
      exact zx_iret C ⟨(Nat.le_of_ble_eq_true rfl), (Nat.le_of_ble_eq_true rfl)⟩ dc_L_search_16 ⟨0, (Or.inr (Or.inl ⟨rfl, g9, h9, fun _ _ => rfl⟩)), ⟨lw, by rw [hg9]; exact hlw, fun h => absurd h (by decide)⟩, fun j _ _ => by rw [hg9]⟩
    · refine zl_catch C hH [⟨0, 10, 13, 24⟩] ⟨0, 10, 17, 15⟩ [] rfl (List.forall_mem_cons.mpr ⟨⟨by decide, _, cl_L_24, fun U h => h.2.2.2.2.1⟩, (fun _ h => absurd h List.not_mem_nil)⟩) rfl (by decide) cl_L_15 ins_IllegalStateException (fun q9 => ?_)
      refine zj_astore C dc_L_search_17 (by decide) rfl ?_
      refine zj_iconst (v := 2) C dc_L_search_19 (by decide) ?_
      exact zx_iret C ⟨(Nat.le_of_ble_eq_true rfl), (Nat.le_of_ble_eq_true rfl)⟩ dc_L_search_20 ⟨0, (Or.inr (Or.inr ⟨rfl, g9, h9, fun _ _ => rfl⟩)), ⟨lw, by rw [hg9]; exact hlw, fun h => absurd h (by decide)⟩, fun j _ _ => by rw [hg9]⟩
  · have hfr9 : ∀ j, 108 ≤ j → g9 j = g j := by
        have h1' := h1
        obtain ⟨kd9, kk9, _, _, _, _, _, _, _, _, hfr⟩ := h1'
        exact fun j hj => hfr j (by omega)
    have hout : g9 126 = ze_l z 1 lw := (hfr9 126 (by omega)).trans hlw
    refine zj_i2l C dc_L_search_8 ?_
    refine zj_last C (by omega) hout rfl (by decide) (by decide) dc_L_search_9 ?_
    refine zj_goto C dc_L_search_10 rfl ?_
    refine zj_iconst (v := 0) C dc_L_search_21 (by decide) ?_
    exact zx_iret C ⟨(Nat.le_of_ble_eq_true rfl), (Nat.le_of_ble_eq_true rfl)⟩ dc_L_search_22 ⟨r1, Or.inl ⟨rfl, g9, h1, fun j hj => va_up_ne _ _ (by omega)⟩, ⟨_, va_up_self _ _ _, fun _ => pk_uLs⟩, fun j h1 h2 => (va_up_ne _ _ (by omega)).trans (hfr9 j h1)⟩
set_option maxHeartbeats 4000000 in
set_option maxRecDepth 100000 in
theorem ct_L_match (l : Launch) (hst : l.stackTraces = false) (z : zv_T) (ad : Nat → Nat) (N : Nat) (g : Nat → va_E) (ts : Nat → zu_S) (F : List zq_I) (as0 : Nat) (i w : Int32) (hN : 127 ≤ N) (hA' : zs_A z ad g ts) (hF : zq_F z ad g as0 F) (hok : zq_ok F) (has : F.length = 0 ∨ (0 < as0 ∧ as0 ≤ 8)) (hFl : F.length < 2 ^ 30) (lw : Nat → Int64) (hlw : g 126 = ze_l z 1 lw) : zx_i l mn_L_match ws_L_match rm_L_match z ad N g [.ref (ad 0), .int i, .int w, .ref (ad 126)] 1 6 (fun k gA => ∃ v : Int32, ((k = 0 ∧ ∃ g9 : Nat → va_E, (∃ j s, j < zq_kp F ∧ i = nI j ∧ zr_ok (zq_ld F) F.length (zq_kp F) s ∧ zq_mv as0 (zq_at F (s j)) w v ∧ g9 = g) ∧ ∀ j, j < 126 → gA j = g9 j) ∨ (k = 1 ∧ ∃ g9 : Nat → va_E, (g9 = g ∧ (("java/lang/IndexOutOfBoundsException" = "java/lang/IndexOutOfBoundsException" ∧ ∀ j, j < zq_kp F → ¬ i = nI j) ∨ ("java/lang/IndexOutOfBoundsException" = "java/lang/IllegalArgumentException" ∧ (∃ j, j < zq_kp F ∧ i = nI j) ∧ ∀ k, k < 6 → ¬ w = nI k))) ∧ ∀ j, j < 126 → gA j = g9 j) ∨ (k = 2 ∧ ∃ g9 : Nat → va_E, (g9 = g ∧ (("java/lang/IllegalArgumentException" = "java/lang/IndexOutOfBoundsException" ∧ ∀ j, j < zq_kp F → ¬ i = nI j) ∨ ("java/lang/IllegalArgumentException" = "java/lang/IllegalArgumentException" ∧ (∃ j, j < zq_kp F ∧ i = nI j) ∧ ∀ k, k < 6 → ¬ w = nI k))) ∧ ∀ j, j < 126 → gA j = g9 j)) ∧ (∃ lo1, gA 126 = ze_l z 1 lo1 ∧ (k = 0 → lo1 0 = v.toInt64)) ∧ ∀ j, 108 ≤ j → j < 126 → gA j = g j) (fun _ _ => False) := by
  refine zl_ofi hst pn_L_match rfl (Nat.le_of_ble_eq_true rfl) (fun X hX C hH => ?_)
  subst hX
  show zj_J X 0 0 _ ad N g 0 [(0, .ref (ad 0)), (1, .int i), (2, .int w), (3, .ref (ad 126))] []
  refine zj_aload_n C dc_L_match_0 rfl 3 rfl ?_
  refine zj_iconst (v := 0) C dc_L_match_1 (by decide) ?_
  refine zj_topi (nI_0.symm) ?_
  refine zj_aload_n C dc_L_match_2 rfl 0 rfl ?_
  refine zj_iload_n C dc_L_match_3 rfl 1 rfl ?_
  refine zj_iload_n C dc_L_match_4 rfl 2 rfl ?_
  refine zx_Vi C (ct_T_match _ hst z ad N g ts F as0 i w (by omega) hA' hF hok has hFl) gv_L_54 rfl rfl rfl hd_T_match ⟨(Nat.le_of_ble_eq_true rfl), (Nat.le_of_ble_eq_true rfl)⟩ (by omega) hA'.1 rfl rfl rfl (Nat.le_of_ble_eq_true rfl) ⟨(Nat.le_of_ble_eq_true rfl), (Nat.le_of_ble_eq_true rfl)⟩ dc_L_match_5 (fun E9 g9 h9 => ?_) (fun r1 g9 h1 => ?_)
  · have hE : E9 = "java/lang/IndexOutOfBoundsException" ∨ E9 = "java/lang/IllegalArgumentException" := by
      rcases h9 with ⟨-, ⟨h, -⟩ | ⟨h, -⟩⟩
      · exact Or.inl h
      · exact Or.inr h
    have hg9 : g9 = g := h9.1
    rcases hE with rfl | rfl
    · refine zl_catch C hH [] ⟨0, 10, 13, 13⟩ [⟨0, 10, 17, 24⟩] rfl (fun _ h => absurd h List.not_mem_nil) rfl (by decide) cl_L_13 ins_IndexOutOfBoundsException (fun q9 => ?_)
      refine zj_astore C dc_L_match_13 (by decide) rfl ?_
      refine zj_iconst (v := 1) C dc_L_match_15 (by decide) ?_
      exact zx_iret C ⟨(Nat.le_of_ble_eq_true rfl), (Nat.le_of_ble_eq_true rfl)⟩ dc_L_match_16 ⟨0, (Or.inr (Or.inl ⟨rfl, g9, h9, fun _ _ => rfl⟩)), ⟨lw, by rw [hg9]; exact hlw, fun h => absurd h (by decide)⟩, fun j _ _ => by rw [hg9]⟩
    · refine zl_catch C hH [⟨0, 10, 13, 13⟩] ⟨0, 10, 17, 24⟩ [] rfl (List.forall_mem_cons.mpr ⟨⟨by decide, _, cl_L_13, fun U h => h.2.2.2.1⟩, (fun _ h => absurd h List.not_mem_nil)⟩) rfl (by decide) cl_L_24 ins_IllegalArgumentException (fun q9 => ?_)
      refine zj_astore C dc_L_match_17 (by decide) rfl ?_
      refine zj_iconst (v := 2) C dc_L_match_19 (by decide) ?_
      exact zx_iret C ⟨(Nat.le_of_ble_eq_true rfl), (Nat.le_of_ble_eq_true rfl)⟩ dc_L_match_20 ⟨0, (Or.inr (Or.inr ⟨rfl, g9, h9, fun _ _ => rfl⟩)), ⟨lw, by rw [hg9]; exact hlw, fun h => absurd h (by decide)⟩, fun j _ _ => by rw [hg9]⟩
  · have hfr9 : ∀ j, 108 ≤ j → g9 j = g j := by
        have h1' := h1
        obtain ⟨j9, s9, _, _, _, _, hfr⟩ := h1'
        exact fun j hj => congrFun hfr j
    have hout : g9 126 = ze_l z 1 lw := (hfr9 126 (by omega)).trans hlw
    refine zj_i2l C dc_L_match_8 ?_
    refine zj_last C (by omega) hout rfl (by decide) (by decide) dc_L_match_9 ?_
    refine zj_goto C dc_L_match_10 rfl ?_
    refine zj_iconst (v := 0) C dc_L_match_21 (by decide) ?_
    exact zx_iret C ⟨(Nat.le_of_ble_eq_true rfl), (Nat.le_of_ble_eq_true rfl)⟩ dc_L_match_22 ⟨r1, Or.inl ⟨rfl, g9, h1, fun j hj => va_up_ne _ _ (by omega)⟩, ⟨_, va_up_self _ _ _, fun _ => pk_uLs⟩, fun j h1 h2 => (va_up_ne _ _ (by omega)).trans (hfr9 j h1)⟩
set_option maxHeartbeats 4000000 in
set_option maxRecDepth 100000 in
theorem ct_L_repeats (l : Launch) (hst : l.stackTraces = false) (z : zv_T) (ad : Nat → Nat) (N : Nat) (g : Nat → va_E) (ts : Nat → zu_S) (id : Int32) (hN : 127 ≤ N) (hs : zs_A z ad g ts) (x : Int32) (hcn : ∀ t, t < 8 → zu_cn (ts t) ≤ 20) (a1 a2 a3 : Int32) (cm : Nat → Int32) (hW : zs_W z ad g a1 a2 a3 cm) (lw : Nat → Int64) (hlw : g 126 = ze_l z 1 lw) : zx_i l mn_L_repeats ws_L_repeats rm_L_repeats z ad N g [.ref (ad 0), .int id, .int x, .ref (ad 126)] 2 12 (fun k gA => ∃ v : Int32, ((k = 0 ∧ ∃ g9 : Nat → va_E, (∃ t le, zp_is ts id t ∧ 1 ≤ le ∧ le ≤ 19 ∧ x = nI le ∧ v = nI (zp_eo (zp_T (zu_p (ts t)) (zu_cn (ts t) - 1)) (zu_cn (ts t) - 1) le 0 (zu_cn (ts t) - 1)).length ∧ (∃ b1 b2 b3 cm2, zs_W z ad g9 b1 b2 b3 cm2) ∧ ∀ j, j ≠ 105 → j ≠ 106 → g9 j = g j) ∧ ∀ j, j < 126 → gA j = g9 j) ∨ (k = 1 ∧ ∃ g9 : Nat → va_E, (g9 = g ∧ (("java/lang/IndexOutOfBoundsException" = "java/lang/IndexOutOfBoundsException" ∧ ∀ t, ¬ zp_is ts id t) ∨ ("java/lang/IndexOutOfBoundsException" = "java/lang/IllegalArgumentException" ∧ (∃ t, zp_is ts id t) ∧ ¬ zp_le19 x))) ∧ ∀ j, j < 126 → gA j = g9 j) ∨ (k = 2 ∧ ∃ g9 : Nat → va_E, (g9 = g ∧ (("java/lang/IllegalArgumentException" = "java/lang/IndexOutOfBoundsException" ∧ ∀ t, ¬ zp_is ts id t) ∨ ("java/lang/IllegalArgumentException" = "java/lang/IllegalArgumentException" ∧ (∃ t, zp_is ts id t) ∧ ¬ zp_le19 x))) ∧ ∀ j, j < 126 → gA j = g9 j)) ∧ (∃ lo1, gA 126 = ze_l z 1 lo1 ∧ (k = 0 → lo1 0 = v.toInt64)) ∧ ∀ j, 108 ≤ j → j < 126 → gA j = g j) (fun _ _ => False) := by
  refine zl_ofi hst pn_L_repeats rfl (Nat.le_of_ble_eq_true rfl) (fun X hX C hH => ?_)
  subst hX
  show zj_J X 0 0 _ ad N g 0 [(0, .ref (ad 0)), (1, .int id), (2, .int x), (3, .ref (ad 126))] []
  refine zj_aload_n C dc_L_repeats_0 rfl 3 rfl ?_
  refine zj_iconst (v := 0) C dc_L_repeats_1 (by decide) ?_
  refine zj_topi (nI_0.symm) ?_
  refine zj_aload_n C dc_L_repeats_2 rfl 0 rfl ?_
  refine zj_iload_n C dc_L_repeats_3 rfl 1 rfl ?_
  refine zj_iload_n C dc_L_repeats_4 rfl 2 rfl ?_
  refine zx_Vi C (ct_T_repeats _ hst z ad N g ts id (by omega) hs x hcn a1 a2 a3 cm hW) gv_L_57 rfl rfl rfl hd_T_repeats ⟨(Nat.le_of_ble_eq_true rfl), (Nat.le_of_ble_eq_true rfl)⟩ (by omega) hs.1 rfl rfl rfl (Nat.le_of_ble_eq_true rfl) ⟨(Nat.le_of_ble_eq_true rfl), (Nat.le_of_ble_eq_true rfl)⟩ dc_L_repeats_5 (fun E9 g9 h9 => ?_) (fun r1 g9 h1 => ?_)
  · have hE : E9 = "java/lang/IndexOutOfBoundsException" ∨ E9 = "java/lang/IllegalArgumentException" := by
      rcases h9 with ⟨-, ⟨h, -⟩ | ⟨h, -⟩⟩
      · exact Or.inl h
      · exact Or.inr h
    have hg9 : g9 = g := h9.1
    rcases hE with rfl | rfl
    · refine zl_catch C hH [] ⟨0, 10, 13, 13⟩ [⟨0, 10, 17, 24⟩] rfl (fun _ h => absurd h List.not_mem_nil) rfl (by decide) cl_L_13 ins_IndexOutOfBoundsException (fun q9 => ?_)
      refine zj_astore C dc_L_repeats_13 (by decide) rfl ?_
      refine zj_iconst (v := 1) C dc_L_repeats_15 (by decide) ?_
      exact zx_iret C ⟨(Nat.le_of_ble_eq_true rfl), (Nat.le_of_ble_eq_true rfl)⟩ dc_L_repeats_16 ⟨0, (Or.inr (Or.inl ⟨rfl, g9, h9, fun _ _ => rfl⟩)), ⟨lw, by rw [hg9]; exact hlw, fun h => absurd h (by decide)⟩, fun j _ _ => by rw [hg9]⟩
    · refine zl_catch C hH [⟨0, 10, 13, 13⟩] ⟨0, 10, 17, 24⟩ [] rfl (List.forall_mem_cons.mpr ⟨⟨by decide, _, cl_L_13, fun U h => h.2.2.2.1⟩, (fun _ h => absurd h List.not_mem_nil)⟩) rfl (by decide) cl_L_24 ins_IllegalArgumentException (fun q9 => ?_)
      refine zj_astore C dc_L_repeats_17 (by decide) rfl ?_
      refine zj_iconst (v := 2) C dc_L_repeats_19 (by decide) ?_
      exact zx_iret C ⟨(Nat.le_of_ble_eq_true rfl), (Nat.le_of_ble_eq_true rfl)⟩ dc_L_repeats_20 ⟨0, (Or.inr (Or.inr ⟨rfl, g9, h9, fun _ _ => rfl⟩)), ⟨lw, by rw [hg9]; exact hlw, fun h => absurd h (by decide)⟩, fun j _ _ => by rw [hg9]⟩
  · have hfr9 : ∀ j, 108 ≤ j → g9 j = g j := by
        have h1' := h1
        obtain ⟨t9, le9, _, _, _, _, _, _, hfr⟩ := h1'
        exact fun j hj => hfr j (by omega) (by omega)
    have hout : g9 126 = ze_l z 1 lw := (hfr9 126 (by omega)).trans hlw
    refine zj_i2l C dc_L_repeats_8 ?_
    refine zj_last C (by omega) hout rfl (by decide) (by decide) dc_L_repeats_9 ?_
    refine zj_goto C dc_L_repeats_10 rfl ?_
    refine zj_iconst (v := 0) C dc_L_repeats_21 (by decide) ?_
    exact zx_iret C ⟨(Nat.le_of_ble_eq_true rfl), (Nat.le_of_ble_eq_true rfl)⟩ dc_L_repeats_22 ⟨r1, Or.inl ⟨rfl, g9, h1, fun j hj => va_up_ne _ _ (by omega)⟩, ⟨_, va_up_self _ _ _, fun _ => pk_uLs⟩, fun j h1 h2 => (va_up_ne _ _ (by omega)).trans (hfr9 j h1)⟩
set_option maxHeartbeats 4000000 in
set_option maxRecDepth 100000 in
theorem ct_L_repeat (l : Launch) (hst : l.stackTraces = false) (z : zv_T) (ad : Nat → Nat) (N : Nat) (g : Nat → va_E) (ts : Nat → zu_S) (id : Int32) (hN : 127 ≤ N) (hs : zs_A z ad g ts) (x : Int32) (hcn : ∀ t, t < 8 → zu_cn (ts t) ≤ 20) (a1 a2 a3 : Int32) (cm : Nat → Int32) (hW : zs_W z ad g a1 a2 a3 cm) (i w : Int32) (lw : Nat → Int64) (hlw : g 126 = ze_l z 1 lw) : zx_i l mn_L_repeat ws_L_repeat rm_L_repeat z ad N g [.ref (ad 0), .int id, .int x, .int i, .int w, .ref (ad 126)] 3 18 (fun k gA => ∃ v : Int32, ((k = 0 ∧ ∃ g9 : Nat → va_E, (∃ t le, zp_is ts id t ∧ 1 ≤ le ∧ le ≤ 19 ∧ x = nI le ∧ (w = nI 0 ∨ w = nI 1 ∨ w = nI 2) ∧ ((∃ k y, (zp_eo (zp_T (zu_p (ts t)) (zu_cn (ts t) - 1)) (zu_cn (ts t) - 1) le 0 (zu_cn (ts t) - 1))[k]? = some y ∧ i = nI k ∧ ((w = nI 0 ∧ v = nI y.1) ∨ (w = nI 1 ∧ v = nI y.2.1) ∨ (w = nI 2 ∧ v = nI y.2.2))) ∨ ((∀ k, k < (zp_eo (zp_T (zu_p (ts t)) (zu_cn (ts t) - 1)) (zu_cn (ts t) - 1) le 0 (zu_cn (ts t) - 1)).length → ¬ i = nI k) ∧ v = -1)) ∧ (∃ b1 b2 b3 cm2, zs_W z ad g9 b1 b2 b3 cm2) ∧ ∀ j, j ≠ 105 → j ≠ 106 → g9 j = g j) ∧ ∀ j, j < 126 → gA j = g9 j) ∨ (k = 1 ∧ ∃ g9 : Nat → va_E, (g9 = g ∧ (("java/lang/IndexOutOfBoundsException" = "java/lang/IndexOutOfBoundsException" ∧ ∀ t, ¬ zp_is ts id t) ∨ ("java/lang/IndexOutOfBoundsException" = "java/lang/IllegalArgumentException" ∧ (∃ t, zp_is ts id t) ∧ (¬ zp_le19 x ∨ ¬ (w = nI 0 ∨ w = nI 1 ∨ w = nI 2))))) ∧ ∀ j, j < 126 → gA j = g9 j) ∨ (k = 2 ∧ ∃ g9 : Nat → va_E, (g9 = g ∧ (("java/lang/IllegalArgumentException" = "java/lang/IndexOutOfBoundsException" ∧ ∀ t, ¬ zp_is ts id t) ∨ ("java/lang/IllegalArgumentException" = "java/lang/IllegalArgumentException" ∧ (∃ t, zp_is ts id t) ∧ (¬ zp_le19 x ∨ ¬ (w = nI 0 ∨ w = nI 1 ∨ w = nI 2))))) ∧ ∀ j, j < 126 → gA j = g9 j)) ∧ (∃ lo1, gA 126 = ze_l z 1 lo1 ∧ (k = 0 → lo1 0 = v.toInt64)) ∧ ∀ j, 108 ≤ j → j < 126 → gA j = g j) (fun _ _ => False) := by
  refine zl_ofi hst pn_L_repeat rfl (Nat.le_of_ble_eq_true rfl) (fun X hX C hH => ?_)
  subst hX
  show zj_J X 0 0 _ ad N g 0 [(0, .ref (ad 0)), (1, .int id), (2, .int x), (3, .int i), (4, .int w), (5, .ref (ad 126))] []
  refine zj_aload C dc_L_repeat_0 5 rfl ?_
  refine zj_iconst (v := 0) C dc_L_repeat_2 (by decide) ?_
  refine zj_topi (nI_0.symm) ?_
  refine zj_aload_n C dc_L_repeat_3 rfl 0 rfl ?_
  refine zj_iload_n C dc_L_repeat_4 rfl 1 rfl ?_
  refine zj_iload_n C dc_L_repeat_5 rfl 2 rfl ?_
  refine zj_iload_n C dc_L_repeat_6 rfl 3 rfl ?_
  refine zj_iload C dc_L_repeat_7 4 rfl ?_
  refine zx_Vi C (ct_T_repeat _ hst z ad N g ts id (by omega) hs x hcn a1 a2 a3 cm hW i w) gv_L_60 rfl rfl rfl hd_T_repeat ⟨(Nat.le_of_ble_eq_true rfl), (Nat.le_of_ble_eq_true rfl)⟩ (by omega) hs.1 rfl rfl rfl (Nat.le_of_ble_eq_true rfl) ⟨(Nat.le_of_ble_eq_true rfl), (Nat.le_of_ble_eq_true rfl)⟩ dc_L_repeat_9 (fun E9 g9 h9 => ?_) (fun r1 g9 h1 => ?_)
  · have hE : E9 = "java/lang/IndexOutOfBoundsException" ∨ E9 = "java/lang/IllegalArgumentException" := by
      rcases h9 with ⟨-, ⟨h, -⟩ | ⟨h, -⟩⟩
      · exact Or.inl h
      · exact Or.inr h
    have hg9 : g9 = g := h9.1
    rcases hE with rfl | rfl
    · refine zl_catch C hH [] ⟨0, 14, 17, 13⟩ [⟨0, 14, 21, 24⟩] rfl (fun _ h => absurd h List.not_mem_nil) rfl (by decide) cl_L_13 ins_IndexOutOfBoundsException (fun q9 => ?_)
      refine zj_astore C dc_L_repeat_17 (by decide) rfl ?_
      refine zj_iconst (v := 1) C dc_L_repeat_19 (by decide) ?_
      exact zx_iret C ⟨(Nat.le_of_ble_eq_true rfl), (Nat.le_of_ble_eq_true rfl)⟩ dc_L_repeat_20 ⟨0, (Or.inr (Or.inl ⟨rfl, g9, h9, fun _ _ => rfl⟩)), ⟨lw, by rw [hg9]; exact hlw, fun h => absurd h (by decide)⟩, fun j _ _ => by rw [hg9]⟩
    · refine zl_catch C hH [⟨0, 14, 17, 13⟩] ⟨0, 14, 21, 24⟩ [] rfl (List.forall_mem_cons.mpr ⟨⟨by decide, _, cl_L_13, fun U h => h.2.2.2.1⟩, (fun _ h => absurd h List.not_mem_nil)⟩) rfl (by decide) cl_L_24 ins_IllegalArgumentException (fun q9 => ?_)
      refine zj_astore C dc_L_repeat_21 (by decide) rfl ?_
      refine zj_iconst (v := 2) C dc_L_repeat_23 (by decide) ?_
      exact zx_iret C ⟨(Nat.le_of_ble_eq_true rfl), (Nat.le_of_ble_eq_true rfl)⟩ dc_L_repeat_24 ⟨0, (Or.inr (Or.inr ⟨rfl, g9, h9, fun _ _ => rfl⟩)), ⟨lw, by rw [hg9]; exact hlw, fun h => absurd h (by decide)⟩, fun j _ _ => by rw [hg9]⟩
  · have hfr9 : ∀ j, 108 ≤ j → g9 j = g j := by
        have h1' := h1
        obtain ⟨t9, le9, _, _, _, _, _, _, _, hfr⟩ := h1'
        exact fun j hj => hfr j (by omega) (by omega)
    have hout : g9 126 = ze_l z 1 lw := (hfr9 126 (by omega)).trans hlw
    refine zj_i2l C dc_L_repeat_12 ?_
    refine zj_last C (by omega) hout rfl (by decide) (by decide) dc_L_repeat_13 ?_
    refine zj_goto C dc_L_repeat_14 rfl ?_
    refine zj_iconst (v := 0) C dc_L_repeat_25 (by decide) ?_
    exact zx_iret C ⟨(Nat.le_of_ble_eq_true rfl), (Nat.le_of_ble_eq_true rfl)⟩ dc_L_repeat_26 ⟨r1, Or.inl ⟨rfl, g9, h1, fun j hj => va_up_ne _ _ (by omega)⟩, ⟨_, va_up_self _ _ _, fun _ => pk_uLs⟩, fun j h1 h2 => (va_up_ne _ _ (by omega)).trans (hfr9 j h1)⟩
set_option maxHeartbeats 4000000 in
set_option maxRecDepth 100000 in
theorem ct_L_canon (l : Launch) (hst : l.stackTraces = false) (z : zv_T) (ad : Nat → Nat) (N : Nat) (g : Nat → va_E) (ts : Nat → zu_S) (id : Int32) (hN : 127 ≤ N) (hs : zs_A z ad g ts) (other x : Int32) (hcn : ∀ t, t < 8 → zu_cn (ts t) ≤ 20) (lw : Nat → Int64) (hlw : g 126 = ze_l z 1 lw) : zx_i l mn_L_canon ws_L_canon rm_L_canon z ad N g [.ref (ad 0), .int id, .int other, .int x, .ref (ad 126)] 3 18 (fun k gA => ∃ v : Int32, ((k = 0 ∧ ∃ g9 : Nat → va_E, (∃ t o len, zp_is ts id t ∧ zp_is ts other o ∧ 2 ≤ len ∧ len ≤ 20 ∧ x = nI len ∧ ((zu_cn (ts o) < len ∧ v = -1) ∨ (len ≤ zu_cn (ts o) ∧ zp_fst (zp_ec ts t o len) (if t = o then 1 else 0) (zu_cn (ts t) + 1 - len) v)) ∧ g9 = g) ∧ ∀ j, j < 126 → gA j = g9 j) ∨ (k = 1 ∧ ∃ g9 : Nat → va_E, (g9 = g ∧ (("java/lang/IndexOutOfBoundsException" = "java/lang/IndexOutOfBoundsException" ∧ ((∀ t, ¬ zp_is ts id t) ∨ ∀ o, ¬ zp_is ts other o)) ∨ ("java/lang/IndexOutOfBoundsException" = "java/lang/IllegalArgumentException" ∧ (∃ t, zp_is ts id t) ∧ (∃ o, zp_is ts other o) ∧ ∀ len, 2 ≤ len → len ≤ 20 → ¬ x = nI len))) ∧ ∀ j, j < 126 → gA j = g9 j) ∨ (k = 2 ∧ ∃ g9 : Nat → va_E, (g9 = g ∧ (("java/lang/IllegalArgumentException" = "java/lang/IndexOutOfBoundsException" ∧ ((∀ t, ¬ zp_is ts id t) ∨ ∀ o, ¬ zp_is ts other o)) ∨ ("java/lang/IllegalArgumentException" = "java/lang/IllegalArgumentException" ∧ (∃ t, zp_is ts id t) ∧ (∃ o, zp_is ts other o) ∧ ∀ len, 2 ≤ len → len ≤ 20 → ¬ x = nI len))) ∧ ∀ j, j < 126 → gA j = g9 j)) ∧ (∃ lo1, gA 126 = ze_l z 1 lo1 ∧ (k = 0 → lo1 0 = v.toInt64)) ∧ ∀ j, 108 ≤ j → j < 126 → gA j = g j) (fun _ _ => False) := by
  refine zl_ofi hst pn_L_canon rfl (Nat.le_of_ble_eq_true rfl) (fun X hX C hH => ?_)
  subst hX
  show zj_J X 0 0 _ ad N g 0 [(0, .ref (ad 0)), (1, .int id), (2, .int other), (3, .int x), (4, .ref (ad 126))] []
  refine zj_aload C dc_L_canon_0 4 rfl ?_
  refine zj_iconst (v := 0) C dc_L_canon_2 (by decide) ?_
  refine zj_topi (nI_0.symm) ?_
  refine zj_aload_n C dc_L_canon_3 rfl 0 rfl ?_
  refine zj_iload_n C dc_L_canon_4 rfl 1 rfl ?_
  refine zj_iload_n C dc_L_canon_5 rfl 2 rfl ?_
  refine zj_iload_n C dc_L_canon_6 rfl 3 rfl ?_
  refine zx_Vi C (ct_T_canon _ hst z ad N g ts id (by omega) hs other x hcn) gv_L_63 rfl rfl rfl hd_T_canon ⟨(Nat.le_of_ble_eq_true rfl), (Nat.le_of_ble_eq_true rfl)⟩ (by omega) hs.1 rfl rfl rfl (Nat.le_of_ble_eq_true rfl) ⟨(Nat.le_of_ble_eq_true rfl), (Nat.le_of_ble_eq_true rfl)⟩ dc_L_canon_7 (fun E9 g9 h9 => ?_) (fun r1 g9 h1 => ?_)
  · have hE : E9 = "java/lang/IndexOutOfBoundsException" ∨ E9 = "java/lang/IllegalArgumentException" := by
      rcases h9 with ⟨-, ⟨h, -⟩ | ⟨h, -⟩⟩
      · exact Or.inl h
      · exact Or.inr h
    have hg9 : g9 = g := h9.1
    rcases hE with rfl | rfl
    · refine zl_catch C hH [] ⟨0, 12, 15, 13⟩ [⟨0, 12, 19, 24⟩] rfl (fun _ h => absurd h List.not_mem_nil) rfl (by decide) cl_L_13 ins_IndexOutOfBoundsException (fun q9 => ?_)
      refine zj_astore C dc_L_canon_15 (by decide) rfl ?_
      refine zj_iconst (v := 1) C dc_L_canon_17 (by decide) ?_
      exact zx_iret C ⟨(Nat.le_of_ble_eq_true rfl), (Nat.le_of_ble_eq_true rfl)⟩ dc_L_canon_18 ⟨0, (Or.inr (Or.inl ⟨rfl, g9, h9, fun _ _ => rfl⟩)), ⟨lw, by rw [hg9]; exact hlw, fun h => absurd h (by decide)⟩, fun j _ _ => by rw [hg9]⟩
    · refine zl_catch C hH [⟨0, 12, 15, 13⟩] ⟨0, 12, 19, 24⟩ [] rfl (List.forall_mem_cons.mpr ⟨⟨by decide, _, cl_L_13, fun U h => h.2.2.2.1⟩, (fun _ h => absurd h List.not_mem_nil)⟩) rfl (by decide) cl_L_24 ins_IllegalArgumentException (fun q9 => ?_)
      refine zj_astore C dc_L_canon_19 (by decide) rfl ?_
      refine zj_iconst (v := 2) C dc_L_canon_21 (by decide) ?_
      exact zx_iret C ⟨(Nat.le_of_ble_eq_true rfl), (Nat.le_of_ble_eq_true rfl)⟩ dc_L_canon_22 ⟨0, (Or.inr (Or.inr ⟨rfl, g9, h9, fun _ _ => rfl⟩)), ⟨lw, by rw [hg9]; exact hlw, fun h => absurd h (by decide)⟩, fun j _ _ => by rw [hg9]⟩
  · have hfr9 : ∀ j, 108 ≤ j → g9 j = g j := by
        have h1' := h1
        obtain ⟨t9, o9, len9, _, _, _, _, _, _, hfr⟩ := h1'
        exact fun j hj => congrFun hfr j
    have hout : g9 126 = ze_l z 1 lw := (hfr9 126 (by omega)).trans hlw
    refine zj_i2l C dc_L_canon_10 ?_
    refine zj_last C (by omega) hout rfl (by decide) (by decide) dc_L_canon_11 ?_
    refine zj_goto C dc_L_canon_12 rfl ?_
    refine zj_iconst (v := 0) C dc_L_canon_23 (by decide) ?_
    exact zx_iret C ⟨(Nat.le_of_ble_eq_true rfl), (Nat.le_of_ble_eq_true rfl)⟩ dc_L_canon_24 ⟨r1, Or.inl ⟨rfl, g9, h1, fun j hj => va_up_ne _ _ (by omega)⟩, ⟨_, va_up_self _ _ _, fun _ => pk_uLs⟩, fun j h1 h2 => (va_up_ne _ _ (by omega)).trans (hfr9 j h1)⟩
set_option maxHeartbeats 4000000 in
set_option maxRecDepth 100000 in
theorem ct_L_opening (l : Launch) (hst : l.stackTraces = false) (z : zv_T) (ad : Nat → Nat) (N : Nat) (g : Nat → va_E) (ts : Nat → zu_S) (id : Int32) (hN : 127 ≤ N) (hs : zs_A z ad g ts) (i : Int32) (hcn : ∀ t, t < 8 → zu_cn (ts t) ≤ 20) (sh0 : Nat → Int32) (h70 : g 107 = ze_i z 8 sh0) (lw : Nat → Int64) (hlw : g 126 = ze_l z 1 lw) : zx_i l mn_L_opening ws_L_opening rm_L_opening z ad N g [.ref (ad 0), .int id, .int i, .ref (ad 126)] 1 6 (fun k gA => ∃ v : Int32, ((k = 0 ∧ ∃ g9 : Nat → va_E, (∃ t sh, zp_is ts id t ∧ (∀ k, k < 8 → zp_so ts t (sh k) k) ∧ ((∃ k o, (zp_ox sh 20)[k]? = some o ∧ i = nI k ∧ v = nI o) ∨ ((∀ k, k < (zp_ox sh 20).length → ¬ i = nI k) ∧ v = -1)) ∧ (∃ s9, g9 107 = ze_i z 8 s9) ∧ ∀ j, j ≠ 107 → g9 j = g j) ∧ ∀ j, j < 126 → gA j = g9 j) ∨ (k = 1 ∧ ∃ g9 : Nat → va_E, (g9 = g ∧ "java/lang/IndexOutOfBoundsException" = "java/lang/IndexOutOfBoundsException" ∧ ∀ t, ¬ zp_is ts id t) ∧ ∀ j, j < 126 → gA j = g9 j)) ∧ (∃ lo1, gA 126 = ze_l z 1 lo1 ∧ (k = 0 → lo1 0 = v.toInt64)) ∧ ∀ j, 108 ≤ j → j < 126 → gA j = g j) (fun _ _ => False) := by
  refine zl_ofi hst pn_L_opening rfl (Nat.le_of_ble_eq_true rfl) (fun X hX C hH => ?_)
  subst hX
  show zj_J X 0 0 _ ad N g 0 [(0, .ref (ad 0)), (1, .int id), (2, .int i), (3, .ref (ad 126))] []
  refine zj_aload_n C dc_L_opening_0 rfl 3 rfl ?_
  refine zj_iconst (v := 0) C dc_L_opening_1 (by decide) ?_
  refine zj_topi (nI_0.symm) ?_
  refine zj_aload_n C dc_L_opening_2 rfl 0 rfl ?_
  refine zj_iload_n C dc_L_opening_3 rfl 1 rfl ?_
  refine zj_iload_n C dc_L_opening_4 rfl 2 rfl ?_
  refine zx_Vi C (ct_T_opening _ hst z ad N g ts id (by omega) hs i hcn sh0 h70) gv_L_66 rfl rfl rfl hd_T_opening ⟨(Nat.le_of_ble_eq_true rfl), (Nat.le_of_ble_eq_true rfl)⟩ (by omega) hs.1 rfl rfl rfl (Nat.le_of_ble_eq_true rfl) ⟨(Nat.le_of_ble_eq_true rfl), (Nat.le_of_ble_eq_true rfl)⟩ dc_L_opening_5 (fun E9 g9 h9 => ?_) (fun r1 g9 h1 => ?_)
  · have hE : E9 = "java/lang/IndexOutOfBoundsException" := by
      exact h9.2.1
    have hg9 : g9 = g := h9.1
    rcases hE with rfl
    · refine zl_catch C hH [] ⟨0, 10, 13, 13⟩ [] rfl (fun _ h => absurd h List.not_mem_nil) rfl (by decide) cl_L_13 ins_IndexOutOfBoundsException (fun q9 => ?_)
      refine zj_astore C dc_L_opening_13 (by decide) rfl ?_
      refine zj_iconst (v := 1) C dc_L_opening_15 (by decide) ?_
      exact zx_iret C ⟨(Nat.le_of_ble_eq_true rfl), (Nat.le_of_ble_eq_true rfl)⟩ dc_L_opening_16 ⟨0, (Or.inr ⟨rfl, g9, h9, fun _ _ => rfl⟩), ⟨lw, by rw [hg9]; exact hlw, fun h => absurd h (by decide)⟩, fun j _ _ => by rw [hg9]⟩
  · have hfr9 : ∀ j, 108 ≤ j → g9 j = g j := by
        have h1' := h1
        obtain ⟨t9, sh9, _, _, _, _, hfr⟩ := h1'
        exact fun j hj => hfr j (by omega)
    have hout : g9 126 = ze_l z 1 lw := (hfr9 126 (by omega)).trans hlw
    refine zj_i2l C dc_L_opening_8 ?_
    refine zj_last C (by omega) hout rfl (by decide) (by decide) dc_L_opening_9 ?_
    refine zj_goto C dc_L_opening_10 rfl ?_
    refine zj_iconst (v := 0) C dc_L_opening_17 (by decide) ?_
    exact zx_iret C ⟨(Nat.le_of_ble_eq_true rfl), (Nat.le_of_ble_eq_true rfl)⟩ dc_L_opening_18 ⟨r1, Or.inl ⟨rfl, g9, h1, fun j hj => va_up_ne _ _ (by omega)⟩, ⟨_, va_up_self _ _ _, fun _ => pk_uLs⟩, fun j h1 h2 => (va_up_ne _ _ (by omega)).trans (hfr9 j h1)⟩
end ZLH
