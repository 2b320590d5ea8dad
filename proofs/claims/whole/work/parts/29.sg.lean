section ZG
theorem zj_iushr {X : zj_T} {z : zv_T} {cc : ByteArray} {nL : Nat} {own : String} {rm : Room} {ret : Option FieldType} (C : zj_C X z cc nL own rm ret) {cells slots : Nat} {Q : State → Prop} {ad : Nat → Nat} {N : Nat} {g : Nat → va_E} {pc : Nat} {L : List (Nat × Value)} {st : List Value} {x y : Int32} (d : decode cc pc = .ok (.iushr, 1)) (kk : zj_J X cells slots Q ad N g (pc + 1) L (.int (x.toUInt32 >>> (y.toUInt32 &&& Int32.toUInt32 31)).toInt32 :: st)) : zj_J X cells slots Q ad N g pc L (.int y :: .int x :: st) := by
  obtain ⟨p, l, e, R, s, m, args, below, meth, c, nL', z'⟩ := X
  obtain ⟨⟨hx, hb, hml, hown, hts⟩, hK, hA, hlk, rfl, hr, rfl, rfl, hU, hN, htr, hNb⟩ := C
  intro H locs ls hl hP hD hS
  exact lv_iushr hx hb d rfl (kk H locs ls hl hP hD hS)
theorem zt_Sx {own : String} {idx : Nat} {y : MethodName} {c : Cond} (h1 : Cond.methodLink own idx y ∈ zt_tbl) (h2 : Cond.static y ∈ zt_tbl) (h4 : Cond.initialized y.cls ∈ zt_tbl) (h5 : c ∈ zt_tbl) : GoodIn zt_tbl (va_wsS own idx y (c :: zt_tbl)) := by
  intro w hw
  have hm : w ∈ zt_tbl := by
    simp only [va_wsS, List.mem_append, List.mem_cons, List.not_mem_nil, or_false] at hw
    rcases hw with (rfl | rfl | rfl) | rfl | hw <;> assumption
  exact ⟨hm, zt_good hm⟩
/-- a static method of another class -/
theorem zj_Gi {X : zj_T} {z : zv_T} {cc : ByteArray} {nL : Nat} {own : String} {rm : Room} {ret : Option FieldType} (C : zj_C X z cc nL own rm ret) {cells slots : Nat} {Q : State → Prop} {ad : Nat → Nat} {N : Nat} {g : Nat → va_E} {pc : Nat} {L : List (Nat × Value)} {st st0 : List Value} {rt : FieldType} {y : MethodName} {ws ws' : List Cond} {rc : Room} {bytes : ByteArray} {maxL index n : Nat} {As : List Value} {post : Int32 → (Nat → va_E) → Prop} (hM : zm_i X.2.1 y ws rc z ad N g As post)
    (hG : GoodIn zt_tbl (va_wsS own index y ws)) (hw : ws = Cond.code y bytes maxL (some rt) :: ws') (hrc : rc.cells = 0) (hrs : rc.slots = 0) (hd : y.cls ≠ "java/lang/invoke/MethodHandle" ∧ y.cls ≠ "java/lang/invoke/VarHandle" ∧ (parseMethodDescriptor y.desc).map (fun d => d.parameters.length) = some n) (hR : rc.frames + 1 ≤ rm.frames ∧ 8 + (maxL + 11) + rc.locals ≤ rm.locals)
    (hn : As.length = n) (hst : st0 = As.reverse ++ st) (hW : (st.map fun v => v.category).sum ≤ 8) (hcs : cells ≤ rm.cells ∧ slots ≤ rm.slots) (d : decode cc pc = .ok (.invokestatic index, 3))
    (kk : ∀ (r : Int32) (g1 : Nat → va_E), post r g1 → zj_J X cells slots Q ad N g1 (pc + 3) L (.int r :: st)) : zj_J X cells slots Q ad N g pc L st0 := by
  obtain ⟨p, l, e, R, s, m, args, below, meth, c, nL', z'⟩ := X
  obtain ⟨⟨hx, hb, hml, hown, hts⟩, hK, hA, hlk, rfl, hr, rfl, rfl, hU, hN, htr, hNb⟩ := C
  intro H locs ls hl hP hD hS
  refine va_calli (va_runS (As := As) (rest := st) ⟨hx, hb, hml, hown, hts⟩ hM (va_cwS n hts hG hw hrc hrs hd hR) ⟨zb_blind, fun U h1 h2 => ⟨rfl, zb_end hK hA hU hN hNb hP hD hS h1 h2.alike⟩⟩ rfl hn hl.1 hst (lv_room hW) d hcs) hS (fun q _ h => h) (fun q h => h) (fun r g1 t H1 locs1 ht hvm hq hB hz1 hk1 hS1 => ?_)
  obtain ⟨hP1, hK1, hD1, -⟩ := hB
  rw [ht] at hP1
  exact kk r g1 hq H1 locs1 ls hl hP1 hD1 hS1
/-- the sign of an int, as Integer.signum makes it -/
def zp_sg (x : Int32) : Int32 := (x >>> ((31 : Int32) &&& 31)) ||| ((-x).toUInt32 >>> ((31 : Int32).toUInt32 &&& Int32.toUInt32 31)).toInt32
set_option maxHeartbeats 4000000 in
set_option maxRecDepth 100000 in
theorem ct_G_signum (l : Launch) (hst : l.stackTraces = false) (z : zv_T) (ad : Nat → Nat) (N : Nat) (g : Nat → va_E) (x : Int32) : zm_i l mn_G_signum ws_G_signum rm_G_signum z ad N g [.int x] (fun r g1 => r = zp_sg x ∧ g1 = g) := by
  refine zm_ofi hst pn_G_signum rfl (Nat.le_of_ble_eq_true rfl) (fun X hX C => ?_)
  subst hX
  show zj_J X 0 0 _ ad N g 0 [(0, .int x)] []
  refine zj_iload_n C dc_G_signum_0 rfl 0 rfl ?_
  refine zj_bipush (v := 31) C dc_G_signum_1 (by decide) ?_
  refine zj_ishr C dc_G_signum_3 ?_
  refine zj_iload_n C dc_G_signum_4 rfl 0 rfl ?_
  refine zj_ineg C dc_G_signum_5 ?_
  refine zj_bipush (v := 31) C dc_G_signum_6 (by decide) ?_
  refine zj_iushr C dc_G_signum_8 ?_
  refine zj_ior C dc_G_signum_9 ?_
  exact zj_iret C dc_G_signum_10 ⟨rfl, rfl⟩
set_option maxHeartbeats 4000000 in
set_option maxRecDepth 100000 in
theorem ct_T_sameContour (l : Launch) (hst : l.stackTraces = false) (z : zv_T) (ad : Nat → Nat) (N : Nat) (g : Nat → va_E) (ri mr rc ni nc pl : Nat) (rp rq p q : Nat → Int32) (hrN : ri + 2 < N) (hnN : ni + 2 < N) (hr : zs_N z ad g ri mr rc rp rq) (hn : zs_N z ad g ni 20 nc p q) (hmr : mr < 2 ^ 31) (hc1 : 1 ≤ rc) (hc2 : rc ≤ mr) (hpl : pl + rc ≤ 20) : zm_i l mn_T_sameContour ws_T_sameContour rm_T_sameContour z ad N g [.ref (ad ri), .ref (ad ni), .int (nI pl)] (fun r g1 => r = zb_i (zp_all (fun k => decide (zp_sg (rp (k + 1) - rp k) = zp_sg (p (pl + k + 1) - p (pl + k)))) (rc - 1)) ∧ g1 = g) := by
  obtain ⟨hr0, hr1, hr2⟩ := hr
  obtain ⟨hn0, hn1, hn2⟩ := hn
  refine zm_ofz hst pn_T_sameContour rfl (Nat.le_of_ble_eq_true rfl) (fun X hX C => ?_)
  subst hX
  show zj_J X 0 0 _ ad N g 0 [(0, .ref (ad ri)), (1, .ref (ad ni)), (2, .int (nI pl))] []
  have loop : ∀ (n : Nat) (k : Nat), rc - 1 - k = n → k ≤ rc - 1 → zp_all (fun k => decide (zp_sg (rp (k + 1) - rp k) = zp_sg (p (pl + k + 1) - p (pl + k)))) k = true → zj_J X 0 0 (zj_Qi X 0 0 ad N (fun r g1 => r = zb_i (zp_all (fun k => decide (zp_sg (rp (k + 1) - rp k) = zp_sg (p (pl + k + 1) - p (pl + k)))) (rc - 1)) ∧ g1 = g)) ad N g 2 [(3, .int (nI k)), (0, .ref (ad ri)), (1, .ref (ad ni)), (2, .int (nI pl))] [] := by
    intro n
    induction n with
    | zero =>
      intro k e1 e2 e3
      refine zj_iload_n C dc_T_sameContour_2 rfl 0 rfl ?_
      refine zj_aload_n C dc_T_sameContour_3 rfl 1 rfl ?_
      refine zj_Vi C (ct_N_steps _ hst z ad N g ri mr rc rp rq hrN ⟨hr0, hr1, hr2⟩ hmr (by omega)) gv_T_117 rfl rfl rfl hd_N_steps ⟨(Nat.le_of_ble_eq_true rfl), (Nat.le_of_ble_eq_true rfl)⟩ (by omega) hr0 rfl rfl rfl (Nat.le_of_ble_eq_true rfl) ⟨(Nat.le_of_ble_eq_true rfl), (Nat.le_of_ble_eq_true rfl)⟩ dc_T_sameContour_4 (fun r1 g9 h1 => ?_)
      obtain ⟨rfl, hg9⟩ := h1
      rw [hg9]
      refine zj_icmp_ge C dc_T_sameContour_7 rfl (fun _ => ?_) (fun h => absurd h (not_not_intro ((nI_leI (by omega) (by omega)).mpr (by omega))))
      refine zj_iconst (v := 1) C dc_T_sameContour_39 (by decide) ?_
      exact zj_zret C dc_T_sameContour_40 rfl ⟨by rw [show rc - 1 = k by omega, e3]; rfl, rfl⟩
    | succ n ih =>
      intro k e1 e2 e3
      refine zj_iload_n C dc_T_sameContour_2 rfl 0 rfl ?_
      refine zj_aload_n C dc_T_sameContour_3 rfl 1 rfl ?_
      refine zj_Vi C (ct_N_steps _ hst z ad N g ri mr rc rp rq hrN ⟨hr0, hr1, hr2⟩ hmr (by omega)) gv_T_117 rfl rfl rfl hd_N_steps ⟨(Nat.le_of_ble_eq_true rfl), (Nat.le_of_ble_eq_true rfl)⟩ (by omega) hr0 rfl rfl rfl (Nat.le_of_ble_eq_true rfl) ⟨(Nat.le_of_ble_eq_true rfl), (Nat.le_of_ble_eq_true rfl)⟩ dc_T_sameContour_4 (fun r1 g9 h1 => ?_)
      obtain ⟨rfl, hg9⟩ := h1
      rw [hg9]
      refine zj_icmp_ge C dc_T_sameContour_7 rfl (fun h => absurd h (((zn_nle (by omega) (by omega)).mpr (by omega)))) (fun _ => ?_)
      refine zj_aload_n C dc_T_sameContour_10 rfl 1 rfl ?_
      refine zj_iload_n C dc_T_sameContour_11 rfl 0 rfl ?_
      refine zj_Vi C (ct_N_stepBehind _ hst z ad N g ri mr rc rp rq hrN ⟨hr0, hr1, hr2⟩ hmr (k) (by omega)) gv_T_121 rfl rfl rfl hd_N_stepBehind ⟨(Nat.le_of_ble_eq_true rfl), (Nat.le_of_ble_eq_true rfl)⟩ (by omega) hr0 rfl rfl rfl (Nat.le_of_ble_eq_true rfl) ⟨(Nat.le_of_ble_eq_true rfl), (Nat.le_of_ble_eq_true rfl)⟩ dc_T_sameContour_12 (fun r1 g9 h1 => ?_)
      obtain ⟨rfl, hg9⟩ := h1
      rw [hg9]
      refine zj_Gi C (ct_G_signum _ hst z ad N g _) (zt_Sx ml_T_245 sm_G_signum ini_G wk_G_signum) rfl rfl rfl hd_G_signum.2 ⟨(Nat.le_of_ble_eq_true rfl), (Nat.le_of_ble_eq_true rfl)⟩ rfl rfl (Nat.le_of_ble_eq_true rfl) ⟨(Nat.le_of_ble_eq_true rfl), (Nat.le_of_ble_eq_true rfl)⟩ dc_T_sameContour_15 (fun r9 g9 h9 => ?_)
      obtain ⟨rfl, hg9⟩ := h9
      rw [hg9]
      refine zj_aload_n C dc_T_sameContour_18 rfl 2 rfl ?_
      refine zj_iload_n C dc_T_sameContour_19 rfl 3 rfl ?_
      refine zj_iload_n C dc_T_sameContour_20 rfl 0 rfl ?_
      refine zj_iadd C dc_T_sameContour_21 ?_
      refine zj_topi (nI_add _ _) ?_
      refine zj_Vi C (ct_N_stepBehind _ hst z ad N g ni 20 nc p q hnN ⟨hn0, hn1, hn2⟩ (by decide) (pl + k) (by omega)) gv_T_121 rfl rfl rfl hd_N_stepBehind ⟨(Nat.le_of_ble_eq_true rfl), (Nat.le_of_ble_eq_true rfl)⟩ (by omega) hn0 rfl rfl rfl (Nat.le_of_ble_eq_true rfl) ⟨(Nat.le_of_ble_eq_true rfl), (Nat.le_of_ble_eq_true rfl)⟩ dc_T_sameContour_22 (fun r2 g9 h1 => ?_)
      obtain ⟨rfl, hg9⟩ := h1
      rw [hg9]
      refine zj_Gi C (ct_G_signum _ hst z ad N g _) (zt_Sx ml_T_245 sm_G_signum ini_G wk_G_signum) rfl rfl rfl hd_G_signum.2 ⟨(Nat.le_of_ble_eq_true rfl), (Nat.le_of_ble_eq_true rfl)⟩ rfl rfl (Nat.le_of_ble_eq_true rfl) ⟨(Nat.le_of_ble_eq_true rfl), (Nat.le_of_ble_eq_true rfl)⟩ dc_T_sameContour_25 (fun r9 g9 h9 => ?_)
      obtain ⟨rfl, hg9⟩ := h9
      rw [hg9]
      refine zj_icmp_eq C dc_T_sameContour_28 rfl (fun h28 => ?_) (fun h28 => ?_)
      · skip
        refine zj_iinc C dc_T_sameContour_33 0 rfl (zn_inc k) (by decide) rfl ?_
        refine zj_goto C dc_T_sameContour_36 rfl ?_
        refine zj_loc (L' := [(3, .int (nI (k + 1))), (0, .ref (ad ri)), (1, .ref (ad ni)), (2, .int (nI pl))]) [0, 1, 2, 3] rfl ?_
        exact ih (k + 1) (by omega) (by omega) (by rw [zp_allS, e3, decide_eq_true h28]; rfl)
      · skip
        refine zj_iconst (v := 0) C dc_T_sameContour_31 (by decide) ?_
        exact zj_zret C dc_T_sameContour_32 rfl ⟨by rw [zp_all_f (i := k) (by omega) (decide_eq_false h28)]; rfl, rfl⟩
  refine zj_iconst (v := 0) C dc_T_sameContour_0 (by decide) ?_
  refine zj_istore_n C dc_T_sameContour_1 rfl (by decide) rfl ?_
  refine zj_loc (L' := [(3, .int (nI 0)), (0, .ref (ad ri)), (1, .ref (ad ni)), (2, .int (nI pl))]) [0, 1, 2, 3] rfl ?_
  exact loop (rc - 1) 0 rfl (by omega) rfl
end ZG
