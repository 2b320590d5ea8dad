section ZC
def xt_ns : List String := ["java/lang/RuntimeException", "java/lang/Exception"]
theorem xt_nf : ∀ n ∈ xt_ns, Bundle.fit n = true := by decide +kernel
theorem xt_fit_IndexOutOfBoundsException : Bundle.fit "java/lang/IndexOutOfBoundsException" = true := by decide +kernel
theorem xt_at_IndexOutOfBoundsException : ∀ w ∈ (vx_at0 cn_T 52 "java/lang/IndexOutOfBoundsException" xt_ns).filter goodWord, w ∈ zt_tbl := by decide +kernel
theorem xt_bd_IndexOutOfBoundsException : ∀ w ∈ (vx_at0 cn_T 52 "java/lang/IndexOutOfBoundsException" xt_ns).filter (fun w => !goodWord w), w ∈ Cond.castable "java/lang/IndexOutOfBoundsException" "java/lang/IndexOutOfBoundsException" :: zb_ds.map Cond.declares := by decide +kernel
theorem xt_ok_IndexOutOfBoundsException : ∀ w ∈ Cond.classLink cn_T 50 "java/lang/IndexOutOfBoundsException" :: Cond.initialized "java/lang/IndexOutOfBoundsException" :: vx_at0 cn_T 52 "java/lang/IndexOutOfBoundsException" xt_ns, vx_ot w = true := by decide +kernel
theorem xt_fit_IllegalStateException : Bundle.fit "java/lang/IllegalStateException" = true := by decide +kernel
theorem xt_at_IllegalStateException : ∀ w ∈ (vx_at0 cn_T 59 "java/lang/IllegalStateException" xt_ns).filter goodWord, w ∈ zt_tbl := by decide +kernel
theorem xt_bd_IllegalStateException : ∀ w ∈ (vx_at0 cn_T 59 "java/lang/IllegalStateException" xt_ns).filter (fun w => !goodWord w), w ∈ Cond.castable "java/lang/IllegalStateException" "java/lang/IllegalStateException" :: zb_ds.map Cond.declares := by decide +kernel
theorem xt_ok_IllegalStateException : ∀ w ∈ Cond.classLink cn_T 57 "java/lang/IllegalStateException" :: Cond.initialized "java/lang/IllegalStateException" :: vx_at0 cn_T 59 "java/lang/IllegalStateException" xt_ns, vx_ot w = true := by decide +kernel
theorem xt_fit_IllegalArgumentException : Bundle.fit "java/lang/IllegalArgumentException" = true := by decide +kernel
theorem xt_at_IllegalArgumentException : ∀ w ∈ (vx_at0 cn_T 116 "java/lang/IllegalArgumentException" xt_ns).filter goodWord, w ∈ zt_tbl := by decide +kernel
theorem xt_bd_IllegalArgumentException : ∀ w ∈ (vx_at0 cn_T 116 "java/lang/IllegalArgumentException" xt_ns).filter (fun w => !goodWord w), w ∈ Cond.castable "java/lang/IllegalArgumentException" "java/lang/IllegalArgumentException" :: zb_ds.map Cond.declares := by decide +kernel
theorem xt_ok_IllegalArgumentException : ∀ w ∈ Cond.classLink cn_T 114 "java/lang/IllegalArgumentException" :: Cond.initialized "java/lang/IllegalArgumentException" :: vx_at0 cn_T 116 "java/lang/IllegalArgumentException" xt_ns, vx_ot w = true := by decide +kernel
/-- a tune: there, shown, its last reading, its notes now, the places replaced and what they held -/
abbrev zu_S : Type := Bool × Bool × Nat × Nat × (Nat → Int32) × (Nat → Int32) × (Nat → Int32) × (Nat → Int32) × (Nat → Int32)
def zu_th (s : zu_S) : Bool := s.1
def zu_sh (s : zu_S) : Bool := s.2.1
def zu_lr (s : zu_S) : Nat := s.2.2.1
def zu_cn (s : zu_S) : Nat := s.2.2.2.1
def zu_p (s : zu_S) : Nat → Int32 := s.2.2.2.2.1
def zu_q (s : zu_S) : Nat → Int32 := s.2.2.2.2.2.1
def zu_pr (s : zu_S) : Nat → Int32 := s.2.2.2.2.2.2.1
def zu_rp (s : zu_S) : Nat → Int32 := s.2.2.2.2.2.2.2.1
def zu_rq (s : zu_S) : Nat → Int32 := s.2.2.2.2.2.2.2.2
def zs_V (z : zv_T) (ad : Nat → Nat) (g : Nat → va_E) (b : Nat) (s : zu_S) : Prop := zs_U z ad g b (zb_i (zu_th s)) (zb_i (zu_sh s)) (zu_lr s) (zu_cn s) (zu_p s) (zu_q s) (zu_pr s) (zu_rp s) (zu_rq s)
/-- the catalogue at the cells 0 .. 65 -/
def zs_A (z : zv_T) (ad : Nat → Nat) (g : Nat → va_E) (ts : Nat → zu_S) : Prop := g 0 = ze_o 6 [.ref (ad 1), .ref (ad 66), .ref (ad 69), .ref (ad 101), .ref (ad 105), .ref (ad 107)] ∧ (∃ f, g 1 = ze_u z 8 f ∧ ∀ t, t < 8 → f t = some (ad (2 + 8 * t))) ∧ ∀ t, t < 8 → zs_V z ad g (2 + 8 * t) (ts t)
/-- the tune that a call names is there -/
def zp_is (ts : Nat → zu_S) (id : Int32) (t : Nat) : Prop := t < 8 ∧ id = nI t ∧ zu_th (ts t) = true
theorem zp_id {x : Int32} (h0 : ¬ x < 0) (h1 : ¬ (8 : Int32) ≤ x) : ∃ t, t < 8 ∧ x = nI t := by
  obtain ⟨j, hj, rfl⟩ := nI_of h0
  exact ⟨j, (zn_nle (a := 8) (by omega) hj).mp h1, rfl⟩
theorem zp_not {ts : Nat → zu_S} {x : Int32} (h : x < 0 ∨ (8 : Int32) ≤ x) : ∀ t, ¬ zp_is ts x t := by
  rintro t ⟨h1, h2, -⟩
  subst h2
  rcases h with h | h
  · exact nI_pos (by omega) h
  · exact (zn_nle (a := 8) (by omega) (by omega)).mpr h1 h
set_option maxHeartbeats 4000000 in
set_option maxRecDepth 100000 in
theorem ct_T_existing (l : Launch) (hst : l.stackTraces = false) (z : zv_T) (ad : Nat → Nat) (N : Nat) (g : Nat → va_E) (ts : Nat → zu_S) (id : Int32) (hN : 108 ≤ N) (hs : zs_A z ad g ts) : zx_r l mn_T_existing ws_T_existing rm_T_existing z ad N g [.ref (ad 0), .int id] 1 6 (fun k g1 => (∃ t, zp_is ts id t ∧ k = 2 + 8 * t) ∧ g1 = g) (fun E g1 => E = "java/lang/IndexOutOfBoundsException" ∧ g1 = g ∧ ∀ t, ¬ zp_is ts id t) := by
  obtain ⟨h0, ⟨f, hA, hf⟩, hts⟩ := hs
  refine zx_ofr hst pn_T_existing rfl (Nat.le_of_ble_eq_true rfl) (fun X hX C hT => ?_)
  subst hX
  show zj_J X 0 0 _ ad N g 0 [(0, .ref (ad 0)), (1, .int id)] []
  refine zj_iload_n C dc_T_existing_0 rfl 1 rfl ?_
  refine zj_if_lt C dc_T_existing_1 rfl (fun a1 => ?_) (fun a1 => ?_)
  · skip
    exact zx_throwr (names := xt_ns) C hT xt_fit_IndexOutOfBoundsException xt_nf cl_T_50 ini_IndexOutOfBoundsException xt_at_IndexOutOfBoundsException xt_bd_IndexOutOfBoundsException ins_IndexOutOfBoundsException xt_ok_IndexOutOfBoundsException dc_T_existing_22 dc_T_existing_25 dc_T_existing_26 dc_T_existing_29 ⟨(Nat.le_of_ble_eq_true rfl), (Nat.le_of_ble_eq_true rfl), (Nat.le_of_ble_eq_true rfl), (Nat.le_of_ble_eq_true rfl)⟩ ⟨(Nat.le_of_ble_eq_true rfl), (Nat.le_of_ble_eq_true rfl)⟩ ⟨rfl, rfl, zp_not (Or.inl a1)⟩
  · skip
    refine zj_iload_n C dc_T_existing_4 rfl 1 rfl ?_
    refine zj_bipush (v := 8) C dc_T_existing_5 (by decide) ?_
    refine zj_icmp_ge C dc_T_existing_7 rfl (fun a2 => ?_) (fun a2 => ?_)
    · skip
      exact zx_throwr (names := xt_ns) C hT xt_fit_IndexOutOfBoundsException xt_nf cl_T_50 ini_IndexOutOfBoundsException xt_at_IndexOutOfBoundsException xt_bd_IndexOutOfBoundsException ins_IndexOutOfBoundsException xt_ok_IndexOutOfBoundsException dc_T_existing_22 dc_T_existing_25 dc_T_existing_26 dc_T_existing_29 ⟨(Nat.le_of_ble_eq_true rfl), (Nat.le_of_ble_eq_true rfl), (Nat.le_of_ble_eq_true rfl), (Nat.le_of_ble_eq_true rfl)⟩ ⟨(Nat.le_of_ble_eq_true rfl), (Nat.le_of_ble_eq_true rfl)⟩ ⟨rfl, rfl, zp_not (Or.inr a2)⟩
    · obtain ⟨t, ht, rfl⟩ := zp_id a1 a2
      refine zj_aload_n C dc_T_existing_10 rfl 0 rfl ?_
      refine zj_get (k := 0) C (by omega) h0 rfl (by decide) fw_T fl_T_11 rfl rfl dc_T_existing_11 ?_
      refine zj_iload_n C dc_T_existing_14 rfl 1 rfl ?_
      refine zj_uald C (by omega) hA rfl ht (by decide) dc_T_existing_15 ?_
      refine zj_topv (congrArg va_rf (hf t ht)) ?_
      refine zj_get (k := 3) C (by omega) (hts t ht).1 rfl (by decide) fw_U fl_T_53 rfl rfl dc_T_existing_16 ?_
      refine zj_if_ne C dc_T_existing_19 rfl (fun a3 => ?_) (fun a3 => ?_)
      · have a3 := zb_i1 a3
        refine zj_aload_n C dc_T_existing_30 rfl 0 rfl ?_
        refine zj_get (k := 0) C (by omega) h0 rfl (by decide) fw_T fl_T_11 rfl rfl dc_T_existing_31 ?_
        refine zj_iload_n C dc_T_existing_34 rfl 1 rfl ?_
        refine zj_uald C (by omega) hA rfl ht (by decide) dc_T_existing_35 ?_
        refine zj_topv (congrArg va_rf (hf t ht)) ?_
        exact zx_aret C ⟨(Nat.le_of_ble_eq_true rfl), (Nat.le_of_ble_eq_true rfl)⟩ dc_T_existing_36 ⟨⟨t, ⟨ht, rfl, a3⟩, rfl⟩, rfl⟩
      · have a3 := zb_i0 a3
        exact zx_throwr (names := xt_ns) C hT xt_fit_IndexOutOfBoundsException xt_nf cl_T_50 ini_IndexOutOfBoundsException xt_at_IndexOutOfBoundsException xt_bd_IndexOutOfBoundsException ins_IndexOutOfBoundsException xt_ok_IndexOutOfBoundsException dc_T_existing_22 dc_T_existing_25 dc_T_existing_26 dc_T_existing_29 ⟨(Nat.le_of_ble_eq_true rfl), (Nat.le_of_ble_eq_true rfl), (Nat.le_of_ble_eq_true rfl), (Nat.le_of_ble_eq_true rfl)⟩ ⟨(Nat.le_of_ble_eq_true rfl), (Nat.le_of_ble_eq_true rfl)⟩ ⟨rfl, rfl, fun u hu => by obtain ⟨u1, u2, u3⟩ := hu; have := (nI_eq (by omega) (by omega)).mp u2; subst this; rw [a3] at u3; cases u3⟩
set_option maxHeartbeats 4000000 in
set_option maxRecDepth 100000 in
theorem ct_T_refuseUnlessPlace (l : Launch) (hst : l.stackTraces = false) (z : zv_T) (ad : Nat → Nat) (N : Nat) (g : Nat → va_E) (b : Nat) (s : zu_S) (hb : b + 7 < N) (hs : zs_V z ad g b s) (x : Int32) (hc : zu_cn s ≤ 20) : zx_v l mn_T_refuseUnlessPlace ws_T_refuseUnlessPlace rm_T_refuseUnlessPlace z ad N g [.ref (ad b), .int x] 1 6 (fun g1 => (∃ k, k < zu_cn s ∧ x = nI k) ∧ g1 = g) (fun E g1 => E = "java/lang/IndexOutOfBoundsException" ∧ g1 = g ∧ ∀ k, k < zu_cn s → ¬ x = nI k) := by
  obtain ⟨hs0, ⟨hn0, hn1, hn2⟩, hs4, hr0, hr1, hr2⟩ := hs
  refine zx_ofv hst pn_T_refuseUnlessPlace rfl (Nat.le_of_ble_eq_true rfl) (fun X hX C hT => ?_)
  subst hX
  show zj_J X 0 0 _ ad N g 0 [(0, .ref (ad b)), (1, .int x)] []
  refine zj_iload_n C dc_T_refuseUnlessPlace_0 rfl 1 rfl ?_
  refine zj_if_lt C dc_T_refuseUnlessPlace_1 rfl (fun a1 => ?_) (fun a1 => ?_)
  · skip
    exact zx_throwv (names := xt_ns) C hT xt_fit_IndexOutOfBoundsException xt_nf cl_T_50 ini_IndexOutOfBoundsException xt_at_IndexOutOfBoundsException xt_bd_IndexOutOfBoundsException ins_IndexOutOfBoundsException xt_ok_IndexOutOfBoundsException dc_T_refuseUnlessPlace_15 dc_T_refuseUnlessPlace_18 dc_T_refuseUnlessPlace_19 dc_T_refuseUnlessPlace_22 ⟨(Nat.le_of_ble_eq_true rfl), (Nat.le_of_ble_eq_true rfl), (Nat.le_of_ble_eq_true rfl), (Nat.le_of_ble_eq_true rfl)⟩ ⟨(Nat.le_of_ble_eq_true rfl), (Nat.le_of_ble_eq_true rfl)⟩ ⟨rfl, rfl, fun k hk e => by subst e; exact nI_pos (by omega) a1⟩
  · skip
    refine zj_iload_n C dc_T_refuseUnlessPlace_4 rfl 1 rfl ?_
    refine zj_aload_n C dc_T_refuseUnlessPlace_5 rfl 0 rfl ?_
    refine zj_get (k := 0) C (by omega) hs0 rfl (by decide) fw_U fl_T_81 rfl rfl dc_T_refuseUnlessPlace_6 ?_
    refine zj_get (k := 2) C (by omega) hn0 rfl (by decide) fw_N fl_T_84 rfl rfl dc_T_refuseUnlessPlace_9 ?_
    refine zj_icmp_lt C dc_T_refuseUnlessPlace_12 rfl (fun a2 => ?_) (fun a2 => ?_)
    · skip
      exact zx_vret C ⟨(Nat.le_of_ble_eq_true rfl), (Nat.le_of_ble_eq_true rfl)⟩ dc_T_refuseUnlessPlace_23 ⟨by obtain ⟨j, hj, rfl⟩ := nI_of a1; exact ⟨j, (nI_ltI hj (by omega)).mp a2, rfl⟩, rfl⟩
    · skip
      exact zx_throwv (names := xt_ns) C hT xt_fit_IndexOutOfBoundsException xt_nf cl_T_50 ini_IndexOutOfBoundsException xt_at_IndexOutOfBoundsException xt_bd_IndexOutOfBoundsException ins_IndexOutOfBoundsException xt_ok_IndexOutOfBoundsException dc_T_refuseUnlessPlace_15 dc_T_refuseUnlessPlace_18 dc_T_refuseUnlessPlace_19 dc_T_refuseUnlessPlace_22 ⟨(Nat.le_of_ble_eq_true rfl), (Nat.le_of_ble_eq_true rfl), (Nat.le_of_ble_eq_true rfl), (Nat.le_of_ble_eq_true rfl)⟩ ⟨(Nat.le_of_ble_eq_true rfl), (Nat.le_of_ble_eq_true rfl)⟩ ⟨rfl, rfl, fun k hk e => by subst e; exact a2 ((nI_ltI (by omega) (by omega)).mpr hk)⟩
set_option maxHeartbeats 4000000 in
set_option maxRecDepth 100000 in
theorem ct_T_refuseUnlessReading (l : Launch) (hst : l.stackTraces = false) (z : zv_T) (ad : Nat → Nat) (N : Nat) (g : Nat → va_E) (b : Nat) (s : zu_S) (hb : b + 7 < N) (hs : zs_V z ad g b s) (x : Int32) (hc : zu_lr s ≤ 8) : zx_v l mn_T_refuseUnlessReading ws_T_refuseUnlessReading rm_T_refuseUnlessReading z ad N g [.ref (ad b), .int x] 1 6 (fun g1 => (∃ k, k ≤ zu_lr s ∧ x = nI k) ∧ g1 = g) (fun E g1 => E = "java/lang/IndexOutOfBoundsException" ∧ g1 = g ∧ ∀ k, k ≤ zu_lr s → ¬ x = nI k) := by
  obtain ⟨hs0, ⟨hn0, hn1, hn2⟩, hs4, hr0, hr1, hr2⟩ := hs
  refine zx_ofv hst pn_T_refuseUnlessReading rfl (Nat.le_of_ble_eq_true rfl) (fun X hX C hT => ?_)
  subst hX
  show zj_J X 0 0 _ ad N g 0 [(0, .ref (ad b)), (1, .int x)] []
  refine zj_iload_n C dc_T_refuseUnlessReading_0 rfl 1 rfl ?_
  refine zj_if_lt C dc_T_refuseUnlessReading_1 rfl (fun a1 => ?_) (fun a1 => ?_)
  · skip
    exact zx_throwv (names := xt_ns) C hT xt_fit_IndexOutOfBoundsException xt_nf cl_T_50 ini_IndexOutOfBoundsException xt_at_IndexOutOfBoundsException xt_bd_IndexOutOfBoundsException ins_IndexOutOfBoundsException xt_ok_IndexOutOfBoundsException dc_T_refuseUnlessReading_12 dc_T_refuseUnlessReading_15 dc_T_refuseUnlessReading_16 dc_T_refuseUnlessReading_19 ⟨(Nat.le_of_ble_eq_true rfl), (Nat.le_of_ble_eq_true rfl), (Nat.le_of_ble_eq_true rfl), (Nat.le_of_ble_eq_true rfl)⟩ ⟨(Nat.le_of_ble_eq_true rfl), (Nat.le_of_ble_eq_true rfl)⟩ ⟨rfl, rfl, fun k hk e => by subst e; exact nI_pos (by omega) a1⟩
  · skip
    refine zj_iload_n C dc_T_refuseUnlessReading_4 rfl 1 rfl ?_
    refine zj_aload_n C dc_T_refuseUnlessReading_5 rfl 0 rfl ?_
    refine zj_get (k := 5) C (by omega) hs0 rfl (by decide) fw_U fl_T_77 rfl rfl dc_T_refuseUnlessReading_6 ?_
    refine zj_icmp_le C dc_T_refuseUnlessReading_9 rfl (fun a2 => ?_) (fun a2 => ?_)
    · skip
      exact zx_vret C ⟨(Nat.le_of_ble_eq_true rfl), (Nat.le_of_ble_eq_true rfl)⟩ dc_T_refuseUnlessReading_20 ⟨by obtain ⟨j, hj, rfl⟩ := nI_of a1; exact ⟨j, (nI_leI hj (by omega)).mp a2, rfl⟩, rfl⟩
    · skip
      exact zx_throwv (names := xt_ns) C hT xt_fit_IndexOutOfBoundsException xt_nf cl_T_50 ini_IndexOutOfBoundsException xt_at_IndexOutOfBoundsException xt_bd_IndexOutOfBoundsException ins_IndexOutOfBoundsException xt_ok_IndexOutOfBoundsException dc_T_refuseUnlessReading_12 dc_T_refuseUnlessReading_15 dc_T_refuseUnlessReading_16 dc_T_refuseUnlessReading_19 ⟨(Nat.le_of_ble_eq_true rfl), (Nat.le_of_ble_eq_true rfl), (Nat.le_of_ble_eq_true rfl), (Nat.le_of_ble_eq_true rfl)⟩ ⟨(Nat.le_of_ble_eq_true rfl), (Nat.le_of_ble_eq_true rfl)⟩ ⟨rfl, rfl, fun k hk e => by subst e; exact a2 ((nI_leI (by omega) (by omega)).mpr hk)⟩
/-- a pitch and a length that a note may have -/
def zp_no (x y : Int32) : Prop := ∃ a b : Nat, a ≤ 127 ∧ 1 ≤ b ∧ b ≤ 64 ∧ x = nI a ∧ y = nI b
theorem zp_no_f {x y : Int32} (h : x < 0 ∨ (127 : Int32) < x ∨ y < 1 ∨ (64 : Int32) < y) : ¬ zp_no x y := by
  rintro ⟨a, b, h1, h2, h3, rfl, rfl⟩
  rcases h with h | h | h | h
  · exact nI_pos (by omega) h
  · have := (nI_ltI (a := 127) (by omega) (by omega)).mp h; omega
  · have := (nI_ltI (b := 1) (by omega) (by omega)).mp h; omega
  · have := (nI_ltI (a := 64) (by omega) (by omega)).mp h; omega
theorem zn_ge1 {y : Int32} (h : ¬ y < 1) : ¬ y < 0 := by
  intro h0
  apply h
  rw [Int32.lt_iff_toInt_lt] at h0 ⊢
  have e1 : Int32.toInt 1 = 1 := by decide
  have e0 : Int32.toInt 0 = 0 := by decide
  omega
theorem zp_no_t {x y : Int32} (h1 : ¬ x < 0) (h2 : ¬ (127 : Int32) < x) (h3 : ¬ y < 1) (h4 : y ≤ 64) : zp_no x y := by
  obtain ⟨a, ha, rfl⟩ := nI_of h1
  obtain ⟨b, hb, rfl⟩ := nI_of (zn_ge1 h3)
  exact ⟨a, b, (zn_nlt (a := 127) (by omega) ha).mp h2, (zn_nlt (b := 1) hb (by omega)).mp h3, (nI_leI (b := 64) hb (by omega)).mp h4, rfl, rfl⟩
set_option maxHeartbeats 4000000 in
set_option maxRecDepth 100000 in
theorem ct_T_refuseUnlessNote (l : Launch) (hst : l.stackTraces = false) (z : zv_T) (ad : Nat → Nat) (N : Nat) (g : Nat → va_E) (x y : Int32) : zx_v l mn_T_refuseUnlessNote ws_T_refuseUnlessNote rm_T_refuseUnlessNote z ad N g [.int x, .int y] 1 6 (fun g1 => zp_no x y ∧ g1 = g) (fun E g1 => E = "java/lang/IllegalArgumentException" ∧ g1 = g ∧ ¬ zp_no x y) := by
  refine zx_ofv hst pn_T_refuseUnlessNote rfl (Nat.le_of_ble_eq_true rfl) (fun X hX C hT => ?_)
  subst hX
  show zj_J X 0 0 _ ad N g 0 [(0, .int x), (1, .int y)] []
  refine zj_iload_n C dc_T_refuseUnlessNote_0 rfl 0 rfl ?_
  refine zj_if_lt C dc_T_refuseUnlessNote_1 rfl (fun a1 => ?_) (fun a1 => ?_)
  · skip
    exact zx_throwv (names := xt_ns) C hT xt_fit_IllegalArgumentException xt_nf cl_T_114 ini_IllegalArgumentException xt_at_IllegalArgumentException xt_bd_IllegalArgumentException ins_IllegalArgumentException xt_ok_IllegalArgumentException dc_T_refuseUnlessNote_21 dc_T_refuseUnlessNote_24 dc_T_refuseUnlessNote_25 dc_T_refuseUnlessNote_28 ⟨(Nat.le_of_ble_eq_true rfl), (Nat.le_of_ble_eq_true rfl), (Nat.le_of_ble_eq_true rfl), (Nat.le_of_ble_eq_true rfl)⟩ ⟨(Nat.le_of_ble_eq_true rfl), (Nat.le_of_ble_eq_true rfl)⟩ ⟨rfl, rfl, zp_no_f (Or.inl a1)⟩
  · skip
    refine zj_iload_n C dc_T_refuseUnlessNote_4 rfl 0 rfl ?_
    refine zj_bipush (v := 127) C dc_T_refuseUnlessNote_5 (by decide) ?_
    refine zj_icmp_gt C dc_T_refuseUnlessNote_7 rfl (fun a2 => ?_) (fun a2 => ?_)
    · skip
      exact zx_throwv (names := xt_ns) C hT xt_fit_IllegalArgumentException xt_nf cl_T_114 ini_IllegalArgumentException xt_at_IllegalArgumentException xt_bd_IllegalArgumentException ins_IllegalArgumentException xt_ok_IllegalArgumentException dc_T_refuseUnlessNote_21 dc_T_refuseUnlessNote_24 dc_T_refuseUnlessNote_25 dc_T_refuseUnlessNote_28 ⟨(Nat.le_of_ble_eq_true rfl), (Nat.le_of_ble_eq_true rfl), (Nat.le_of_ble_eq_true rfl), (Nat.le_of_ble_eq_true rfl)⟩ ⟨(Nat.le_of_ble_eq_true rfl), (Nat.le_of_ble_eq_true rfl)⟩ ⟨rfl, rfl, zp_no_f (Or.inr (Or.inl a2))⟩
    · skip
      refine zj_iload_n C dc_T_refuseUnlessNote_10 rfl 1 rfl ?_
      refine zj_iconst (v := 1) C dc_T_refuseUnlessNote_11 (by decide) ?_
      refine zj_icmp_lt C dc_T_refuseUnlessNote_12 rfl (fun a3 => ?_) (fun a3 => ?_)
      · skip
        exact zx_throwv (names := xt_ns) C hT xt_fit_IllegalArgumentException xt_nf cl_T_114 ini_IllegalArgumentException xt_at_IllegalArgumentException xt_bd_IllegalArgumentException ins_IllegalArgumentException xt_ok_IllegalArgumentException dc_T_refuseUnlessNote_21 dc_T_refuseUnlessNote_24 dc_T_refuseUnlessNote_25 dc_T_refuseUnlessNote_28 ⟨(Nat.le_of_ble_eq_true rfl), (Nat.le_of_ble_eq_true rfl), (Nat.le_of_ble_eq_true rfl), (Nat.le_of_ble_eq_true rfl)⟩ ⟨(Nat.le_of_ble_eq_true rfl), (Nat.le_of_ble_eq_true rfl)⟩ ⟨rfl, rfl, zp_no_f (Or.inr (Or.inr (Or.inl a3)))⟩
      · skip
        refine zj_iload_n C dc_T_refuseUnlessNote_15 rfl 1 rfl ?_
        refine zj_bipush (v := 64) C dc_T_refuseUnlessNote_16 (by decide) ?_
        refine zj_icmp_le C dc_T_refuseUnlessNote_18 rfl (fun a4 => ?_) (fun a4 => ?_)
        · skip
          exact zx_vret C ⟨(Nat.le_of_ble_eq_true rfl), (Nat.le_of_ble_eq_true rfl)⟩ dc_T_refuseUnlessNote_29 ⟨zp_no_t a1 a2 a3 a4, rfl⟩
        · skip
          exact zx_throwv (names := xt_ns) C hT xt_fit_IllegalArgumentException xt_nf cl_T_114 ini_IllegalArgumentException xt_at_IllegalArgumentException xt_bd_IllegalArgumentException ins_IllegalArgumentException xt_ok_IllegalArgumentException dc_T_refuseUnlessNote_21 dc_T_refuseUnlessNote_24 dc_T_refuseUnlessNote_25 dc_T_refuseUnlessNote_28 ⟨(Nat.le_of_ble_eq_true rfl), (Nat.le_of_ble_eq_true rfl), (Nat.le_of_ble_eq_true rfl), (Nat.le_of_ble_eq_true rfl)⟩ ⟨(Nat.le_of_ble_eq_true rfl), (Nat.le_of_ble_eq_true rfl)⟩ ⟨rfl, rfl, zp_no_f (Or.inr (Or.inr (Or.inr (Int32.not_le.mp a4))))⟩
def zp_le19 (x : Int32) : Prop := ∃ a : Nat, 1 ≤ a ∧ a ≤ 19 ∧ x = nI a
theorem zp_le_t {x : Int32} (h1 : ¬ x < 1) (h2 : x ≤ 19) : zp_le19 x := by
  obtain ⟨b, hb, rfl⟩ := nI_of (zn_ge1 h1)
  exact ⟨b, (zn_nlt (b := 1) hb (by omega)).mp h1, (nI_leI (b := 19) hb (by omega)).mp h2, rfl⟩
set_option maxHeartbeats 4000000 in
set_option maxRecDepth 100000 in
theorem ct_T_refuseUnlessLeast (l : Launch) (hst : l.stackTraces = false) (z : zv_T) (ad : Nat → Nat) (N : Nat) (g : Nat → va_E) (x : Int32) : zx_v l mn_T_refuseUnlessLeast ws_T_refuseUnlessLeast rm_T_refuseUnlessLeast z ad N g [.int x] 1 6 (fun g1 => zp_le19 x ∧ g1 = g) (fun E g1 => E = "java/lang/IllegalArgumentException" ∧ g1 = g ∧ ¬ zp_le19 x) := by
  refine zx_ofv hst pn_T_refuseUnlessLeast rfl (Nat.le_of_ble_eq_true rfl) (fun X hX C hT => ?_)
  subst hX
  show zj_J X 0 0 _ ad N g 0 [(0, .int x)] []
  refine zj_iload_n C dc_T_refuseUnlessLeast_0 rfl 0 rfl ?_
  refine zj_iconst (v := 1) C dc_T_refuseUnlessLeast_1 (by decide) ?_
  refine zj_icmp_lt C dc_T_refuseUnlessLeast_2 rfl (fun a1 => ?_) (fun a1 => ?_)
  · skip
    exact zx_throwv (names := xt_ns) C hT xt_fit_IllegalArgumentException xt_nf cl_T_114 ini_IllegalArgumentException xt_at_IllegalArgumentException xt_bd_IllegalArgumentException ins_IllegalArgumentException xt_ok_IllegalArgumentException dc_T_refuseUnlessLeast_11 dc_T_refuseUnlessLeast_14 dc_T_refuseUnlessLeast_15 dc_T_refuseUnlessLeast_18 ⟨(Nat.le_of_ble_eq_true rfl), (Nat.le_of_ble_eq_true rfl), (Nat.le_of_ble_eq_true rfl), (Nat.le_of_ble_eq_true rfl)⟩ ⟨(Nat.le_of_ble_eq_true rfl), (Nat.le_of_ble_eq_true rfl)⟩ ⟨rfl, rfl, by rintro ⟨a, h1, h2, rfl⟩; have := (nI_ltI (b := 1) (by omega) (by omega)).mp a1; omega⟩
  · skip
    refine zj_iload_n C dc_T_refuseUnlessLeast_5 rfl 0 rfl ?_
    refine zj_bipush (v := 19) C dc_T_refuseUnlessLeast_6 (by decide) ?_
    refine zj_icmp_le C dc_T_refuseUnlessLeast_8 rfl (fun a2 => ?_) (fun a2 => ?_)
    · skip
      exact zx_vret C ⟨(Nat.le_of_ble_eq_true rfl), (Nat.le_of_ble_eq_true rfl)⟩ dc_T_refuseUnlessLeast_19 ⟨zp_le_t a1 a2, rfl⟩
    · skip
      exact zx_throwv (names := xt_ns) C hT xt_fit_IllegalArgumentException xt_nf cl_T_114 ini_IllegalArgumentException xt_at_IllegalArgumentException xt_bd_IllegalArgumentException ins_IllegalArgumentException xt_ok_IllegalArgumentException dc_T_refuseUnlessLeast_11 dc_T_refuseUnlessLeast_14 dc_T_refuseUnlessLeast_15 dc_T_refuseUnlessLeast_18 ⟨(Nat.le_of_ble_eq_true rfl), (Nat.le_of_ble_eq_true rfl), (Nat.le_of_ble_eq_true rfl), (Nat.le_of_ble_eq_true rfl)⟩ ⟨(Nat.le_of_ble_eq_true rfl), (Nat.le_of_ble_eq_true rfl)⟩ ⟨rfl, rfl, by rintro ⟨a, h1, h2, rfl⟩; exact a2 ((nI_leI (b := 19) (by omega) (by omega)).mpr h2)⟩
end ZC
