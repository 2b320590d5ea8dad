/-! THE CLAIM OUT OF ONE WALK OF THE LAW'S BODY. Your part is whole_start (and what it stands on); all else here is the same for every law, but numbers. -/
def R_law : String := "TuneFinderLaw"
def lw_P (b : Addr) (xs : List Int32) (args : Array Value) (s : State) : Prop := args = #[.ref b] ∧ s.IntsAt b xs ∧ xs.length ≤ 2560 ∧ (Jvm.Cond.and given_1 narrow_1).before args s = true
def lw_Q (_ : Array Value) (s : State) (o : Outcome) (t : State) : Prop := o = .returned (some (.int 1)) ∧ Framed s o t [] 601024 7293034
def lw_Z (below : List Frame) (a : Array Value) (s : State) : State → Prop := fun t => ∃ o, t.status = .running ∧ Ended t below o ∧ lw_Q a s o t
/-- the law's own end, with 1 on the stack, nothing written that was there before, its room as the claim has it -/
theorem lw_ret {p : Program} {l : Launch} {e : Env} {s : State} {m : MethodId} {below : List Frame} {meth : Method} {c : Code} {b : Nat} (hx : p.tables.exec = Jvm.exec) (hb : c.code = code) (hr : meth.sig.returnType = ret) (hlocks : meth.locks = false) {pc : Nat} {H : Heap} {ls : Array Slot} (hdg : decode code pc = .ok (.ireturn, 1)) : W p l e room_1 s m #[Value.ref b] below meth c H [] 601024 7293034 (lw_Z below #[Value.ref b] s) (F0 m pc ls [.int 1]) := by
  intro T hT X
  obtain ⟨fs, hret, hrun, hended, hW, hframe⟩ := X.leave (v := some (.int 1)) (hlocks := hlocks) (fun h => by rw [hr] at h; cases h)
  have hmeth' : T.vm.method? m = some meth := X.method'
  refine ⟨T.setFrames fs, ?_, .returned (some (.int 1)), hrun, hended, rfl, ⟨_, rfl⟩, hW, hframe⟩
  jvm_step X.here [X.here.top, hx, hb, hdg, hmeth', hr, ret, narrow_b1]
  (try refine ⟨rfl, ?_⟩); (try refine ⟨rfl, ?_⟩)
  first | (intro acts; rw [hret _ acts rfl rfl rfl]) | rw [hret _ _ rfl rfl rfl]
  exact Steps.refl _
/-- what holds at the law's entry: the machine, the code, the tables' words (any of lw_tbl by 'hts w (by decide +kernel)'), the script of L ints xs at the cell b, what the Statement gives of the start (any of its parts by flat_of_before) -/
def lw_At (p : Program) (s : State) (m : MethodId) (meth : Method) (c : Code) (b L : Nat) (xs : Nat → Int32) : Prop :=
  p.tables.exec = Jvm.exec ∧ c.code = code ∧ meth.sig.returnType = ret ∧ c.maxLocals = 7 ∧ s.vm.findClass R_law = some m.cls ∧ (∀ w ∈ lw_tbl, w.before #[Value.ref b] s = true) ∧ va_X b L xs s s.heap ∧ b < s.heap.size ∧ meth.locks = false ∧ (Jvm.Cond.and given_1 narrow_1).before #[Value.ref b] s = true
theorem zs_F_fr {z : zv_T} {ad : Nat → Nat} {g g2 : Nat → va_E} {as tot kp : Nat} {pi : Nat → Nat} {it : Nat → zs_It} (h : zs_F z ad g as tot kp pi it) (hf : ∀ j, 69 ≤ j → j ≤ 100 → g2 j = g j) : zs_F z ad g2 as tot kp pi it := by
  obtain ⟨h1, ⟨f, h2, h3⟩, h4, h5, h6⟩ := h
  exact ⟨(hf 69 (by omega) (by omega)).trans h1, ⟨f, (hf 70 (by omega) (by omega)).trans h2, h3⟩, h4, h5, fun m m1 m2 => (hf m (by omega) (by omega)).trans (h6 m m1 m2)⟩
section ZST
theorem zs_A_ad {z : zv_T} {ad a : Nat → Nat} {g : Nat → va_E} {ts : Nat → zu_S} (h : zs_A z ad g ts) (e : ∀ j, j < 108 → ad j = a j) : zs_A z a g ts := by
  obtain ⟨h0, ⟨f, hA, hf⟩, hts⟩ := h
  refine ⟨?_, ⟨f, hA, fun t ht => by rw [hf t ht, e _ (by omega)]⟩, fun t ht => zs_V_ad (fun j h1 h2 => e j (by omega)) (hts t ht)⟩
  rw [h0, e 1 (by omega), e 66 (by omega), e 69 (by omega), e 101 (by omega), e 105 (by omega), e 107 (by omega)]
theorem zs_F_ad {z : zv_T} {ad a : Nat → Nat} {g : Nat → va_E} {as tot kp : Nat} {pi : Nat → Nat} {it : Nat → zs_It} (h : zs_F z ad g as tot kp pi it) (e : ∀ j, j < 108 → ad j = a j) : zs_F z a g as tot kp pi it := by
  obtain ⟨h1, ⟨f, h2, h3⟩, h4, h5, h6⟩ := h
  refine ⟨?_, ⟨f, h2, fun j hj => by rw [h3 j hj, e _ (by have := h4 j hj; omega)]⟩, h4, h5, h6⟩
  rw [h1, e 70 (by omega)]
theorem zs_R_ad {z : zv_T} {ad a : Nat → Nat} {g : Nat → va_E} {hh ee mo lo : Nat} {wt hr bh : Nat → Int32} (h : zs_R z ad g hh ee mo lo wt hr bh) (e : ∀ j, j < 108 → ad j = a j) : zs_R z a g hh ee mo lo wt hr bh := by
  obtain ⟨h1, h2, h3, h4, h5⟩ := h
  refine ⟨?_, h2, h3, h4, h5⟩
  rw [h1, e 102 (by omega), e hh (by omega), e ee (by omega)]
theorem zs_W_ad {z : zv_T} {ad a : Nat → Nat} {g : Nat → va_E} {a1 a2 a3 : Int32} {cm : Nat → Int32} (h : zs_W z ad g a1 a2 a3 cm) (e : ∀ j, j < 108 → ad j = a j) : zs_W z a g a1 a2 a3 cm := by
  refine ⟨?_, h.2⟩
  rw [h.1, e 106 (by omega)]
theorem zs_M_ad {z : zv_T} {ad a : Nat → Nat} {g : Nat → va_E} {c as fo kp : Int32} {x : Nat → Nat → Int32} (h : zs_M z ad g c as fo kp x) (e : ∀ j, j < 126 → ad j = a j) : zs_M z a g c as fo kp x := by
  refine ⟨?_, h.2⟩
  rw [h.1, e 109 (by omega), e 110 (by omega), e 111 (by omega), e 112 (by omega), e 113 (by omega), e 114 (by omega), e 115 (by omega), e 116 (by omega), e 117 (by omega), e 118 (by omega), e 119 (by omega), e 120 (by omega), e 121 (by omega), e 122 (by omega), e 123 (by omega), e 124 (by omega), e 125 (by omega)]
/-- a new object of the class, a new one of the model: they tell the same -/
theorem zz_0 {z : zv_T} {ad : Nat → Nat} {g : Nat → va_E} (h1 : zs_A z ad g (fun _ => zu_0)) (h2 : zs_N z ad g 66 8 0 (fun _ => 0) (fun _ => 0)) (h3 : zs_F z ad g 0 0 0 (fun j => 71 + j) (fun _ => (0, 0, 0, 0, 0))) (h4 : zs_R z ad g 103 104 0 0 (fun _ => 0) (fun _ => 0) (fun _ => 0)) (h5 : zs_W z ad g 0 0 0 (fun _ => 0)) (h6 : g 107 = ze_i z 8 (fun _ => 0)) (hM : zs_M z ad g 0 0 0 0 (fun _ _ => 0)) : zz_G z ad g 0 := by
  refine ⟨fun _ => zu_0, 0, fun _ => 0, fun _ => 0, 0, [], 0, 0, fun _ _ => 0, fun _ => false, fun _ => 0, fun _ => 0, ⟨h1, h2, ⟨fun j => 71 + j, fun _ => (0, 0, 0, 0, 0), fun j => j, h3, zr_0 _ _ _, fun _ => zq_f0 _, fun j hj => absurd hj (Nat.not_lt_zero j)⟩, ⟨103, 104, 0, 0, _, _, _, h4⟩, ⟨0, 0, 0, _, h5⟩, _, h6⟩, by rw [nI_0]; exact hM, ⟨fun t _ => ⟨rfl, rfl, nI_0.symm, nI_0.symm, Nat.zero_le _, Nat.zero_le _, fun h => (by cases h)⟩, fun t _ => ⟨rfl, by show 0 ≤ 20; omega, by show 0 ≤ 8; omega, fun j hj => absurd hj (Nat.not_lt_zero j), fun h => (by cases h)⟩⟩, ⟨rfl, rfl, by omega, fun i hi => absurd hi (Nat.not_lt_zero i)⟩, ⟨fun x hx => (by cases hx), (by decide), Or.inl rfl, nI_0.symm, fun j => j, zr_0 _ _ _, fun j hj => absurd hj (Nat.not_lt_zero j)⟩⟩
end ZST
set_option maxHeartbeats 4000000 in
set_option maxRecDepth 100000 in
theorem whole_start {p : Program} {e : Env} {s : State} {m : MethodId} {below : List Frame} {meth : Method} {c : Code} (l : Launch) (hst : l.stackTraces = false) {b L : Nat} {xs : Nat → Int32} (hL : L ≤ 2560) (C0 : lw_At p s m meth c b L xs) : W p l e room_1 s m #[Value.ref b] below meth c s.heap [] 0 0 (lw_Z below #[Value.ref b] s) (entryFrame m ([Value.ref b] : List Value).toArray 7) := by
  obtain ⟨hx, hb, hr, hml, hown, hts, hX, hbl, hlk, hgv⟩ := C0
  have hts9 : ∀ w ∈ zt_tbl, w.before #[Value.ref b] s = true := fun w hw => hts w (List.mem_filter.mp hw).1
  obtain ⟨cF, iF, kF⟩ := u_known (n := 4) hts9 fw_F (hts9 _ ins_F)
  obtain ⟨cR, iR, kR⟩ := u_known (n := 5) hts9 fw_R (hts9 _ ins_R)
  obtain ⟨cN, iN, kN⟩ := u_known (n := 3) hts9 fw_N (hts9 _ ins_N)
  obtain ⟨cP, iP, kP⟩ := u_known (n := 5) hts9 fw_P (hts9 _ ins_P)
  obtain ⟨cW, iW, kW⟩ := u_known (n := 4) hts9 fw_W (hts9 _ ins_W)
  obtain ⟨cU, iU, kU⟩ := u_known (n := 6) hts9 fw_U (hts9 _ ins_U)
  obtain ⟨cT, iT, kT⟩ := u_known (n := 6) hts9 fw_T (hts9 _ ins_T)
  obtain ⟨cM, iM, kM⟩ := u_known (n := 21) hts9 fw_M (hts9 _ ins_M)
  obtain ⟨aI, kI, mI, fI, gI, eI⟩ := Cond.arrayClass_spec (hts9 _ ac_int)
  obtain ⟨aZ, kZ, mZ, fZ, gZ, eZ⟩ := Cond.arrayClass_spec (hts9 _ ac_boolean)
  obtain ⟨aL, kL, mL, fL, gL, eL⟩ := Cond.arrayClass_spec (hts9 _ ac_long)
  have hoU : (Cond.arrayOver (.object cn_U)).before #[Value.ref b] s = true := hts _ (List.mem_append_right _ (List.mem_of_getElem? (i := 26) (by decide +kernel)))
  have hoP : (Cond.arrayOver (.object cn_P)).before #[Value.ref b] s = true := hts _ (List.mem_append_right _ (List.mem_of_getElem? (i := 88) (by decide +kernel)))
  obtain ⟨mU, aU, kaU, d1, -, d3, d4, d5⟩ := Cond.arrayOver_spec hoU
  obtain ⟨mP, aP, kaP, q1, -, q3, q4, q5⟩ := Cond.arrayOver_spec hoP
  obtain ⟨z, hz⟩ : ∃ z : zv_T, z = ((fun k => match k with | 0 => cF | 1 => cR | 2 => cN | 3 => cP | 4 => cW | 5 => cU | 6 => cT | _ => cM), (fun k => match k with | 0 => iF | 1 => iR | 2 => iN | 3 => iP | 4 => iW | 5 => iU | 6 => iT | _ => iM), aI, aZ, aL, aU, aP, fun q => s.heap.size ≤ q) := ⟨_, rfl⟩
  have hK : va_K (zv_D z) zc_l (zv_t z) s := by
    subst hz
    refine ⟨fun k q hq => ?_, fun k q hk => ?_⟩
    · match k, hq with
      | 0, hq => cases hq; exact kF
      | 1, hq => cases hq; exact kR
      | 2, hq => cases hq; exact kN
      | 3, hq => cases hq; exact kP
      | 4, hq => cases hq; exact kW
      | 5, hq => cases hq; exact kU
      | 6, hq => cases hq; exact kT
      | 7, hq => cases hq; exact kM
      | k + 8, hq => cases hq
    · match k, hk with
      | 0, hk => cases hk; exact ⟨fun n v => ⟨(fun k h => by cases h), kI, gI, mI, eI⟩, fI⟩
      | 1, hk => cases hk; exact ⟨fun n v => ⟨(fun k h => by cases h), kZ, gZ, mZ, eZ⟩, fZ⟩
      | 2, hk => cases hk; exact ⟨fun n v => ⟨(fun k h => by cases h), kL, gL, mL, eL⟩, fL⟩
      | 3, hk => cases hk; exact ⟨fun n v => ⟨(fun k h => by cases h), kaU, d3, mU, d4⟩, kaU, mU, d3, d4, d1, d5⟩
      | 4, hk => cases hk; exact ⟨fun n v => ⟨(fun k h => by cases h), kaP, q3, mP, q4⟩, kaP, mP, q3, q4, q1, q5⟩
      | k + 5, hk => cases hk
  have hAz : zv_A z = fun q => s.heap.size ≤ q := by rw [hz]; rfl
  have hg := flat_of_before _ hgv
  have hsz : ∀ a : Nat, a < s.heap.size → ¬ zv_A z a := fun a ha h => by rw [hAz] at h; exact absurd ha (Nat.not_lt.mpr h)
  have hU : vx_Zq Bundle.tN "UNASSIGNED_STACK" Bundle.steD (zv_A z) s s.heap := vx_Zqof (hts _ (List.mem_append_right _ (List.mem_of_getElem? (i := 238) (by decide +kernel)))) (hts9 _ ini_Throwable) (hg _ (by decide +kernel)) hsz
  have hN : vx_Zq Bundle.tN "SUPPRESSED_SENTINEL" Bundle.listD (zv_A z) s s.heap := vx_Zqof (hts _ (List.mem_append_right _ (List.mem_of_getElem? (i := 240) (by decide +kernel)))) (hts9 _ ini_Throwable) (hg _ (by decide +kernel)) hsz
  have hNb : zb_N s := ⟨va_AO.of hoU, va_AO.of hoP, va_Nc.of (args := #[Value.ref b]) (hg _ (by decide +kernel)), va_Nc.of (args := #[Value.ref b]) (hg _ (by decide +kernel)), va_Nc.of (args := #[Value.ref b]) (hg _ (by decide +kernel)), fun x hx9 => by
    simp only [zb_ds, List.mem_cons, List.not_mem_nil, or_false] at hx9
    rcases hx9 with rfl | rfl | rfl
    · exact va_Nw.of rfl (hts _ (List.mem_append_right _ (List.mem_of_getElem? (i := 214) (by decide +kernel))))
    · exact va_Nw.of rfl (hts _ (List.mem_append_right _ (List.mem_of_getElem? (i := 216) (by decide +kernel))))
    · exact va_Nw.of rfl (hts _ (List.mem_append_right _ (List.mem_of_getElem? (i := 218) (by decide +kernel))))⟩
  obtain ⟨X, hX9⟩ : ∃ X : zj_T, X = (p, l, e, room_1, s, m, #[Value.ref b], below, meth, c, 7, z) := ⟨_, rfl⟩
  have C : zj_C X z code 7 cn_L room_1 ret := by
    subst hX9
    exact ⟨⟨hx, hb, hml, hown, hts9⟩, hK, fun q h => by rw [hAz]; exact h, hlk, rfl, hr, rfl, rfl, hU, hN, hst, hNb⟩
  have hLn : zj_Ln X := by
    subst hX9
    exact va_Nw.of (w := .methodLinkNest cn_F 17 mn_P_init "TuneFinder") rfl (hts _ (List.mem_append_right _ (List.mem_of_getElem? (i := 90) (by decide +kernel))))
  have hXs : zl_X X b L xs := by
    subst hX9
    exact ⟨hX, hbl, hsz b hbl⟩
  have hst9 : X.2.1.stackTraces = false := by subst hX9; exact hst
  obtain ⟨Q, hQ⟩ : ∃ Q, Q = lw_Z below #[Value.ref b] s := ⟨_, rfl⟩
  have hend : ∀ (ad : Nat → Nat) (g : Nat → va_E) (i c0 s0 : Nat), c0 ≤ 601024 → s0 ≤ 7293034 → zj_J X c0 s0 Q ad 127 g 1233 [(4, .int (nI i)), (0, .ref b), (1, .ref (ad 0)), (2, .ref (ad 108)), (3, .ref (ad 126))] [] := by
    intro ad g i c0 s0 h1 h2
    refine zj_iconst (v := 1) C dc_L_law_1233 (by decide) ?_
    subst hX9
    subst hQ
    intro H locs ls hl hP hD hS
    refine va_forget (fun q hq => ?_) (W.widen h1 h2 (lw_ret hx hb hr hlk dc_L_law_1234))
    have h9 := hS.2.2 q hq
    rw [hAz] at h9
    exact h9
  have hJ : zj_J X 0 0 Q (fun _ => 0) 0 (fun _ => ze_o 0 []) 0 [(0, .ref b)] [] := by
    refine zj_new (ci := 6) C [.null, .null, .null, .null, .null, .null] rfl fw_T fy_T fk_T cl_L_8 ins_T ini_T df_T ⟨by show _ ≤ 601024; omega, by show _ ≤ 7293034; omega⟩ dc_L_law_0 (fun a9 _ => ?_)
    refine zj_dup C dc_L_law_3 rfl ?_
    refine zj_Id (i := 0) C hLn (ct_T_init _ hst9 z a9 _ (va_up_self _ _ _)) (zt_C wk_T_init) rfl rfl rfl ini_T ml_L_69 im_T_init rfl hd_T_init ⟨(Nat.le_of_ble_eq_true rfl), (Nat.le_of_ble_eq_true rfl)⟩ rfl rfl (Nat.le_of_ble_eq_true rfl) ⟨by show _ ≤ 601024; omega, by show _ ≤ 7293034; omega⟩ dc_L_law_4 (fun a0 M0 g0 h0 => ?_)
    obtain ⟨rfl, e0, t1, t2, t3, t4, t5, t6⟩ := h0
    refine zj_astore_n C dc_L_law_7 rfl (by decide) rfl ?_
    refine zj_new (ci := 7) C [.int 0, .null, .null, .null, .null, .null, .null, .int 0, .null, .null, .int 0, .null, .null, .null, .null, .null, .int 0, .null, .null, .null, .null] rfl fw_M fy_M fk_M cl_L_70 ins_M ini_M df_M ⟨by show _ ≤ 601024; omega, by show _ ≤ 7293034; omega⟩ dc_L_law_8 (fun a1 e1 => ?_)
    refine zj_dup C dc_L_law_11 rfl ?_
    refine zj_Ic (i := 108) C (ct_M_init _ hst9 z a1 _ (va_up_self _ _ _)) (zt_C wk_M_init) rfl rfl rfl ini_M ml_L_72 im_M_init rfl hd_M_init ⟨(Nat.le_of_ble_eq_true rfl), (Nat.le_of_ble_eq_true rfl)⟩ rfl rfl (Nat.le_of_ble_eq_true rfl) ⟨by show _ ≤ 601024; omega, by show _ ≤ 7293034; omega⟩ dc_L_law_12 (fun a2 M2 g2 h2 => ?_)
    obtain ⟨rfl, e2, f2, hM2⟩ := h2
    refine zj_astore_n C dc_L_law_15 rfl (by decide) rfl ?_
    refine zj_iconst (v := 1) C dc_L_law_16 (by decide) ?_
    refine zj_newl (k := 1) C rfl ac_long rfl (by decide) ⟨by show _ ≤ 601024; omega, by show _ ≤ 7293034; omega⟩ dc_L_law_17 (fun a3 e3 => ?_)
    refine zj_astore_n C dc_L_law_19 rfl (by decide) rfl ?_
    refine zj_iconst (v := 0) C dc_L_law_20 (by decide) ?_
    refine zj_istore C dc_L_law_21 (by decide) rfl ?_
    have ee : ∀ j, j < 108 → a0 j = a3 j := fun j hj => ((e1 j hj).trans (e2 j (by omega))).trans (e3 j (by omega))
    have eM : ∀ j, j < 126 → a2 j = a3 j := fun j hj => e3 j hj
    have q0 : a9 0 = a3 0 := (e0 0 (by omega)).trans (ee 0 (by omega))
    have q8 : a1 108 = a3 108 := (e2 108 (by omega)).trans (eM 108 (by omega))
    refine zj_loc (L' := [(4, .int (nI 0)), (0, .ref b), (1, .ref (a3 0)), (2, .ref (a3 108)), (3, .ref (a3 126))]) [0, 4, 3, 2, 1] (by rw [← q0, ← q8]; rfl) ?_
    have fr : ∀ j, j < 108 → va_up g2 126 (ze_l z 1 (fun _ => 0)) j = g0 j := fun j hj => (va_up_ne _ _ (by omega)).trans ((f2 j hj).trans (va_up_ne _ _ (by omega)))
    have h9 : zz_G z a3 (va_up g2 126 (ze_l z 1 (fun _ => 0))) 0 := zz_0 (zs_A_fr (zs_A_ad t1 ee) (fun j hj => fr j (by omega))) (zs_N_fr (zs_N_ad (ee _ (by omega)) (ee _ (by omega)) t2) (fun j h1 h2 => fr j (by omega))) (zs_F_fr (zs_F_ad t3 ee) (fun j h1 h2 => fr j (by omega))) (zs_R_fr (zs_R_ad t4 ee) (fun j h1 h2 => fr j (by omega))) (zs_W_fr (zs_W_ad t5 ee) (fun j h1 h2 => fr j (by omega))) ((fr 107 (by omega)).trans t6) (zs_M_fr (zs_M_ad hM2 eM) (fun j h1 h2 => va_up_ne _ _ (by omega)))
    exact zl_loop C hXs hst9 hL (fun g i c0 s0 h1 h2 => hend a3 g i c0 s0 h1 h2) 513 0 _ _ _ 0 _ (by omega) (by decide) (by decide) (by omega) h9 (va_up_self _ _ _)
  subst hX9
  subst hQ
  have h := hJ s.heap [] _ (lv_entry [Value.ref b] (Nat.le_of_ble_eq_true rfl)) (fun k q h => by simp [zw_W] at h) ⟨fun i j p q h => by simp [zw_W] at h, fun k q h => by simp [zw_W] at h⟩ va_S.rf
  rw [lg_entry_eq]
  exact h
set_option maxHeartbeats 4000000 in
theorem lw_walk (l : Launch) (hst : l.stackTraces = false) (b : Addr) (xs : List Int32) : MetFree l x (headSpec (Jvm.Cond.code x code maxLocals ret :: tables_1) room_1) (lw_P b xs) (fun _ _ _ _ _ => True) lw_Q := by
  refine MetFree.of_bodyS (code := code) (maxLocals := maxLocals) (ret := ret) (by decide) ?_ ?_
  · intro args s m h hn
    obtain ⟨meth, c, h1, h2, h3, h4, h5, h6, -, -⟩ := Cond.code_spec hn (atoms_spec (ws := Jvm.Cond.code x code maxLocals ret :: tables_1) h _ List.mem_cons_self)
    exact ⟨meth, c, h1, h2, h3, h4, h5, h6⟩
  · intro p e s m args below meth c s₁ B hml0 hP _
    obtain ⟨rfl, hx, hbd, hgv⟩ := hP
    obtain ⟨scr, harrAt, hlist, hof, hsmall⟩ := hx
    obtain ⟨hcb, hkn, -, -⟩ := State.arrayAt?_spec harrAt
    have hown : s.vm.findClass R_law = some m.cls := findClass_of_methodNamed B.named
    have hts0 : ∀ c ∈ (Jvm.Cond.code x code maxLocals ret :: tables_1), c.before #[Value.ref b] s = true := atoms_spec (ws := Jvm.Cond.code x code maxLocals ret :: tables_1) B.pre
    have hts : ∀ w ∈ lw_tbl, w.before #[Value.ref b] s = true := k2_hts_sels lw_privs (fun w hw => hts0 w (List.mem_cons_of_mem _ hw)) lw_privs_ok
    have hml : c.maxLocals = 7 := B.maxLocals_eq (hts0 _ List.mem_cons_self)
    have X₀ : Stand p l e room_1 s m #[Value.ref b] below meth c s₁ [] 0 0 := Stand.of_body B
    have hh0 : s₁.heap = s.heap := by rw [B.state]; rfl
    have hsz : scr.slots.size = xs.length := by rw [← Array.length_toList, hlist, List.length_map]
    have hval : ∀ j : Nat, j < xs.length → scr.slots[j]? = some (.int (xs.getD j 0)) := fun j hj => by
      rw [← Array.getElem?_toList, hlist]
      simp [hj]
    have hbl : b < s.heap.size := (Array.getElem?_eq_some_iff.mp hcb).1
    have hX : va_X b xs.length (fun j => xs.getD j 0) s s.heap := ⟨scr, hcb, hof, hkn, hsz, hval⟩
    have K : W p l e room_1 s m #[Value.ref b] below meth c s₁.heap [] 0 0 (lw_Z below #[Value.ref b] s) (entryFrame m ([Value.ref b] : List Value).toArray 7) := by
      rw [hh0]
      exact whole_start l hst hbd ⟨B.exec, B.bytes, B.returns, hml, hown, hts, hX, hbl, B.notSynchronized, hgv⟩
    obtain ⟨t, a1, o, b1, b2, b3⟩ := K s₁ rfl X₀
    exact ⟨t, o, a1, b1, b2, b3⟩
theorem lw_pre_spec {args : Array Value} {s : State} (h : (Jvm.Cond.and given_1 narrow_1).before args s = true) (hr : rest_1_c.before args s = true) : ∃ (b : Addr) (xs : List Int32), lw_P b xs args s := by
  have hs := flat_of_before _ h
  have hq := flat_of_before _ hr
  have hc : (Cond.count 1).before args s = true := hs _ (by decide +kernel)
  have harr : (Cond.arrayOf (.arg 0) .int).before args s = true := hs _ (by decide +kernel)
  have hle : (Cond.le (.length (.arg 0)) (.int 2560)).before args s = true := hs _ (by decide +kernel)
  have hlen : (Cond.isInt (.length (.arg 0))).before args s = true := hq _ (by decide +kernel)
  have hall : (Cond.all (.arg 0) (.isInt (.elem (.arg 0) (.index 0)))).before args s = true := hq _ (by decide +kernel)
  obtain ⟨b, xs, hb, hx⟩ := State.ints_of_pre rfl harr hlen hall
  have hsm : xs.length < 2 ^ 31 := hx.choose_spec.2.2.2
  have hev : (Term.length (.arg 0)).eval args s none [] s = some (.int xs.length.toInt32) := hx.length_eval hb
  have hv := Cond.le_ints hev (show (Term.int 2560).eval args s none [] s = some (.int 2560) from rfl)
  have hd : xs.length.toInt32 ≤ 2560 := by
    simpa [Cond.before, Cond.holds, hv] using hle
  have hN : xs.length ≤ 2560 := (Int32.ofNat_le_ofNat hsm (by decide)).mp (show Int32.ofNat xs.length ≤ Int32.ofNat 2560 from hd)
  exact ⟨b, xs, Cond.one_arg hc (show args[0]? = some (.ref b) from hb), hx, hN, h⟩
theorem lw_comes (l : Launch) (hst : l.stackTraces = false) : Comes l x (Jvm.Cond.code x code maxLocals ret :: tables_1) room_1 (fun tb e args s => Calls_1 tb e args s ∧ rest_1 tb e args s ∧ Pre_1 tb e args s)
    (fun _ _ args s o t => lw_Q args s o t) := by
  intro p e ha hc hk s m args below hf hfit hheap happ hpre
  obtain ⟨b, xs, hP⟩ := lw_pre_spec hpre.2.2 hpre.2.1
  obtain ⟨k, o, h1, h2, h3, hQ⟩ := lw_walk l hst b xs p e ha hc hk s m args below hf ((Spec.applies_iff_loose hf).mp happ).1 hP trivial
  exact ⟨k, o, h1, h2, h3, hQ⟩
theorem lw_frame {s t : State} {o : Outcome} {args : Array Value} (h : Framed s o t [] 601024 7293034) :
    Framed s o t (fieldLocs frame_1_writes args s ++ arrayLocs frame_1_arrays args s ++ staticLocs frame_1_statics s) 601024 7293034 := h
theorem lw_limb (L : Cond) (hL : ∀ (args : Array Value) (s t : State), L.after args s (.returned (some (.int 1))) t = true) :
    ArmFor flags0 classFile x code maxLocals ret World_1 tables_1 room_1 Calls_1 rest_1 Pre_1
      (fun tb e a s o t => postC L tb e a s o t ∧ Framed s o t (fieldLocs frame_1_writes a s ++ arrayLocs frame_1_arrays a s ++ staticLocs frame_1_statics s) 601024 7293034) := by
  intro l hfl _ _ p e ha hc hk s m args below hf hfit hheap happ hpre
  have hst : l.stackTraces = false := by unfold Launch.stackTraces; rw [hfl]; decide +kernel
  obtain ⟨k, o, h1, h2, h3, rfl, hF⟩ := lw_comes l hst p e ha hc hk s m args below hf hfit hheap happ hpre
  exact ⟨k, _, h1, h2, h3, hL args s _, lw_frame hF⟩
theorem i_vc : Claimed_1_1 ∧ Claimed_1_2 := ⟨lw_limb limb_1_1 (fun args s t => by simp [limb_1_1, Cond.after, Cond.holds, Cond.value]), lw_limb limb_1_2 (fun args s t => Cond.after_iff.mpr (by
  first | (rw [show limb_1_2 = Cond.eq .result (.int 1) from rfl, Cond.eq_ints (x := 1) (y := 1) rfl rfl]; simp; done) | (simp [limb_1_2, Cond.value, Term.eval]; done)))⟩
