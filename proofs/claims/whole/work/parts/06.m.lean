section ZM
/-- the world as a state has it -/
def zj_B (z : zv_T) (ad : Nat → Nat) (N : Nat) (g : Nat → va_E) (U : State) : Prop :=
  va_P (zv_D z) zc_l (zw_W ad N g) U.heap ∧ va_K (zv_D z) zc_l (zv_t z) U ∧ va_D (zv_A z) (zw_W ad N g) ∧ (∀ q, U.heap.size ≤ q → zv_A z q) ∧ vx_Zq Bundle.tN "UNASSIGNED_STACK" Bundle.steD (zv_A z) U U.heap ∧ vx_Zq Bundle.tN "SUPPRESSED_SENTINEL" Bundle.listD (zv_A z) U U.heap ∧ zb_N U
theorem zb_end {z : zv_T} {ad : Nat → Nat} {N : Nat} {g : Nat → va_E} {s t : State} {H : Heap} {locs : List Loc} (hK : va_K (zv_D z) zc_l (zv_t z) s) (hA : ∀ q, s.heap.size ≤ q → zv_A z q) (hU : vx_Zq Bundle.tN "UNASSIGNED_STACK" Bundle.steD (zv_A z) s s.heap) (hN : vx_Zq Bundle.tN "SUPPRESSED_SENTINEL" Bundle.listD (zv_A z) s s.heap) (hNb : zb_N s)
    (hP : va_P (zv_D z) zc_l (zw_W ad N g) H) (hD : va_D (zv_A z) (zw_W ad N g)) (hS : va_S (zv_A z) s.heap H locs) (ht : t.heap = H) (hvm : s.vm.Alike t.vm) : zj_B z ad N g t := by
  subst ht
  exact ⟨hP, va_K.moved hvm hK, hD, fun q h => hA q (Nat.le_trans hS.1 h), vx_Zq.moved hvm (hU.kept hS.2.1), vx_Zq.moved hvm (hN.kept hS.2.1), zb_N.moved hvm hNb⟩
theorem zb_blind {z : zv_T} {ad : Nat → Nat} {N : Nat} {g : Nat → va_E} {av : List Value} : FrameBlind (va_Pc av (zj_B z ad N g)) := by
  intro a U g' mk h
  obtain ⟨h0, hP, hK, hD, hA, hU, hN, hNb⟩ := h
  exact ⟨h0, hP, va_K.moved (u := U) (U := U.calling g' mk a) (Vm.Alike.refl U.vm) hK, hD, hA, vx_Zq.moved (u := U) (U := U.calling g' mk a) (Vm.Alike.refl U.vm) hU, vx_Zq.moved (u := U) (U := U.calling g' mk a) (Vm.Alike.refl U.vm) hN, zb_N.moved (u := U) (U := U.calling g' mk a) (Vm.Alike.refl U.vm) hNb⟩
/-- contracts: an int, nothing, a cell of the world; none is made -/
def zm_i (l : Launch) (y : MethodName) (ws : List Cond) (rm : Room) (z : zv_T) (ad : Nat → Nat) (N : Nat) (g : Nat → va_E) (av : List Value) (post : Int32 → (Nat → va_E) → Prop) : Prop :=
  Met l y ws rm (va_Pc av (zj_B z ad N g)) (va_Qi post (fun g' t => zj_B z ad N g' t) (zv_A z)) 0 0 (zv_A z)
def zm_v (l : Launch) (y : MethodName) (ws : List Cond) (rm : Room) (z : zv_T) (ad : Nat → Nat) (N : Nat) (g : Nat → va_E) (av : List Value) (post : (Nat → va_E) → Prop) : Prop :=
  Met l y ws rm (va_Pc av (zj_B z ad N g)) (va_Qv post (fun g' t => zj_B z ad N g' t) (zv_A z)) 0 0 (zv_A z)
def zm_r (l : Launch) (y : MethodName) (ws : List Cond) (rm : Room) (z : zv_T) (ad : Nat → Nat) (N : Nat) (g : Nat → va_E) (av : List Value) (post : Nat → (Nat → va_E) → Prop) : Prop :=
  Met l y ws rm (va_Pc av (zj_B z ad N g)) (va_Qr (fun u : Nat × (Nat → va_E) => post u.1 u.2) (fun u a t => a = ad u.1 ∧ zj_B z ad N u.2 t) (zv_A z)) 0 0 (zv_A z)
/-- a constructor: cells come -/
def zm_c (l : Launch) (y : MethodName) (ws : List Cond) (rm : Room) (z : zv_T) (ad : Nat → Nat) (N : Nat) (g : Nat → va_E) (av : List Value) (mc ms : Nat) (post : (Nat → Nat) → Nat → (Nat → va_E) → Prop) : Prop :=
  Met l y ws rm (va_Pc av (zj_B z ad N g)) (va_Qv (fun u : (Nat → Nat) × Nat × (Nat → va_E) => post u.1 u.2.1 u.2.2) (fun u t => zj_B z u.1 u.2.1 u.2.2 t) (zv_A z)) mc ms (zv_A z)
def zj_Qi (X : zj_T) (mc ms : Nat) (ad : Nat → Nat) (N : Nat) (post : Int32 → (Nat → va_E) → Prop) : State → Prop := match X with
  | (_, _, _, _, s, _, args, below, _, _, _, z) => MQ below (va_Qi post (fun g' t => zj_B z ad N g' t) (zv_A z)) args s mc ms (zv_A z)
def zj_Qv (X : zj_T) (mc ms : Nat) (ad : Nat → Nat) (N : Nat) (post : (Nat → va_E) → Prop) : State → Prop := match X with
  | (_, _, _, _, s, _, args, below, _, _, _, z) => MQ below (va_Qv post (fun g' t => zj_B z ad N g' t) (zv_A z)) args s mc ms (zv_A z)
def zj_Qr (X : zj_T) (mc ms : Nat) (ad : Nat → Nat) (N : Nat) (post : Nat → (Nat → va_E) → Prop) : State → Prop := match X with
  | (_, _, _, _, s, _, args, below, _, _, _, z) => MQ below (va_Qr (fun u : Nat × (Nat → va_E) => post u.1 u.2) (fun u a t => a = ad u.1 ∧ zj_B z ad N u.2 t) (zv_A z)) args s mc ms (zv_A z)
def zj_Qc (X : zj_T) (mc ms : Nat) (post : (Nat → Nat) → Nat → (Nat → va_E) → Prop) : State → Prop := match X with
  | (_, _, _, _, s, _, args, below, _, _, _, z) => MQ below (va_Qv (fun u : (Nat → Nat) × Nat × (Nat → va_E) => post u.1 u.2.1 u.2.2) (fun u t => zj_B z u.1 u.2.1 u.2.2 t) (zv_A z)) args s mc ms (zv_A z)
theorem zj_iret {X : zj_T} {z : zv_T} {cc : ByteArray} {nL : Nat} {own : String} {rm : Room} (C : zj_C X z cc nL own rm (some .int)) {mc ms : Nat} {ad : Nat → Nat} {N : Nat} {g : Nat → va_E} {pc : Nat} {L : List (Nat × Value)} {x : Int32} {post : Int32 → (Nat → va_E) → Prop} (d : decode cc pc = .ok (.ireturn, 1)) (h : post x g) : zj_J X mc ms (zj_Qi X mc ms ad N post) ad N g pc L [.int x] := by
  obtain ⟨p, l, e, R, s, m, args, below, meth, c, nL', z'⟩ := X
  obtain ⟨⟨hx, hb, hml, hown, hts⟩, hK, hA, hlk, rfl, hr, rfl, rfl, hU, hN, htr, hNb⟩ := C
  intro H locs ls hl hP hD hS
  exact W.iret hx hb hr (fun t ht hW => ⟨⟨x, g, rfl, h, zb_end hK hA hU hN hNb hP hD hS ht hW.alike⟩, hS.F ht⟩) hS.2.2 d hlk
theorem zj_zret {X : zj_T} {z : zv_T} {cc : ByteArray} {nL : Nat} {own : String} {rm : Room} (C : zj_C X z cc nL own rm (some .boolean)) {mc ms : Nat} {ad : Nat → Nat} {N : Nat} {g : Nat → va_E} {pc : Nat} {L : List (Nat × Value)} {x : Int32} {post : Int32 → (Nat → va_E) → Prop} (d : decode cc pc = .ok (.ireturn, 1)) (hn : narrow .boolean (.int x) = .int x) (h : post x g) : zj_J X mc ms (zj_Qi X mc ms ad N post) ad N g pc L [.int x] := by
  obtain ⟨p, l, e, R, s, m, args, below, meth, c, nL', z'⟩ := X
  obtain ⟨⟨hx, hb, hml, hown, hts⟩, hK, hA, hlk, rfl, hr, rfl, rfl, hU, hN, htr, hNb⟩ := C
  intro H locs ls hl hP hD hS
  exact W.zret hx hb hr hn (fun t ht hW => ⟨⟨x, g, rfl, h, zb_end hK hA hU hN hNb hP hD hS ht hW.alike⟩, hS.F ht⟩) hS.2.2 d hlk
theorem zj_vret {X : zj_T} {z : zv_T} {cc : ByteArray} {nL : Nat} {own : String} {rm : Room} (C : zj_C X z cc nL own rm none) {mc ms : Nat} {ad : Nat → Nat} {N : Nat} {g : Nat → va_E} {pc : Nat} {L : List (Nat × Value)} {post : (Nat → va_E) → Prop} (d : decode cc pc = .ok (.return_, 1)) (h : post g) : zj_J X mc ms (zj_Qv X mc ms ad N post) ad N g pc L [] := by
  obtain ⟨p, l, e, R, s, m, args, below, meth, c, nL', z'⟩ := X
  obtain ⟨⟨hx, hb, hml, hown, hts⟩, hK, hA, hlk, rfl, hr, rfl, rfl, hU, hN, htr, hNb⟩ := C
  intro H locs ls hl hP hD hS
  exact W.vret hx hb hr (fun t ht hW => ⟨⟨g, rfl, h, zb_end hK hA hU hN hNb hP hD hS ht hW.alike⟩, hS.F ht⟩) hS.2.2 d hlk
theorem zj_cret {X : zj_T} {z : zv_T} {cc : ByteArray} {nL : Nat} {own : String} {rm : Room} (C : zj_C X z cc nL own rm none) {mc ms : Nat} {ad : Nat → Nat} {N : Nat} {g : Nat → va_E} {pc : Nat} {L : List (Nat × Value)} {post : (Nat → Nat) → Nat → (Nat → va_E) → Prop} (d : decode cc pc = .ok (.return_, 1)) (h : post ad N g) : zj_J X mc ms (zj_Qc X mc ms post) ad N g pc L [] := by
  obtain ⟨p, l, e, R, s, m, args, below, meth, c, nL', z'⟩ := X
  obtain ⟨⟨hx, hb, hml, hown, hts⟩, hK, hA, hlk, rfl, hr, rfl, rfl, hU, hN, htr, hNb⟩ := C
  intro H locs ls hl hP hD hS
  exact W.vret hx hb hr (fun t ht hW => ⟨⟨(ad, N, g), rfl, h, zb_end hK hA hU hN hNb hP hD hS ht hW.alike⟩, hS.F ht⟩) hS.2.2 d hlk
theorem zj_aret {rt : String} {X : zj_T} {z : zv_T} {cc : ByteArray} {nL : Nat} {own : String} {rm : Room} (C : zj_C X z cc nL own rm (some (.object rt))) {mc ms : Nat} {ad : Nat → Nat} {N : Nat} {g : Nat → va_E} {pc : Nat} {L : List (Nat × Value)} {k : Nat} {post : Nat → (Nat → va_E) → Prop} (d : decode cc pc = .ok (.areturn, 1)) (h : post k g) : zj_J X mc ms (zj_Qr X mc ms ad N post) ad N g pc L [.ref (ad k)] := by
  obtain ⟨p, l, e, R, s, m, args, below, meth, c, nL', z'⟩ := X
  obtain ⟨⟨hx, hb, hml, hown, hts⟩, hK, hA, hlk, rfl, hr, rfl, rfl, hU, hN, htr, hNb⟩ := C
  intro H locs ls hl hP hD hS
  exact W.aret hx hb hr (Or.inl ⟨_, rfl⟩) (Or.inr ⟨_, rfl⟩) (fun t ht hW => ⟨⟨(k, g), ad k, rfl, h, rfl, zb_end hK hA hU hN hNb hP hD hS ht hW.alike⟩, hS.F ht⟩) hS.2.2 d hlk
theorem zm_ofi {l : Launch} {y : MethodName} {ws : List Cond} {rm : Room} {z : zv_T} {ad : Nat → Nat} {N : Nat} {g : Nat → va_E} {av : List Value} {post : Int32 → (Nat → va_E) → Prop} {cc : ByteArray} {nL : Nat} (hst : l.stackTraces = false) (hy : plainName y.cls = true) (hw' : ws = Cond.code y cc nL (some .int) :: zt_tbl) (hlen : (lg_sl av).length ≤ nL)
    (body : ∀ X : zj_T, X.2.1 = l → zj_C X z cc nL y.cls rm (some .int) → zj_J X 0 0 (zj_Qi X 0 0 ad N post) ad N g 0 (lv_args 0 av) []) : zm_i l y ws rm z ad N g av  post := by
  refine Met.ofW (cc := cc) (maxL := nL) (ret := (some .int)) hy hw' ?_
  intro p e s m args below meth c s₁ B hml hv
  obtain ⟨rfl, hP, hK, hD, hA, hU, hN, hNb⟩ := hv
  have hown : s.vm.findClass y.cls = some m.cls := findClass_of_methodNamed B.named
  have h := body (p, l, e, (headSpec ws rm).room, s, m, av.toArray, below, meth, c, nL, z) rfl ⟨⟨B.exec, B.bytes, hml, hown, fun w hw => atoms_spec (ws := ws) B.pre w (by rw [hw']; exact List.mem_cons_of_mem _ hw)⟩, hK, hA, B.notSynchronized, rfl, B.returns, rfl, rfl, hU, hN, hst, hNb⟩
  rw [lg_entry_eq]
  exact h s.heap [] _ (lv_entry av hlen) hP hD va_S.rf
theorem zm_ofz {l : Launch} {y : MethodName} {ws : List Cond} {rm : Room} {z : zv_T} {ad : Nat → Nat} {N : Nat} {g : Nat → va_E} {av : List Value} {post : Int32 → (Nat → va_E) → Prop} {cc : ByteArray} {nL : Nat} (hst : l.stackTraces = false) (hy : plainName y.cls = true) (hw' : ws = Cond.code y cc nL (some .boolean) :: zt_tbl) (hlen : (lg_sl av).length ≤ nL)
    (body : ∀ X : zj_T, X.2.1 = l → zj_C X z cc nL y.cls rm (some .boolean) → zj_J X 0 0 (zj_Qi X 0 0 ad N post) ad N g 0 (lv_args 0 av) []) : zm_i l y ws rm z ad N g av  post := by
  refine Met.ofW (cc := cc) (maxL := nL) (ret := (some .boolean)) hy hw' ?_
  intro p e s m args below meth c s₁ B hml hv
  obtain ⟨rfl, hP, hK, hD, hA, hU, hN, hNb⟩ := hv
  have hown : s.vm.findClass y.cls = some m.cls := findClass_of_methodNamed B.named
  have h := body (p, l, e, (headSpec ws rm).room, s, m, av.toArray, below, meth, c, nL, z) rfl ⟨⟨B.exec, B.bytes, hml, hown, fun w hw => atoms_spec (ws := ws) B.pre w (by rw [hw']; exact List.mem_cons_of_mem _ hw)⟩, hK, hA, B.notSynchronized, rfl, B.returns, rfl, rfl, hU, hN, hst, hNb⟩
  rw [lg_entry_eq]
  exact h s.heap [] _ (lv_entry av hlen) hP hD va_S.rf
theorem zm_ofv {l : Launch} {y : MethodName} {ws : List Cond} {rm : Room} {z : zv_T} {ad : Nat → Nat} {N : Nat} {g : Nat → va_E} {av : List Value} {post : (Nat → va_E) → Prop} {cc : ByteArray} {nL : Nat} (hst : l.stackTraces = false) (hy : plainName y.cls = true) (hw' : ws = Cond.code y cc nL none :: zt_tbl) (hlen : (lg_sl av).length ≤ nL)
    (body : ∀ X : zj_T, X.2.1 = l → zj_C X z cc nL y.cls rm none → zj_J X 0 0 (zj_Qv X 0 0 ad N post) ad N g 0 (lv_args 0 av) []) : zm_v l y ws rm z ad N g av  post := by
  refine Met.ofW (cc := cc) (maxL := nL) (ret := none) hy hw' ?_
  intro p e s m args below meth c s₁ B hml hv
  obtain ⟨rfl, hP, hK, hD, hA, hU, hN, hNb⟩ := hv
  have hown : s.vm.findClass y.cls = some m.cls := findClass_of_methodNamed B.named
  have h := body (p, l, e, (headSpec ws rm).room, s, m, av.toArray, below, meth, c, nL, z) rfl ⟨⟨B.exec, B.bytes, hml, hown, fun w hw => atoms_spec (ws := ws) B.pre w (by rw [hw']; exact List.mem_cons_of_mem _ hw)⟩, hK, hA, B.notSynchronized, rfl, B.returns, rfl, rfl, hU, hN, hst, hNb⟩
  rw [lg_entry_eq]
  exact h s.heap [] _ (lv_entry av hlen) hP hD va_S.rf
theorem zm_ofr {l : Launch} {y : MethodName} {ws : List Cond} {rm : Room} {z : zv_T} {ad : Nat → Nat} {N : Nat} {g : Nat → va_E} {av : List Value} {rt : String} {post : Nat → (Nat → va_E) → Prop} {cc : ByteArray} {nL : Nat} (hst : l.stackTraces = false) (hy : plainName y.cls = true) (hw' : ws = Cond.code y cc nL (some (.object rt)) :: zt_tbl) (hlen : (lg_sl av).length ≤ nL)
    (body : ∀ X : zj_T, X.2.1 = l → zj_C X z cc nL y.cls rm (some (.object rt)) → zj_J X 0 0 (zj_Qr X 0 0 ad N post) ad N g 0 (lv_args 0 av) []) : zm_r l y ws rm z ad N g av  post := by
  refine Met.ofW (cc := cc) (maxL := nL) (ret := (some (.object rt))) hy hw' ?_
  intro p e s m args below meth c s₁ B hml hv
  obtain ⟨rfl, hP, hK, hD, hA, hU, hN, hNb⟩ := hv
  have hown : s.vm.findClass y.cls = some m.cls := findClass_of_methodNamed B.named
  have h := body (p, l, e, (headSpec ws rm).room, s, m, av.toArray, below, meth, c, nL, z) rfl ⟨⟨B.exec, B.bytes, hml, hown, fun w hw => atoms_spec (ws := ws) B.pre w (by rw [hw']; exact List.mem_cons_of_mem _ hw)⟩, hK, hA, B.notSynchronized, rfl, B.returns, rfl, rfl, hU, hN, hst, hNb⟩
  rw [lg_entry_eq]
  exact h s.heap [] _ (lv_entry av hlen) hP hD va_S.rf
/-- the method is a constructor -/
def zj_N (X : zj_T) : Prop := match X with
  | (_, _, _, _, _, _, _, _, meth, _, _, _) => meth.name = "<init>"
theorem zm_ofc {l : Launch} {y : MethodName} {ws : List Cond} {rm : Room} {z : zv_T} {ad : Nat → Nat} {N : Nat} {g : Nat → va_E} {av : List Value} {mc ms : Nat} {post : (Nat → Nat) → Nat → (Nat → va_E) → Prop} {cc : ByteArray} {nL : Nat} (hst : l.stackTraces = false) (hyn : y.name = "<init>") (hy : plainName y.cls = true) (hw' : ws = Cond.code y cc nL none :: zt_tbl) (hlen : (lg_sl av).length ≤ nL)
    (body : ∀ X : zj_T, X.2.1 = l → zj_C X z cc nL y.cls rm none → zj_N X → zj_J X 0 0 (zj_Qc X mc ms post) ad N g 0 (lv_args 0 av) []) : zm_c l y ws rm z ad N g av mc ms post := by
  refine Met.ofW (cc := cc) (maxL := nL) (ret := none) hy hw' ?_
  intro p e s m args below meth c s₁ B hml hv
  obtain ⟨rfl, hP, hK, hD, hA, hU, hN, hNb⟩ := hv
  have hown : s.vm.findClass y.cls = some m.cls := findClass_of_methodNamed B.named
  have h := body (p, l, e, (headSpec ws rm).room, s, m, av.toArray, below, meth, c, nL, z) rfl ⟨⟨B.exec, B.bytes, hml, hown, fun w hw => atoms_spec (ws := ws) B.pre w (by rw [hw']; exact List.mem_cons_of_mem _ hw)⟩, hK, hA, B.notSynchronized, rfl, B.returns, rfl, rfl, hU, hN, hst, hNb⟩ ((name_of_methodNamed B.named B.method).1.trans hyn)
  rw [lg_entry_eq]
  exact h s.heap [] _ (lv_entry av hlen) hP hD va_S.rf
theorem zj_Vi {X : zj_T} {z : zv_T} {cc : ByteArray} {nL : Nat} {own : String} {rm : Room} {ret : Option FieldType} (C : zj_C X z cc nL own rm ret) {cells slots : Nat} {Q : State → Prop} {ad : Nat → Nat} {N : Nat} {g : Nat → va_E} {pc : Nat} {L : List (Nat × Value)} {st st0 : List Value} {rt : FieldType} {y : MethodName} {ws ws' : List Cond} {rc : Room} {bytes : ByteArray} {maxL index n i ci : Nat} {CC : String} {T : u_T} {M : Nat} {As fs : List Value} {post : Int32 → (Nat → va_E) → Prop} (hM : zm_i X.2.1 y ws rc z ad N g (.ref (ad i) :: As) post)
    (hG : GoodIn zt_tbl (wsV own index CC y ws)) (hw : ws = Cond.code y bytes maxL (some rt) :: ws') (hrc : rc.cells = 0) (hrs : rc.slots = 0) (hd : y.cls = CC ∧ y.cls ≠ "java/lang/invoke/MethodHandle" ∧ y.cls ≠ "java/lang/invoke/VarHandle" ∧ (parseMethodDescriptor y.desc).map (fun d => d.parameters.length) = some n) (hR : rc.frames + 1 ≤ rm.frames ∧ 8 + (maxL + 11) + rc.locals ≤ rm.locals)
    (hi : i < N) (he : g i = ze_o ci fs) (hc : zc_l[ci]? = some (CC, T, M)) (hn : As.length = n) (hst : st0 = As.reverse ++ .ref (ad i) :: st) (hW : (st.map fun v => v.category).sum ≤ 8) (hcs : cells ≤ rm.cells ∧ slots ≤ rm.slots) (d : decode cc pc = .ok (.invokevirtual index, 3))
    (kk : ∀ (r : Int32) (g1 : Nat → va_E), post r g1 → zj_J X cells slots Q ad N g1 (pc + 3) L (.int r :: st)) : zj_J X cells slots Q ad N g pc L st0 := by
  obtain ⟨p, l, e, R, s, m, args, below, meth, c, nL', z'⟩ := X
  obtain ⟨⟨hx, hb, hml, hown, hts⟩, hK, hA, hlk, rfl, hr, rfl, rfl, hU, hN, htr, hNb⟩ := C
  intro H locs ls hl hP hD hS
  refine va_calli (va_runV (As := As) (rest := st) ⟨hx, hb, hml, hown, hts⟩ hM (cwV n hts hG hw hrc hrs hd hR) ⟨zb_blind, va_recv hK hP hc (zw_ate hi he), fun U h1 h2 => ⟨rfl, zb_end hK hA hU hN hNb hP hD hS h1 h2.alike⟩⟩ rfl hn hl.1 hst (lv_room hW) d hcs) hS (fun q _ h => h) (fun q h => h) (fun r g1 t H1 locs1 ht hvm hq hB hz1 hk1 hS1 => ?_)
  obtain ⟨hP1, hK1, hD1, -⟩ := hB
  rw [ht] at hP1
  exact kk r g1 hq H1 locs1 ls hl hP1 hD1 hS1
theorem zj_Si {X : zj_T} {z : zv_T} {cc : ByteArray} {nL : Nat} {own : String} {rm : Room} {ret : Option FieldType} (C : zj_C X z cc nL own rm ret) {cells slots : Nat} {Q : State → Prop} {ad : Nat → Nat} {N : Nat} {g : Nat → va_E} {pc : Nat} {L : List (Nat × Value)} {st st0 : List Value} {rt : FieldType} {y : MethodName} {ws ws' : List Cond} {rc : Room} {bytes : ByteArray} {maxL index n : Nat} {As : List Value} {post : Int32 → (Nat → va_E) → Prop} (hM : zm_i X.2.1 y ws rc z ad N g As post)
    (hG : GoodIn zt_tbl (wsS own index y ws)) (hw : ws = Cond.code y bytes maxL (some rt) :: ws') (hrc : rc.cells = 0) (hrs : rc.slots = 0) (hd : y.cls = own ∧ y.cls ≠ "java/lang/invoke/MethodHandle" ∧ y.cls ≠ "java/lang/invoke/VarHandle" ∧ (parseMethodDescriptor y.desc).map (fun d => d.parameters.length) = some n) (hR : rc.frames + 1 ≤ rm.frames ∧ 8 + (maxL + 11) + rc.locals ≤ rm.locals)
    (hn : As.length = n) (hst : st0 = As.reverse ++ st) (hW : (st.map fun v => v.category).sum ≤ 8) (hcs : cells ≤ rm.cells ∧ slots ≤ rm.slots) (d : decode cc pc = .ok (.invokestatic index, 3))
    (kk : ∀ (r : Int32) (g1 : Nat → va_E), post r g1 → zj_J X cells slots Q ad N g1 (pc + 3) L (.int r :: st)) : zj_J X cells slots Q ad N g pc L st0 := by
  obtain ⟨p, l, e, R, s, m, args, below, meth, c, nL', z'⟩ := X
  obtain ⟨⟨hx, hb, hml, hown, hts⟩, hK, hA, hlk, rfl, hr, rfl, rfl, hU, hN, htr, hNb⟩ := C
  intro H locs ls hl hP hD hS
  refine va_calli (va_runS (As := As) (rest := st) ⟨hx, hb, hml, hown, hts⟩ hM (cwS n hts hG hw hrc hrs hd hR) ⟨zb_blind, fun U h1 h2 => ⟨rfl, zb_end hK hA hU hN hNb hP hD hS h1 h2.alike⟩⟩ rfl hn hl.1 hst (lv_room hW) d hcs) hS (fun q _ h => h) (fun q h => h) (fun r g1 t H1 locs1 ht hvm hq hB hz1 hk1 hS1 => ?_)
  obtain ⟨hP1, hK1, hD1, -⟩ := hB
  rw [ht] at hP1
  exact kk r g1 hq H1 locs1 ls hl hP1 hD1 hS1
theorem zj_Vv {X : zj_T} {z : zv_T} {cc : ByteArray} {nL : Nat} {own : String} {rm : Room} {ret : Option FieldType} (C : zj_C X z cc nL own rm ret) {cells slots : Nat} {Q : State → Prop} {ad : Nat → Nat} {N : Nat} {g : Nat → va_E} {pc : Nat} {L : List (Nat × Value)} {st st0 : List Value} {y : MethodName} {ws ws' : List Cond} {rc : Room} {bytes : ByteArray} {maxL index n i ci : Nat} {CC : String} {T : u_T} {M : Nat} {As fs : List Value} {post : (Nat → va_E) → Prop} (hM : zm_v X.2.1 y ws rc z ad N g (.ref (ad i) :: As) post)
    (hG : GoodIn zt_tbl (wsV own index CC y ws)) (hw : ws = Cond.code y bytes maxL none :: ws') (hrc : rc.cells = 0) (hrs : rc.slots = 0) (hd : y.cls = CC ∧ y.cls ≠ "java/lang/invoke/MethodHandle" ∧ y.cls ≠ "java/lang/invoke/VarHandle" ∧ (parseMethodDescriptor y.desc).map (fun d => d.parameters.length) = some n) (hR : rc.frames + 1 ≤ rm.frames ∧ 8 + (maxL + 11) + rc.locals ≤ rm.locals)
    (hi : i < N) (he : g i = ze_o ci fs) (hc : zc_l[ci]? = some (CC, T, M)) (hn : As.length = n) (hst : st0 = As.reverse ++ .ref (ad i) :: st) (hW : (st.map fun v => v.category).sum ≤ 8) (hcs : cells ≤ rm.cells ∧ slots ≤ rm.slots) (d : decode cc pc = .ok (.invokevirtual index, 3))
    (kk : ∀ (g1 : Nat → va_E), post g1 → zj_J X cells slots Q ad N g1 (pc + 3) L st) : zj_J X cells slots Q ad N g pc L st0 := by
  obtain ⟨p, l, e, R, s, m, args, below, meth, c, nL', z'⟩ := X
  obtain ⟨⟨hx, hb, hml, hown, hts⟩, hK, hA, hlk, rfl, hr, rfl, rfl, hU, hN, htr, hNb⟩ := C
  intro H locs ls hl hP hD hS
  refine va_callv (va_runV (As := As) (rest := st) ⟨hx, hb, hml, hown, hts⟩ hM (cwV n hts hG hw hrc hrs hd hR) ⟨zb_blind, va_recv hK hP hc (zw_ate hi he), fun U h1 h2 => ⟨rfl, zb_end hK hA hU hN hNb hP hD hS h1 h2.alike⟩⟩ rfl hn hl.1 hst (lv_room hW) d hcs) hS (fun q _ h => h) (fun q h => h) (fun g1 t H1 locs1 ht hvm hq hB hz1 hk1 hS1 => ?_)
  obtain ⟨hP1, hK1, hD1, -⟩ := hB
  rw [ht] at hP1
  exact kk g1 hq H1 locs1 ls hl hP1 hD1 hS1
theorem zj_Sv {X : zj_T} {z : zv_T} {cc : ByteArray} {nL : Nat} {own : String} {rm : Room} {ret : Option FieldType} (C : zj_C X z cc nL own rm ret) {cells slots : Nat} {Q : State → Prop} {ad : Nat → Nat} {N : Nat} {g : Nat → va_E} {pc : Nat} {L : List (Nat × Value)} {st st0 : List Value} {y : MethodName} {ws ws' : List Cond} {rc : Room} {bytes : ByteArray} {maxL index n : Nat} {As : List Value} {post : (Nat → va_E) → Prop} (hM : zm_v X.2.1 y ws rc z ad N g As post)
    (hG : GoodIn zt_tbl (wsS own index y ws)) (hw : ws = Cond.code y bytes maxL none :: ws') (hrc : rc.cells = 0) (hrs : rc.slots = 0) (hd : y.cls = own ∧ y.cls ≠ "java/lang/invoke/MethodHandle" ∧ y.cls ≠ "java/lang/invoke/VarHandle" ∧ (parseMethodDescriptor y.desc).map (fun d => d.parameters.length) = some n) (hR : rc.frames + 1 ≤ rm.frames ∧ 8 + (maxL + 11) + rc.locals ≤ rm.locals)
    (hn : As.length = n) (hst : st0 = As.reverse ++ st) (hW : (st.map fun v => v.category).sum ≤ 8) (hcs : cells ≤ rm.cells ∧ slots ≤ rm.slots) (d : decode cc pc = .ok (.invokestatic index, 3))
    (kk : ∀ (g1 : Nat → va_E), post g1 → zj_J X cells slots Q ad N g1 (pc + 3) L st) : zj_J X cells slots Q ad N g pc L st0 := by
  obtain ⟨p, l, e, R, s, m, args, below, meth, c, nL', z'⟩ := X
  obtain ⟨⟨hx, hb, hml, hown, hts⟩, hK, hA, hlk, rfl, hr, rfl, rfl, hU, hN, htr, hNb⟩ := C
  intro H locs ls hl hP hD hS
  refine va_callv (va_runS (As := As) (rest := st) ⟨hx, hb, hml, hown, hts⟩ hM (cwS n hts hG hw hrc hrs hd hR) ⟨zb_blind, fun U h1 h2 => ⟨rfl, zb_end hK hA hU hN hNb hP hD hS h1 h2.alike⟩⟩ rfl hn hl.1 hst (lv_room hW) d hcs) hS (fun q _ h => h) (fun q h => h) (fun g1 t H1 locs1 ht hvm hq hB hz1 hk1 hS1 => ?_)
  obtain ⟨hP1, hK1, hD1, -⟩ := hB
  rw [ht] at hP1
  exact kk g1 hq H1 locs1 ls hl hP1 hD1 hS1
theorem zj_Vr {X : zj_T} {z : zv_T} {cc : ByteArray} {nL : Nat} {own : String} {rm : Room} {ret : Option FieldType} (C : zj_C X z cc nL own rm ret) {cells slots : Nat} {Q : State → Prop} {ad : Nat → Nat} {N : Nat} {g : Nat → va_E} {pc : Nat} {L : List (Nat × Value)} {st st0 : List Value} {rt : FieldType} {y : MethodName} {ws ws' : List Cond} {rc : Room} {bytes : ByteArray} {maxL index n i ci : Nat} {CC : String} {T : u_T} {M : Nat} {As fs : List Value} {post : Nat → (Nat → va_E) → Prop} (hM : zm_r X.2.1 y ws rc z ad N g (.ref (ad i) :: As) post)
    (hG : GoodIn zt_tbl (wsV own index CC y ws)) (hw : ws = Cond.code y bytes maxL (some rt) :: ws') (hrc : rc.cells = 0) (hrs : rc.slots = 0) (hd : y.cls = CC ∧ y.cls ≠ "java/lang/invoke/MethodHandle" ∧ y.cls ≠ "java/lang/invoke/VarHandle" ∧ (parseMethodDescriptor y.desc).map (fun d => d.parameters.length) = some n) (hR : rc.frames + 1 ≤ rm.frames ∧ 8 + (maxL + 11) + rc.locals ≤ rm.locals)
    (hi : i < N) (he : g i = ze_o ci fs) (hc : zc_l[ci]? = some (CC, T, M)) (hn : As.length = n) (hst : st0 = As.reverse ++ .ref (ad i) :: st) (hW : (st.map fun v => v.category).sum ≤ 8) (hcs : cells ≤ rm.cells ∧ slots ≤ rm.slots) (d : decode cc pc = .ok (.invokevirtual index, 3))
    (kk : ∀ (k : Nat) (g1 : Nat → va_E), post k g1 → zj_J X cells slots Q ad N g1 (pc + 3) L (.ref (ad k) :: st)) : zj_J X cells slots Q ad N g pc L st0 := by
  obtain ⟨p, l, e, R, s, m, args, below, meth, c, nL', z'⟩ := X
  obtain ⟨⟨hx, hb, hml, hown, hts⟩, hK, hA, hlk, rfl, hr, rfl, rfl, hU, hN, htr, hNb⟩ := C
  intro H locs ls hl hP hD hS
  refine va_callr (va_runV (As := As) (rest := st) ⟨hx, hb, hml, hown, hts⟩ hM (cwV n hts hG hw hrc hrs hd hR) ⟨zb_blind, va_recv hK hP hc (zw_ate hi he), fun U h1 h2 => ⟨rfl, zb_end hK hA hU hN hNb hP hD hS h1 h2.alike⟩⟩ rfl hn hl.1 hst (lv_room hW) d hcs) hS (fun q _ h => h) (fun q h => h) (fun u a t H1 locs1 ht hvm hq hB0 hz1 hk1 hS1 => ?_)
  obtain ⟨rfl, hB⟩ := hB0
  obtain ⟨hP1, hK1, hD1, -⟩ := hB
  rw [ht] at hP1
  exact kk u.1 u.2 hq H1 locs1 ls hl hP1 hD1 hS1
theorem zj_Sr {X : zj_T} {z : zv_T} {cc : ByteArray} {nL : Nat} {own : String} {rm : Room} {ret : Option FieldType} (C : zj_C X z cc nL own rm ret) {cells slots : Nat} {Q : State → Prop} {ad : Nat → Nat} {N : Nat} {g : Nat → va_E} {pc : Nat} {L : List (Nat × Value)} {st st0 : List Value} {rt : FieldType} {y : MethodName} {ws ws' : List Cond} {rc : Room} {bytes : ByteArray} {maxL index n : Nat} {As : List Value} {post : Nat → (Nat → va_E) → Prop} (hM : zm_r X.2.1 y ws rc z ad N g As post)
    (hG : GoodIn zt_tbl (wsS own index y ws)) (hw : ws = Cond.code y bytes maxL (some rt) :: ws') (hrc : rc.cells = 0) (hrs : rc.slots = 0) (hd : y.cls = own ∧ y.cls ≠ "java/lang/invoke/MethodHandle" ∧ y.cls ≠ "java/lang/invoke/VarHandle" ∧ (parseMethodDescriptor y.desc).map (fun d => d.parameters.length) = some n) (hR : rc.frames + 1 ≤ rm.frames ∧ 8 + (maxL + 11) + rc.locals ≤ rm.locals)
    (hn : As.length = n) (hst : st0 = As.reverse ++ st) (hW : (st.map fun v => v.category).sum ≤ 8) (hcs : cells ≤ rm.cells ∧ slots ≤ rm.slots) (d : decode cc pc = .ok (.invokestatic index, 3))
    (kk : ∀ (k : Nat) (g1 : Nat → va_E), post k g1 → zj_J X cells slots Q ad N g1 (pc + 3) L (.ref (ad k) :: st)) : zj_J X cells slots Q ad N g pc L st0 := by
  obtain ⟨p, l, e, R, s, m, args, below, meth, c, nL', z'⟩ := X
  obtain ⟨⟨hx, hb, hml, hown, hts⟩, hK, hA, hlk, rfl, hr, rfl, rfl, hU, hN, htr, hNb⟩ := C
  intro H locs ls hl hP hD hS
  refine va_callr (va_runS (As := As) (rest := st) ⟨hx, hb, hml, hown, hts⟩ hM (cwS n hts hG hw hrc hrs hd hR) ⟨zb_blind, fun U h1 h2 => ⟨rfl, zb_end hK hA hU hN hNb hP hD hS h1 h2.alike⟩⟩ rfl hn hl.1 hst (lv_room hW) d hcs) hS (fun q _ h => h) (fun q h => h) (fun u a t H1 locs1 ht hvm hq hB0 hz1 hk1 hS1 => ?_)
  obtain ⟨rfl, hB⟩ := hB0
  obtain ⟨hP1, hK1, hD1, -⟩ := hB
  rw [ht] at hP1
  exact kk u.1 u.2 hq H1 locs1 ls hl hP1 hD1 hS1
theorem zj_Ic {X : zj_T} {z : zv_T} {cc : ByteArray} {nL : Nat} {own : String} {rm : Room} {ret : Option FieldType} (C : zj_C X z cc nL own rm ret) {cells slots : Nat} {Q : State → Prop} {ad : Nat → Nat} {N : Nat} {g : Nat → va_E} {pc : Nat} {L : List (Nat × Value)} {st st0 : List Value} {y : MethodName} {ws ws' : List Cond} {rc : Room} {bytes : ByteArray} {maxL index n i mc ms : Nat} {As : List Value} {post : (Nat → Nat) → Nat → (Nat → va_E) → Prop} (hM : zm_c X.2.1 y ws rc z ad N g (.ref (ad i) :: As) mc ms post)
    (hG : GoodIn zt_tbl ws) (hw : ws = Cond.code y bytes maxL none :: ws') (hrc : rc.cells = mc) (hrs : rc.slots = ms) (hini : Cond.initialized y.cls ∈ zt_tbl) (hlk' : Cond.methodLink own index y ∈ zt_tbl) (hin : Cond.instanceMethod y ∈ zt_tbl) (hy1 : y.name = "<init>") (hd : y.cls ≠ "java/lang/invoke/MethodHandle" ∧ y.cls ≠ "java/lang/invoke/VarHandle" ∧ (parseMethodDescriptor y.desc).map (fun d => d.parameters.length) = some n) (hR : rc.frames + 1 ≤ rm.frames ∧ 8 + (maxL + 11) + rc.locals ≤ rm.locals)
    (hn : As.length = n) (hst : st0 = As.reverse ++ .ref (ad i) :: st) (hW : (st.map fun v => v.category).sum ≤ 8) (hcs : cells + mc ≤ rm.cells ∧ slots + ms ≤ rm.slots) (d : decode cc pc = .ok (.invokespecial index, 3))
    (kk : ∀ (ad1 : Nat → Nat) (N1 : Nat) (g1 : Nat → va_E), post ad1 N1 g1 → zj_J X (cells + mc) (slots + ms) Q ad1 N1 g1 (pc + 3) L st) : zj_J X cells slots Q ad N g pc L st0 := by
  obtain ⟨p, l, e, R, s, m, args, below, meth, c, nL', z'⟩ := X
  obtain ⟨⟨hx, hb, hml, hown, hts⟩, hK, hA, hlk, rfl, hr, rfl, rfl, hU, hN, htr, hNb⟩ := C
  intro H locs ls hl hP hD hS
  refine va_callv (va_runI (As := As) (rest := st) ⟨hx, hb, hml, hown, hts⟩ hM (cwI n hts hG hw hrc hrs (hts _ hini) (hts _ hlk') (hts _ hin) hy1 hd hR) ⟨zb_blind, fun U h1 h2 => ⟨rfl, zb_end hK hA hU hN hNb hP hD hS h1 h2.alike⟩⟩ rfl hn hl.1 hst (lv_room hW) d hcs) hS (fun q _ h => h) (fun q h => h) (fun u t H1 locs1 ht hvm hq hB hz1 hk1 hS1 => ?_)
  obtain ⟨hP1, hK1, hD1, -⟩ := hB
  rw [ht] at hP1
  exact kk u.1 u.2.1 u.2.2 hq H1 locs1 ls hl hP1 hD1 hS1
theorem zj_obj {X : zj_T} {z : zv_T} {cc : ByteArray} {nL : Nat} {own : String} {rm : Room} {ret : Option FieldType} (C : zj_C X z cc nL own rm ret) {cells slots : Nat} {Q : State → Prop} {ad : Nat → Nat} {N : Nat} {g : Nat → va_E} {pc : Nat} {L : List (Nat × Value)} {st st0 : List Value} {index : Nat} {a : Nat} (h1 : Cond.methodLink own index Lib.objectInit ∈ zt_tbl) (h2 : Cond.instanceMethod Lib.objectInit ∈ zt_tbl) (h3 : Cond.code Lib.objectInit ⟨#[0xb1]⟩ 1 none ∈ zt_tbl) (hR : 1 ≤ rm.frames ∧ (st.map fun v => v.category).sum + 12 ≤ rm.locals) (d : decode cc pc = .ok (.invokespecial index, 3))
    (kk : zj_J X cells slots Q ad N g (pc + 3) L st) : zj_J X cells slots Q ad N g pc L (.ref a :: st) := by
  obtain ⟨p, l, e, R, s, m, args, below, meth, c, nL', z'⟩ := X
  obtain ⟨⟨hx, hb, hml, hown, hts⟩, hK, hA, hlk, rfl, hr, rfl, rfl, hU, hN, htr, hNb⟩ := C
  intro H locs ls hl hP hD hS
  refine W.objInit hx hb hown (hts _ h1) (hts _ h2) (hts _ h3) rfl (by rw [hml]; exact hl.1) rfl d hR.1 (by show 2 * 0 + _ + 12 ≤ _; omega) ?_
  exact kk H locs ls hl hP hD hS
end ZM
