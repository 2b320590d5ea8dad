section ZNW
theorem zj_cs {X : zj_T} {c1 c2 s1 s2 N1 N2 : Nat} {Q : State → Prop} {ad : Nat → Nat} {g : Nat → va_E} {pc : Nat} {L : List (Nat × Value)} {st : List Value} (h1 : c1 = c2) (h2 : s1 = s2) (h3 : N1 = N2) (k : zj_J X c2 s2 Q ad N2 g pc L st) : zj_J X c1 s1 Q ad N1 g pc L st := by subst h1; subst h2; subst h3; exact k
theorem zj_putF {X : zj_T} {z : zv_T} {cc : ByteArray} {nL : Nat} {own : String} {rm : Room} {ret : Option FieldType} (C : zj_C X z cc nL own rm ret) {cells slots : Nat} {Q : State → Prop} {ad : Nat → Nat} {N : Nat} {g : Nat → va_E} {pc : Nat} {L : List (Nat × Value)} {st : List Value} {i ci k index M : Nat} {fs : List Value} {v : Value} {CC ref : String} {T : u_T} {ty : FieldType} (hX : zj_N X) (hi : i < N) (he : g i = ze_o ci fs) (hc : zc_l[ci]? = some (CC, T, M)) (hk : k < M) (hin : ∀ w ∈ u_ws CC T M, w ∈ zt_tbl) (hlink : Cond.fieldLink own index ref (T k).2.1 (T k).2.2.1 ∈ zt_tbl) (href : (T k).1 = ref) (ty0 : Nat → FieldType) (hty : ∀ k, k < M → parseFieldDescriptor (T k).2.2.1 = some (ty0 k)) (hnm : ∀ a, a < M → ∀ b, b < M → a ≠ b → (T a).2.1 ≠ (T b).2.1) (hd : ty0 k = ty) (hn : narrow ty v = v) (hfit : fits ty v = true) (hlf : k < fs.length) (hfin : (T k).2.2.2 = true) (hown2 : (T k).1 = own) (d : decode cc pc = .ok (.putfield index, 3))
    (kk : zj_J X cells slots Q ad N (va_up g i (ze_o ci (fs.set k v))) (pc + 3) L st) : zj_J X cells slots Q ad N g pc L (v :: .ref (ad i) :: st) := by
  obtain ⟨p, l, e, R, s, m, args, below, meth, c, nL', z'⟩ := X
  obtain ⟨⟨hx, hb, hml, hown, hts⟩, hK, hA, hlk, rfl, hr, rfl, rfl, hU, hN, htr, hNb⟩ := C
  intro H locs ls hl hP hD hS
  refine va_putF hx hb hts hin ty0 hty hnm hown hK hP hD hS i (zw_ate hi he) hc k hk (hts _ hlink) (fun x h => by rw [← href]; exact h) hfin hX hown2 (by rw [hty k hk, hd]) hn hfit hlf d (fun H1 locs1 hP1 hD1 hS1 => ?_)
  rw [zw_set hi] at hP1 hD1
  exact kk H1 locs1 ls hl hP1 hD1 hS1
theorem zj_newu {X : zj_T} {z : zv_T} {cc : ByteArray} {nL : Nat} {own : String} {rm : Room} {ret : Option FieldType} (C : zj_C X z cc nL own rm ret) {cells slots : Nat} {Q : State → Prop} {ad : Nat → Nat} {N : Nat} {g : Nat → va_E} {pc : Nat} {L : List (Nat × Value)} {st : List Value} {n : Int32} {k index : Nat} (h1 : Cond.classLink own index cn_U ∈ zt_tbl) (hn : n = nI k) (hk : k < 65536) (hcs : cells + 1 ≤ rm.cells ∧ slots + k ≤ rm.slots) (d : decode cc pc = .ok (.anewarray index, 3))
    (kk : ∀ ad1 : Nat → Nat, (∀ j, j < N → ad j = ad1 j) → zj_J X (cells + 1) (slots + k) Q ad1 (N + 1) (va_up g N (ze_u z k (fun _ => none))) (pc + 3) L (.ref (ad1 N) :: st)) : zj_J X cells slots Q ad N g pc L (.int n :: st) := by
  obtain ⟨p, l, e, R, s, m, args, below, meth, c, nL', z'⟩ := X
  obtain ⟨⟨hx, hb, hml, hown, hts⟩, hK, hA, hlk, rfl, hr, rfl, rfl, hU, hN, htr, hNb⟩ := C
  intro H locs ls hl hP hD hS
  subst hn
  refine va_newq (C := cn_U) hx hb hown (hts _ h1) hNb.1 hK hP hD hS hA (nI_pos (by omega)) (nI_clamp (by omega)) (by omega) hcs.1 hcs.2 d (fun q cA H1 hK1 hP1 hD1 hS1 => ?_)
  obtain ⟨_, _, -, -, -, e1⟩ := (hK1.2 5 (cA, .object cn_U) rfl).2
  obtain ⟨_, _, -, -, -, e2⟩ := (hK.2 3 _ rfl).2
  have e3 : cA = zv_U _ := Option.some.inj (e1.symm.trans e2)
  subst e3
  rw [zw_push] at hP1 hD1
  have h := kk (va_up ad N q) (fun j hj => (va_up_ne _ _ (by omega)).symm) H1 locs ls hl hP1 hD1 hS1
  rw [va_up_self] at h
  exact h
theorem zj_newp {X : zj_T} {z : zv_T} {cc : ByteArray} {nL : Nat} {own : String} {rm : Room} {ret : Option FieldType} (C : zj_C X z cc nL own rm ret) {cells slots : Nat} {Q : State → Prop} {ad : Nat → Nat} {N : Nat} {g : Nat → va_E} {pc : Nat} {L : List (Nat × Value)} {st : List Value} {n : Int32} {k index : Nat} (h1 : Cond.classLink own index cn_P ∈ zt_tbl) (hn : n = nI k) (hk : k < 65536) (hcs : cells + 1 ≤ rm.cells ∧ slots + k ≤ rm.slots) (d : decode cc pc = .ok (.anewarray index, 3))
    (kk : ∀ ad1 : Nat → Nat, (∀ j, j < N → ad j = ad1 j) → zj_J X (cells + 1) (slots + k) Q ad1 (N + 1) (va_up g N (ze_p z k (fun _ => none))) (pc + 3) L (.ref (ad1 N) :: st)) : zj_J X cells slots Q ad N g pc L (.int n :: st) := by
  obtain ⟨p, l, e, R, s, m, args, below, meth, c, nL', z'⟩ := X
  obtain ⟨⟨hx, hb, hml, hown, hts⟩, hK, hA, hlk, rfl, hr, rfl, rfl, hU, hN, htr, hNb⟩ := C
  intro H locs ls hl hP hD hS
  subst hn
  refine va_newq (C := cn_P) hx hb hown (hts _ h1) hNb.2.1 hK hP hD hS hA (nI_pos (by omega)) (nI_clamp (by omega)) (by omega) hcs.1 hcs.2 d (fun q cA H1 hK1 hP1 hD1 hS1 => ?_)
  obtain ⟨_, _, -, -, -, e1⟩ := (hK1.2 5 (cA, .object cn_P) rfl).2
  obtain ⟨_, _, -, -, -, e2⟩ := (hK.2 4 _ rfl).2
  have e3 : cA = zv_P _ := Option.some.inj (e1.symm.trans e2)
  subst e3
  rw [zw_push] at hP1 hD1
  have h := kk (va_up ad N q) (fun j hj => (va_up_ne _ _ (by omega)).symm) H1 locs ls hl hP1 hD1 hS1
  rw [va_up_self] at h
  exact h
/-- the link of Passage's own constructor -/
def zb_X (U : State) : Prop := va_Nw (.methodLinkNest cn_F 17 mn_P_init "TuneFinder") U
def zj_Ln (X : zj_T) : Prop := match X with
  | (_, _, _, _, s, _, _, _, _, _, _, _) => zb_X s
def zm_d (l : Launch) (y : MethodName) (ws : List Cond) (rm : Room) (z : zv_T) (ad : Nat → Nat) (N : Nat) (g : Nat → va_E) (av : List Value) (mc ms : Nat) (post : (Nat → Nat) → Nat → (Nat → va_E) → Prop) : Prop :=
  Met l y ws rm (va_Pc av (fun U => zb_X U ∧ zj_B z ad N g U)) (va_Qv (fun u : (Nat → Nat) × Nat × (Nat → va_E) => post u.1 u.2.1 u.2.2) (fun u t => zj_B z u.1 u.2.1 u.2.2 t) (zv_A z)) mc ms (zv_A z)
theorem zb_blindX {z : zv_T} {ad : Nat → Nat} {N : Nat} {g : Nat → va_E} {av : List Value} : FrameBlind (va_Pc av (fun U => zb_X U ∧ zj_B z ad N g U)) := by
  intro a U g' mk h
  obtain ⟨h0, hX, hB⟩ := h
  obtain ⟨h1, h2⟩ := zb_blind (z := z) (ad := ad) (N := N) (g := g) (av := av) a U g' mk ⟨h0, hB⟩
  exact ⟨h1, va_Nw.same rfl rfl hX, h2⟩
theorem zm_ofd {l : Launch} {y : MethodName} {ws : List Cond} {rm : Room} {z : zv_T} {ad : Nat → Nat} {N : Nat} {g : Nat → va_E} {av : List Value} {mc ms : Nat} {post : (Nat → Nat) → Nat → (Nat → va_E) → Prop} {cc : ByteArray} {nL : Nat} (hst : l.stackTraces = false) (hyn : y.name = "<init>") (hy : plainName y.cls = true) (hw' : ws = Cond.code y cc nL none :: zt_tbl) (hlen : (lg_sl av).length ≤ nL)
    (body : ∀ X : zj_T, X.2.1 = l → zj_C X z cc nL y.cls rm none → zj_N X → zj_Ln X → zj_J X 0 0 (zj_Qc X mc ms post) ad N g 0 (lv_args 0 av) []) : zm_d l y ws rm z ad N g av mc ms post := by
  refine Met.ofW (cc := cc) (maxL := nL) (ret := none) hy hw' ?_
  intro p e s m args below meth c s₁ B hml hv
  obtain ⟨rfl, hX, hP, hK, hD, hA, hU, hN, hNb⟩ := hv
  have hown : s.vm.findClass y.cls = some m.cls := findClass_of_methodNamed B.named
  have h := body (p, l, e, (headSpec ws rm).room, s, m, av.toArray, below, meth, c, nL, z) rfl ⟨⟨B.exec, B.bytes, hml, hown, fun w hw => atoms_spec (ws := ws) B.pre w (by rw [hw']; exact List.mem_cons_of_mem _ hw)⟩, hK, hA, B.notSynchronized, rfl, B.returns, rfl, rfl, hU, hN, hst, hNb⟩ ((name_of_methodNamed B.named B.method).1.trans hyn) hX
  rw [lg_entry_eq]
  exact h s.heap [] _ (lv_entry av hlen) hP hD va_S.rf
theorem zj_Id {X : zj_T} {z : zv_T} {cc : ByteArray} {nL : Nat} {own : String} {rm : Room} {ret : Option FieldType} (C : zj_C X z cc nL own rm ret) {cells slots : Nat} {Q : State → Prop} {ad : Nat → Nat} {N : Nat} {g : Nat → va_E} {pc : Nat} {L : List (Nat × Value)} {st st0 : List Value} {y : MethodName} {ws ws' : List Cond} {rc : Room} {bytes : ByteArray} {maxL index n i mc ms : Nat} {As : List Value} {post : (Nat → Nat) → Nat → (Nat → va_E) → Prop} (hX : zj_Ln X) (hM : zm_d X.2.1 y ws rc z ad N g (.ref (ad i) :: As) mc ms post)
    (hG : GoodIn zt_tbl ws) (hw : ws = Cond.code y bytes maxL none :: ws') (hrc : rc.cells = mc) (hrs : rc.slots = ms) (hini : Cond.initialized y.cls ∈ zt_tbl) (hlk' : Cond.methodLink own index y ∈ zt_tbl) (hin : Cond.instanceMethod y ∈ zt_tbl) (hy1 : y.name = "<init>") (hd : y.cls ≠ "java/lang/invoke/MethodHandle" ∧ y.cls ≠ "java/lang/invoke/VarHandle" ∧ (parseMethodDescriptor y.desc).map (fun d => d.parameters.length) = some n) (hR : rc.frames + 1 ≤ rm.frames ∧ 8 + (maxL + 11) + rc.locals ≤ rm.locals)
    (hn : As.length = n) (hst : st0 = As.reverse ++ .ref (ad i) :: st) (hW : (st.map fun v => v.category).sum ≤ 8) (hcs : cells + mc ≤ rm.cells ∧ slots + ms ≤ rm.slots) (d : decode cc pc = .ok (.invokespecial index, 3))
    (kk : ∀ (ad1 : Nat → Nat) (N1 : Nat) (g1 : Nat → va_E), post ad1 N1 g1 → zj_J X (cells + mc) (slots + ms) Q ad1 N1 g1 (pc + 3) L st) : zj_J X cells slots Q ad N g pc L st0 := by
  obtain ⟨p, l, e, R, s, m, args, below, meth, c, nL', z'⟩ := X
  obtain ⟨⟨hx, hb, hml, hown, hts⟩, hK, hA, hlk, rfl, hr, rfl, rfl, hU, hN, htr, hNb⟩ := C
  intro H locs ls hl hP hD hS
  refine va_callv (va_runI (As := As) (rest := st) ⟨hx, hb, hml, hown, hts⟩ hM (cwI n hts hG hw hrc hrs (hts _ hini) (hts _ hlk') (hts _ hin) hy1 hd hR) ⟨zb_blindX, fun U h1 h2 => ⟨rfl, va_Nw.warmM h2 hX, zb_end hK hA hU hN hNb hP hD hS h1 h2.alike⟩⟩ rfl hn hl.1 hst (lv_room hW) d hcs) hS (fun q _ h => h) (fun q h => h) (fun u t H1 locs1 ht hvm hq hB hz1 hk1 hS1 => ?_)
  obtain ⟨hP1, hK1, hD1, -⟩ := hB
  rw [ht] at hP1
  exact kk u.1 u.2.1 u.2.2 hq H1 locs1 ls hl hP1 hD1 hS1
theorem zj_In {X : zj_T} {z : zv_T} {cc : ByteArray} {nL : Nat} {own : String} {rm : Room} {ret : Option FieldType} (C : zj_C X z cc nL own rm ret) {cells slots : Nat} {Q : State → Prop} {ad : Nat → Nat} {N : Nat} {g : Nat → va_E} {pc : Nat} {L : List (Nat × Value)} {st st0 : List Value} {y : MethodName} {ws ws' : List Cond} {rc : Room} {bytes : ByteArray} {maxL index n i mc ms : Nat} {As : List Value} {post : (Nat → Nat) → Nat → (Nat → va_E) → Prop} {host : String} (hM : zm_c X.2.1 y ws rc z ad N g (.ref (ad i) :: As) mc ms post)
    (hl' : match X with | (_, _, _, _, s, _, _, _, _, _, _, _) => va_Nw (.methodLinkNest own index y host) s) (hG : GoodIn zt_tbl ws) (hw : ws = Cond.code y bytes maxL none :: ws') (hrc : rc.cells = mc) (hrs : rc.slots = ms) (hini : Cond.initialized y.cls ∈ zt_tbl) (hin : Cond.instanceMethod y ∈ zt_tbl) (hy1 : y.name = "<init>") (hd : y.cls ≠ "java/lang/invoke/MethodHandle" ∧ y.cls ≠ "java/lang/invoke/VarHandle" ∧ (parseMethodDescriptor y.desc).map (fun d => d.parameters.length) = some n) (hR : rc.frames + 1 ≤ rm.frames ∧ 8 + (maxL + 11) + rc.locals ≤ rm.locals)
    (hn : As.length = n) (hst : st0 = As.reverse ++ .ref (ad i) :: st) (hW : (st.map fun v => v.category).sum ≤ 8) (hcs : cells + mc ≤ rm.cells ∧ slots + ms ≤ rm.slots) (d : decode cc pc = .ok (.invokespecial index, 3))
    (kk : ∀ (ad1 : Nat → Nat) (N1 : Nat) (g1 : Nat → va_E), post ad1 N1 g1 → zj_J X (cells + mc) (slots + ms) Q ad1 N1 g1 (pc + 3) L st) : zj_J X cells slots Q ad N g pc L st0 := by
  obtain ⟨p, l, e, R, s, m, args, below, meth, c, nL', z'⟩ := X
  obtain ⟨⟨hx, hb, hml, hown, hts⟩, hK, hA, hlk, rfl, hr, rfl, rfl, hU, hN, htr, hNb⟩ := C
  intro H locs ls hl hP hD hS
  refine va_callv (va_runIN (As := As) (rest := st) ⟨hx, hb, hml, hown, hts⟩ hM ⟨va_cnB n hts hG hw hrc hrs hl' (hts _ hini) hd hR, hy1, hts _ hin⟩ ⟨zb_blind, fun U h1 h2 => ⟨rfl, zb_end hK hA hU hN hNb hP hD hS h1 h2.alike⟩⟩ rfl hn hl.1 hst (lv_room hW) d hcs) hS (fun q _ h => h) (fun q h => h) (fun u t H1 locs1 ht hvm hq hB hz1 hk1 hS1 => ?_)
  obtain ⟨hP1, hK1, hD1, -⟩ := hB
  rw [ht] at hP1
  exact kk u.1 u.2.1 u.2.2 hq H1 locs1 ls hl hP1 hD1 hS1
end ZNW
