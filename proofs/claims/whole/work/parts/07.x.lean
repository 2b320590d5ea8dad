section ZX
theorem zt_cast {args : Array Value} {s : State} {E : String} {n : Nat} (h : (Cond.instantiable E n).before args s = true) : (Cond.castable E E).before args s = true := by
  obtain ⟨cC, kC, hfc, hk, hkind, -⟩ := Cond.instantiable_spec h
  have ha : s.vm.assignable cC cC = true := va_assign ⟨hfc, kC, hk, hkind⟩
  simp [Cond.before, Cond.holds, Cond.value, hfc, ha]
def zx_X (z : zv_T) (ad : Nat → Nat) (N : Nat) (px : String → (Nat → va_E) → Prop) : String → State → State → Prop := vx_X (fun _ : Nat → va_E => True) (fun E g1 t => px E g1 ∧ zj_B z ad N g1 t) (zv_A z)
def zx_i (l : Launch) (y : MethodName) (ws : List Cond) (rm : Room) (z : zv_T) (ad : Nat → Nat) (N : Nat) (g : Nat → va_E) (av : List Value) (mc ms : Nat) (post : Int32 → (Nat → va_E) → Prop) (px : String → (Nat → va_E) → Prop) : Prop :=
  vx_Met l y ws rm (va_Pc av (zj_B z ad N g)) (va_Qi post (fun g' t => zj_B z ad N g' t) (zv_A z)) (zx_X z ad N px) mc ms (zv_A z)
def zx_v (l : Launch) (y : MethodName) (ws : List Cond) (rm : Room) (z : zv_T) (ad : Nat → Nat) (N : Nat) (g : Nat → va_E) (av : List Value) (mc ms : Nat) (post : (Nat → va_E) → Prop) (px : String → (Nat → va_E) → Prop) : Prop :=
  vx_Met l y ws rm (va_Pc av (zj_B z ad N g)) (va_Qv post (fun g' t => zj_B z ad N g' t) (zv_A z)) (zx_X z ad N px) mc ms (zv_A z)
def zx_r (l : Launch) (y : MethodName) (ws : List Cond) (rm : Room) (z : zv_T) (ad : Nat → Nat) (N : Nat) (g : Nat → va_E) (av : List Value) (mc ms : Nat) (post : Nat → (Nat → va_E) → Prop) (px : String → (Nat → va_E) → Prop) : Prop :=
  vx_Met l y ws rm (va_Pc av (zj_B z ad N g)) (va_Qr (fun u : Nat × (Nat → va_E) => post u.1 u.2) (fun u a t => a = ad u.1 ∧ zj_B z ad N u.2 t) (zv_A z)) (zx_X z ad N px) mc ms (zv_A z)
def zx_Qi (X : zj_T) (mc ms : Nat) (ad : Nat → Nat) (N : Nat) (post : Int32 → (Nat → va_E) → Prop) (px : String → (Nat → va_E) → Prop) : State → Prop := match X with
  | (_, _, _, _, s, _, args, below, _, _, _, z) => vx_MQ below (va_Qi post (fun g' t => zj_B z ad N g' t) (zv_A z)) (zx_X z ad N px) args s mc ms (zv_A z)
def zx_Qv (X : zj_T) (mc ms : Nat) (ad : Nat → Nat) (N : Nat) (post : (Nat → va_E) → Prop) (px : String → (Nat → va_E) → Prop) : State → Prop := match X with
  | (_, _, _, _, s, _, args, below, _, _, _, z) => vx_MQ below (va_Qv post (fun g' t => zj_B z ad N g' t) (zv_A z)) (zx_X z ad N px) args s mc ms (zv_A z)
def zx_Qr (X : zj_T) (mc ms : Nat) (ad : Nat → Nat) (N : Nat) (post : Nat → (Nat → va_E) → Prop) (px : String → (Nat → va_E) → Prop) : State → Prop := match X with
  | (_, _, _, _, s, _, args, below, _, _, _, z) => vx_MQ below (va_Qr (fun u : Nat × (Nat → va_E) => post u.1 u.2) (fun u a t => a = ad u.1 ∧ zj_B z ad N u.2 t) (zv_A z)) (zx_X z ad N px) args s mc ms (zv_A z)
/-- an exception of class E is over the frame -/
def zj_X (X : zj_T) (cells slots : Nat) (Q : State → Prop) (ad : Nat → Nat) (N : Nat) (g : Nat → va_E) (pc : Nat) (L : List (Nat × Value)) (st : List Value) (E : String) : Prop :=
  match X with
  | (p, l, e, R, s, m, args, below, meth, c, nL, z) => ∀ (H : Heap) (locs : List Loc) (ls : Array Slot) (ce : Cell) (q : Addr), lv_has ls nL L → va_P (zv_D z) zc_l (zw_W ad N g) H → va_D (zv_A z) (zw_W ad N g) → va_S (zv_A z) s.heap H locs → H[q]? = some ce → ce.vm = .none → s.vm.findClass E = some ce.cls → vx_W p l e R s m args below meth c H locs cells slots Q (F0 m pc ls st) q
/-- the method has no handlers -/
def zx_T (X : zj_T) : Prop := match X with
  | (_, _, _, _, _, _, _, _, _, c, _, _) => ∀ x ∈ c.exceptionTable.toList, False
theorem zx_iret {X : zj_T} {z : zv_T} {cc : ByteArray} {nL : Nat} {own : String} {rm : Room} (C : zj_C X z cc nL own rm (some .int)) {cells slots mc ms : Nat} {ad : Nat → Nat} {N : Nat} {g : Nat → va_E} {pc : Nat} {L : List (Nat × Value)} {px : String → (Nat → va_E) → Prop} {x : Int32} {post : Int32 → (Nat → va_E) → Prop} (hcs : cells ≤ mc ∧ slots ≤ ms) (d : decode cc pc = .ok (.ireturn, 1)) (h : post x g) : zj_J X cells slots (zx_Qi X mc ms ad N post px) ad N g pc L [.int x] := by
  obtain ⟨p, l, e, R, s, m, args, below, meth, c, nL', z'⟩ := X
  obtain ⟨⟨hx, hb, hml, hown, hts⟩, hK, hA, hlk, rfl, hr, rfl, rfl, hU, hN, htr, hNb⟩ := C
  intro H locs ls hl hP hD hS
  exact W.widen hcs.1 hcs.2 (vx_ret (W.iret hx hb hr (fun t ht hW => ⟨⟨x, g, rfl, h, zb_end hK hA hU hN hNb hP hD hS ht hW.alike⟩, hS.F ht⟩) hS.2.2 d hlk))
theorem zx_zret {X : zj_T} {z : zv_T} {cc : ByteArray} {nL : Nat} {own : String} {rm : Room} (C : zj_C X z cc nL own rm (some .boolean)) {cells slots mc ms : Nat} {ad : Nat → Nat} {N : Nat} {g : Nat → va_E} {pc : Nat} {L : List (Nat × Value)} {px : String → (Nat → va_E) → Prop} {x : Int32} {post : Int32 → (Nat → va_E) → Prop} (hcs : cells ≤ mc ∧ slots ≤ ms) (d : decode cc pc = .ok (.ireturn, 1)) (hn : narrow .boolean (.int x) = .int x) (h : post x g) : zj_J X cells slots (zx_Qi X mc ms ad N post px) ad N g pc L [.int x] := by
  obtain ⟨p, l, e, R, s, m, args, below, meth, c, nL', z'⟩ := X
  obtain ⟨⟨hx, hb, hml, hown, hts⟩, hK, hA, hlk, rfl, hr, rfl, rfl, hU, hN, htr, hNb⟩ := C
  intro H locs ls hl hP hD hS
  exact W.widen hcs.1 hcs.2 (vx_ret (W.zret hx hb hr hn (fun t ht hW => ⟨⟨x, g, rfl, h, zb_end hK hA hU hN hNb hP hD hS ht hW.alike⟩, hS.F ht⟩) hS.2.2 d hlk))
theorem zx_vret {X : zj_T} {z : zv_T} {cc : ByteArray} {nL : Nat} {own : String} {rm : Room} (C : zj_C X z cc nL own rm none) {cells slots mc ms : Nat} {ad : Nat → Nat} {N : Nat} {g : Nat → va_E} {pc : Nat} {L : List (Nat × Value)} {px : String → (Nat → va_E) → Prop} {post : (Nat → va_E) → Prop} (hcs : cells ≤ mc ∧ slots ≤ ms) (d : decode cc pc = .ok (.return_, 1)) (h : post g) : zj_J X cells slots (zx_Qv X mc ms ad N post px) ad N g pc L [] := by
  obtain ⟨p, l, e, R, s, m, args, below, meth, c, nL', z'⟩ := X
  obtain ⟨⟨hx, hb, hml, hown, hts⟩, hK, hA, hlk, rfl, hr, rfl, rfl, hU, hN, htr, hNb⟩ := C
  intro H locs ls hl hP hD hS
  exact W.widen hcs.1 hcs.2 (vx_ret (W.vret hx hb hr (fun t ht hW => ⟨⟨g, rfl, h, zb_end hK hA hU hN hNb hP hD hS ht hW.alike⟩, hS.F ht⟩) hS.2.2 d hlk))
theorem zx_aret {rt : String} {X : zj_T} {z : zv_T} {cc : ByteArray} {nL : Nat} {own : String} {rm : Room} (C : zj_C X z cc nL own rm (some (.object rt))) {cells slots mc ms : Nat} {ad : Nat → Nat} {N : Nat} {g : Nat → va_E} {pc : Nat} {L : List (Nat × Value)} {px : String → (Nat → va_E) → Prop} {k : Nat} {post : Nat → (Nat → va_E) → Prop} (hcs : cells ≤ mc ∧ slots ≤ ms) (d : decode cc pc = .ok (.areturn, 1)) (h : post k g) : zj_J X cells slots (zx_Qr X mc ms ad N post px) ad N g pc L [.ref (ad k)] := by
  obtain ⟨p, l, e, R, s, m, args, below, meth, c, nL', z'⟩ := X
  obtain ⟨⟨hx, hb, hml, hown, hts⟩, hK, hA, hlk, rfl, hr, rfl, rfl, hU, hN, htr, hNb⟩ := C
  intro H locs ls hl hP hD hS
  exact W.widen hcs.1 hcs.2 (vx_ret (W.aret hx hb hr (Or.inl ⟨_, rfl⟩) (Or.inr ⟨_, rfl⟩) (fun t ht hW => ⟨⟨(k, g), ad k, rfl, h, rfl, zb_end hK hA hU hN hNb hP hD hS ht hW.alike⟩, hS.F ht⟩) hS.2.2 d hlk))
theorem zx_end {z : zv_T} {ad : Nat → Nat} {N : Nat} {g : Nat → va_E} {px : String → (Nat → va_E) → Prop} {E : String} {s t : State} {H : Heap} {locs : List Loc} (hK : va_K (zv_D z) zc_l (zv_t z) s) (hA : ∀ q, s.heap.size ≤ q → zv_A z q) (hU : vx_Zq Bundle.tN "UNASSIGNED_STACK" Bundle.steD (zv_A z) s s.heap) (hN : vx_Zq Bundle.tN "SUPPRESSED_SENTINEL" Bundle.listD (zv_A z) s s.heap) (hNb : zb_N s)
    (hP : va_P (zv_D z) zc_l (zw_W ad N g) H) (hD : va_D (zv_A z) (zw_W ad N g)) (hS : va_S (zv_A z) s.heap H locs) (h : px E g) (hvm : s.vm.Alike t.vm) (hz : H.size ≤ t.heap.size) (hq : ∀ q : Nat, q < H.size → t.heap[q]? = H[q]?) : zx_X z ad N px E s t := by
  have hS' : va_S (zv_A z) s.heap t.heap locs := ⟨Nat.le_trans hS.1 hz, fun q h1 h2 => (hq q (Nat.lt_of_lt_of_le h1 hS.1)).trans (hS.2.1 q h1 h2), hS.2.2⟩
  exact ⟨g, trivial, ⟨h, zb_end hK hA hU hN hNb (hP.kept (fun k x hx => hq x.1 ((hP k x hx).lt))) hD hS' rfl hvm⟩, hS'.F rfl⟩
theorem zx_throwi {X : zj_T} {z : zv_T} {cc : ByteArray} {nL : Nat} {own : String} {rm : Room} {ret : Option FieldType} (C : zj_C X z cc nL own rm ret) {cells slots : Nat} {ad : Nat → Nat} {N : Nat} {g : Nat → va_E} {pc : Nat} {L : List (Nat × Value)} {st : List Value} {post : Int32 → (Nat → va_E) → Prop} {px : String → (Nat → va_E) → Prop} {cls : String} {names : List String} {ik ic mc ms : Nat} (ht : zx_T X) (hcls : Bundle.fit cls = true) (hnames : ∀ n ∈ names, Bundle.fit n = true)
    (hk : Cond.classLink own ik cls ∈ zt_tbl) (hini : Cond.initialized cls ∈ zt_tbl) (hat : ∀ w ∈ (vx_at0 own ic cls names).filter goodWord, w ∈ zt_tbl) (hbd : ∀ w ∈ (vx_at0 own ic cls names).filter (fun w => !goodWord w), w ∈ Cond.castable cls cls :: zb_ds.map Cond.declares) (hin : Cond.instantiable cls 6 ∈ zt_tbl) (hgood : ∀ w ∈ Cond.classLink own ik cls :: Cond.initialized cls :: vx_at0 own ic cls names, vx_ot w = true)
    (d0 : decode cc pc = .ok (.new ik, 3)) (d3 : decode cc (pc + 3) = .ok (.dup, 1)) (d4 : decode cc (pc + 4) = .ok (.invokespecial ic, 3)) (d7 : decode cc (pc + 7) = .ok (.athrow, 1))
    (hR : names.length + 3 < rm.frames ∧ (st.map fun v => v.category).sum + (13 * (names.length + 1) + 42) ≤ rm.locals ∧ cells + 1 ≤ rm.cells ∧ slots + 6 ≤ rm.slots) (hcs : cells + 1 ≤ mc ∧ slots + 6 ≤ ms) (h : px cls g) : zj_J X cells slots (zx_Qi X mc ms ad N post px) ad N g pc L st := by
  obtain ⟨p, l, e, R, s, m, args, below, meth, c, nL', z'⟩ := X
  obtain ⟨⟨hx, hb, hml, hown, hts⟩, hK, hA, hlk, rfl, hr, rfl, rfl, hU, hN, htr, hNb⟩ := C
  intro H locs ls hl hP hD hS
  exact vx_throw0 hx hb htr hown hcls hnames (hts _ hk) (hts _ hini) (vx_hat (fun w hw => hts w (hat w hw)) hbd (vx_c (zt_cast (hts _ hin)) (fun w hw => by obtain ⟨x, hx, rfl⟩ := List.mem_map.mp hw; exact va_Nw.use rfl (hNb.2.2.2.2.2 x hx)))) hgood hU hN hS (hl.1.trans hml.symm) d0 d3 d4 d7 (fun x hx' => (ht x hx').elim) hR.1 hR.2.1 hR.2.2.1 hR.2.2.2 hlk (fun t h1 h2 h3 => zx_end hK hA hU hN hNb hP hD hS h h1 h2 h3) hS.2.2 hcs.1 hcs.2
theorem zx_passi {X : zj_T} {z : zv_T} {cc : ByteArray} {nL : Nat} {own : String} {rm : Room} {ret : Option FieldType} (C : zj_C X z cc nL own rm ret) {cells slots : Nat} {ad : Nat → Nat} {N : Nat} {g : Nat → va_E} {pc : Nat} {L : List (Nat × Value)} {st : List Value} {post : Int32 → (Nat → va_E) → Prop} {px : String → (Nat → va_E) → Prop} {E : String} {mc ms : Nat} (ht : zx_T X) (hcs : cells ≤ mc ∧ slots ≤ ms) (h : px E g) : zj_X X cells slots (zx_Qi X mc ms ad N post px) ad N g pc L st E := by
  obtain ⟨p, l, e, R, s, m, args, below, meth, c, nL', z'⟩ := X
  obtain ⟨⟨hx, hb, hml, hown, hts⟩, hK, hA, hlk, rfl, hr, rfl, rfl, hU, hN, htr, hNb⟩ := C
  intro H locs ls ce q hl hP hD hS hce hcv hcl
  exact vx_out (fun x hx' => (ht x hx').elim) hlk hce hcv hcl (fun t h1 h2 => zx_end hK hA hU hN hNb hP hD hS h h2 (by rw [h1]; exact Nat.le_refl _) (fun q' _ => by rw [h1])) hS.2.2 hcs.1 hcs.2
theorem zx_throwv {X : zj_T} {z : zv_T} {cc : ByteArray} {nL : Nat} {own : String} {rm : Room} {ret : Option FieldType} (C : zj_C X z cc nL own rm ret) {cells slots : Nat} {ad : Nat → Nat} {N : Nat} {g : Nat → va_E} {pc : Nat} {L : List (Nat × Value)} {st : List Value} {post : (Nat → va_E) → Prop} {px : String → (Nat → va_E) → Prop} {cls : String} {names : List String} {ik ic mc ms : Nat} (ht : zx_T X) (hcls : Bundle.fit cls = true) (hnames : ∀ n ∈ names, Bundle.fit n = true)
    (hk : Cond.classLink own ik cls ∈ zt_tbl) (hini : Cond.initialized cls ∈ zt_tbl) (hat : ∀ w ∈ (vx_at0 own ic cls names).filter goodWord, w ∈ zt_tbl) (hbd : ∀ w ∈ (vx_at0 own ic cls names).filter (fun w => !goodWord w), w ∈ Cond.castable cls cls :: zb_ds.map Cond.declares) (hin : Cond.instantiable cls 6 ∈ zt_tbl) (hgood : ∀ w ∈ Cond.classLink own ik cls :: Cond.initialized cls :: vx_at0 own ic cls names, vx_ot w = true)
    (d0 : decode cc pc = .ok (.new ik, 3)) (d3 : decode cc (pc + 3) = .ok (.dup, 1)) (d4 : decode cc (pc + 4) = .ok (.invokespecial ic, 3)) (d7 : decode cc (pc + 7) = .ok (.athrow, 1))
    (hR : names.length + 3 < rm.frames ∧ (st.map fun v => v.category).sum + (13 * (names.length + 1) + 42) ≤ rm.locals ∧ cells + 1 ≤ rm.cells ∧ slots + 6 ≤ rm.slots) (hcs : cells + 1 ≤ mc ∧ slots + 6 ≤ ms) (h : px cls g) : zj_J X cells slots (zx_Qv X mc ms ad N post px) ad N g pc L st := by
  obtain ⟨p, l, e, R, s, m, args, below, meth, c, nL', z'⟩ := X
  obtain ⟨⟨hx, hb, hml, hown, hts⟩, hK, hA, hlk, rfl, hr, rfl, rfl, hU, hN, htr, hNb⟩ := C
  intro H locs ls hl hP hD hS
  exact vx_throw0 hx hb htr hown hcls hnames (hts _ hk) (hts _ hini) (vx_hat (fun w hw => hts w (hat w hw)) hbd (vx_c (zt_cast (hts _ hin)) (fun w hw => by obtain ⟨x, hx, rfl⟩ := List.mem_map.mp hw; exact va_Nw.use rfl (hNb.2.2.2.2.2 x hx)))) hgood hU hN hS (hl.1.trans hml.symm) d0 d3 d4 d7 (fun x hx' => (ht x hx').elim) hR.1 hR.2.1 hR.2.2.1 hR.2.2.2 hlk (fun t h1 h2 h3 => zx_end hK hA hU hN hNb hP hD hS h h1 h2 h3) hS.2.2 hcs.1 hcs.2
theorem zx_passv {X : zj_T} {z : zv_T} {cc : ByteArray} {nL : Nat} {own : String} {rm : Room} {ret : Option FieldType} (C : zj_C X z cc nL own rm ret) {cells slots : Nat} {ad : Nat → Nat} {N : Nat} {g : Nat → va_E} {pc : Nat} {L : List (Nat × Value)} {st : List Value} {post : (Nat → va_E) → Prop} {px : String → (Nat → va_E) → Prop} {E : String} {mc ms : Nat} (ht : zx_T X) (hcs : cells ≤ mc ∧ slots ≤ ms) (h : px E g) : zj_X X cells slots (zx_Qv X mc ms ad N post px) ad N g pc L st E := by
  obtain ⟨p, l, e, R, s, m, args, below, meth, c, nL', z'⟩ := X
  obtain ⟨⟨hx, hb, hml, hown, hts⟩, hK, hA, hlk, rfl, hr, rfl, rfl, hU, hN, htr, hNb⟩ := C
  intro H locs ls ce q hl hP hD hS hce hcv hcl
  exact vx_out (fun x hx' => (ht x hx').elim) hlk hce hcv hcl (fun t h1 h2 => zx_end hK hA hU hN hNb hP hD hS h h2 (by rw [h1]; exact Nat.le_refl _) (fun q' _ => by rw [h1])) hS.2.2 hcs.1 hcs.2
theorem zx_throwr {X : zj_T} {z : zv_T} {cc : ByteArray} {nL : Nat} {own : String} {rm : Room} {ret : Option FieldType} (C : zj_C X z cc nL own rm ret) {cells slots : Nat} {ad : Nat → Nat} {N : Nat} {g : Nat → va_E} {pc : Nat} {L : List (Nat × Value)} {st : List Value} {post : Nat → (Nat → va_E) → Prop} {px : String → (Nat → va_E) → Prop} {cls : String} {names : List String} {ik ic mc ms : Nat} (ht : zx_T X) (hcls : Bundle.fit cls = true) (hnames : ∀ n ∈ names, Bundle.fit n = true)
    (hk : Cond.classLink own ik cls ∈ zt_tbl) (hini : Cond.initialized cls ∈ zt_tbl) (hat : ∀ w ∈ (vx_at0 own ic cls names).filter goodWord, w ∈ zt_tbl) (hbd : ∀ w ∈ (vx_at0 own ic cls names).filter (fun w => !goodWord w), w ∈ Cond.castable cls cls :: zb_ds.map Cond.declares) (hin : Cond.instantiable cls 6 ∈ zt_tbl) (hgood : ∀ w ∈ Cond.classLink own ik cls :: Cond.initialized cls :: vx_at0 own ic cls names, vx_ot w = true)
    (d0 : decode cc pc = .ok (.new ik, 3)) (d3 : decode cc (pc + 3) = .ok (.dup, 1)) (d4 : decode cc (pc + 4) = .ok (.invokespecial ic, 3)) (d7 : decode cc (pc + 7) = .ok (.athrow, 1))
    (hR : names.length + 3 < rm.frames ∧ (st.map fun v => v.category).sum + (13 * (names.length + 1) + 42) ≤ rm.locals ∧ cells + 1 ≤ rm.cells ∧ slots + 6 ≤ rm.slots) (hcs : cells + 1 ≤ mc ∧ slots + 6 ≤ ms) (h : px cls g) : zj_J X cells slots (zx_Qr X mc ms ad N post px) ad N g pc L st := by
  obtain ⟨p, l, e, R, s, m, args, below, meth, c, nL', z'⟩ := X
  obtain ⟨⟨hx, hb, hml, hown, hts⟩, hK, hA, hlk, rfl, hr, rfl, rfl, hU, hN, htr, hNb⟩ := C
  intro H locs ls hl hP hD hS
  exact vx_throw0 hx hb htr hown hcls hnames (hts _ hk) (hts _ hini) (vx_hat (fun w hw => hts w (hat w hw)) hbd (vx_c (zt_cast (hts _ hin)) (fun w hw => by obtain ⟨x, hx, rfl⟩ := List.mem_map.mp hw; exact va_Nw.use rfl (hNb.2.2.2.2.2 x hx)))) hgood hU hN hS (hl.1.trans hml.symm) d0 d3 d4 d7 (fun x hx' => (ht x hx').elim) hR.1 hR.2.1 hR.2.2.1 hR.2.2.2 hlk (fun t h1 h2 h3 => zx_end hK hA hU hN hNb hP hD hS h h1 h2 h3) hS.2.2 hcs.1 hcs.2
theorem zx_passr {X : zj_T} {z : zv_T} {cc : ByteArray} {nL : Nat} {own : String} {rm : Room} {ret : Option FieldType} (C : zj_C X z cc nL own rm ret) {cells slots : Nat} {ad : Nat → Nat} {N : Nat} {g : Nat → va_E} {pc : Nat} {L : List (Nat × Value)} {st : List Value} {post : Nat → (Nat → va_E) → Prop} {px : String → (Nat → va_E) → Prop} {E : String} {mc ms : Nat} (ht : zx_T X) (hcs : cells ≤ mc ∧ slots ≤ ms) (h : px E g) : zj_X X cells slots (zx_Qr X mc ms ad N post px) ad N g pc L st E := by
  obtain ⟨p, l, e, R, s, m, args, below, meth, c, nL', z'⟩ := X
  obtain ⟨⟨hx, hb, hml, hown, hts⟩, hK, hA, hlk, rfl, hr, rfl, rfl, hU, hN, htr, hNb⟩ := C
  intro H locs ls ce q hl hP hD hS hce hcv hcl
  exact vx_out (fun x hx' => (ht x hx').elim) hlk hce hcv hcl (fun t h1 h2 => zx_end hK hA hU hN hNb hP hD hS h h2 (by rw [h1]; exact Nat.le_refl _) (fun q' _ => by rw [h1])) hS.2.2 hcs.1 hcs.2
theorem zx_ofi {l : Launch} {y : MethodName} {ws : List Cond} {rm : Room} {z : zv_T} {ad : Nat → Nat} {N : Nat} {g : Nat → va_E} {av : List Value} {post : Int32 → (Nat → va_E) → Prop} {px : String → (Nat → va_E) → Prop} {mc ms : Nat} {cc : ByteArray} {nL : Nat} (hst : l.stackTraces = false) (hy : plainName y.cls = true) (hw' : ws = Cond.code y cc nL (some .int) :: zt_tbl) (hlen : (lg_sl av).length ≤ nL)
    (body : ∀ X : zj_T, X.2.1 = l → zj_C X z cc nL y.cls rm (some .int) → zx_T X → zj_J X 0 0 (zx_Qi X mc ms ad N post px) ad N g 0 (lv_args 0 av) []) : zx_i l y ws rm z ad N g av mc ms post px := by
  refine vx_ofW (cc := cc) (maxL := nL) (ret := (some .int)) hy hw' ?_
  intro p e s m args below meth c s₁ B hml ht hv
  obtain ⟨rfl, hP, hK, hD, hA, hU, hN, hNb⟩ := hv
  have hown : s.vm.findClass y.cls = some m.cls := findClass_of_methodNamed B.named
  have h := body (p, l, e, (headSpec ws rm).room, s, m, av.toArray, below, meth, c, nL, z) rfl ⟨⟨B.exec, B.bytes, hml, hown, fun w hw => atoms_spec (ws := ws) B.pre w (by rw [hw']; exact List.mem_cons_of_mem _ hw)⟩, hK, hA, B.notSynchronized, rfl, B.returns, rfl, rfl, hU, hN, hst, hNb⟩ ht
  rw [lg_entry_eq]
  exact h s.heap [] _ (lv_entry av hlen) hP hD va_S.rf
theorem zx_ofv {l : Launch} {y : MethodName} {ws : List Cond} {rm : Room} {z : zv_T} {ad : Nat → Nat} {N : Nat} {g : Nat → va_E} {av : List Value} {post : (Nat → va_E) → Prop} {px : String → (Nat → va_E) → Prop} {mc ms : Nat} {cc : ByteArray} {nL : Nat} (hst : l.stackTraces = false) (hy : plainName y.cls = true) (hw' : ws = Cond.code y cc nL none :: zt_tbl) (hlen : (lg_sl av).length ≤ nL)
    (body : ∀ X : zj_T, X.2.1 = l → zj_C X z cc nL y.cls rm none → zx_T X → zj_J X 0 0 (zx_Qv X mc ms ad N post px) ad N g 0 (lv_args 0 av) []) : zx_v l y ws rm z ad N g av mc ms post px := by
  refine vx_ofW (cc := cc) (maxL := nL) (ret := none) hy hw' ?_
  intro p e s m args below meth c s₁ B hml ht hv
  obtain ⟨rfl, hP, hK, hD, hA, hU, hN, hNb⟩ := hv
  have hown : s.vm.findClass y.cls = some m.cls := findClass_of_methodNamed B.named
  have h := body (p, l, e, (headSpec ws rm).room, s, m, av.toArray, below, meth, c, nL, z) rfl ⟨⟨B.exec, B.bytes, hml, hown, fun w hw => atoms_spec (ws := ws) B.pre w (by rw [hw']; exact List.mem_cons_of_mem _ hw)⟩, hK, hA, B.notSynchronized, rfl, B.returns, rfl, rfl, hU, hN, hst, hNb⟩ ht
  rw [lg_entry_eq]
  exact h s.heap [] _ (lv_entry av hlen) hP hD va_S.rf
theorem zx_ofr {l : Launch} {y : MethodName} {ws : List Cond} {rm : Room} {z : zv_T} {ad : Nat → Nat} {N : Nat} {g : Nat → va_E} {av : List Value} {rt : String} {post : Nat → (Nat → va_E) → Prop} {px : String → (Nat → va_E) → Prop} {mc ms : Nat} {cc : ByteArray} {nL : Nat} (hst : l.stackTraces = false) (hy : plainName y.cls = true) (hw' : ws = Cond.code y cc nL (some (.object rt)) :: zt_tbl) (hlen : (lg_sl av).length ≤ nL)
    (body : ∀ X : zj_T, X.2.1 = l → zj_C X z cc nL y.cls rm (some (.object rt)) → zx_T X → zj_J X 0 0 (zx_Qr X mc ms ad N post px) ad N g 0 (lv_args 0 av) []) : zx_r l y ws rm z ad N g av mc ms post px := by
  refine vx_ofW (cc := cc) (maxL := nL) (ret := (some (.object rt))) hy hw' ?_
  intro p e s m args below meth c s₁ B hml ht hv
  obtain ⟨rfl, hP, hK, hD, hA, hU, hN, hNb⟩ := hv
  have hown : s.vm.findClass y.cls = some m.cls := findClass_of_methodNamed B.named
  have h := body (p, l, e, (headSpec ws rm).room, s, m, av.toArray, below, meth, c, nL, z) rfl ⟨⟨B.exec, B.bytes, hml, hown, fun w hw => atoms_spec (ws := ws) B.pre w (by rw [hw']; exact List.mem_cons_of_mem _ hw)⟩, hK, hA, B.notSynchronized, rfl, B.returns, rfl, rfl, hU, hN, hst, hNb⟩ ht
  rw [lg_entry_eq]
  exact h s.heap [] _ (lv_entry av hlen) hP hD va_S.rf
theorem zx_callr {p : Program} {l : Launch} {e : Env} {R : Room} {s : State} {m : MethodId} {args : Array Value} {below : List Frame} {meth : Method} {c : Code} {H : Heap} {locs : List Loc} {cells slots mc ms : Nat} {Q : State → Prop} {free : Addr → Prop} {A0 A1 : Nat → Prop} {H0 : Heap} {a : Array Value} {pc : Nat} {ls : Array Slot} {st0 rest : List Value} {S SX : Type} {post : S → Prop} {px : SX → Prop} {B : S → Nat → State → Prop} {BX : String → SX → State → Prop} {AX : Nat → Prop} (hr : vx_Run p l e R s m args below meth c H locs cells slots mc ms (F0 m pc ls st0) rest (va_Qr post B A1 a) (vx_X px BX AX) free) (hS : va_S A0 H0 H locs) (hA : ∀ q, q < H.size → A1 q → A0 q) (hf : ∀ q, free q → A0 q) (hAX : ∀ q, q < H.size → AX q → A0 q)
    (kx : ∀ (E : String) (ce : Cell) (q9 : Addr) (u : SX) (t : State) (H1 : Heap) (locs1 : List Loc), t.heap = H1 → s.vm.Alike t.vm → px u → BX E u t → H.size ≤ H1.size → (∀ q : Nat, q < H.size → ¬ AX q → H1[q]? = H[q]?) → va_S A0 H0 H1 locs1 → H1[q9]? = some ce → ce.vm = .none → s.vm.findClass E = some ce.cls → vx_W p l e R s m args below meth c H1 locs1 (cells + mc) (slots + ms) Q (F0 m pc ls rest) q9)
    (kk : ∀ (u : S) (ra : Nat) (t : State) (H1 : Heap) (locs1 : List Loc), t.heap = H1 → s.vm.Alike t.vm → post u → B u ra t → H.size ≤ H1.size → (∀ q : Nat, q < H.size → ¬ A1 q → H1[q]? = H[q]?) → va_S A0 H0 H1 locs1 → W p l e R s m args below meth c H1 locs1 (cells + mc) (slots + ms) Q (F0 m (pc + 3) ls (.ref ra :: rest))) : W p l e R s m args below meth c H locs cells slots Q (F0 m pc ls st0) := by
  intro T hT X
  rcases hr T hT X with ⟨v, st₀, t, T', L, h0, X', hL, e1, e2, ⟨⟨u, ra, hv, hp, hb⟩, hF⟩, st⟩ | ⟨q, st₀, t, T', L, E, ce, h0, X', hL, e1, e2, ⟨u, hp, hb, hF⟩, hce, hcv, hcl, st⟩
  · cases hv
    obtain ⟨k1, k2, k3⟩ := vx_keep h0 e1 hS hA hf hL hF
    obtain ⟨t2, a1, b1⟩ := kk u ra t T'.heap (locs ++ L) e1.symm (by rw [← e2]; exact X'.warmed.alike) hp hb k1 k2 k3 T' rfl X'
    exact ⟨t2, st t2 a1, b1⟩
  · obtain ⟨k1, k2, k3⟩ := vx_keep h0 e1 hS hAX hf hL hF
    obtain ⟨t2, a1, b1⟩ := kx E ce q u t T'.heap (locs ++ L) e1.symm (by rw [← e2]; exact X'.warmed.alike) hp hb k1 k2 k3 (by rw [e1]; exact hce) hcv hcl T' rfl X'
    exact ⟨t2, st.trans a1, b1⟩
theorem zx_Vi {X : zj_T} {z : zv_T} {cc : ByteArray} {nL : Nat} {own : String} {rm : Room} {ret : Option FieldType} (C : zj_C X z cc nL own rm ret) {cells slots : Nat} {Q : State → Prop} {ad : Nat → Nat} {N : Nat} {g : Nat → va_E} {pc : Nat} {L : List (Nat × Value)} {st st0 : List Value} {rt : FieldType} {y : MethodName} {ws ws' : List Cond} {rc : Room} {bytes : ByteArray} {maxL index n mc ms : Nat} {CC : String} {T : u_T} {M i ci : Nat} {fs : List Value} {As : List Value} {post : Int32 → (Nat → va_E) → Prop} {px : String → (Nat → va_E) → Prop} (hM : zx_i X.2.1 y ws rc z ad N g (.ref (ad i) :: As) mc ms post px)
    (hG : GoodIn zt_tbl (wsV own index CC y ws)) (hw : ws = Cond.code y bytes maxL (some rt) :: ws') (hrc : rc.cells = mc) (hrs : rc.slots = ms) (hd : y.cls = CC ∧ y.cls ≠ "java/lang/invoke/MethodHandle" ∧ y.cls ≠ "java/lang/invoke/VarHandle" ∧ (parseMethodDescriptor y.desc).map (fun d => d.parameters.length) = some n) (hR : rc.frames + 1 ≤ rm.frames ∧ 8 + (maxL + 11) + rc.locals ≤ rm.locals)
    (hi : i < N) (he : g i = ze_o ci fs) (hc : zc_l[ci]? = some (CC, T, M)) (hn : As.length = n) (hst : st0 = As.reverse ++ .ref (ad i) :: st) (hW : (st.map fun v => v.category).sum ≤ 8) (hcs : cells + mc ≤ rm.cells ∧ slots + ms ≤ rm.slots) (d : decode cc pc = .ok (.invokevirtual index, 3))
    (kx : ∀ (E : String) (g1 : Nat → va_E), px E g1 → zj_X X (cells + mc) (slots + ms) Q ad N g1 pc L st E)
    (kk : ∀ (r : Int32) (g1 : Nat → va_E), post r g1 → zj_J X (cells + mc) (slots + ms) Q ad N g1 (pc + 3) L (.int r :: st)) : zj_J X cells slots Q ad N g pc L st0 := by
  obtain ⟨p, l, e, R, s, m, args, below, meth, c, nL', z'⟩ := X
  obtain ⟨⟨hx, hb, hml, hown, hts⟩, hK, hA, hlk, rfl, hr, rfl, rfl, hU, hN, htr, hNb⟩ := C
  intro H locs ls hl hP hD hS
  refine vx_calli (vx_runV (As := As) (rest := st) ⟨hx, hb, hml, hown, hts⟩ hM (cwV n hts hG hw hrc hrs hd hR) ⟨zb_blind, va_recv hK hP hc (zw_ate hi he), fun U h1 h2 => ⟨rfl, zb_end hK hA hU hN hNb hP hD hS h1 h2.alike⟩⟩ rfl hn hl.1 hst (lv_room hW) d hcs) hS (fun q _ h => h) (fun q h => h) (fun q _ h => h) (fun E ce q9 g1 t H1 locs1 ht hvm _ hB hz1 hk1 hS1 hce hcv hcl => ?_) (fun r g1 t H1 locs1 ht hvm hq hB hz1 hk1 hS1 => ?_)
  · obtain ⟨hpx, hP1, hK1, hD1, -⟩ := hB
    rw [ht] at hP1
    exact kx E g1 hpx H1 locs1 ls ce q9 hl hP1 hD1 hS1 hce hcv hcl
  · obtain ⟨hP1, hK1, hD1, -⟩ := hB
    rw [ht] at hP1
    exact kk r g1 hq H1 locs1 ls hl hP1 hD1 hS1
theorem zx_Si {X : zj_T} {z : zv_T} {cc : ByteArray} {nL : Nat} {own : String} {rm : Room} {ret : Option FieldType} (C : zj_C X z cc nL own rm ret) {cells slots : Nat} {Q : State → Prop} {ad : Nat → Nat} {N : Nat} {g : Nat → va_E} {pc : Nat} {L : List (Nat × Value)} {st st0 : List Value} {rt : FieldType} {y : MethodName} {ws ws' : List Cond} {rc : Room} {bytes : ByteArray} {maxL index n mc ms : Nat}  {As : List Value} {post : Int32 → (Nat → va_E) → Prop} {px : String → (Nat → va_E) → Prop} (hM : zx_i X.2.1 y ws rc z ad N g As mc ms post px)
    (hG : GoodIn zt_tbl (wsS own index y ws)) (hw : ws = Cond.code y bytes maxL (some rt) :: ws') (hrc : rc.cells = mc) (hrs : rc.slots = ms) (hd : y.cls = own ∧ y.cls ≠ "java/lang/invoke/MethodHandle" ∧ y.cls ≠ "java/lang/invoke/VarHandle" ∧ (parseMethodDescriptor y.desc).map (fun d => d.parameters.length) = some n) (hR : rc.frames + 1 ≤ rm.frames ∧ 8 + (maxL + 11) + rc.locals ≤ rm.locals)
     (hn : As.length = n) (hst : st0 = As.reverse ++ st) (hW : (st.map fun v => v.category).sum ≤ 8) (hcs : cells + mc ≤ rm.cells ∧ slots + ms ≤ rm.slots) (d : decode cc pc = .ok (.invokestatic index, 3))
    (kx : ∀ (E : String) (g1 : Nat → va_E), px E g1 → zj_X X (cells + mc) (slots + ms) Q ad N g1 pc L st E)
    (kk : ∀ (r : Int32) (g1 : Nat → va_E), post r g1 → zj_J X (cells + mc) (slots + ms) Q ad N g1 (pc + 3) L (.int r :: st)) : zj_J X cells slots Q ad N g pc L st0 := by
  obtain ⟨p, l, e, R, s, m, args, below, meth, c, nL', z'⟩ := X
  obtain ⟨⟨hx, hb, hml, hown, hts⟩, hK, hA, hlk, rfl, hr, rfl, rfl, hU, hN, htr, hNb⟩ := C
  intro H locs ls hl hP hD hS
  refine vx_calli (vx_runS (As := As) (rest := st) ⟨hx, hb, hml, hown, hts⟩ hM (cwS n hts hG hw hrc hrs hd hR) ⟨zb_blind, fun U h1 h2 => ⟨rfl, zb_end hK hA hU hN hNb hP hD hS h1 h2.alike⟩⟩ rfl hn hl.1 hst (lv_room hW) d hcs) hS (fun q _ h => h) (fun q h => h) (fun q _ h => h) (fun E ce q9 g1 t H1 locs1 ht hvm _ hB hz1 hk1 hS1 hce hcv hcl => ?_) (fun r g1 t H1 locs1 ht hvm hq hB hz1 hk1 hS1 => ?_)
  · obtain ⟨hpx, hP1, hK1, hD1, -⟩ := hB
    rw [ht] at hP1
    exact kx E g1 hpx H1 locs1 ls ce q9 hl hP1 hD1 hS1 hce hcv hcl
  · obtain ⟨hP1, hK1, hD1, -⟩ := hB
    rw [ht] at hP1
    exact kk r g1 hq H1 locs1 ls hl hP1 hD1 hS1
theorem zx_Vv {X : zj_T} {z : zv_T} {cc : ByteArray} {nL : Nat} {own : String} {rm : Room} {ret : Option FieldType} (C : zj_C X z cc nL own rm ret) {cells slots : Nat} {Q : State → Prop} {ad : Nat → Nat} {N : Nat} {g : Nat → va_E} {pc : Nat} {L : List (Nat × Value)} {st st0 : List Value} {y : MethodName} {ws ws' : List Cond} {rc : Room} {bytes : ByteArray} {maxL index n mc ms : Nat} {CC : String} {T : u_T} {M i ci : Nat} {fs : List Value} {As : List Value} {post : (Nat → va_E) → Prop} {px : String → (Nat → va_E) → Prop} (hM : zx_v X.2.1 y ws rc z ad N g (.ref (ad i) :: As) mc ms post px)
    (hG : GoodIn zt_tbl (wsV own index CC y ws)) (hw : ws = Cond.code y bytes maxL none :: ws') (hrc : rc.cells = mc) (hrs : rc.slots = ms) (hd : y.cls = CC ∧ y.cls ≠ "java/lang/invoke/MethodHandle" ∧ y.cls ≠ "java/lang/invoke/VarHandle" ∧ (parseMethodDescriptor y.desc).map (fun d => d.parameters.length) = some n) (hR : rc.frames + 1 ≤ rm.frames ∧ 8 + (maxL + 11) + rc.locals ≤ rm.locals)
    (hi : i < N) (he : g i = ze_o ci fs) (hc : zc_l[ci]? = some (CC, T, M)) (hn : As.length = n) (hst : st0 = As.reverse ++ .ref (ad i) :: st) (hW : (st.map fun v => v.category).sum ≤ 8) (hcs : cells + mc ≤ rm.cells ∧ slots + ms ≤ rm.slots) (d : decode cc pc = .ok (.invokevirtual index, 3))
    (kx : ∀ (E : String) (g1 : Nat → va_E), px E g1 → zj_X X (cells + mc) (slots + ms) Q ad N g1 pc L st E)
    (kk : ∀ (g1 : Nat → va_E), post g1 → zj_J X (cells + mc) (slots + ms) Q ad N g1 (pc + 3) L st) : zj_J X cells slots Q ad N g pc L st0 := by
  obtain ⟨p, l, e, R, s, m, args, below, meth, c, nL', z'⟩ := X
  obtain ⟨⟨hx, hb, hml, hown, hts⟩, hK, hA, hlk, rfl, hr, rfl, rfl, hU, hN, htr, hNb⟩ := C
  intro H locs ls hl hP hD hS
  refine vx_callv (vx_runV (As := As) (rest := st) ⟨hx, hb, hml, hown, hts⟩ hM (cwV n hts hG hw hrc hrs hd hR) ⟨zb_blind, va_recv hK hP hc (zw_ate hi he), fun U h1 h2 => ⟨rfl, zb_end hK hA hU hN hNb hP hD hS h1 h2.alike⟩⟩ rfl hn hl.1 hst (lv_room hW) d hcs) hS (fun q _ h => h) (fun q h => h) (fun q _ h => h) (fun E ce q9 g1 t H1 locs1 ht hvm _ hB hz1 hk1 hS1 hce hcv hcl => ?_) (fun g1 t H1 locs1 ht hvm hq hB hz1 hk1 hS1 => ?_)
  · obtain ⟨hpx, hP1, hK1, hD1, -⟩ := hB
    rw [ht] at hP1
    exact kx E g1 hpx H1 locs1 ls ce q9 hl hP1 hD1 hS1 hce hcv hcl
  · obtain ⟨hP1, hK1, hD1, -⟩ := hB
    rw [ht] at hP1
    exact kk g1 hq H1 locs1 ls hl hP1 hD1 hS1
theorem zx_Sv {X : zj_T} {z : zv_T} {cc : ByteArray} {nL : Nat} {own : String} {rm : Room} {ret : Option FieldType} (C : zj_C X z cc nL own rm ret) {cells slots : Nat} {Q : State → Prop} {ad : Nat → Nat} {N : Nat} {g : Nat → va_E} {pc : Nat} {L : List (Nat × Value)} {st st0 : List Value} {y : MethodName} {ws ws' : List Cond} {rc : Room} {bytes : ByteArray} {maxL index n mc ms : Nat}  {As : List Value} {post : (Nat → va_E) → Prop} {px : String → (Nat → va_E) → Prop} (hM : zx_v X.2.1 y ws rc z ad N g As mc ms post px)
    (hG : GoodIn zt_tbl (wsS own index y ws)) (hw : ws = Cond.code y bytes maxL none :: ws') (hrc : rc.cells = mc) (hrs : rc.slots = ms) (hd : y.cls = own ∧ y.cls ≠ "java/lang/invoke/MethodHandle" ∧ y.cls ≠ "java/lang/invoke/VarHandle" ∧ (parseMethodDescriptor y.desc).map (fun d => d.parameters.length) = some n) (hR : rc.frames + 1 ≤ rm.frames ∧ 8 + (maxL + 11) + rc.locals ≤ rm.locals)
     (hn : As.length = n) (hst : st0 = As.reverse ++ st) (hW : (st.map fun v => v.category).sum ≤ 8) (hcs : cells + mc ≤ rm.cells ∧ slots + ms ≤ rm.slots) (d : decode cc pc = .ok (.invokestatic index, 3))
    (kx : ∀ (E : String) (g1 : Nat → va_E), px E g1 → zj_X X (cells + mc) (slots + ms) Q ad N g1 pc L st E)
    (kk : ∀ (g1 : Nat → va_E), post g1 → zj_J X (cells + mc) (slots + ms) Q ad N g1 (pc + 3) L st) : zj_J X cells slots Q ad N g pc L st0 := by
  obtain ⟨p, l, e, R, s, m, args, below, meth, c, nL', z'⟩ := X
  obtain ⟨⟨hx, hb, hml, hown, hts⟩, hK, hA, hlk, rfl, hr, rfl, rfl, hU, hN, htr, hNb⟩ := C
  intro H locs ls hl hP hD hS
  refine vx_callv (vx_runS (As := As) (rest := st) ⟨hx, hb, hml, hown, hts⟩ hM (cwS n hts hG hw hrc hrs hd hR) ⟨zb_blind, fun U h1 h2 => ⟨rfl, zb_end hK hA hU hN hNb hP hD hS h1 h2.alike⟩⟩ rfl hn hl.1 hst (lv_room hW) d hcs) hS (fun q _ h => h) (fun q h => h) (fun q _ h => h) (fun E ce q9 g1 t H1 locs1 ht hvm _ hB hz1 hk1 hS1 hce hcv hcl => ?_) (fun g1 t H1 locs1 ht hvm hq hB hz1 hk1 hS1 => ?_)
  · obtain ⟨hpx, hP1, hK1, hD1, -⟩ := hB
    rw [ht] at hP1
    exact kx E g1 hpx H1 locs1 ls ce q9 hl hP1 hD1 hS1 hce hcv hcl
  · obtain ⟨hP1, hK1, hD1, -⟩ := hB
    rw [ht] at hP1
    exact kk g1 hq H1 locs1 ls hl hP1 hD1 hS1
theorem zx_Vr {X : zj_T} {z : zv_T} {cc : ByteArray} {nL : Nat} {own : String} {rm : Room} {ret : Option FieldType} (C : zj_C X z cc nL own rm ret) {cells slots : Nat} {Q : State → Prop} {ad : Nat → Nat} {N : Nat} {g : Nat → va_E} {pc : Nat} {L : List (Nat × Value)} {st st0 : List Value} {rt : FieldType} {y : MethodName} {ws ws' : List Cond} {rc : Room} {bytes : ByteArray} {maxL index n mc ms : Nat} {CC : String} {T : u_T} {M i ci : Nat} {fs : List Value} {As : List Value} {post : Nat → (Nat → va_E) → Prop} {px : String → (Nat → va_E) → Prop} (hM : zx_r X.2.1 y ws rc z ad N g (.ref (ad i) :: As) mc ms post px)
    (hG : GoodIn zt_tbl (wsV own index CC y ws)) (hw : ws = Cond.code y bytes maxL (some rt) :: ws') (hrc : rc.cells = mc) (hrs : rc.slots = ms) (hd : y.cls = CC ∧ y.cls ≠ "java/lang/invoke/MethodHandle" ∧ y.cls ≠ "java/lang/invoke/VarHandle" ∧ (parseMethodDescriptor y.desc).map (fun d => d.parameters.length) = some n) (hR : rc.frames + 1 ≤ rm.frames ∧ 8 + (maxL + 11) + rc.locals ≤ rm.locals)
    (hi : i < N) (he : g i = ze_o ci fs) (hc : zc_l[ci]? = some (CC, T, M)) (hn : As.length = n) (hst : st0 = As.reverse ++ .ref (ad i) :: st) (hW : (st.map fun v => v.category).sum ≤ 8) (hcs : cells + mc ≤ rm.cells ∧ slots + ms ≤ rm.slots) (d : decode cc pc = .ok (.invokevirtual index, 3))
    (kx : ∀ (E : String) (g1 : Nat → va_E), px E g1 → zj_X X (cells + mc) (slots + ms) Q ad N g1 pc L st E)
    (kk : ∀ (k : Nat) (g1 : Nat → va_E), post k g1 → zj_J X (cells + mc) (slots + ms) Q ad N g1 (pc + 3) L (.ref (ad k) :: st)) : zj_J X cells slots Q ad N g pc L st0 := by
  obtain ⟨p, l, e, R, s, m, args, below, meth, c, nL', z'⟩ := X
  obtain ⟨⟨hx, hb, hml, hown, hts⟩, hK, hA, hlk, rfl, hr, rfl, rfl, hU, hN, htr, hNb⟩ := C
  intro H locs ls hl hP hD hS
  refine zx_callr (vx_runV (As := As) (rest := st) ⟨hx, hb, hml, hown, hts⟩ hM (cwV n hts hG hw hrc hrs hd hR) ⟨zb_blind, va_recv hK hP hc (zw_ate hi he), fun U h1 h2 => ⟨rfl, zb_end hK hA hU hN hNb hP hD hS h1 h2.alike⟩⟩ rfl hn hl.1 hst (lv_room hW) d hcs) hS (fun q _ h => h) (fun q h => h) (fun q _ h => h) (fun E ce q9 g1 t H1 locs1 ht hvm _ hB hz1 hk1 hS1 hce hcv hcl => ?_) (fun u a t H1 locs1 ht hvm hq hB0 hz1 hk1 hS1 => ?_)
  · obtain ⟨hpx, hP1, hK1, hD1, -⟩ := hB
    rw [ht] at hP1
    exact kx E g1 hpx H1 locs1 ls ce q9 hl hP1 hD1 hS1 hce hcv hcl
  · obtain ⟨rfl, hB⟩ := hB0
    obtain ⟨hP1, hK1, hD1, -⟩ := hB
    rw [ht] at hP1
    exact kk u.1 u.2 hq H1 locs1 ls hl hP1 hD1 hS1
theorem zx_Sr {X : zj_T} {z : zv_T} {cc : ByteArray} {nL : Nat} {own : String} {rm : Room} {ret : Option FieldType} (C : zj_C X z cc nL own rm ret) {cells slots : Nat} {Q : State → Prop} {ad : Nat → Nat} {N : Nat} {g : Nat → va_E} {pc : Nat} {L : List (Nat × Value)} {st st0 : List Value} {rt : FieldType} {y : MethodName} {ws ws' : List Cond} {rc : Room} {bytes : ByteArray} {maxL index n mc ms : Nat}  {As : List Value} {post : Nat → (Nat → va_E) → Prop} {px : String → (Nat → va_E) → Prop} (hM : zx_r X.2.1 y ws rc z ad N g As mc ms post px)
    (hG : GoodIn zt_tbl (wsS own index y ws)) (hw : ws = Cond.code y bytes maxL (some rt) :: ws') (hrc : rc.cells = mc) (hrs : rc.slots = ms) (hd : y.cls = own ∧ y.cls ≠ "java/lang/invoke/MethodHandle" ∧ y.cls ≠ "java/lang/invoke/VarHandle" ∧ (parseMethodDescriptor y.desc).map (fun d => d.parameters.length) = some n) (hR : rc.frames + 1 ≤ rm.frames ∧ 8 + (maxL + 11) + rc.locals ≤ rm.locals)
     (hn : As.length = n) (hst : st0 = As.reverse ++ st) (hW : (st.map fun v => v.category).sum ≤ 8) (hcs : cells + mc ≤ rm.cells ∧ slots + ms ≤ rm.slots) (d : decode cc pc = .ok (.invokestatic index, 3))
    (kx : ∀ (E : String) (g1 : Nat → va_E), px E g1 → zj_X X (cells + mc) (slots + ms) Q ad N g1 pc L st E)
    (kk : ∀ (k : Nat) (g1 : Nat → va_E), post k g1 → zj_J X (cells + mc) (slots + ms) Q ad N g1 (pc + 3) L (.ref (ad k) :: st)) : zj_J X cells slots Q ad N g pc L st0 := by
  obtain ⟨p, l, e, R, s, m, args, below, meth, c, nL', z'⟩ := X
  obtain ⟨⟨hx, hb, hml, hown, hts⟩, hK, hA, hlk, rfl, hr, rfl, rfl, hU, hN, htr, hNb⟩ := C
  intro H locs ls hl hP hD hS
  refine zx_callr (vx_runS (As := As) (rest := st) ⟨hx, hb, hml, hown, hts⟩ hM (cwS n hts hG hw hrc hrs hd hR) ⟨zb_blind, fun U h1 h2 => ⟨rfl, zb_end hK hA hU hN hNb hP hD hS h1 h2.alike⟩⟩ rfl hn hl.1 hst (lv_room hW) d hcs) hS (fun q _ h => h) (fun q h => h) (fun q _ h => h) (fun E ce q9 g1 t H1 locs1 ht hvm _ hB hz1 hk1 hS1 hce hcv hcl => ?_) (fun u a t H1 locs1 ht hvm hq hB0 hz1 hk1 hS1 => ?_)
  · obtain ⟨hpx, hP1, hK1, hD1, -⟩ := hB
    rw [ht] at hP1
    exact kx E g1 hpx H1 locs1 ls ce q9 hl hP1 hD1 hS1 hce hcv hcl
  · obtain ⟨rfl, hB⟩ := hB0
    obtain ⟨hP1, hK1, hD1, -⟩ := hB
    rw [ht] at hP1
    exact kk u.1 u.2 hq H1 locs1 ls hl hP1 hD1 hS1
end ZX
