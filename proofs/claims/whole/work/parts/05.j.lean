section ZW
/-- the world's parameters: class numbers and slots, the array classes, which cells may change -/
abbrev zv_T : Type := (Nat → ClassId) × (Nat → Nat → Nat) × ClassId × ClassId × ClassId × ClassId × ClassId × (Nat → Prop)
def zv_D (z : zv_T) : va_G := (z.1, z.2.1)
def zv_I (z : zv_T) : ClassId := z.2.2.1
def zv_Z (z : zv_T) : ClassId := z.2.2.2.1
def zv_L (z : zv_T) : ClassId := z.2.2.2.2.1
def zv_U (z : zv_T) : ClassId := z.2.2.2.2.2.1
def zv_P (z : zv_T) : ClassId := z.2.2.2.2.2.2.1
def zv_A (z : zv_T) : Nat → Prop := z.2.2.2.2.2.2.2
def zv_t (z : zv_T) : List (ClassId × FieldType) := [(zv_I z, .int), (zv_Z z, .boolean), (zv_L z, .long), (zv_U z, .object cn_U), (zv_P z, .object cn_P)]
/-- arrays of ints, of booleans, of longs, of tunes, of passages -/
def ze_i (z : zv_T) (n : Nat) (f : Nat → Int32) : va_E := .inl (zv_I z, n, .inl f)
def ze_z (z : zv_T) (n : Nat) (f : Nat → Int32) : va_E := .inl (zv_Z z, n, .inl f)
def ze_l (z : zv_T) (n : Nat) (f : Nat → Int64) : va_E := .inl (zv_L z, n, .inr (.inl f))
def ze_u (z : zv_T) (n : Nat) (f : Nat → Option Nat) : va_E := .inl (zv_U z, n, .inr (.inr (.inr (.inr f))))
def ze_p (z : zv_T) (n : Nat) (f : Nat → Option Nat) : va_E := .inl (zv_P z, n, .inr (.inr (.inr (.inr f))))
def ze_o (c : Nat) (fs : List Value) : va_E := .inr (c, fs)
/-- the cells 0 .. N - 1, their addresses and what they hold -/
def zw_W (ad : Nat → Nat) (N : Nat) (g : Nat → va_E) : va_W := (List.range N).map (fun i => (ad i, g i))
theorem zw_at {ad : Nat → Nat} {N : Nat} {g : Nat → va_E} {i : Nat} (h : i < N) : (zw_W ad N g)[i]? = some (ad i, g i) := by
  simp [zw_W, h]
theorem zw_ate {ad : Nat → Nat} {N : Nat} {g : Nat → va_E} {i : Nat} {e : va_E} (h : i < N) (he : g i = e) : (zw_W ad N g)[i]? = some (ad i, e) := by
  rw [zw_at h, he]
theorem zw_len {ad : Nat → Nat} {N : Nat} {g : Nat → va_E} : (zw_W ad N g).length = N := by simp [zw_W]
theorem zw_set {ad : Nat → Nat} {N : Nat} {g : Nat → va_E} {i : Nat} (h : i < N) (e : va_E) : (zw_W ad N g).set i (ad i, e) = zw_W ad N (va_up g i e) := by
  apply List.ext_getElem?
  intro k
  by_cases hk : k < N
  · rw [zw_at hk]
    by_cases hki : k = i
    · subst hki
      rw [List.getElem?_set_self (by rw [zw_len]; exact hk), va_up_self]
    · rw [List.getElem?_set_ne (Ne.symm hki), zw_at hk, va_up_ne _ _ hki]
  · rw [List.getElem?_eq_none (by rw [List.length_set, zw_len]; omega), List.getElem?_eq_none (by rw [zw_len]; omega)]
theorem zw_push (ad : Nat → Nat) (N : Nat) (g : Nat → va_E) (a : Nat) (e : va_E) : zw_W ad N g ++ [(a, e)] = zw_W (va_up ad N a) (N + 1) (va_up g N e) := by
  unfold zw_W
  rw [List.range_succ, List.map_append]
  congr 1
  · apply List.map_congr_left
    intro k hk
    have hk := List.mem_range.mp hk
    rw [va_up_ne _ _ (by omega), va_up_ne _ _ (by omega)]
  · simp [va_up_self]
end ZW
section ZJ
/-- the constructors that an exception's constructor calls, one after another, are declared -/
def zb_ds : List MethodName := [⟨"java/lang/RuntimeException", "<init>", "()V"⟩, ⟨"java/lang/Exception", "<init>", "()V"⟩, ⟨"java/lang/Throwable", "<init>", "()V"⟩]
theorem zb_decl {u U : State} (hvm : u.vm.Alike U.vm) {x : MethodName} (h : va_Nw (.declares x) u) : va_Nw (.declares x) U := by
  have h1 : (Cond.declares x).before #[] (u.setVm U.vm) = true := by rw [Cond.declares_setVm hvm]; exact h
  exact va_tabs (A := #[]) (u := u.setVm U.vm) rfl rfl h1
/-- what the tables say beside the words: arrays of tunes and of passages can be made; which exceptions are not which -/
def zb_N (U : State) : Prop := va_AO cn_U U ∧ va_AO cn_P U ∧ va_Nc "java/lang/IllegalStateException" "java/lang/IndexOutOfBoundsException" U ∧ va_Nc "java/lang/IllegalArgumentException" "java/lang/IndexOutOfBoundsException" U ∧ va_Nc "java/lang/IllegalStateException" "java/lang/IllegalArgumentException" U ∧ ∀ x ∈ zb_ds, va_Nw (.declares x) U
theorem zb_N.moved {u U : State} (hvm : u.vm.Alike U.vm) (h : zb_N u) : zb_N U := ⟨va_AO.moved hvm h.1, va_AO.moved hvm h.2.1, va_Nc.moved hvm h.2.2.1, va_Nc.moved hvm h.2.2.2.1, va_Nc.moved hvm h.2.2.2.2.1, fun x hx => zb_decl hvm (h.2.2.2.2.2 x hx)⟩
/-- all that stays while a method's body runs -/
abbrev zj_T : Type := Program × Launch × Env × Room × State × MethodId × Array Value × List Frame × Method × Code × Nat × zv_T
def zj_J (X : zj_T) (cells slots : Nat) (Q : State → Prop) (ad : Nat → Nat) (N : Nat) (g : Nat → va_E) (pc : Nat) (L : List (Nat × Value)) (st : List Value) : Prop :=
  match X with
  | (p, l, e, R, s, m, args, below, meth, c, nL, z) => ∀ (H : Heap) (locs : List Loc) (ls : Array Slot), lv_has ls nL L → va_P (zv_D z) zc_l (zw_W ad N g) H → va_D (zv_A z) (zw_W ad N g) → va_S (zv_A z) s.heap H locs → W p l e R s m args below meth c H locs cells slots Q (F0 m pc ls st)
def zj_C (X : zj_T) (z : zv_T) (cc : ByteArray) (nL : Nat) (own : String) (rm : Room) (ret : Option FieldType) : Prop :=
  match X with
  | (p, l, _, R, s, m, args, _, meth, c, nL', z') => CallFix p m c cc nL' s args zt_tbl own ∧ va_K (zv_D z') zc_l (zv_t z') s ∧ (∀ q, s.heap.size ≤ q → zv_A z' q) ∧ meth.locks = false ∧ R = rm ∧ meth.sig.returnType = ret ∧ nL' = nL ∧ z' = z ∧ vx_Zq Bundle.tN "UNASSIGNED_STACK" Bundle.steD (zv_A z') s s.heap ∧ vx_Zq Bundle.tN "SUPPRESSED_SENTINEL" Bundle.listD (zv_A z') s s.heap ∧ l.stackTraces = false ∧ zb_N s
theorem zj_iconst {X : zj_T} {z : zv_T} {cc : ByteArray} {nL : Nat} {own : String} {rm : Room} {ret : Option FieldType} (C : zj_C X z cc nL own rm ret) {cells slots : Nat} {Q : State → Prop} {ad : Nat → Nat} {N : Nat} {g : Nat → va_E} {pc : Nat} {L : List (Nat × Value)} {st : List Value} {n : Int} {v : Int32} (d : decode cc pc = .ok (.iconst n, 1)) (hv : Int32.ofInt n = v)
    (kk : zj_J X cells slots Q ad N g (pc + 1) L (.int v :: st)) : zj_J X cells slots Q ad N g pc L st := by
  obtain ⟨p, l, e, R, s, m, args, below, meth, c, nL', z'⟩ := X
  obtain ⟨⟨hx, hb, hml, hown, hts⟩, hK, hA, hlk, rfl, hr, rfl, rfl, hU, hN, htr, hNb⟩ := C
  intro H locs ls hl hP hD hS
  exact lv_iconst hx hb d hv (kk H locs ls hl hP hD hS)
theorem zj_bipush {X : zj_T} {z : zv_T} {cc : ByteArray} {nL : Nat} {own : String} {rm : Room} {ret : Option FieldType} (C : zj_C X z cc nL own rm ret) {cells slots : Nat} {Q : State → Prop} {ad : Nat → Nat} {N : Nat} {g : Nat → va_E} {pc : Nat} {L : List (Nat × Value)} {st : List Value} {n : Int} {v : Int32} (d : decode cc pc = .ok (.bipush n, 2)) (hv : (Int8.ofInt n).toInt32 = v)
    (kk : zj_J X cells slots Q ad N g (pc + 2) L (.int v :: st)) : zj_J X cells slots Q ad N g pc L st := by
  obtain ⟨p, l, e, R, s, m, args, below, meth, c, nL', z'⟩ := X
  obtain ⟨⟨hx, hb, hml, hown, hts⟩, hK, hA, hlk, rfl, hr, rfl, rfl, hU, hN, htr, hNb⟩ := C
  intro H locs ls hl hP hD hS
  exact lv_bipush hx hb d hv (kk H locs ls hl hP hD hS)
theorem zj_sipush {X : zj_T} {z : zv_T} {cc : ByteArray} {nL : Nat} {own : String} {rm : Room} {ret : Option FieldType} (C : zj_C X z cc nL own rm ret) {cells slots : Nat} {Q : State → Prop} {ad : Nat → Nat} {N : Nat} {g : Nat → va_E} {pc : Nat} {L : List (Nat × Value)} {st : List Value} {n : Int} {v : Int32} (d : decode cc pc = .ok (.sipush n, 3)) (hv : (Int16.ofInt n).toInt32 = v)
    (kk : zj_J X cells slots Q ad N g (pc + 3) L (.int v :: st)) : zj_J X cells slots Q ad N g pc L st := by
  obtain ⟨p, l, e, R, s, m, args, below, meth, c, nL', z'⟩ := X
  obtain ⟨⟨hx, hb, hml, hown, hts⟩, hK, hA, hlk, rfl, hr, rfl, rfl, hU, hN, htr, hNb⟩ := C
  intro H locs ls hl hP hD hS
  exact lv_sipush hx hb d hv (kk H locs ls hl hP hD hS)
theorem zj_iload_n {X : zj_T} {z : zv_T} {cc : ByteArray} {nL : Nat} {own : String} {rm : Room} {ret : Option FieldType} (C : zj_C X z cc nL own rm ret) {cells slots : Nat} {Q : State → Prop} {ad : Nat → Nat} {N : Nat} {g : Nat → va_E} {pc : Nat} {L : List (Nat × Value)} {st : List Value} {k : Fin 4} {i : Nat} {x : Int32} (d : decode cc pc = .ok (.iload_n k, 1)) (hi : (k : Nat) = i) (j : Nat) (hj : L[j]? = some (i, .int x))
    (kk : zj_J X cells slots Q ad N g (pc + 1) L (.int x :: st)) : zj_J X cells slots Q ad N g pc L st := by
  obtain ⟨p, l, e, R, s, m, args, below, meth, c, nL', z'⟩ := X
  obtain ⟨⟨hx, hb, hml, hown, hts⟩, hK, hA, hlk, rfl, hr, rfl, rfl, hU, hN, htr, hNb⟩ := C
  intro H locs ls hl hP hD hS
  exact lv_iload_n hx hb d hi (lv_at hl j hj) (kk H locs ls hl hP hD hS)
theorem zj_iload {X : zj_T} {z : zv_T} {cc : ByteArray} {nL : Nat} {own : String} {rm : Room} {ret : Option FieldType} (C : zj_C X z cc nL own rm ret) {cells slots : Nat} {Q : State → Prop} {ad : Nat → Nat} {N : Nat} {g : Nat → va_E} {pc : Nat} {L : List (Nat × Value)} {st : List Value} {i : Nat} {x : Int32} (d : decode cc pc = .ok (.iload i, 2)) (j : Nat) (hj : L[j]? = some (i, .int x))
    (kk : zj_J X cells slots Q ad N g (pc + 2) L (.int x :: st)) : zj_J X cells slots Q ad N g pc L st := by
  obtain ⟨p, l, e, R, s, m, args, below, meth, c, nL', z'⟩ := X
  obtain ⟨⟨hx, hb, hml, hown, hts⟩, hK, hA, hlk, rfl, hr, rfl, rfl, hU, hN, htr, hNb⟩ := C
  intro H locs ls hl hP hD hS
  exact lv_iload hx hb d (lv_at hl j hj) (kk H locs ls hl hP hD hS)
theorem zj_aload_n {X : zj_T} {z : zv_T} {cc : ByteArray} {nL : Nat} {own : String} {rm : Room} {ret : Option FieldType} (C : zj_C X z cc nL own rm ret) {cells slots : Nat} {Q : State → Prop} {ad : Nat → Nat} {N : Nat} {g : Nat → va_E} {pc : Nat} {L : List (Nat × Value)} {st : List Value} {k : Fin 4} {i : Nat} {x : Nat} (d : decode cc pc = .ok (.aload_n k, 1)) (hi : (k : Nat) = i) (j : Nat) (hj : L[j]? = some (i, .ref x))
    (kk : zj_J X cells slots Q ad N g (pc + 1) L (.ref x :: st)) : zj_J X cells slots Q ad N g pc L st := by
  obtain ⟨p, l, e, R, s, m, args, below, meth, c, nL', z'⟩ := X
  obtain ⟨⟨hx, hb, hml, hown, hts⟩, hK, hA, hlk, rfl, hr, rfl, rfl, hU, hN, htr, hNb⟩ := C
  intro H locs ls hl hP hD hS
  exact lv_aload_n hx hb d hi (lv_at hl j hj) (kk H locs ls hl hP hD hS)
theorem zj_aload {X : zj_T} {z : zv_T} {cc : ByteArray} {nL : Nat} {own : String} {rm : Room} {ret : Option FieldType} (C : zj_C X z cc nL own rm ret) {cells slots : Nat} {Q : State → Prop} {ad : Nat → Nat} {N : Nat} {g : Nat → va_E} {pc : Nat} {L : List (Nat × Value)} {st : List Value} {i : Nat} {x : Nat} (d : decode cc pc = .ok (.aload i, 2)) (j : Nat) (hj : L[j]? = some (i, .ref x))
    (kk : zj_J X cells slots Q ad N g (pc + 2) L (.ref x :: st)) : zj_J X cells slots Q ad N g pc L st := by
  obtain ⟨p, l, e, R, s, m, args, below, meth, c, nL', z'⟩ := X
  obtain ⟨⟨hx, hb, hml, hown, hts⟩, hK, hA, hlk, rfl, hr, rfl, rfl, hU, hN, htr, hNb⟩ := C
  intro H locs ls hl hP hD hS
  exact lv_aload hx hb d (lv_at hl j hj) (kk H locs ls hl hP hD hS)
theorem zj_lload_n {X : zj_T} {z : zv_T} {cc : ByteArray} {nL : Nat} {own : String} {rm : Room} {ret : Option FieldType} (C : zj_C X z cc nL own rm ret) {cells slots : Nat} {Q : State → Prop} {ad : Nat → Nat} {N : Nat} {g : Nat → va_E} {pc : Nat} {L : List (Nat × Value)} {st : List Value} {k : Fin 4} {i : Nat} {x : Int64} (d : decode cc pc = .ok (.lload_n k, 1)) (hi : (k : Nat) = i) (j : Nat) (hj : L[j]? = some (i, .long x))
    (kk : zj_J X cells slots Q ad N g (pc + 1) L (.long x :: st)) : zj_J X cells slots Q ad N g pc L st := by
  obtain ⟨p, l, e, R, s, m, args, below, meth, c, nL', z'⟩ := X
  obtain ⟨⟨hx, hb, hml, hown, hts⟩, hK, hA, hlk, rfl, hr, rfl, rfl, hU, hN, htr, hNb⟩ := C
  intro H locs ls hl hP hD hS
  exact lv_lload_n hx hb d hi (lv_at hl j hj) (kk H locs ls hl hP hD hS)
theorem zj_lload {X : zj_T} {z : zv_T} {cc : ByteArray} {nL : Nat} {own : String} {rm : Room} {ret : Option FieldType} (C : zj_C X z cc nL own rm ret) {cells slots : Nat} {Q : State → Prop} {ad : Nat → Nat} {N : Nat} {g : Nat → va_E} {pc : Nat} {L : List (Nat × Value)} {st : List Value} {i : Nat} {x : Int64} (d : decode cc pc = .ok (.lload i, 2)) (j : Nat) (hj : L[j]? = some (i, .long x))
    (kk : zj_J X cells slots Q ad N g (pc + 2) L (.long x :: st)) : zj_J X cells slots Q ad N g pc L st := by
  obtain ⟨p, l, e, R, s, m, args, below, meth, c, nL', z'⟩ := X
  obtain ⟨⟨hx, hb, hml, hown, hts⟩, hK, hA, hlk, rfl, hr, rfl, rfl, hU, hN, htr, hNb⟩ := C
  intro H locs ls hl hP hD hS
  exact lv_lload hx hb d (lv_at hl j hj) (kk H locs ls hl hP hD hS)
theorem zj_istore_n {X : zj_T} {z : zv_T} {cc : ByteArray} {nL : Nat} {own : String} {rm : Room} {ret : Option FieldType} (C : zj_C X z cc nL own rm ret) {cells slots : Nat} {Q : State → Prop} {ad : Nat → Nat} {N : Nat} {g : Nat → va_E} {pc : Nat} {L : List (Nat × Value)} {st : List Value} {k : Fin 4} {i : Nat} {x : Int32} {L' : List (Nat × Value)} (d : decode cc pc = .ok (.istore_n k, 1)) (hi : (k : Nat) = i) (hn : i < nL) (hL : (i, Value.int x) :: L.filter (fun q => !(q.1 == i) && !(q.1 + 1 == i && q.2.category == 2)) = L')
    (kk : zj_J X cells slots Q ad N g (pc + 1) L' st) : zj_J X cells slots Q ad N g pc L (.int x :: st) := by
  obtain ⟨p, l, e, R, s, m, args, below, meth, c, nL', z'⟩ := X
  obtain ⟨⟨hx, hb, hml, hown, hts⟩, hK, hA, hlk, rfl, hr, rfl, rfl, hU, hN, htr, hNb⟩ := C
  intro H locs ls hl hP hD hS
  exact lv_istore_n hx hb d hi hl hn hL (fun ls' hl' => kk H locs ls' hl' hP hD hS)
theorem zj_istore {X : zj_T} {z : zv_T} {cc : ByteArray} {nL : Nat} {own : String} {rm : Room} {ret : Option FieldType} (C : zj_C X z cc nL own rm ret) {cells slots : Nat} {Q : State → Prop} {ad : Nat → Nat} {N : Nat} {g : Nat → va_E} {pc : Nat} {L : List (Nat × Value)} {st : List Value} {i : Nat} {x : Int32} {L' : List (Nat × Value)} (d : decode cc pc = .ok (.istore i, 2)) (hn : i < nL) (hL : (i, Value.int x) :: L.filter (fun q => !(q.1 == i) && !(q.1 + 1 == i && q.2.category == 2)) = L')
    (kk : zj_J X cells slots Q ad N g (pc + 2) L' st) : zj_J X cells slots Q ad N g pc L (.int x :: st) := by
  obtain ⟨p, l, e, R, s, m, args, below, meth, c, nL', z'⟩ := X
  obtain ⟨⟨hx, hb, hml, hown, hts⟩, hK, hA, hlk, rfl, hr, rfl, rfl, hU, hN, htr, hNb⟩ := C
  intro H locs ls hl hP hD hS
  exact lv_istore hx hb d hl hn hL (fun ls' hl' => kk H locs ls' hl' hP hD hS)
theorem zj_astore_n {X : zj_T} {z : zv_T} {cc : ByteArray} {nL : Nat} {own : String} {rm : Room} {ret : Option FieldType} (C : zj_C X z cc nL own rm ret) {cells slots : Nat} {Q : State → Prop} {ad : Nat → Nat} {N : Nat} {g : Nat → va_E} {pc : Nat} {L : List (Nat × Value)} {st : List Value} {k : Fin 4} {i : Nat} {x : Nat} {L' : List (Nat × Value)} (d : decode cc pc = .ok (.astore_n k, 1)) (hi : (k : Nat) = i) (hn : i < nL) (hL : (i, Value.ref x) :: L.filter (fun q => !(q.1 == i) && !(q.1 + 1 == i && q.2.category == 2)) = L')
    (kk : zj_J X cells slots Q ad N g (pc + 1) L' st) : zj_J X cells slots Q ad N g pc L (.ref x :: st) := by
  obtain ⟨p, l, e, R, s, m, args, below, meth, c, nL', z'⟩ := X
  obtain ⟨⟨hx, hb, hml, hown, hts⟩, hK, hA, hlk, rfl, hr, rfl, rfl, hU, hN, htr, hNb⟩ := C
  intro H locs ls hl hP hD hS
  exact lv_astore_n hx hb d hi hl hn hL (fun ls' hl' => kk H locs ls' hl' hP hD hS)
theorem zj_astore {X : zj_T} {z : zv_T} {cc : ByteArray} {nL : Nat} {own : String} {rm : Room} {ret : Option FieldType} (C : zj_C X z cc nL own rm ret) {cells slots : Nat} {Q : State → Prop} {ad : Nat → Nat} {N : Nat} {g : Nat → va_E} {pc : Nat} {L : List (Nat × Value)} {st : List Value} {i : Nat} {x : Nat} {L' : List (Nat × Value)} (d : decode cc pc = .ok (.astore i, 2)) (hn : i < nL) (hL : (i, Value.ref x) :: L.filter (fun q => !(q.1 == i) && !(q.1 + 1 == i && q.2.category == 2)) = L')
    (kk : zj_J X cells slots Q ad N g (pc + 2) L' st) : zj_J X cells slots Q ad N g pc L (.ref x :: st) := by
  obtain ⟨p, l, e, R, s, m, args, below, meth, c, nL', z'⟩ := X
  obtain ⟨⟨hx, hb, hml, hown, hts⟩, hK, hA, hlk, rfl, hr, rfl, rfl, hU, hN, htr, hNb⟩ := C
  intro H locs ls hl hP hD hS
  exact lv_astore hx hb d hl hn hL (fun ls' hl' => kk H locs ls' hl' hP hD hS)
theorem zj_iinc {X : zj_T} {z : zv_T} {cc : ByteArray} {nL : Nat} {own : String} {rm : Room} {ret : Option FieldType} (C : zj_C X z cc nL own rm ret) {cells slots : Nat} {Q : State → Prop} {ad : Nat → Nat} {N : Nat} {g : Nat → va_E} {pc : Nat} {L : List (Nat × Value)} {st : List Value} {i : Nat} {n : Int} {x v : Int32} {L' : List (Nat × Value)} (d : decode cc pc = .ok (.iinc i n, 3)) (j : Nat) (hj : L[j]? = some (i, .int x)) (hv : x + Int32.ofInt n = v) (hn : i < nL) (hL : (i, Value.int v) :: L.filter (fun q => !(q.1 == i) && !(q.1 + 1 == i && q.2.category == 2)) = L')
    (kk : zj_J X cells slots Q ad N g (pc + 3) L' st) : zj_J X cells slots Q ad N g pc L st := by
  obtain ⟨p, l, e, R, s, m, args, below, meth, c, nL', z'⟩ := X
  obtain ⟨⟨hx, hb, hml, hown, hts⟩, hK, hA, hlk, rfl, hr, rfl, rfl, hU, hN, htr, hNb⟩ := C
  intro H locs ls hl hP hD hS
  exact lv_iinc hx hb d hl hj hv hn hL (fun ls' hl' => kk H locs ls' hl' hP hD hS)
theorem zj_loc {X : zj_T} {cells slots : Nat} {Q : State → Prop} {ad : Nat → Nat} {N : Nat} {g : Nat → va_E} {pc : Nat} {L L' : List (Nat × Value)} {st : List Value} (ks : List Nat) (hL : lv_pick L ks = L') (kk : zj_J X cells slots Q ad N g pc L' st) : zj_J X cells slots Q ad N g pc L st := by
  obtain ⟨p, l, e, R, s, m, args, below, meth, c, nL', z'⟩ := X
  exact fun H locs ls hl hP hD hS => kk H locs ls (lv_sub hl ks hL) hP hD hS
theorem zj_iadd {X : zj_T} {z : zv_T} {cc : ByteArray} {nL : Nat} {own : String} {rm : Room} {ret : Option FieldType} (C : zj_C X z cc nL own rm ret) {cells slots : Nat} {Q : State → Prop} {ad : Nat → Nat} {N : Nat} {g : Nat → va_E} {pc : Nat} {L : List (Nat × Value)} {st : List Value} {x y : Int32} (d : decode cc pc = .ok (.iadd, 1))
    (kk : zj_J X cells slots Q ad N g (pc + 1) L (.int (x + y) :: st)) : zj_J X cells slots Q ad N g pc L (.int y :: .int x :: st) := by
  obtain ⟨p, l, e, R, s, m, args, below, meth, c, nL', z'⟩ := X
  obtain ⟨⟨hx, hb, hml, hown, hts⟩, hK, hA, hlk, rfl, hr, rfl, rfl, hU, hN, htr, hNb⟩ := C
  intro H locs ls hl hP hD hS
  exact lv_iadd hx hb d (kk H locs ls hl hP hD hS)
theorem zj_isub {X : zj_T} {z : zv_T} {cc : ByteArray} {nL : Nat} {own : String} {rm : Room} {ret : Option FieldType} (C : zj_C X z cc nL own rm ret) {cells slots : Nat} {Q : State → Prop} {ad : Nat → Nat} {N : Nat} {g : Nat → va_E} {pc : Nat} {L : List (Nat × Value)} {st : List Value} {x y : Int32} (d : decode cc pc = .ok (.isub, 1))
    (kk : zj_J X cells slots Q ad N g (pc + 1) L (.int (x - y) :: st)) : zj_J X cells slots Q ad N g pc L (.int y :: .int x :: st) := by
  obtain ⟨p, l, e, R, s, m, args, below, meth, c, nL', z'⟩ := X
  obtain ⟨⟨hx, hb, hml, hown, hts⟩, hK, hA, hlk, rfl, hr, rfl, rfl, hU, hN, htr, hNb⟩ := C
  intro H locs ls hl hP hD hS
  exact lv_isub hx hb d (kk H locs ls hl hP hD hS)
theorem zj_imul {X : zj_T} {z : zv_T} {cc : ByteArray} {nL : Nat} {own : String} {rm : Room} {ret : Option FieldType} (C : zj_C X z cc nL own rm ret) {cells slots : Nat} {Q : State → Prop} {ad : Nat → Nat} {N : Nat} {g : Nat → va_E} {pc : Nat} {L : List (Nat × Value)} {st : List Value} {x y : Int32} (d : decode cc pc = .ok (.imul, 1))
    (kk : zj_J X cells slots Q ad N g (pc + 1) L (.int (x * y) :: st)) : zj_J X cells slots Q ad N g pc L (.int y :: .int x :: st) := by
  obtain ⟨p, l, e, R, s, m, args, below, meth, c, nL', z'⟩ := X
  obtain ⟨⟨hx, hb, hml, hown, hts⟩, hK, hA, hlk, rfl, hr, rfl, rfl, hU, hN, htr, hNb⟩ := C
  intro H locs ls hl hP hD hS
  exact lv_imul hx hb d (kk H locs ls hl hP hD hS)
theorem zj_iand {X : zj_T} {z : zv_T} {cc : ByteArray} {nL : Nat} {own : String} {rm : Room} {ret : Option FieldType} (C : zj_C X z cc nL own rm ret) {cells slots : Nat} {Q : State → Prop} {ad : Nat → Nat} {N : Nat} {g : Nat → va_E} {pc : Nat} {L : List (Nat × Value)} {st : List Value} {x y : Int32} (d : decode cc pc = .ok (.iand, 1))
    (kk : zj_J X cells slots Q ad N g (pc + 1) L (.int (x &&& y) :: st)) : zj_J X cells slots Q ad N g pc L (.int y :: .int x :: st) := by
  obtain ⟨p, l, e, R, s, m, args, below, meth, c, nL', z'⟩ := X
  obtain ⟨⟨hx, hb, hml, hown, hts⟩, hK, hA, hlk, rfl, hr, rfl, rfl, hU, hN, htr, hNb⟩ := C
  intro H locs ls hl hP hD hS
  exact lv_iand hx hb d (kk H locs ls hl hP hD hS)
theorem zj_ior {X : zj_T} {z : zv_T} {cc : ByteArray} {nL : Nat} {own : String} {rm : Room} {ret : Option FieldType} (C : zj_C X z cc nL own rm ret) {cells slots : Nat} {Q : State → Prop} {ad : Nat → Nat} {N : Nat} {g : Nat → va_E} {pc : Nat} {L : List (Nat × Value)} {st : List Value} {x y : Int32} (d : decode cc pc = .ok (.ior, 1))
    (kk : zj_J X cells slots Q ad N g (pc + 1) L (.int (x ||| y) :: st)) : zj_J X cells slots Q ad N g pc L (.int y :: .int x :: st) := by
  obtain ⟨p, l, e, R, s, m, args, below, meth, c, nL', z'⟩ := X
  obtain ⟨⟨hx, hb, hml, hown, hts⟩, hK, hA, hlk, rfl, hr, rfl, rfl, hU, hN, htr, hNb⟩ := C
  intro H locs ls hl hP hD hS
  exact lv_ior hx hb d (kk H locs ls hl hP hD hS)
theorem zj_ishl {X : zj_T} {z : zv_T} {cc : ByteArray} {nL : Nat} {own : String} {rm : Room} {ret : Option FieldType} (C : zj_C X z cc nL own rm ret) {cells slots : Nat} {Q : State → Prop} {ad : Nat → Nat} {N : Nat} {g : Nat → va_E} {pc : Nat} {L : List (Nat × Value)} {st : List Value} {x y : Int32} (d : decode cc pc = .ok (.ishl, 1))
    (kk : zj_J X cells slots Q ad N g (pc + 1) L (.int (x <<< (y &&& 31)) :: st)) : zj_J X cells slots Q ad N g pc L (.int y :: .int x :: st) := by
  obtain ⟨p, l, e, R, s, m, args, below, meth, c, nL', z'⟩ := X
  obtain ⟨⟨hx, hb, hml, hown, hts⟩, hK, hA, hlk, rfl, hr, rfl, rfl, hU, hN, htr, hNb⟩ := C
  intro H locs ls hl hP hD hS
  exact lv_ishl hx hb d (kk H locs ls hl hP hD hS)
theorem zj_ishr {X : zj_T} {z : zv_T} {cc : ByteArray} {nL : Nat} {own : String} {rm : Room} {ret : Option FieldType} (C : zj_C X z cc nL own rm ret) {cells slots : Nat} {Q : State → Prop} {ad : Nat → Nat} {N : Nat} {g : Nat → va_E} {pc : Nat} {L : List (Nat × Value)} {st : List Value} {x y : Int32} (d : decode cc pc = .ok (.ishr, 1))
    (kk : zj_J X cells slots Q ad N g (pc + 1) L (.int (x >>> (y &&& 31)) :: st)) : zj_J X cells slots Q ad N g pc L (.int y :: .int x :: st) := by
  obtain ⟨p, l, e, R, s, m, args, below, meth, c, nL', z'⟩ := X
  obtain ⟨⟨hx, hb, hml, hown, hts⟩, hK, hA, hlk, rfl, hr, rfl, rfl, hU, hN, htr, hNb⟩ := C
  intro H locs ls hl hP hD hS
  exact lv_ishr hx hb d (kk H locs ls hl hP hD hS)
theorem zj_idiv {X : zj_T} {z : zv_T} {cc : ByteArray} {nL : Nat} {own : String} {rm : Room} {ret : Option FieldType} (C : zj_C X z cc nL own rm ret) {cells slots : Nat} {Q : State → Prop} {ad : Nat → Nat} {N : Nat} {g : Nat → va_E} {pc : Nat} {L : List (Nat × Value)} {st : List Value} {x y : Int32} (d : decode cc pc = .ok (.idiv, 1)) (hne : ¬ y = 0)
    (kk : zj_J X cells slots Q ad N g (pc + 1) L (.int (x / y) :: st)) : zj_J X cells slots Q ad N g pc L (.int y :: .int x :: st) := by
  obtain ⟨p, l, e, R, s, m, args, below, meth, c, nL', z'⟩ := X
  obtain ⟨⟨hx, hb, hml, hown, hts⟩, hK, hA, hlk, rfl, hr, rfl, rfl, hU, hN, htr, hNb⟩ := C
  intro H locs ls hl hP hD hS
  exact lv_idiv hx hb d hne (kk H locs ls hl hP hD hS)
theorem zj_irem {X : zj_T} {z : zv_T} {cc : ByteArray} {nL : Nat} {own : String} {rm : Room} {ret : Option FieldType} (C : zj_C X z cc nL own rm ret) {cells slots : Nat} {Q : State → Prop} {ad : Nat → Nat} {N : Nat} {g : Nat → va_E} {pc : Nat} {L : List (Nat × Value)} {st : List Value} {x y : Int32} (d : decode cc pc = .ok (.irem, 1)) (hne : ¬ y = 0)
    (kk : zj_J X cells slots Q ad N g (pc + 1) L (.int (x - x / y * y) :: st)) : zj_J X cells slots Q ad N g pc L (.int y :: .int x :: st) := by
  obtain ⟨p, l, e, R, s, m, args, below, meth, c, nL', z'⟩ := X
  obtain ⟨⟨hx, hb, hml, hown, hts⟩, hK, hA, hlk, rfl, hr, rfl, rfl, hU, hN, htr, hNb⟩ := C
  intro H locs ls hl hP hD hS
  exact lv_irem hx hb d hne (kk H locs ls hl hP hD hS)
theorem zj_ineg {X : zj_T} {z : zv_T} {cc : ByteArray} {nL : Nat} {own : String} {rm : Room} {ret : Option FieldType} (C : zj_C X z cc nL own rm ret) {cells slots : Nat} {Q : State → Prop} {ad : Nat → Nat} {N : Nat} {g : Nat → va_E} {pc : Nat} {L : List (Nat × Value)} {st : List Value} {x : Int32} (d : decode cc pc = .ok (.ineg, 1))
    (kk : zj_J X cells slots Q ad N g (pc + 1) L (.int (-x) :: st)) : zj_J X cells slots Q ad N g pc L (.int x :: st) := by
  obtain ⟨p, l, e, R, s, m, args, below, meth, c, nL', z'⟩ := X
  obtain ⟨⟨hx, hb, hml, hown, hts⟩, hK, hA, hlk, rfl, hr, rfl, rfl, hU, hN, htr, hNb⟩ := C
  intro H locs ls hl hP hD hS
  exact lv_ineg hx hb d (kk H locs ls hl hP hD hS)
theorem zj_i2l {X : zj_T} {z : zv_T} {cc : ByteArray} {nL : Nat} {own : String} {rm : Room} {ret : Option FieldType} (C : zj_C X z cc nL own rm ret) {cells slots : Nat} {Q : State → Prop} {ad : Nat → Nat} {N : Nat} {g : Nat → va_E} {pc : Nat} {L : List (Nat × Value)} {st : List Value} {x : Int32} (d : decode cc pc = .ok (.i2l, 1))
    (kk : zj_J X cells slots Q ad N g (pc + 1) L (.long x.toInt64 :: st)) : zj_J X cells slots Q ad N g pc L (.int x :: st) := by
  obtain ⟨p, l, e, R, s, m, args, below, meth, c, nL', z'⟩ := X
  obtain ⟨⟨hx, hb, hml, hown, hts⟩, hK, hA, hlk, rfl, hr, rfl, rfl, hU, hN, htr, hNb⟩ := C
  intro H locs ls hl hP hD hS
  exact lv_i2l hx hb d rfl (kk H locs ls hl hP hD hS)
theorem zj_lcmp {X : zj_T} {z : zv_T} {cc : ByteArray} {nL : Nat} {own : String} {rm : Room} {ret : Option FieldType} (C : zj_C X z cc nL own rm ret) {cells slots : Nat} {Q : State → Prop} {ad : Nat → Nat} {N : Nat} {g : Nat → va_E} {pc : Nat} {L : List (Nat × Value)} {st : List Value} {x y : Int64} (d : decode cc pc = .ok (.lcmp, 1))
    (kk : zj_J X cells slots Q ad N g (pc + 1) L (.int (lg_cmp x y) :: st)) : zj_J X cells slots Q ad N g pc L (.long y :: .long x :: st) := by
  obtain ⟨p, l, e, R, s, m, args, below, meth, c, nL', z'⟩ := X
  obtain ⟨⟨hx, hb, hml, hown, hts⟩, hK, hA, hlk, rfl, hr, rfl, rfl, hU, hN, htr, hNb⟩ := C
  intro H locs ls hl hP hD hS
  exact W.lcmp hx hb d (kk H locs ls hl hP hD hS)
theorem zj_topi {X : zj_T} {cells slots : Nat} {Q : State → Prop} {ad : Nat → Nat} {N : Nat} {g : Nat → va_E} {pc : Nat} {L : List (Nat × Value)} {st : List Value} {x y : Int32} (h : x = y) (kk : zj_J X cells slots Q ad N g pc L (.int y :: st)) : zj_J X cells slots Q ad N g pc L (.int x :: st) := h ▸ kk
theorem zj_topl {X : zj_T} {cells slots : Nat} {Q : State → Prop} {ad : Nat → Nat} {N : Nat} {g : Nat → va_E} {pc : Nat} {L : List (Nat × Value)} {st : List Value} {x y : Int64} (h : x = y) (kk : zj_J X cells slots Q ad N g pc L (.long y :: st)) : zj_J X cells slots Q ad N g pc L (.long x :: st) := h ▸ kk
theorem zj_dup {X : zj_T} {z : zv_T} {cc : ByteArray} {nL : Nat} {own : String} {rm : Room} {ret : Option FieldType} (C : zj_C X z cc nL own rm ret) {cells slots : Nat} {Q : State → Prop} {ad : Nat → Nat} {N : Nat} {g : Nat → va_E} {pc : Nat} {L : List (Nat × Value)} {st : List Value} {va : Value} (d : decode cc pc = .ok (.dup, 1)) (ha : va.category = 1)
    (kk : zj_J X cells slots Q ad N g (pc + 1) L (va :: va :: st)) : zj_J X cells slots Q ad N g pc L (va :: st) := by
  obtain ⟨p, l, e, R, s, m, args, below, meth, c, nL', z'⟩ := X
  obtain ⟨⟨hx, hb, hml, hown, hts⟩, hK, hA, hlk, rfl, hr, rfl, rfl, hU, hN, htr, hNb⟩ := C
  intro H locs ls hl hP hD hS
  exact lv_dup hx hb d ha (kk H locs ls hl hP hD hS)
theorem zj_pop {X : zj_T} {z : zv_T} {cc : ByteArray} {nL : Nat} {own : String} {rm : Room} {ret : Option FieldType} (C : zj_C X z cc nL own rm ret) {cells slots : Nat} {Q : State → Prop} {ad : Nat → Nat} {N : Nat} {g : Nat → va_E} {pc : Nat} {L : List (Nat × Value)} {st : List Value} {va : Value} (d : decode cc pc = .ok (.pop, 1)) (ha : va.category = 1)
    (kk : zj_J X cells slots Q ad N g (pc + 1) L st) : zj_J X cells slots Q ad N g pc L (va :: st) := by
  obtain ⟨p, l, e, R, s, m, args, below, meth, c, nL', z'⟩ := X
  obtain ⟨⟨hx, hb, hml, hown, hts⟩, hK, hA, hlk, rfl, hr, rfl, rfl, hU, hN, htr, hNb⟩ := C
  intro H locs ls hl hP hD hS
  exact lv_pop hx hb d ha (kk H locs ls hl hP hD hS)
theorem zj_dup_x1 {X : zj_T} {z : zv_T} {cc : ByteArray} {nL : Nat} {own : String} {rm : Room} {ret : Option FieldType} (C : zj_C X z cc nL own rm ret) {cells slots : Nat} {Q : State → Prop} {ad : Nat → Nat} {N : Nat} {g : Nat → va_E} {pc : Nat} {L : List (Nat × Value)} {st : List Value} {va vb : Value} (d : decode cc pc = .ok (.dup_x1, 1)) (ha : va.category = 1) (hb' : vb.category = 1)
    (kk : zj_J X cells slots Q ad N g (pc + 1) L (va :: vb :: va :: st)) : zj_J X cells slots Q ad N g pc L (va :: vb :: st) := by
  obtain ⟨p, l, e, R, s, m, args, below, meth, c, nL', z'⟩ := X
  obtain ⟨⟨hx, hb, hml, hown, hts⟩, hK, hA, hlk, rfl, hr, rfl, rfl, hU, hN, htr, hNb⟩ := C
  intro H locs ls hl hP hD hS
  exact lv_dup_x1 hx hb d ha hb' (kk H locs ls hl hP hD hS)
theorem zj_dup2 {X : zj_T} {z : zv_T} {cc : ByteArray} {nL : Nat} {own : String} {rm : Room} {ret : Option FieldType} (C : zj_C X z cc nL own rm ret) {cells slots : Nat} {Q : State → Prop} {ad : Nat → Nat} {N : Nat} {g : Nat → va_E} {pc : Nat} {L : List (Nat × Value)} {st : List Value} {va vb : Value} (d : decode cc pc = .ok (.dup2, 1)) (ha : va.category = 1) (hb' : vb.category = 1)
    (kk : zj_J X cells slots Q ad N g (pc + 1) L (va :: vb :: va :: vb :: st)) : zj_J X cells slots Q ad N g pc L (va :: vb :: st) := by
  obtain ⟨p, l, e, R, s, m, args, below, meth, c, nL', z'⟩ := X
  obtain ⟨⟨hx, hb, hml, hown, hts⟩, hK, hA, hlk, rfl, hr, rfl, rfl, hU, hN, htr, hNb⟩ := C
  intro H locs ls hl hP hD hS
  exact lv_dup2_11 hx hb d ha hb' (kk H locs ls hl hP hD hS)
theorem zj_if_eq {X : zj_T} {z : zv_T} {cc : ByteArray} {nL : Nat} {own : String} {rm : Room} {ret : Option FieldType} (C : zj_C X z cc nL own rm ret) {cells slots : Nat} {Q : State → Prop} {ad : Nat → Nat} {N : Nat} {g : Nat → va_E} {pc : Nat} {L : List (Nat × Value)} {st : List Value} {x : Int32} {off : Int} {tgt : Nat} (d : decode cc pc = .ok (.ifCond .eq off, 3)) (ht : (pc : Int) + off = (tgt : Int))
    (h1 : x = 0 → zj_J X cells slots Q ad N g tgt L st) (h2 : ¬ x = 0 → zj_J X cells slots Q ad N g (pc + 3) L st) : zj_J X cells slots Q ad N g pc L (.int x :: st) := by
  obtain ⟨p, l, e, R, s, m, args, below, meth, c, nL', z'⟩ := X
  obtain ⟨⟨hx, hb, hml, hown, hts⟩, hK, hA, hlk, rfl, hr, rfl, rfl, hU, hN, htr, hNb⟩ := C
  intro H locs ls hl hP hD hS
  exact lv_if_eq hx hb d ht (fun h => h1 h H locs ls hl hP hD hS) (fun h => h2 h H locs ls hl hP hD hS)
theorem zj_icmp_eq {X : zj_T} {z : zv_T} {cc : ByteArray} {nL : Nat} {own : String} {rm : Room} {ret : Option FieldType} (C : zj_C X z cc nL own rm ret) {cells slots : Nat} {Q : State → Prop} {ad : Nat → Nat} {N : Nat} {g : Nat → va_E} {pc : Nat} {L : List (Nat × Value)} {st : List Value} {x y : Int32} {off : Int} {tgt : Nat} (d : decode cc pc = .ok (.if_icmp .eq off, 3)) (ht : (pc : Int) + off = (tgt : Int))
    (h1 : x = y → zj_J X cells slots Q ad N g tgt L st) (h2 : ¬ x = y → zj_J X cells slots Q ad N g (pc + 3) L st) : zj_J X cells slots Q ad N g pc L (.int y :: .int x :: st) := by
  obtain ⟨p, l, e, R, s, m, args, below, meth, c, nL', z'⟩ := X
  obtain ⟨⟨hx, hb, hml, hown, hts⟩, hK, hA, hlk, rfl, hr, rfl, rfl, hU, hN, htr, hNb⟩ := C
  intro H locs ls hl hP hD hS
  exact lv_icmp_eq hx hb d ht (fun h => h1 h H locs ls hl hP hD hS) (fun h => h2 h H locs ls hl hP hD hS)
theorem zj_if_ne {X : zj_T} {z : zv_T} {cc : ByteArray} {nL : Nat} {own : String} {rm : Room} {ret : Option FieldType} (C : zj_C X z cc nL own rm ret) {cells slots : Nat} {Q : State → Prop} {ad : Nat → Nat} {N : Nat} {g : Nat → va_E} {pc : Nat} {L : List (Nat × Value)} {st : List Value} {x : Int32} {off : Int} {tgt : Nat} (d : decode cc pc = .ok (.ifCond .ne off, 3)) (ht : (pc : Int) + off = (tgt : Int))
    (h1 : ¬ x = 0 → zj_J X cells slots Q ad N g tgt L st) (h2 : x = 0 → zj_J X cells slots Q ad N g (pc + 3) L st) : zj_J X cells slots Q ad N g pc L (.int x :: st) := by
  obtain ⟨p, l, e, R, s, m, args, below, meth, c, nL', z'⟩ := X
  obtain ⟨⟨hx, hb, hml, hown, hts⟩, hK, hA, hlk, rfl, hr, rfl, rfl, hU, hN, htr, hNb⟩ := C
  intro H locs ls hl hP hD hS
  exact lv_if_ne hx hb d ht (fun h => h1 h H locs ls hl hP hD hS) (fun h => h2 h H locs ls hl hP hD hS)
theorem zj_icmp_ne {X : zj_T} {z : zv_T} {cc : ByteArray} {nL : Nat} {own : String} {rm : Room} {ret : Option FieldType} (C : zj_C X z cc nL own rm ret) {cells slots : Nat} {Q : State → Prop} {ad : Nat → Nat} {N : Nat} {g : Nat → va_E} {pc : Nat} {L : List (Nat × Value)} {st : List Value} {x y : Int32} {off : Int} {tgt : Nat} (d : decode cc pc = .ok (.if_icmp .ne off, 3)) (ht : (pc : Int) + off = (tgt : Int))
    (h1 : ¬ x = y → zj_J X cells slots Q ad N g tgt L st) (h2 : x = y → zj_J X cells slots Q ad N g (pc + 3) L st) : zj_J X cells slots Q ad N g pc L (.int y :: .int x :: st) := by
  obtain ⟨p, l, e, R, s, m, args, below, meth, c, nL', z'⟩ := X
  obtain ⟨⟨hx, hb, hml, hown, hts⟩, hK, hA, hlk, rfl, hr, rfl, rfl, hU, hN, htr, hNb⟩ := C
  intro H locs ls hl hP hD hS
  exact lv_icmp_ne hx hb d ht (fun h => h1 h H locs ls hl hP hD hS) (fun h => h2 h H locs ls hl hP hD hS)
theorem zj_if_lt {X : zj_T} {z : zv_T} {cc : ByteArray} {nL : Nat} {own : String} {rm : Room} {ret : Option FieldType} (C : zj_C X z cc nL own rm ret) {cells slots : Nat} {Q : State → Prop} {ad : Nat → Nat} {N : Nat} {g : Nat → va_E} {pc : Nat} {L : List (Nat × Value)} {st : List Value} {x : Int32} {off : Int} {tgt : Nat} (d : decode cc pc = .ok (.ifCond .lt off, 3)) (ht : (pc : Int) + off = (tgt : Int))
    (h1 : x < 0 → zj_J X cells slots Q ad N g tgt L st) (h2 : ¬ x < 0 → zj_J X cells slots Q ad N g (pc + 3) L st) : zj_J X cells slots Q ad N g pc L (.int x :: st) := by
  obtain ⟨p, l, e, R, s, m, args, below, meth, c, nL', z'⟩ := X
  obtain ⟨⟨hx, hb, hml, hown, hts⟩, hK, hA, hlk, rfl, hr, rfl, rfl, hU, hN, htr, hNb⟩ := C
  intro H locs ls hl hP hD hS
  exact lv_if_lt hx hb d ht (fun h => h1 h H locs ls hl hP hD hS) (fun h => h2 h H locs ls hl hP hD hS)
theorem zj_icmp_lt {X : zj_T} {z : zv_T} {cc : ByteArray} {nL : Nat} {own : String} {rm : Room} {ret : Option FieldType} (C : zj_C X z cc nL own rm ret) {cells slots : Nat} {Q : State → Prop} {ad : Nat → Nat} {N : Nat} {g : Nat → va_E} {pc : Nat} {L : List (Nat × Value)} {st : List Value} {x y : Int32} {off : Int} {tgt : Nat} (d : decode cc pc = .ok (.if_icmp .lt off, 3)) (ht : (pc : Int) + off = (tgt : Int))
    (h1 : x < y → zj_J X cells slots Q ad N g tgt L st) (h2 : ¬ x < y → zj_J X cells slots Q ad N g (pc + 3) L st) : zj_J X cells slots Q ad N g pc L (.int y :: .int x :: st) := by
  obtain ⟨p, l, e, R, s, m, args, below, meth, c, nL', z'⟩ := X
  obtain ⟨⟨hx, hb, hml, hown, hts⟩, hK, hA, hlk, rfl, hr, rfl, rfl, hU, hN, htr, hNb⟩ := C
  intro H locs ls hl hP hD hS
  exact lv_icmp_lt hx hb d ht (fun h => h1 h H locs ls hl hP hD hS) (fun h => h2 h H locs ls hl hP hD hS)
theorem zj_if_ge {X : zj_T} {z : zv_T} {cc : ByteArray} {nL : Nat} {own : String} {rm : Room} {ret : Option FieldType} (C : zj_C X z cc nL own rm ret) {cells slots : Nat} {Q : State → Prop} {ad : Nat → Nat} {N : Nat} {g : Nat → va_E} {pc : Nat} {L : List (Nat × Value)} {st : List Value} {x : Int32} {off : Int} {tgt : Nat} (d : decode cc pc = .ok (.ifCond .ge off, 3)) (ht : (pc : Int) + off = (tgt : Int))
    (h1 : 0 ≤ x → zj_J X cells slots Q ad N g tgt L st) (h2 : ¬ 0 ≤ x → zj_J X cells slots Q ad N g (pc + 3) L st) : zj_J X cells slots Q ad N g pc L (.int x :: st) := by
  obtain ⟨p, l, e, R, s, m, args, below, meth, c, nL', z'⟩ := X
  obtain ⟨⟨hx, hb, hml, hown, hts⟩, hK, hA, hlk, rfl, hr, rfl, rfl, hU, hN, htr, hNb⟩ := C
  intro H locs ls hl hP hD hS
  exact lv_if_ge hx hb d ht (fun h => h1 h H locs ls hl hP hD hS) (fun h => h2 h H locs ls hl hP hD hS)
theorem zj_icmp_ge {X : zj_T} {z : zv_T} {cc : ByteArray} {nL : Nat} {own : String} {rm : Room} {ret : Option FieldType} (C : zj_C X z cc nL own rm ret) {cells slots : Nat} {Q : State → Prop} {ad : Nat → Nat} {N : Nat} {g : Nat → va_E} {pc : Nat} {L : List (Nat × Value)} {st : List Value} {x y : Int32} {off : Int} {tgt : Nat} (d : decode cc pc = .ok (.if_icmp .ge off, 3)) (ht : (pc : Int) + off = (tgt : Int))
    (h1 : y ≤ x → zj_J X cells slots Q ad N g tgt L st) (h2 : ¬ y ≤ x → zj_J X cells slots Q ad N g (pc + 3) L st) : zj_J X cells slots Q ad N g pc L (.int y :: .int x :: st) := by
  obtain ⟨p, l, e, R, s, m, args, below, meth, c, nL', z'⟩ := X
  obtain ⟨⟨hx, hb, hml, hown, hts⟩, hK, hA, hlk, rfl, hr, rfl, rfl, hU, hN, htr, hNb⟩ := C
  intro H locs ls hl hP hD hS
  exact lv_icmp_ge hx hb d ht (fun h => h1 h H locs ls hl hP hD hS) (fun h => h2 h H locs ls hl hP hD hS)
theorem zj_if_gt {X : zj_T} {z : zv_T} {cc : ByteArray} {nL : Nat} {own : String} {rm : Room} {ret : Option FieldType} (C : zj_C X z cc nL own rm ret) {cells slots : Nat} {Q : State → Prop} {ad : Nat → Nat} {N : Nat} {g : Nat → va_E} {pc : Nat} {L : List (Nat × Value)} {st : List Value} {x : Int32} {off : Int} {tgt : Nat} (d : decode cc pc = .ok (.ifCond .gt off, 3)) (ht : (pc : Int) + off = (tgt : Int))
    (h1 : 0 < x → zj_J X cells slots Q ad N g tgt L st) (h2 : ¬ 0 < x → zj_J X cells slots Q ad N g (pc + 3) L st) : zj_J X cells slots Q ad N g pc L (.int x :: st) := by
  obtain ⟨p, l, e, R, s, m, args, below, meth, c, nL', z'⟩ := X
  obtain ⟨⟨hx, hb, hml, hown, hts⟩, hK, hA, hlk, rfl, hr, rfl, rfl, hU, hN, htr, hNb⟩ := C
  intro H locs ls hl hP hD hS
  exact lv_if_gt hx hb d ht (fun h => h1 h H locs ls hl hP hD hS) (fun h => h2 h H locs ls hl hP hD hS)
theorem zj_icmp_gt {X : zj_T} {z : zv_T} {cc : ByteArray} {nL : Nat} {own : String} {rm : Room} {ret : Option FieldType} (C : zj_C X z cc nL own rm ret) {cells slots : Nat} {Q : State → Prop} {ad : Nat → Nat} {N : Nat} {g : Nat → va_E} {pc : Nat} {L : List (Nat × Value)} {st : List Value} {x y : Int32} {off : Int} {tgt : Nat} (d : decode cc pc = .ok (.if_icmp .gt off, 3)) (ht : (pc : Int) + off = (tgt : Int))
    (h1 : y < x → zj_J X cells slots Q ad N g tgt L st) (h2 : ¬ y < x → zj_J X cells slots Q ad N g (pc + 3) L st) : zj_J X cells slots Q ad N g pc L (.int y :: .int x :: st) := by
  obtain ⟨p, l, e, R, s, m, args, below, meth, c, nL', z'⟩ := X
  obtain ⟨⟨hx, hb, hml, hown, hts⟩, hK, hA, hlk, rfl, hr, rfl, rfl, hU, hN, htr, hNb⟩ := C
  intro H locs ls hl hP hD hS
  exact lv_icmp_gt hx hb d ht (fun h => h1 h H locs ls hl hP hD hS) (fun h => h2 h H locs ls hl hP hD hS)
theorem zj_if_le {X : zj_T} {z : zv_T} {cc : ByteArray} {nL : Nat} {own : String} {rm : Room} {ret : Option FieldType} (C : zj_C X z cc nL own rm ret) {cells slots : Nat} {Q : State → Prop} {ad : Nat → Nat} {N : Nat} {g : Nat → va_E} {pc : Nat} {L : List (Nat × Value)} {st : List Value} {x : Int32} {off : Int} {tgt : Nat} (d : decode cc pc = .ok (.ifCond .le off, 3)) (ht : (pc : Int) + off = (tgt : Int))
    (h1 : x ≤ 0 → zj_J X cells slots Q ad N g tgt L st) (h2 : ¬ x ≤ 0 → zj_J X cells slots Q ad N g (pc + 3) L st) : zj_J X cells slots Q ad N g pc L (.int x :: st) := by
  obtain ⟨p, l, e, R, s, m, args, below, meth, c, nL', z'⟩ := X
  obtain ⟨⟨hx, hb, hml, hown, hts⟩, hK, hA, hlk, rfl, hr, rfl, rfl, hU, hN, htr, hNb⟩ := C
  intro H locs ls hl hP hD hS
  exact lv_if_le hx hb d ht (fun h => h1 h H locs ls hl hP hD hS) (fun h => h2 h H locs ls hl hP hD hS)
theorem zj_icmp_le {X : zj_T} {z : zv_T} {cc : ByteArray} {nL : Nat} {own : String} {rm : Room} {ret : Option FieldType} (C : zj_C X z cc nL own rm ret) {cells slots : Nat} {Q : State → Prop} {ad : Nat → Nat} {N : Nat} {g : Nat → va_E} {pc : Nat} {L : List (Nat × Value)} {st : List Value} {x y : Int32} {off : Int} {tgt : Nat} (d : decode cc pc = .ok (.if_icmp .le off, 3)) (ht : (pc : Int) + off = (tgt : Int))
    (h1 : x ≤ y → zj_J X cells slots Q ad N g tgt L st) (h2 : ¬ x ≤ y → zj_J X cells slots Q ad N g (pc + 3) L st) : zj_J X cells slots Q ad N g pc L (.int y :: .int x :: st) := by
  obtain ⟨p, l, e, R, s, m, args, below, meth, c, nL', z'⟩ := X
  obtain ⟨⟨hx, hb, hml, hown, hts⟩, hK, hA, hlk, rfl, hr, rfl, rfl, hU, hN, htr, hNb⟩ := C
  intro H locs ls hl hP hD hS
  exact lv_icmp_le hx hb d ht (fun h => h1 h H locs ls hl hP hD hS) (fun h => h2 h H locs ls hl hP hD hS)
theorem zj_goto {X : zj_T} {z : zv_T} {cc : ByteArray} {nL : Nat} {own : String} {rm : Room} {ret : Option FieldType} (C : zj_C X z cc nL own rm ret) {cells slots : Nat} {Q : State → Prop} {ad : Nat → Nat} {N : Nat} {g : Nat → va_E} {pc : Nat} {L : List (Nat × Value)} {st : List Value} {off : Int} {tgt : Nat} (d : decode cc pc = .ok (.goto off, 3)) (ht : (pc : Int) + off = (tgt : Int))
    (kk : zj_J X cells slots Q ad N g tgt L st) : zj_J X cells slots Q ad N g pc L st := by
  obtain ⟨p, l, e, R, s, m, args, below, meth, c, nL', z'⟩ := X
  obtain ⟨⟨hx, hb, hml, hown, hts⟩, hK, hA, hlk, rfl, hr, rfl, rfl, hU, hN, htr, hNb⟩ := C
  intro H locs ls hl hP hD hS
  exact lv_goto hx hb d ht (kk H locs ls hl hP hD hS)
theorem zj_tableOut {X : zj_T} {z : zv_T} {cc : ByteArray} {nL : Nat} {own : String} {rm : Room} {ret : Option FieldType} (C : zj_C X z cc nL own rm ret) {cells slots : Nat} {Q : State → Prop} {ad : Nat → Nat} {N : Nat} {g : Nat → va_E} {pc : Nat} {L : List (Nat × Value)} {st : List Value} {dflt lo hi : Int} {offs : Array Int} {len : Nat} {x : Int32} {tgt : Nat} (d : decode cc pc = .ok (.tableswitch dflt lo hi offs, len)) (h : x.toInt < lo ∨ hi < x.toInt) (ht : (pc : Int) + dflt = (tgt : Int))
    (kk : zj_J X cells slots Q ad N g tgt L st) : zj_J X cells slots Q ad N g pc L (.int x :: st) := by
  obtain ⟨p, l, e, R, s, m, args, below, meth, c, nL', z'⟩ := X
  obtain ⟨⟨hx, hb, hml, hown, hts⟩, hK, hA, hlk, rfl, hr, rfl, rfl, hU, hN, htr, hNb⟩ := C
  intro H locs ls hl hP hD hS
  exact lv_tableOut hx hb d h ht (kk H locs ls hl hP hD hS)
theorem zj_tableIn {X : zj_T} {z : zv_T} {cc : ByteArray} {nL : Nat} {own : String} {rm : Room} {ret : Option FieldType} (C : zj_C X z cc nL own rm ret) {cells slots : Nat} {Q : State → Prop} {ad : Nat → Nat} {N : Nat} {g : Nat → va_E} {pc : Nat} {L : List (Nat × Value)} {st : List Value} {dflt lo hi : Int} {offs : Array Int} {len : Nat} {x : Int32} {off : Int} {tgt : Nat} (d : decode cc pc = .ok (.tableswitch dflt lo hi offs, len)) (h1 : ¬ x.toInt < lo) (h2 : ¬ hi < x.toInt) (ho : offs[(x.toInt - lo).toNat]? = some off) (ht : (pc : Int) + off = (tgt : Int))
    (kk : zj_J X cells slots Q ad N g tgt L st) : zj_J X cells slots Q ad N g pc L (.int x :: st) := by
  obtain ⟨p, l, e, R, s, m, args, below, meth, c, nL', z'⟩ := X
  obtain ⟨⟨hx, hb, hml, hown, hts⟩, hK, hA, hlk, rfl, hr, rfl, rfl, hU, hN, htr, hNb⟩ := C
  intro H locs ls hl hP hD hS
  exact lv_tableIn hx hb d h1 h2 ho ht (kk H locs ls hl hP hD hS)
theorem zj_lookup {X : zj_T} {z : zv_T} {cc : ByteArray} {nL : Nat} {own : String} {rm : Room} {ret : Option FieldType} (C : zj_C X z cc nL own rm ret) {cells slots : Nat} {Q : State → Prop} {ad : Nat → Nat} {N : Nat} {g : Nat → va_E} {pc : Nat} {L : List (Nat × Value)} {st : List Value} {dflt : Int} {ps : Array (Int × Int)} {len : Nat} {x : Int32} {off : Int} {tgt : Nat} (d : decode cc pc = .ok (.lookupswitch dflt ps, len)) (hp : (ps.toList.zip (ps.toList.drop 1)).all (fun (a, next) => a.1 < next.1) = true) (ho : Op.lookupswitch.offset ps.toList dflt x.toInt = off) (ht : (pc : Int) + off = (tgt : Int))
    (kk : zj_J X cells slots Q ad N g tgt L st) : zj_J X cells slots Q ad N g pc L (.int x :: st) := by
  obtain ⟨p, l, e, R, s, m, args, below, meth, c, nL', z'⟩ := X
  obtain ⟨⟨hx, hb, hml, hown, hts⟩, hK, hA, hlk, rfl, hr, rfl, rfl, hU, hN, htr, hNb⟩ := C
  intro H locs ls hl hP hD hS
  exact lv_lookup hx hb d hp ho ht (kk H locs ls hl hP hD hS)
theorem zj_iald {X : zj_T} {z : zv_T} {cc : ByteArray} {nL : Nat} {own : String} {rm : Room} {ret : Option FieldType} (C : zj_C X z cc nL own rm ret) {cells slots : Nat} {Q : State → Prop} {ad : Nat → Nat} {N : Nat} {g : Nat → va_E} {pc : Nat} {L : List (Nat × Value)} {st : List Value} {i n k : Nat} {f : Nat → Int32} {j : Int32} (hi : i < N) (he : g i = ze_i z n f) (hj : j = nI k) (hk : k < n) (hn : n < 2 ^ 31) (d : decode cc pc = .ok (.iaload, 1))
    (kk : zj_J X cells slots Q ad N g (pc + 1) L (.int (f k) :: st)) : zj_J X cells slots Q ad N g pc L (.int j :: .ref (ad i) :: st) := by
  obtain ⟨p, l, e, R, s, m, args, below, meth, c, nL', z'⟩ := X
  obtain ⟨⟨hx, hb, hml, hown, hts⟩, hK, hA, hlk, rfl, hr, rfl, rfl, hU, hN, htr, hNb⟩ := C
  intro H locs ls hl hP hD hS
  subst hj
  have e1 : (nI k).toNatClampNeg = k := nI_clamp (by omega)
  refine va_iald hx hb hK hP i 0 (zw_ate hi he) rfl (vp_in_nI hk hn) d ?_
  rw [e1]
  exact kk H locs ls hl hP hD hS
theorem zj_zald {X : zj_T} {z : zv_T} {cc : ByteArray} {nL : Nat} {own : String} {rm : Room} {ret : Option FieldType} (C : zj_C X z cc nL own rm ret) {cells slots : Nat} {Q : State → Prop} {ad : Nat → Nat} {N : Nat} {g : Nat → va_E} {pc : Nat} {L : List (Nat × Value)} {st : List Value} {i n k : Nat} {f : Nat → Int32} {j : Int32} (hi : i < N) (he : g i = ze_z z n f) (hj : j = nI k) (hk : k < n) (hn : n < 2 ^ 31) (d : decode cc pc = .ok (.baload, 1))
    (kk : zj_J X cells slots Q ad N g (pc + 1) L (.int (f k) :: st)) : zj_J X cells slots Q ad N g pc L (.int j :: .ref (ad i) :: st) := by
  obtain ⟨p, l, e, R, s, m, args, below, meth, c, nL', z'⟩ := X
  obtain ⟨⟨hx, hb, hml, hown, hts⟩, hK, hA, hlk, rfl, hr, rfl, rfl, hU, hN, htr, hNb⟩ := C
  intro H locs ls hl hP hD hS
  subst hj
  have e1 : (nI k).toNatClampNeg = k := nI_clamp (by omega)
  refine va_zald hx hb hK hP i 1 (zw_ate hi he) rfl (vp_in_nI hk hn) d ?_
  rw [e1]
  exact kk H locs ls hl hP hD hS
theorem zj_lald {X : zj_T} {z : zv_T} {cc : ByteArray} {nL : Nat} {own : String} {rm : Room} {ret : Option FieldType} (C : zj_C X z cc nL own rm ret) {cells slots : Nat} {Q : State → Prop} {ad : Nat → Nat} {N : Nat} {g : Nat → va_E} {pc : Nat} {L : List (Nat × Value)} {st : List Value} {i n k : Nat} {f : Nat → Int64} {j : Int32} (hi : i < N) (he : g i = ze_l z n f) (hj : j = nI k) (hk : k < n) (hn : n < 2 ^ 31) (d : decode cc pc = .ok (.laload, 1))
    (kk : zj_J X cells slots Q ad N g (pc + 1) L (.long (f k) :: st)) : zj_J X cells slots Q ad N g pc L (.int j :: .ref (ad i) :: st) := by
  obtain ⟨p, l, e, R, s, m, args, below, meth, c, nL', z'⟩ := X
  obtain ⟨⟨hx, hb, hml, hown, hts⟩, hK, hA, hlk, rfl, hr, rfl, rfl, hU, hN, htr, hNb⟩ := C
  intro H locs ls hl hP hD hS
  subst hj
  have e1 : (nI k).toNatClampNeg = k := nI_clamp (by omega)
  refine va_lald hx hb hK hP i 2 (zw_ate hi he) rfl (vp_in_nI hk hn) d ?_
  rw [e1]
  exact kk H locs ls hl hP hD hS
theorem zj_uald {X : zj_T} {z : zv_T} {cc : ByteArray} {nL : Nat} {own : String} {rm : Room} {ret : Option FieldType} (C : zj_C X z cc nL own rm ret) {cells slots : Nat} {Q : State → Prop} {ad : Nat → Nat} {N : Nat} {g : Nat → va_E} {pc : Nat} {L : List (Nat × Value)} {st : List Value} {i n k : Nat} {f : Nat → Option Nat} {j : Int32} (hi : i < N) (he : g i = ze_u z n f) (hj : j = nI k) (hk : k < n) (hn : n < 2 ^ 31) (d : decode cc pc = .ok (.aaload, 1))
    (kk : zj_J X cells slots Q ad N g (pc + 1) L (va_rf (f k) :: st)) : zj_J X cells slots Q ad N g pc L (.int j :: .ref (ad i) :: st) := by
  obtain ⟨p, l, e, R, s, m, args, below, meth, c, nL', z'⟩ := X
  obtain ⟨⟨hx, hb, hml, hown, hts⟩, hK, hA, hlk, rfl, hr, rfl, rfl, hU, hN, htr, hNb⟩ := C
  intro H locs ls hl hP hD hS
  subst hj
  have e1 : (nI k).toNatClampNeg = k := nI_clamp (by omega)
  refine va_aldq hx hb hK hP i 3 (zw_ate hi he) rfl (vp_in_nI hk hn) d ?_
  rw [e1]
  exact kk H locs ls hl hP hD hS
theorem zj_pald {X : zj_T} {z : zv_T} {cc : ByteArray} {nL : Nat} {own : String} {rm : Room} {ret : Option FieldType} (C : zj_C X z cc nL own rm ret) {cells slots : Nat} {Q : State → Prop} {ad : Nat → Nat} {N : Nat} {g : Nat → va_E} {pc : Nat} {L : List (Nat × Value)} {st : List Value} {i n k : Nat} {f : Nat → Option Nat} {j : Int32} (hi : i < N) (he : g i = ze_p z n f) (hj : j = nI k) (hk : k < n) (hn : n < 2 ^ 31) (d : decode cc pc = .ok (.aaload, 1))
    (kk : zj_J X cells slots Q ad N g (pc + 1) L (va_rf (f k) :: st)) : zj_J X cells slots Q ad N g pc L (.int j :: .ref (ad i) :: st) := by
  obtain ⟨p, l, e, R, s, m, args, below, meth, c, nL', z'⟩ := X
  obtain ⟨⟨hx, hb, hml, hown, hts⟩, hK, hA, hlk, rfl, hr, rfl, rfl, hU, hN, htr, hNb⟩ := C
  intro H locs ls hl hP hD hS
  subst hj
  have e1 : (nI k).toNatClampNeg = k := nI_clamp (by omega)
  refine va_aldq hx hb hK hP i 4 (zw_ate hi he) rfl (vp_in_nI hk hn) d ?_
  rw [e1]
  exact kk H locs ls hl hP hD hS
theorem zj_iast {X : zj_T} {z : zv_T} {cc : ByteArray} {nL : Nat} {own : String} {rm : Room} {ret : Option FieldType} (C : zj_C X z cc nL own rm ret) {cells slots : Nat} {Q : State → Prop} {ad : Nat → Nat} {N : Nat} {g : Nat → va_E} {pc : Nat} {L : List (Nat × Value)} {st : List Value} {i n k : Nat} {f : Nat → Int32} {j : Int32} {x : Int32} (hi : i < N) (he : g i = ze_i z n f) (hj : j = nI k) (hk : k < n) (hn : n < 2 ^ 31) (d : decode cc pc = .ok (.iastore, 1))
    (kk : zj_J X cells slots Q ad N (va_up g i (ze_i z n (upd f k x))) (pc + 1) L st) : zj_J X cells slots Q ad N g pc L (.int x :: .int j :: .ref (ad i) :: st) := by
  obtain ⟨p, l, e, R, s, m, args, below, meth, c, nL', z'⟩ := X
  obtain ⟨⟨hx, hb, hml, hown, hts⟩, hK, hA, hlk, rfl, hr, rfl, rfl, hU, hN, htr, hNb⟩ := C
  intro H locs ls hl hP hD hS
  subst hj
  have e1 : (nI k).toNatClampNeg = k := nI_clamp (by omega)
  refine va_iast hx hb hK hP hD hS i 0 (zw_ate hi he) rfl (vp_in_nI hk hn) d (fun H1 locs1 hP1 hD1 hS1 => ?_)
  rw [e1, zw_set hi] at hP1 hD1
  exact kk H1 locs1 ls hl hP1 hD1 hS1
theorem zj_zast {X : zj_T} {z : zv_T} {cc : ByteArray} {nL : Nat} {own : String} {rm : Room} {ret : Option FieldType} (C : zj_C X z cc nL own rm ret) {cells slots : Nat} {Q : State → Prop} {ad : Nat → Nat} {N : Nat} {g : Nat → va_E} {pc : Nat} {L : List (Nat × Value)} {st : List Value} {i n k : Nat} {f : Nat → Int32} {j : Int32} {x : Int32} (hi : i < N) (he : g i = ze_z z n f) (hj : j = nI k) (hk : k < n) (hn : n < 2 ^ 31) (d : decode cc pc = .ok (.bastore, 1))
    (kk : zj_J X cells slots Q ad N (va_up g i (ze_z z n (upd f k (vp_nar .boolean x)))) (pc + 1) L st) : zj_J X cells slots Q ad N g pc L (.int x :: .int j :: .ref (ad i) :: st) := by
  obtain ⟨p, l, e, R, s, m, args, below, meth, c, nL', z'⟩ := X
  obtain ⟨⟨hx, hb, hml, hown, hts⟩, hK, hA, hlk, rfl, hr, rfl, rfl, hU, hN, htr, hNb⟩ := C
  intro H locs ls hl hP hD hS
  subst hj
  have e1 : (nI k).toNatClampNeg = k := nI_clamp (by omega)
  refine va_zast hx hb hK hP hD hS i 1 (zw_ate hi he) rfl (vp_in_nI hk hn) d (fun H1 locs1 hP1 hD1 hS1 => ?_)
  rw [e1, zw_set hi] at hP1 hD1
  exact kk H1 locs1 ls hl hP1 hD1 hS1
theorem zj_last {X : zj_T} {z : zv_T} {cc : ByteArray} {nL : Nat} {own : String} {rm : Room} {ret : Option FieldType} (C : zj_C X z cc nL own rm ret) {cells slots : Nat} {Q : State → Prop} {ad : Nat → Nat} {N : Nat} {g : Nat → va_E} {pc : Nat} {L : List (Nat × Value)} {st : List Value} {i n k : Nat} {f : Nat → Int64} {j : Int32} {x : Int64} (hi : i < N) (he : g i = ze_l z n f) (hj : j = nI k) (hk : k < n) (hn : n < 2 ^ 31) (d : decode cc pc = .ok (.lastore, 1))
    (kk : zj_J X cells slots Q ad N (va_up g i (ze_l z n (vp_updL f k x))) (pc + 1) L st) : zj_J X cells slots Q ad N g pc L (.long x :: .int j :: .ref (ad i) :: st) := by
  obtain ⟨p, l, e, R, s, m, args, below, meth, c, nL', z'⟩ := X
  obtain ⟨⟨hx, hb, hml, hown, hts⟩, hK, hA, hlk, rfl, hr, rfl, rfl, hU, hN, htr, hNb⟩ := C
  intro H locs ls hl hP hD hS
  subst hj
  have e1 : (nI k).toNatClampNeg = k := nI_clamp (by omega)
  refine va_last hx hb hK hP hD hS i 2 (zw_ate hi he) rfl (vp_in_nI hk hn) d (fun H1 locs1 hP1 hD1 hS1 => ?_)
  rw [e1, zw_set hi] at hP1 hD1
  exact kk H1 locs1 ls hl hP1 hD1 hS1
theorem zj_uast {X : zj_T} {z : zv_T} {cc : ByteArray} {nL : Nat} {own : String} {rm : Room} {ret : Option FieldType} (C : zj_C X z cc nL own rm ret) {cells slots : Nat} {Q : State → Prop} {ad : Nat → Nat} {N : Nat} {g : Nat → va_E} {pc : Nat} {L : List (Nat × Value)} {st : List Value} {i n k v : Nat} {f : Nat → Option Nat} {j : Int32} {vs : List Value} (hi : i < N) (he : g i = ze_u z n f) (hj : j = nI k) (hk : k < n) (hn : n < 2 ^ 31) (hv : v < N) (hve : g v = ze_o 5 vs) (d : decode cc pc = .ok (.aastore, 1))
    (kk : zj_J X cells slots Q ad N (va_up g i (ze_u z n (va_up f k (some (ad v))))) (pc + 1) L st) : zj_J X cells slots Q ad N g pc L (.ref (ad v) :: .int j :: .ref (ad i) :: st) := by
  obtain ⟨p, l, e, R, s, m, args, below, meth, c, nL', z'⟩ := X
  obtain ⟨⟨hx, hb, hml, hown, hts⟩, hK, hA, hlk, rfl, hr, rfl, rfl, hU, hN, htr, hNb⟩ := C
  intro H locs ls hl hP hD hS
  subst hj
  have e1 : (nI k).toNatClampNeg = k := nI_clamp (by omega)
  refine va_astq hx hb hK hP hD hS i 3 v 5 (zw_ate hi he) rfl (zw_ate hv hve) rfl (vp_in_nI hk hn) d (fun H1 locs1 hP1 hD1 hS1 => ?_)
  rw [e1, zw_set hi] at hP1 hD1
  exact kk H1 locs1 ls hl hP1 hD1 hS1
theorem zj_past {X : zj_T} {z : zv_T} {cc : ByteArray} {nL : Nat} {own : String} {rm : Room} {ret : Option FieldType} (C : zj_C X z cc nL own rm ret) {cells slots : Nat} {Q : State → Prop} {ad : Nat → Nat} {N : Nat} {g : Nat → va_E} {pc : Nat} {L : List (Nat × Value)} {st : List Value} {i n k v : Nat} {f : Nat → Option Nat} {j : Int32} {vs : List Value} (hi : i < N) (he : g i = ze_p z n f) (hj : j = nI k) (hk : k < n) (hn : n < 2 ^ 31) (hv : v < N) (hve : g v = ze_o 3 vs) (d : decode cc pc = .ok (.aastore, 1))
    (kk : zj_J X cells slots Q ad N (va_up g i (ze_p z n (va_up f k (some (ad v))))) (pc + 1) L st) : zj_J X cells slots Q ad N g pc L (.ref (ad v) :: .int j :: .ref (ad i) :: st) := by
  obtain ⟨p, l, e, R, s, m, args, below, meth, c, nL', z'⟩ := X
  obtain ⟨⟨hx, hb, hml, hown, hts⟩, hK, hA, hlk, rfl, hr, rfl, rfl, hU, hN, htr, hNb⟩ := C
  intro H locs ls hl hP hD hS
  subst hj
  have e1 : (nI k).toNatClampNeg = k := nI_clamp (by omega)
  refine va_astq hx hb hK hP hD hS i 4 v 3 (zw_ate hi he) rfl (zw_ate hv hve) rfl (vp_in_nI hk hn) d (fun H1 locs1 hP1 hD1 hS1 => ?_)
  rw [e1, zw_set hi] at hP1 hD1
  exact kk H1 locs1 ls hl hP1 hD1 hS1
theorem zj_get {X : zj_T} {z : zv_T} {cc : ByteArray} {nL : Nat} {own : String} {rm : Room} {ret : Option FieldType} (C : zj_C X z cc nL own rm ret) {cells slots : Nat} {Q : State → Prop} {ad : Nat → Nat} {N : Nat} {g : Nat → va_E} {pc : Nat} {L : List (Nat × Value)} {st : List Value} {i ci k index M : Nat} {fs : List Value} {v : Value} {CC ref : String} {T : u_T} (hi : i < N) (he : g i = ze_o ci fs) (hc : zc_l[ci]? = some (CC, T, M)) (hk : k < M) (hin : ∀ w ∈ u_ws CC T M, w ∈ zt_tbl) (hlink : Cond.fieldLink own index ref (T k).2.1 (T k).2.2.1 ∈ zt_tbl) (href : (T k).1 = ref) (hv : fs[k]? = some v) (d : decode cc pc = .ok (.getfield index, 3))
    (kk : zj_J X cells slots Q ad N g (pc + 3) L (v :: st)) : zj_J X cells slots Q ad N g pc L (.ref (ad i) :: st) := by
  obtain ⟨p, l, e, R, s, m, args, below, meth, c, nL', z'⟩ := X
  obtain ⟨⟨hx, hb, hml, hown, hts⟩, hK, hA, hlk, rfl, hr, rfl, rfl, hU, hN, htr, hNb⟩ := C
  intro H locs ls hl hP hD hS
  exact va_get hx hb hts hin hown hK hP i (zw_ate hi he) hc k hk (hts _ hlink) (fun x h => by rw [← href]; exact h) hv d (kk H locs ls hl hP hD hS)
theorem zj_put {X : zj_T} {z : zv_T} {cc : ByteArray} {nL : Nat} {own : String} {rm : Room} {ret : Option FieldType} (C : zj_C X z cc nL own rm ret) {cells slots : Nat} {Q : State → Prop} {ad : Nat → Nat} {N : Nat} {g : Nat → va_E} {pc : Nat} {L : List (Nat × Value)} {st : List Value} {i ci k index M : Nat} {fs : List Value} {v : Value} {CC ref : String} {T : u_T} {ty : FieldType} (hi : i < N) (he : g i = ze_o ci fs) (hc : zc_l[ci]? = some (CC, T, M)) (hk : k < M) (hin : ∀ w ∈ u_ws CC T M, w ∈ zt_tbl) (hlink : Cond.fieldLink own index ref (T k).2.1 (T k).2.2.1 ∈ zt_tbl) (href : (T k).1 = ref) (ty0 : Nat → FieldType) (hty : ∀ k, k < M → parseFieldDescriptor (T k).2.2.1 = some (ty0 k)) (hnm : ∀ a, a < M → ∀ b, b < M → a ≠ b → (T a).2.1 ≠ (T b).2.1) (hd : ty0 k = ty) (hn : narrow ty v = v) (hfit : fits ty v = true) (hlf : k < fs.length) (hfin : (T k).2.2.2 = false) (d : decode cc pc = .ok (.putfield index, 3))
    (kk : zj_J X cells slots Q ad N (va_up g i (ze_o ci (fs.set k v))) (pc + 3) L st) : zj_J X cells slots Q ad N g pc L (v :: .ref (ad i) :: st) := by
  obtain ⟨p, l, e, R, s, m, args, below, meth, c, nL', z'⟩ := X
  obtain ⟨⟨hx, hb, hml, hown, hts⟩, hK, hA, hlk, rfl, hr, rfl, rfl, hU, hN, htr, hNb⟩ := C
  intro H locs ls hl hP hD hS
  refine va_put hx hb hts hin ty0 hty hnm hown hK hP hD hS i (zw_ate hi he) hc k hk (hts _ hlink) (fun x h => by rw [← href]; exact h) hfin (by rw [hty k hk, hd]) hn hfit hlf d (fun H1 locs1 hP1 hD1 hS1 => ?_)
  rw [zw_set hi] at hP1 hD1
  exact kk H1 locs1 ls hl hP1 hD1 hS1
theorem zj_mmax {X : zj_T} {z : zv_T} {cc : ByteArray} {nL : Nat} {own : String} {rm : Room} {ret : Option FieldType} (C : zj_C X z cc nL own rm ret) {cells slots : Nat} {Q : State → Prop} {ad : Nat → Nat} {N : Nat} {g : Nat → va_E} {pc : Nat} {L : List (Nat × Value)} {st : List Value} {index : Nat} {x y : Int32} (h1 : Cond.methodLink own index Lib.Math.max.name ∈ zt_tbl) (h2 : Cond.static Lib.Math.max.name ∈ zt_tbl) (h3 : Cond.initialized "java/lang/Math" ∈ zt_tbl) (h4 : Cond.code Lib.Math.max.name Lib.Math.max.code 2 (some .int) ∈ zt_tbl) (hR : 1 ≤ rm.frames ∧ (st.map fun v => v.category).sum + 13 ≤ rm.locals) (hcs : cells ≤ rm.cells ∧ slots ≤ rm.slots) (d : decode cc pc = .ok (.invokestatic index, 3))
    (kk : zj_J X cells slots Q ad N g (pc + 3) L (.int (if x < y then y else x) :: st)) : zj_J X cells slots Q ad N g pc L (.int y :: .int x :: st) := by
  obtain ⟨p, l, e, R, s, m, args, below, meth, c, nL', z'⟩ := X
  obtain ⟨⟨hx, hb, hml, hown, hts⟩, hK, hA, hlk, rfl, hr, rfl, rfl, hU, hN, htr, hNb⟩ := C
  intro H locs ls hl hP hD hS
  exact va_mmax hx hb (hml.trans hl.1.symm) hown (hts _ h1) (hts _ h2) (hts _ h3) (hts _ h4) hR.1 hR.2 hcs.1 hcs.2 d (kk H locs ls hl hP hD hS)
theorem zj_mmin {X : zj_T} {z : zv_T} {cc : ByteArray} {nL : Nat} {own : String} {rm : Room} {ret : Option FieldType} (C : zj_C X z cc nL own rm ret) {cells slots : Nat} {Q : State → Prop} {ad : Nat → Nat} {N : Nat} {g : Nat → va_E} {pc : Nat} {L : List (Nat × Value)} {st : List Value} {index : Nat} {x y : Int32} (h1 : Cond.methodLink own index Lib.Math.min.name ∈ zt_tbl) (h2 : Cond.static Lib.Math.min.name ∈ zt_tbl) (h3 : Cond.initialized "java/lang/Math" ∈ zt_tbl) (h4 : Cond.code Lib.Math.min.name Lib.Math.min.code 2 (some .int) ∈ zt_tbl) (hR : 1 ≤ rm.frames ∧ (st.map fun v => v.category).sum + 13 ≤ rm.locals) (hcs : cells ≤ rm.cells ∧ slots ≤ rm.slots) (d : decode cc pc = .ok (.invokestatic index, 3))
    (kk : zj_J X cells slots Q ad N g (pc + 3) L (.int (if y < x then y else x) :: st)) : zj_J X cells slots Q ad N g pc L (.int y :: .int x :: st) := by
  obtain ⟨p, l, e, R, s, m, args, below, meth, c, nL', z'⟩ := X
  obtain ⟨⟨hx, hb, hml, hown, hts⟩, hK, hA, hlk, rfl, hr, rfl, rfl, hU, hN, htr, hNb⟩ := C
  intro H locs ls hl hP hD hS
  exact va_mmin hx hb (hml.trans hl.1.symm) hown (hts _ h1) (hts _ h2) (hts _ h3) (hts _ h4) hR.1 hR.2 hcs.1 hcs.2 d (kk H locs ls hl hP hD hS)
theorem zj_new {X : zj_T} {z : zv_T} {cc : ByteArray} {nL : Nat} {own : String} {rm : Room} {ret : Option FieldType} (C : zj_C X z cc nL own rm ret) {cells slots : Nat} {Q : State → Prop} {ad : Nat → Nat} {N : Nat} {g : Nat → va_E} {pc : Nat} {L : List (Nat × Value)} {st : List Value} {ci index M : Nat} {CC : String} {T : u_T} (fs : List Value) (hc : zc_l[ci]? = some (CC, T, M)) (hin : ∀ w ∈ u_ws CC T M, w ∈ zt_tbl) (ty0 : Nat → FieldType) (hty : ∀ k, k < M → parseFieldDescriptor (T k).2.2.1 = some (ty0 k)) (h1 : Cond.classLink own index CC ∈ zt_tbl) (h2 : Cond.instantiable CC M ∈ zt_tbl) (h3 : Cond.initialized CC ∈ zt_tbl) (hfs : ∀ j, j < M → defaultValue (ty0 j) = vp_V fs j) (hcs : cells + 1 ≤ rm.cells ∧ slots + M ≤ rm.slots) (d : decode cc pc = .ok (.new index, 3))
    (kk : ∀ ad1 : Nat → Nat, (∀ j, j < N → ad j = ad1 j) → zj_J X (cells + 1) (slots + M) Q ad1 (N + 1) (va_up g N (ze_o ci fs)) (pc + 3) L (.ref (ad1 N) :: st)) : zj_J X cells slots Q ad N g pc L st := by
  obtain ⟨p, l, e, R, s, m, args, below, meth, c, nL', z'⟩ := X
  obtain ⟨⟨hx, hb, hml, hown, hts⟩, hK, hA, hlk, rfl, hr, rfl, rfl, hU, hN, htr, hNb⟩ := C
  intro H locs ls hl hP hD hS
  refine va_new (ci := ci) (fs := fs) hx hb hts hin ty0 hty hown (hts _ h1) (hts _ h2) (hts _ h3) hK hP hD hS hA hc hfs hcs.1 hcs.2 d (fun q H1 hP1 hD1 hS1 => ?_)
  rw [zw_push] at hP1 hD1
  have h := kk (va_up ad N q) (fun j hj => (va_up_ne _ _ (by omega)).symm) H1 locs ls hl hP1 hD1 hS1
  rw [va_up_self] at h
  exact h
theorem zj_newi {X : zj_T} {z : zv_T} {cc : ByteArray} {nL : Nat} {own : String} {rm : Room} {ret : Option FieldType} (C : zj_C X z cc nL own rm ret) {cells slots : Nat} {Q : State → Prop} {ad : Nat → Nat} {N : Nat} {g : Nat → va_E} {pc : Nat} {L : List (Nat × Value)} {st : List Value} {n : Int32} {k : Nat} {at9 : ArrayType} (hat : newarray.typeOf at9 = .int) (h1 : Cond.arrayClass .int ∈ zt_tbl) (hn : n = nI k) (hk : k < 65536) (hcs : cells + 1 ≤ rm.cells ∧ slots + k ≤ rm.slots) (d : decode cc pc = .ok (.newarray at9, 2))
    (kk : ∀ ad1 : Nat → Nat, (∀ j, j < N → ad j = ad1 j) → zj_J X (cells + 1) (slots + k) Q ad1 (N + 1) (va_up g N (ze_i z k (fun _ => 0))) (pc + 2) L (.ref (ad1 N) :: st)) : zj_J X cells slots Q ad N g pc L (.int n :: st) := by
  obtain ⟨p, l, e, R, s, m, args, below, meth, c, nL', z'⟩ := X
  obtain ⟨⟨hx, hb, hml, hown, hts⟩, hK, hA, hlk, rfl, hr, rfl, rfl, hU, hN, htr, hNb⟩ := C
  intro H locs ls hl hP hD hS
  subst hn
  refine va_newa (ty := .int) (N' := k) (a0 := (k, .inl (fun _ => 0))) hx hb (by rw [hat]; exact hts _ h1) hat hK hP hD hS hA (fun cA => rfl) (nI_pos (by omega)) (nI_clamp (by omega)) (by show k * _ ≤ _; simp [componentBytes]; omega) hcs.1 hcs.2 d (fun q cA H1 hK1 hP1 hD1 hS1 => ?_)
  have e1 := (hK1.2 5 (cA, .int) rfl).2
  have e2 := (hK.2 0 _ rfl).2
  have e3 : cA = zv_I _ := Option.some.inj (e1.symm.trans e2)
  subst e3
  rw [zw_push] at hP1 hD1
  have h := kk (va_up ad N q) (fun j hj => (va_up_ne _ _ (by omega)).symm) H1 locs ls hl hP1 hD1 hS1
  rw [va_up_self] at h
  exact h
theorem zj_newz {X : zj_T} {z : zv_T} {cc : ByteArray} {nL : Nat} {own : String} {rm : Room} {ret : Option FieldType} (C : zj_C X z cc nL own rm ret) {cells slots : Nat} {Q : State → Prop} {ad : Nat → Nat} {N : Nat} {g : Nat → va_E} {pc : Nat} {L : List (Nat × Value)} {st : List Value} {n : Int32} {k : Nat} {at9 : ArrayType} (hat : newarray.typeOf at9 = .boolean) (h1 : Cond.arrayClass .boolean ∈ zt_tbl) (hn : n = nI k) (hk : k < 65536) (hcs : cells + 1 ≤ rm.cells ∧ slots + k ≤ rm.slots) (d : decode cc pc = .ok (.newarray at9, 2))
    (kk : ∀ ad1 : Nat → Nat, (∀ j, j < N → ad j = ad1 j) → zj_J X (cells + 1) (slots + k) Q ad1 (N + 1) (va_up g N (ze_z z k (fun _ => 0))) (pc + 2) L (.ref (ad1 N) :: st)) : zj_J X cells slots Q ad N g pc L (.int n :: st) := by
  obtain ⟨p, l, e, R, s, m, args, below, meth, c, nL', z'⟩ := X
  obtain ⟨⟨hx, hb, hml, hown, hts⟩, hK, hA, hlk, rfl, hr, rfl, rfl, hU, hN, htr, hNb⟩ := C
  intro H locs ls hl hP hD hS
  subst hn
  refine va_newa (ty := .boolean) (N' := k) (a0 := (k, .inl (fun _ => 0))) hx hb (by rw [hat]; exact hts _ h1) hat hK hP hD hS hA (fun cA => rfl) (nI_pos (by omega)) (nI_clamp (by omega)) (by show k * _ ≤ _; simp [componentBytes]; omega) hcs.1 hcs.2 d (fun q cA H1 hK1 hP1 hD1 hS1 => ?_)
  have e1 := (hK1.2 5 (cA, .boolean) rfl).2
  have e2 := (hK.2 1 _ rfl).2
  have e3 : cA = zv_Z _ := Option.some.inj (e1.symm.trans e2)
  subst e3
  rw [zw_push] at hP1 hD1
  have h := kk (va_up ad N q) (fun j hj => (va_up_ne _ _ (by omega)).symm) H1 locs ls hl hP1 hD1 hS1
  rw [va_up_self] at h
  exact h
theorem zj_newl {X : zj_T} {z : zv_T} {cc : ByteArray} {nL : Nat} {own : String} {rm : Room} {ret : Option FieldType} (C : zj_C X z cc nL own rm ret) {cells slots : Nat} {Q : State → Prop} {ad : Nat → Nat} {N : Nat} {g : Nat → va_E} {pc : Nat} {L : List (Nat × Value)} {st : List Value} {n : Int32} {k : Nat} {at9 : ArrayType} (hat : newarray.typeOf at9 = .long) (h1 : Cond.arrayClass .long ∈ zt_tbl) (hn : n = nI k) (hk : k < 65536) (hcs : cells + 1 ≤ rm.cells ∧ slots + k ≤ rm.slots) (d : decode cc pc = .ok (.newarray at9, 2))
    (kk : ∀ ad1 : Nat → Nat, (∀ j, j < N → ad j = ad1 j) → zj_J X (cells + 1) (slots + k) Q ad1 (N + 1) (va_up g N (ze_l z k (fun _ => 0))) (pc + 2) L (.ref (ad1 N) :: st)) : zj_J X cells slots Q ad N g pc L (.int n :: st) := by
  obtain ⟨p, l, e, R, s, m, args, below, meth, c, nL', z'⟩ := X
  obtain ⟨⟨hx, hb, hml, hown, hts⟩, hK, hA, hlk, rfl, hr, rfl, rfl, hU, hN, htr, hNb⟩ := C
  intro H locs ls hl hP hD hS
  subst hn
  refine va_newa (ty := .long) (N' := k) (a0 := (k, .inr (.inl (fun _ => 0)))) hx hb (by rw [hat]; exact hts _ h1) hat hK hP hD hS hA (fun cA => rfl) (nI_pos (by omega)) (nI_clamp (by omega)) (by show k * _ ≤ _; simp [componentBytes]; omega) hcs.1 hcs.2 d (fun q cA H1 hK1 hP1 hD1 hS1 => ?_)
  have e1 := (hK1.2 5 (cA, .long) rfl).2
  have e2 := (hK.2 2 _ rfl).2
  have e3 : cA = zv_L _ := Option.some.inj (e1.symm.trans e2)
  subst e3
  rw [zw_push] at hP1 hD1
  have h := kk (va_up ad N q) (fun j hj => (va_up_ne _ _ (by omega)).symm) H1 locs ls hl hP1 hD1 hS1
  rw [va_up_self] at h
  exact h
end ZJ
