section ZLW
/-- the exception table of the method -/
def zl_H (X : zj_T) (hh : List (Nat × Nat × Nat × Nat)) : Prop := match X with
  | (_, _, _, _, _, _, _, _, _, c, _, _) => c.exceptionTable.toList = tableOf hh
theorem zl_ofi {l : Launch} {y : MethodName} {ws : List Cond} {rm : Room} {z : zv_T} {ad : Nat → Nat} {N : Nat} {g : Nat → va_E} {av : List Value} {post : Int32 → (Nat → va_E) → Prop} {px : String → (Nat → va_E) → Prop} {mc ms : Nat} {cc : ByteArray} {nL : Nat} {hh : List (Nat × Nat × Nat × Nat)} (hst : l.stackTraces = false) (hy : plainName y.cls = true) (hw' : ws = Cond.codeWith y cc nL (some .int) hh :: zt_tbl) (hlen : (lg_sl av).length ≤ nL)
    (body : ∀ X : zj_T, X.2.1 = l → zj_C X z cc nL y.cls rm (some .int) → zl_H X hh → zj_J X 0 0 (zx_Qi X mc ms ad N post px) ad N g 0 (lv_args 0 av) []) : zx_i l y ws rm z ad N g av mc ms post px := by
  refine vx_ofWH (cc := cc) (maxL := nL) (ret := (some .int)) (hh := hh) hy hw' ?_
  intro p e s m args below meth c s₁ B hml hv
  obtain ⟨rfl, hP, hK, hD, hA, hU, hN, hNb⟩ := hv
  have hown : s.vm.findClass y.cls = some m.cls := findClass_of_methodNamed B.named
  have h := body (p, l, e, (headSpec ws rm).room, s, m, av.toArray, below, meth, c, nL, z) rfl ⟨⟨B.exec, B.bytes, hml, hown, fun w hw => atoms_spec (ws := ws) B.pre w (by rw [hw']; exact List.mem_cons_of_mem _ hw)⟩, hK, hA, B.notSynchronized, rfl, B.returns, rfl, rfl, hU, hN, hst, hNb⟩ (vx_table (x := y) B (atoms_spec (ws := ws) B.pre _ (by rw [hw']; exact List.mem_cons_self)))
  rw [lg_entry_eq]
  exact h s.heap [] _ (lv_entry av hlen) hP hD va_S.rf
theorem zl_catch {X : zj_T} {z : zv_T} {cc : ByteArray} {nL : Nat} {own : String} {rm : Room} {ret : Option FieldType} (C : zj_C X z cc nL own rm ret) {hh : List (Nat × Nat × Nat × Nat)} (hH : zl_H X hh) {cells slots : Nat} {Q : State → Prop} {ad : Nat → Nat} {N : Nat} {g : Nat → va_E} {pc : Nat} {L : List (Nat × Value)} {st : List Value} {E : String} (pre : List ExceptionTableEntry) (x : ExceptionTableEntry) (suf : List ExceptionTableEntry) (hs : tableOf hh = pre ++ x :: suf) (hpass : ∀ w ∈ pre, w.catchType ≠ 0 ∧ ∃ nm : String, Cond.classLink own w.catchType nm ∈ zt_tbl ∧ ∀ U : State, zb_N U → va_Nc E nm U) (hx : covers x pc = true) (h0 : x.catchType ≠ 0) (hlk : Cond.classLink own x.catchType E ∈ zt_tbl) (hin : Cond.instantiable E 6 ∈ zt_tbl)
    (kk : ∀ q, zj_J X cells slots Q ad N g x.handlerPc L [.ref q]) : zj_X X cells slots Q ad N g pc L st E := by
  obtain ⟨p, l, e, R, s, m, args, below, meth, c, nL', z'⟩ := X
  obtain ⟨⟨hx', hb, hml, hown, hts⟩, hK, hA, hlk', rfl, hr, rfl, rfl, hU, hN, htr, hNb⟩ := C
  intro H locs ls ce q hl hP hD hS hce hcv hcl
  exact vx_catch hown pre x suf (hH.trans hs) (fun w hw => by obtain ⟨h1, nm, h2, h3⟩ := hpass w hw; exact Or.inr ⟨h1, nm, hts _ h2, h3 s hNb⟩) hx h0 (hts _ hlk) (zt_cast (hts _ hin)) hce hcv hcl (kk q H locs ls hl hP hD hS)
theorem zl_Si {X : zj_T} {z : zv_T} {cc : ByteArray} {nL : Nat} {own : String} {rm : Room} {ret : Option FieldType} (C : zj_C X z cc nL own rm ret) {cells slots : Nat} {Q : State → Prop} {ad : Nat → Nat} {N : Nat} {g : Nat → va_E} {pc : Nat} {L : List (Nat × Value)} {st st0 : List Value} {rt : FieldType} {y : MethodName} {ws ws' : List Cond} {rc : Room} {bytes : ByteArray} {maxL index n mc ms : Nat} {hh : List (Nat × Nat × Nat × Nat)} {As : List Value} {post : Int32 → (Nat → va_E) → Prop} (hM : zx_i X.2.1 y ws rc z ad N g As mc ms post (fun _ _ => False))
    (hG : GoodIn zt_tbl (va_wsS own index y ws)) (hw : ws = Cond.codeWith y bytes maxL (some rt) hh :: ws') (hrc : rc.cells = mc) (hrs : rc.slots = ms) (hd : y.cls ≠ "java/lang/invoke/MethodHandle" ∧ y.cls ≠ "java/lang/invoke/VarHandle" ∧ (parseMethodDescriptor y.desc).map (fun d => d.parameters.length) = some n) (hR : rc.frames + 1 ≤ rm.frames ∧ 8 + (maxL + 11) + rc.locals ≤ rm.locals)
    (hn : As.length = n) (hst : st0 = As.reverse ++ st) (hW : (st.map fun v => v.category).sum ≤ 8) (hcs : cells + mc ≤ rm.cells ∧ slots + ms ≤ rm.slots) (d : decode cc pc = .ok (.invokestatic index, 3))
    (kk : ∀ (r : Int32) (g1 : Nat → va_E), post r g1 → zj_J X (cells + mc) (slots + ms) Q ad N g1 (pc + 3) L (.int r :: st)) : zj_J X cells slots Q ad N g pc L st0 := by
  obtain ⟨p, l, e, R, s, m, args, below, meth, c, nL', z'⟩ := X
  obtain ⟨⟨hx, hb, hml, hown, hts⟩, hK, hA, hlk, rfl, hr, rfl, rfl, hU, hN, htr, hNb⟩ := C
  intro H locs ls hl hP hD hS
  refine vx_calli (vx_runSX (hh := hh) (As := As) (rest := st) ⟨hx, hb, hml, hown, hts⟩ hM (vx_cwSW n hts hG hw hrc hrs hd hR) ⟨zb_blind, fun U h1 h2 => ⟨rfl, zb_end hK hA hU hN hNb hP hD hS h1 h2.alike⟩⟩ rfl hn hl.1 hst (lv_room hW) d hcs) hS (fun q _ h => h) (fun q h => h) (fun q _ h => h) (fun E ce q9 g1 t H1 locs1 ht hvm _ hB hz1 hk1 hS1 hce hcv hcl => ?_) (fun r g1 t H1 locs1 ht hvm hq hB hz1 hk1 hS1 => ?_)
  · exact hB.1.elim
  · obtain ⟨hP1, hK1, hD1, -⟩ := hB
    rw [ht] at hP1
    exact kk r g1 hq H1 locs1 ls hl hP1 hD1 hS1
/-- the script: n ints xs at the cell b, which nobody writes -/
def zl_X (X : zj_T) (b n : Nat) (xs : Nat → Int32) : Prop := match X with
  | (_, _, _, _, s, _, _, _, _, _, _, z) => va_X b n xs s s.heap ∧ b < s.heap.size ∧ ¬ zv_A z b
theorem zl_sld {X : zj_T} {z : zv_T} {cc : ByteArray} {nL : Nat} {own : String} {rm : Room} {ret : Option FieldType} (C : zj_C X z cc nL own rm ret) {cells slots : Nat} {Q : State → Prop} {ad : Nat → Nat} {N : Nat} {g : Nat → va_E} {pc : Nat} {L : List (Nat × Value)} {st : List Value} {b n k : Nat} {xs : Nat → Int32} {i : Int32} (hX : zl_X X b n xs) (hi : i = nI k) (hk : k < n) (hn : n < 2 ^ 31) (d : decode cc pc = .ok (.iaload, 1))
    (kk : zj_J X cells slots Q ad N g (pc + 1) L (.int (xs k) :: st)) : zj_J X cells slots Q ad N g pc L (.int i :: .ref b :: st) := by
  obtain ⟨p, l, e, R, s, m, args, below, meth, c, nL', z'⟩ := X
  obtain ⟨⟨hx, hb, hml, hown, hts⟩, hK, hA, hlk, rfl, hr, rfl, rfl, hU, hN, htr, hNb⟩ := C
  intro H locs ls hl hP hD hS
  obtain ⟨h1, h2, h3⟩ := hX
  subst hi
  refine va_sld hx hb h1 h2 h3 hS (pk_in k n hk rfl hn) d ?_
  rw [nI_clamp (by omega)]
  exact kk H locs ls hl hP hD hS
theorem zl_slen {X : zj_T} {z : zv_T} {cc : ByteArray} {nL : Nat} {own : String} {rm : Room} {ret : Option FieldType} (C : zj_C X z cc nL own rm ret) {cells slots : Nat} {Q : State → Prop} {ad : Nat → Nat} {N : Nat} {g : Nat → va_E} {pc : Nat} {L : List (Nat × Value)} {st : List Value} {b n : Nat} {xs : Nat → Int32} (hX : zl_X X b n xs) (d : decode cc pc = .ok (.arraylength, 1))
    (kk : zj_J X cells slots Q ad N g (pc + 1) L (.int (nI n) :: st)) : zj_J X cells slots Q ad N g pc L (.ref b :: st) := by
  obtain ⟨p, l, e, R, s, m, args, below, meth, c, nL', z'⟩ := X
  obtain ⟨⟨hx, hb, hml, hown, hts⟩, hK, hA, hlk, rfl, hr, rfl, rfl, hU, hN, htr, hNb⟩ := C
  intro H locs ls hl hP hD hS
  obtain ⟨h1, h2, h3⟩ := hX
  exact va_slen hx hb h1 h2 h3 hS d (kk H locs ls hl hP hD hS)
theorem zj_wid {X : zj_T} {c s c' s' : Nat} {Q : State → Prop} {ad : Nat → Nat} {N : Nat} {g : Nat → va_E} {pc : Nat} {L : List (Nat × Value)} {st : List Value} (h1 : c ≤ c') (h2 : s ≤ s') (kk : zj_J X c' s' Q ad N g pc L st) : zj_J X c s Q ad N g pc L st := by
  obtain ⟨p, l, e, R, s, m, args, below, meth, c, nL', z'⟩ := X
  intro H locs ls hl hP hD hS
  exact W.widen h1 h2 (kk H locs ls hl hP hD hS)
theorem zt_SW {own : String} {idx : Nat} {y : MethodName} {c : Cond} (h1 : Cond.methodLink own idx y ∈ zt_tbl) (h2 : Cond.static y ∈ zt_tbl) (h4 : Cond.initialized y.cls ∈ zt_tbl) (h5 : c ∈ zt_tbl) : GoodIn zt_tbl (va_wsS own idx y (c :: zt_tbl)) := by
  intro w hw
  have hm : w ∈ zt_tbl := by
    simp only [va_wsS, List.mem_append, List.mem_cons, List.not_mem_nil, or_false] at hw
    rcases hw with (rfl | rfl | rfl) | rfl | hw <;> assumption
  exact ⟨hm, zt_good hm⟩
theorem zl_cmp0 {x y : Int64} (h : x = y) : lg_cmp x y = 0 := by
  subst h
  unfold lg_cmp
  simp
abbrev hh_L_tune : List (Nat × Nat × Nat × Nat) := [(0, 5, 8, 13), (0, 5, 11, 15)]
theorem wk_L_tune : Cond.codeWith mn_L_tune bc_L_tune 3 (some .int) hh_L_tune ∈ zt_tbl := zt_in (i := 204) (by decide +kernel) rfl
def ws_L_tune : List Cond := Cond.codeWith mn_L_tune bc_L_tune 3 (some .int) hh_L_tune :: zt_tbl
def rm_L_tune : Room := { frames := 7, cells := 1, slots := 6, locals := 110 }
theorem hd_L_tune : mn_L_tune.cls ≠ "java/lang/invoke/MethodHandle" ∧ mn_L_tune.cls ≠ "java/lang/invoke/VarHandle" ∧ (parseMethodDescriptor mn_L_tune.desc).map (fun d => d.parameters.length) = some 2 := by decide +kernel
theorem pn_L_tune : plainName mn_L_tune.cls = true := by decide +kernel
theorem gs_L_tune : GoodIn zt_tbl (va_wsS cn_L 73 mn_L_tune ws_L_tune) := zt_SW ml_L_73 sm_L_tune ini_L wk_L_tune
abbrev hh_L_drop : List (Nat × Nat × Nat × Nat) := [(0, 5, 8, 13)]
theorem wk_L_drop : Cond.codeWith mn_L_drop bc_L_drop 3 (some .int) hh_L_drop ∈ zt_tbl := zt_in (i := 296) (by decide +kernel) rfl
def ws_L_drop : List Cond := Cond.codeWith mn_L_drop bc_L_drop 3 (some .int) hh_L_drop :: zt_tbl
def rm_L_drop : Room := { frames := 8, cells := 1, slots := 6, locals := 131 }
theorem hd_L_drop : mn_L_drop.cls ≠ "java/lang/invoke/MethodHandle" ∧ mn_L_drop.cls ≠ "java/lang/invoke/VarHandle" ∧ (parseMethodDescriptor mn_L_drop.desc).map (fun d => d.parameters.length) = some 2 := by decide +kernel
theorem pn_L_drop : plainName mn_L_drop.cls = true := by decide +kernel
theorem gs_L_drop : GoodIn zt_tbl (va_wsS cn_L 83 mn_L_drop ws_L_drop) := zt_SW ml_L_83 sm_L_drop ini_L wk_L_drop
abbrev hh_L_note : List (Nat × Nat × Nat × Nat) := [(0, 12, 15, 13), (0, 12, 19, 24), (0, 12, 23, 15)]
theorem wk_L_note : Cond.codeWith mn_L_note bc_L_note 6 (some .int) hh_L_note ∈ zt_tbl := zt_in (i := 311) (by decide +kernel) rfl
def ws_L_note : List Cond := Cond.codeWith mn_L_note bc_L_note 6 (some .int) hh_L_note :: zt_tbl
def rm_L_note : Room := { frames := 8, cells := 3, slots := 18, locals := 134 }
theorem hd_L_note : mn_L_note.cls ≠ "java/lang/invoke/MethodHandle" ∧ mn_L_note.cls ≠ "java/lang/invoke/VarHandle" ∧ (parseMethodDescriptor mn_L_note.desc).map (fun d => d.parameters.length) = some 5 := by decide +kernel
theorem pn_L_note : plainName mn_L_note.cls = true := by decide +kernel
theorem gs_L_note : GoodIn zt_tbl (va_wsS cn_L 86 mn_L_note ws_L_note) := zt_SW ml_L_86 sm_L_note ini_L wk_L_note
abbrev hh_L_show : List (Nat × Nat × Nat × Nat) := [(0, 6, 9, 13), (0, 6, 12, 15)]
theorem wk_L_show : Cond.codeWith mn_L_show bc_L_show 4 (some .int) hh_L_show ∈ zt_tbl := zt_in (i := 345) (by decide +kernel) rfl
def ws_L_show : List Cond := Cond.codeWith mn_L_show bc_L_show 4 (some .int) hh_L_show :: zt_tbl
def rm_L_show : Room := { frames := 8, cells := 2, slots := 12, locals := 133 }
theorem hd_L_show : mn_L_show.cls ≠ "java/lang/invoke/MethodHandle" ∧ mn_L_show.cls ≠ "java/lang/invoke/VarHandle" ∧ (parseMethodDescriptor mn_L_show.desc).map (fun d => d.parameters.length) = some 3 := by decide +kernel
theorem pn_L_show : plainName mn_L_show.cls = true := by decide +kernel
theorem gs_L_show : GoodIn zt_tbl (va_wsS cn_L 90 mn_L_show ws_L_show) := zt_SW ml_L_90 sm_L_show ini_L wk_L_show
abbrev hh_L_correct : List (Nat × Nat × Nat × Nat) := [(0, 14, 17, 13), (0, 14, 21, 24), (0, 14, 25, 15)]
theorem wk_L_correct : Cond.codeWith mn_L_correct bc_L_correct 7 (some .int) hh_L_correct ∈ zt_tbl := zt_in (i := 352) (by decide +kernel) rfl
def ws_L_correct : List Cond := Cond.codeWith mn_L_correct bc_L_correct 7 (some .int) hh_L_correct :: zt_tbl
def rm_L_correct : Room := { frames := 8, cells := 4, slots := 24, locals := 135 }
theorem hd_L_correct : mn_L_correct.cls ≠ "java/lang/invoke/MethodHandle" ∧ mn_L_correct.cls ≠ "java/lang/invoke/VarHandle" ∧ (parseMethodDescriptor mn_L_correct.desc).map (fun d => d.parameters.length) = some 6 := by decide +kernel
theorem pn_L_correct : plainName mn_L_correct.cls = true := by decide +kernel
theorem gs_L_correct : GoodIn zt_tbl (va_wsS cn_L 94 mn_L_correct ws_L_correct) := zt_SW ml_L_94 sm_L_correct ini_L wk_L_correct
abbrev hh_L_restore : List (Nat × Nat × Nat × Nat) := [(0, 6, 9, 13)]
theorem wk_L_restore : Cond.codeWith mn_L_restore bc_L_restore 4 (some .int) hh_L_restore ∈ zt_tbl := zt_in (i := 367) (by decide +kernel) rfl
def ws_L_restore : List Cond := Cond.codeWith mn_L_restore bc_L_restore 4 (some .int) hh_L_restore :: zt_tbl
def rm_L_restore : Room := { frames := 8, cells := 2, slots := 12, locals := 133 }
theorem hd_L_restore : mn_L_restore.cls ≠ "java/lang/invoke/MethodHandle" ∧ mn_L_restore.cls ≠ "java/lang/invoke/VarHandle" ∧ (parseMethodDescriptor mn_L_restore.desc).map (fun d => d.parameters.length) = some 3 := by decide +kernel
theorem pn_L_restore : plainName mn_L_restore.cls = true := by decide +kernel
theorem gs_L_restore : GoodIn zt_tbl (va_wsS cn_L 98 mn_L_restore ws_L_restore) := zt_SW ml_L_98 sm_L_restore ini_L wk_L_restore
abbrev hh_L_at : List (Nat × Nat × Nat × Nat) := [(0, 14, 17, 13), (0, 14, 21, 24)]
theorem wk_L_at : Cond.codeWith mn_L_at bc_L_at 7 (some .int) hh_L_at ∈ zt_tbl := zt_in (i := 381) (by decide +kernel) rfl
def ws_L_at : List Cond := Cond.codeWith mn_L_at bc_L_at 7 (some .int) hh_L_at :: zt_tbl
def rm_L_at : Room := { frames := 8, cells := 4, slots := 24, locals := 136 }
theorem hd_L_at : mn_L_at.cls ≠ "java/lang/invoke/MethodHandle" ∧ mn_L_at.cls ≠ "java/lang/invoke/VarHandle" ∧ (parseMethodDescriptor mn_L_at.desc).map (fun d => d.parameters.length) = some 6 := by decide +kernel
theorem pn_L_at : plainName mn_L_at.cls = true := by decide +kernel
theorem gs_L_at : GoodIn zt_tbl (va_wsS cn_L 102 mn_L_at ws_L_at) := zt_SW ml_L_102 sm_L_at ini_L wk_L_at
abbrev hh_L_about : List (Nat × Nat × Nat × Nat) := [(0, 10, 13, 13), (0, 10, 17, 24)]
theorem wk_L_about : Cond.codeWith mn_L_about bc_L_about 5 (some .int) hh_L_about ∈ zt_tbl := zt_in (i := 405) (by decide +kernel) rfl
def ws_L_about : List Cond := Cond.codeWith mn_L_about bc_L_about 5 (some .int) hh_L_about :: zt_tbl
def rm_L_about : Room := { frames := 8, cells := 2, slots := 12, locals := 133 }
theorem hd_L_about : mn_L_about.cls ≠ "java/lang/invoke/MethodHandle" ∧ mn_L_about.cls ≠ "java/lang/invoke/VarHandle" ∧ (parseMethodDescriptor mn_L_about.desc).map (fun d => d.parameters.length) = some 4 := by decide +kernel
theorem pn_L_about : plainName mn_L_about.cls = true := by decide +kernel
theorem gs_L_about : GoodIn zt_tbl (va_wsS cn_L 105 mn_L_about ws_L_about) := zt_SW ml_L_105 sm_L_about ini_L wk_L_about
abbrev hh_L_contour : List (Nat × Nat × Nat × Nat) := [(0, 10, 13, 13)]
theorem wk_L_contour : Cond.codeWith mn_L_contour bc_L_contour 5 (some .int) hh_L_contour ∈ zt_tbl := zt_in (i := 412) (by decide +kernel) rfl
def ws_L_contour : List Cond := Cond.codeWith mn_L_contour bc_L_contour 5 (some .int) hh_L_contour :: zt_tbl
def rm_L_contour : Room := { frames := 8, cells := 1, slots := 6, locals := 134 }
theorem hd_L_contour : mn_L_contour.cls ≠ "java/lang/invoke/MethodHandle" ∧ mn_L_contour.cls ≠ "java/lang/invoke/VarHandle" ∧ (parseMethodDescriptor mn_L_contour.desc).map (fun d => d.parameters.length) = some 4 := by decide +kernel
theorem pn_L_contour : plainName mn_L_contour.cls = true := by decide +kernel
theorem gs_L_contour : GoodIn zt_tbl (va_wsS cn_L 109 mn_L_contour ws_L_contour) := zt_SW ml_L_109 sm_L_contour ini_L wk_L_contour
abbrev hh_L_ask : List (Nat × Nat × Nat × Nat) := [(0, 10, 13, 24), (0, 10, 17, 15)]
theorem wk_L_ask : Cond.codeWith mn_L_ask bc_L_ask 5 (some .int) hh_L_ask ∈ zt_tbl := zt_in (i := 430) (by decide +kernel) rfl
def ws_L_ask : List Cond := Cond.codeWith mn_L_ask bc_L_ask 5 (some .int) hh_L_ask :: zt_tbl
def rm_L_ask : Room := { frames := 8, cells := 2, slots := 12, locals := 132 }
theorem hd_L_ask : mn_L_ask.cls ≠ "java/lang/invoke/MethodHandle" ∧ mn_L_ask.cls ≠ "java/lang/invoke/VarHandle" ∧ (parseMethodDescriptor mn_L_ask.desc).map (fun d => d.parameters.length) = some 4 := by decide +kernel
theorem pn_L_ask : plainName mn_L_ask.cls = true := by decide +kernel
theorem gs_L_ask : GoodIn zt_tbl (va_wsS cn_L 112 mn_L_ask ws_L_ask) := zt_SW ml_L_112 sm_L_ask ini_L wk_L_ask
abbrev hh_L_search : List (Nat × Nat × Nat × Nat) := [(0, 10, 13, 24), (0, 10, 17, 15)]
theorem wk_L_search : Cond.codeWith mn_L_search bc_L_search 5 (some .int) hh_L_search ∈ zt_tbl := zt_in (i := 437) (by decide +kernel) rfl
def ws_L_search : List Cond := Cond.codeWith mn_L_search bc_L_search 5 (some .int) hh_L_search :: zt_tbl
def rm_L_search : Room := { frames := 8, cells := 1, slots := 6, locals := 187 }
theorem hd_L_search : mn_L_search.cls ≠ "java/lang/invoke/MethodHandle" ∧ mn_L_search.cls ≠ "java/lang/invoke/VarHandle" ∧ (parseMethodDescriptor mn_L_search.desc).map (fun d => d.parameters.length) = some 4 := by decide +kernel
theorem pn_L_search : plainName mn_L_search.cls = true := by decide +kernel
theorem gs_L_search : GoodIn zt_tbl (va_wsS cn_L 119 mn_L_search ws_L_search) := zt_SW ml_L_119 sm_L_search ini_L wk_L_search
abbrev hh_L_match : List (Nat × Nat × Nat × Nat) := [(0, 10, 13, 13), (0, 10, 17, 24)]
theorem wk_L_match : Cond.codeWith mn_L_match bc_L_match 5 (some .int) hh_L_match ∈ zt_tbl := zt_in (i := 534) (by decide +kernel) rfl
def ws_L_match : List Cond := Cond.codeWith mn_L_match bc_L_match 5 (some .int) hh_L_match :: zt_tbl
def rm_L_match : Room := { frames := 7, cells := 1, slots := 6, locals := 112 }
theorem hd_L_match : mn_L_match.cls ≠ "java/lang/invoke/MethodHandle" ∧ mn_L_match.cls ≠ "java/lang/invoke/VarHandle" ∧ (parseMethodDescriptor mn_L_match.desc).map (fun d => d.parameters.length) = some 4 := by decide +kernel
theorem pn_L_match : plainName mn_L_match.cls = true := by decide +kernel
theorem gs_L_match : GoodIn zt_tbl (va_wsS cn_L 122 mn_L_match ws_L_match) := zt_SW ml_L_122 sm_L_match ini_L wk_L_match
abbrev hh_L_repeats : List (Nat × Nat × Nat × Nat) := [(0, 10, 13, 13), (0, 10, 17, 24)]
theorem wk_L_repeats : Cond.codeWith mn_L_repeats bc_L_repeats 5 (some .int) hh_L_repeats ∈ zt_tbl := zt_in (i := 552) (by decide +kernel) rfl
def ws_L_repeats : List Cond := Cond.codeWith mn_L_repeats bc_L_repeats 5 (some .int) hh_L_repeats :: zt_tbl
def rm_L_repeats : Room := { frames := 8, cells := 2, slots := 12, locals := 133 }
theorem hd_L_repeats : mn_L_repeats.cls ≠ "java/lang/invoke/MethodHandle" ∧ mn_L_repeats.cls ≠ "java/lang/invoke/VarHandle" ∧ (parseMethodDescriptor mn_L_repeats.desc).map (fun d => d.parameters.length) = some 4 := by decide +kernel
theorem pn_L_repeats : plainName mn_L_repeats.cls = true := by decide +kernel
theorem gs_L_repeats : GoodIn zt_tbl (va_wsS cn_L 125 mn_L_repeats ws_L_repeats) := zt_SW ml_L_125 sm_L_repeats ini_L wk_L_repeats
abbrev hh_L_repeat : List (Nat × Nat × Nat × Nat) := [(0, 14, 17, 13), (0, 14, 21, 24)]
theorem wk_L_repeat : Cond.codeWith mn_L_repeat bc_L_repeat 7 (some .int) hh_L_repeat ∈ zt_tbl := zt_in (i := 577) (by decide +kernel) rfl
def ws_L_repeat : List Cond := Cond.codeWith mn_L_repeat bc_L_repeat 7 (some .int) hh_L_repeat :: zt_tbl
def rm_L_repeat : Room := { frames := 8, cells := 3, slots := 18, locals := 135 }
theorem hd_L_repeat : mn_L_repeat.cls ≠ "java/lang/invoke/MethodHandle" ∧ mn_L_repeat.cls ≠ "java/lang/invoke/VarHandle" ∧ (parseMethodDescriptor mn_L_repeat.desc).map (fun d => d.parameters.length) = some 6 := by decide +kernel
theorem pn_L_repeat : plainName mn_L_repeat.cls = true := by decide +kernel
theorem gs_L_repeat : GoodIn zt_tbl (va_wsS cn_L 128 mn_L_repeat ws_L_repeat) := zt_SW ml_L_128 sm_L_repeat ini_L wk_L_repeat
abbrev hh_L_canon : List (Nat × Nat × Nat × Nat) := [(0, 12, 15, 13), (0, 12, 19, 24)]
theorem wk_L_canon : Cond.codeWith mn_L_canon bc_L_canon 6 (some .int) hh_L_canon ∈ zt_tbl := zt_in (i := 584) (by decide +kernel) rfl
def ws_L_canon : List Cond := Cond.codeWith mn_L_canon bc_L_canon 6 (some .int) hh_L_canon :: zt_tbl
def rm_L_canon : Room := { frames := 8, cells := 3, slots := 18, locals := 136 }
theorem hd_L_canon : mn_L_canon.cls ≠ "java/lang/invoke/MethodHandle" ∧ mn_L_canon.cls ≠ "java/lang/invoke/VarHandle" ∧ (parseMethodDescriptor mn_L_canon.desc).map (fun d => d.parameters.length) = some 5 := by decide +kernel
theorem pn_L_canon : plainName mn_L_canon.cls = true := by decide +kernel
theorem gs_L_canon : GoodIn zt_tbl (va_wsS cn_L 131 mn_L_canon ws_L_canon) := zt_SW ml_L_131 sm_L_canon ini_L wk_L_canon
abbrev hh_L_opening : List (Nat × Nat × Nat × Nat) := [(0, 10, 13, 13)]
theorem wk_L_opening : Cond.codeWith mn_L_opening bc_L_opening 5 (some .int) hh_L_opening ∈ zt_tbl := zt_in (i := 594) (by decide +kernel) rfl
def ws_L_opening : List Cond := Cond.codeWith mn_L_opening bc_L_opening 5 (some .int) hh_L_opening :: zt_tbl
def rm_L_opening : Room := { frames := 8, cells := 1, slots := 6, locals := 136 }
theorem hd_L_opening : mn_L_opening.cls ≠ "java/lang/invoke/MethodHandle" ∧ mn_L_opening.cls ≠ "java/lang/invoke/VarHandle" ∧ (parseMethodDescriptor mn_L_opening.desc).map (fun d => d.parameters.length) = some 4 := by decide +kernel
theorem pn_L_opening : plainName mn_L_opening.cls = true := by decide +kernel
theorem gs_L_opening : GoodIn zt_tbl (va_wsS cn_L 134 mn_L_opening ws_L_opening) := zt_SW ml_L_134 sm_L_opening ini_L wk_L_opening
theorem gv_L_78 : GoodIn zt_tbl (wsV cn_L 78 cn_M mn_M_tune ws_M_tune) := zt_V ml_L_78 im_M_tune se_M_tune ini_M wk_M_tune
theorem gv_L_79 : GoodIn zt_tbl (wsV cn_L 79 cn_M mn_M_thrown ws_M_thrown) := zt_V ml_L_79 im_M_thrown se_M_thrown ini_M wk_M_thrown
theorem gv_L_85 : GoodIn zt_tbl (wsV cn_L 85 cn_M mn_M_drop ws_M_drop) := zt_V ml_L_85 im_M_drop se_M_drop ini_M wk_M_drop
theorem gv_L_89 : GoodIn zt_tbl (wsV cn_L 89 cn_M mn_M_note ws_M_note) := zt_V ml_L_89 im_M_note se_M_note ini_M wk_M_note
theorem gv_L_93 : GoodIn zt_tbl (wsV cn_L 93 cn_M mn_M_show ws_M_show) := zt_V ml_L_93 im_M_show se_M_show ini_M wk_M_show
theorem gv_L_97 : GoodIn zt_tbl (wsV cn_L 97 cn_M mn_M_correct ws_M_correct) := zt_V ml_L_97 im_M_correct se_M_correct ini_M wk_M_correct
theorem gv_L_101 : GoodIn zt_tbl (wsV cn_L 101 cn_M mn_M_restore ws_M_restore) := zt_V ml_L_101 im_M_restore se_M_restore ini_M wk_M_restore
theorem gv_L_104 : GoodIn zt_tbl (wsV cn_L 104 cn_M mn_M_at ws_M_at) := zt_V ml_L_104 im_M_at se_M_at ini_M wk_M_at
theorem gv_L_108 : GoodIn zt_tbl (wsV cn_L 108 cn_M mn_M_about ws_M_about) := zt_V ml_L_108 im_M_about se_M_about ini_M wk_M_about
theorem gv_L_111 : GoodIn zt_tbl (wsV cn_L 111 cn_M mn_M_contour ws_M_contour) := zt_V ml_L_111 im_M_contour se_M_contour ini_M wk_M_contour
theorem gv_L_114 : GoodIn zt_tbl (wsV cn_L 114 cn_M mn_M_ask ws_M_ask) := zt_V ml_L_114 im_M_ask se_M_ask ini_M wk_M_ask
theorem gv_L_115 : GoodIn zt_tbl (wsV cn_L 115 cn_T mn_T_forget ws_T_forget) := zt_V ml_L_115 im_T_forget se_T_forget ini_T wk_T_forget
theorem gv_L_118 : GoodIn zt_tbl (wsV cn_L 118 cn_M mn_M_forget ws_M_forget) := zt_V ml_L_118 im_M_forget se_M_forget ini_M wk_M_forget
theorem gv_L_121 : GoodIn zt_tbl (wsV cn_L 121 cn_M mn_M_search ws_M_search) := zt_V ml_L_121 im_M_search se_M_search ini_M wk_M_search
theorem gv_L_124 : GoodIn zt_tbl (wsV cn_L 124 cn_M mn_M_match ws_M_match) := zt_V ml_L_124 im_M_match se_M_match ini_M wk_M_match
theorem gv_L_127 : GoodIn zt_tbl (wsV cn_L 127 cn_M mn_M_repeats ws_M_repeats) := zt_V ml_L_127 im_M_repeats se_M_repeats ini_M wk_M_repeats
theorem gv_L_130 : GoodIn zt_tbl (wsV cn_L 130 cn_M mn_M_repeat ws_M_repeat) := zt_V ml_L_130 im_M_repeat se_M_repeat ini_M wk_M_repeat
theorem gv_L_133 : GoodIn zt_tbl (wsV cn_L 133 cn_M mn_M_canon ws_M_canon) := zt_V ml_L_133 im_M_canon se_M_canon ini_M wk_M_canon
theorem gv_L_136 : GoodIn zt_tbl (wsV cn_L 136 cn_M mn_M_opening ws_M_opening) := zt_V ml_L_136 im_M_opening se_M_opening ini_M wk_M_opening
end ZLW
