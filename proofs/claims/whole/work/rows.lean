section
-- ===== PART A: goes FIRST, ahead of the names: the tables' words, and 'selects' of the private methods out of them =====
/-- a private method of a class that the tables say can be made, by its rows of tables_1 -/
def lw_okq (q : MethodName × Nat) : Prop := (q.1.cls ≠ "java/lang/invoke/MethodHandle" ∧ q.1.cls ≠ "java/lang/invoke/VarHandle") ∧ Cond.instantiable q.1.cls q.2 ∈ tables_1 ∧ Cond.privateMethod q.1 ∈ tables_1 ∧ Cond.instanceMethod q.1 ∈ tables_1
theorem lw_p0 : lw_okq (⟨"java/lang/Throwable", "fillInStackTrace", "(I)Ljava/lang/Throwable;"⟩, 6) := ⟨⟨by decide +kernel, by decide +kernel⟩, List.mem_of_getElem? (i := 250) (by decide +kernel), List.mem_of_getElem? (i := 248) (by decide +kernel), List.mem_of_getElem? (i := 249) (by decide +kernel)⟩
theorem lw_p1 : lw_okq (⟨"TuneFinder", "existing", "(I)LTuneFinder$Tune;"⟩, 6) := ⟨⟨by decide +kernel, by decide +kernel⟩, List.mem_of_getElem? (i := 18) (by decide +kernel), List.mem_of_getElem? (i := 302) (by decide +kernel), List.mem_of_getElem? (i := 303) (by decide +kernel)⟩
theorem lw_p2 : lw_okq (⟨"TuneFinder$Tune", "replacedAfter", "(II)I"⟩, 6) := ⟨⟨by decide +kernel, by decide +kernel⟩, List.mem_of_getElem? (i := 27) (by decide +kernel), List.mem_of_getElem? (i := 391) (by decide +kernel), List.mem_of_getElem? (i := 392) (by decide +kernel)⟩
theorem lw_p3 : lw_okq (⟨"TuneFinder", "searchTune", "(III)V"⟩, 6) := ⟨⟨by decide +kernel, by decide +kernel⟩, List.mem_of_getElem? (i := 18) (by decide +kernel), List.mem_of_getElem? (i := 447) (by decide +kernel), List.mem_of_getElem? (i := 448) (by decide +kernel)⟩
theorem lw_p4 : lw_okq (⟨"TuneFinder", "searchOutline", "(II)V"⟩, 6) := ⟨⟨by decide +kernel, by decide +kernel⟩, List.mem_of_getElem? (i := 18) (by decide +kernel), List.mem_of_getElem? (i := 451) (by decide +kernel), List.mem_of_getElem? (i := 452) (by decide +kernel)⟩
theorem lw_p5 : lw_okq (⟨"TuneFinder", "outlineEnds", "(LTuneFinder$Notes;II)I"⟩, 6) := ⟨⟨by decide +kernel, by decide +kernel⟩, List.mem_of_getElem? (i := 18) (by decide +kernel), List.mem_of_getElem? (i := 455) (by decide +kernel), List.mem_of_getElem? (i := 456) (by decide +kernel)⟩
theorem lw_p6 : lw_okq (⟨"TuneFinder", "offer", "(IIII)V"⟩, 6) := ⟨⟨by decide +kernel, by decide +kernel⟩, List.mem_of_getElem? (i := 18) (by decide +kernel), List.mem_of_getElem? (i := 463) (by decide +kernel), List.mem_of_getElem? (i := 464) (by decide +kernel)⟩
theorem lw_p7 : lw_okq (⟨"TuneFinder$Found", "rankOf", "(II)I"⟩, 4) := ⟨⟨by decide +kernel, by decide +kernel⟩, List.mem_of_getElem? (i := 82) (by decide +kernel), List.mem_of_getElem? (i := 471) (by decide +kernel), List.mem_of_getElem? (i := 472) (by decide +kernel)⟩
theorem lw_p8 : lw_okq (⟨"TuneFinder$Found", "makeRoom", "(I)LTuneFinder$Passage;"⟩, 4) := ⟨⟨by decide +kernel, by decide +kernel⟩, List.mem_of_getElem? (i := 82) (by decide +kernel), List.mem_of_getElem? (i := 475) (by decide +kernel), List.mem_of_getElem? (i := 476) (by decide +kernel)⟩
theorem lw_p9 : lw_okq (⟨"TuneFinder", "searchNear", "(II)V"⟩, 6) := ⟨⟨by decide +kernel, by decide +kernel⟩, List.mem_of_getElem? (i := 18) (by decide +kernel), List.mem_of_getElem? (i := 482) (by decide +kernel), List.mem_of_getElem? (i := 483) (by decide +kernel)⟩
theorem lw_p10 : lw_okq (⟨"TuneFinder$Near", "measure", "(LTuneFinder$Notes;LTuneFinder$Notes;I)V"⟩, 5) := ⟨⟨by decide +kernel, by decide +kernel⟩, List.mem_of_getElem? (i := 131) (by decide +kernel), List.mem_of_getElem? (i := 490) (by decide +kernel), List.mem_of_getElem? (i := 491) (by decide +kernel)⟩
theorem lw_p11 : lw_okq (⟨"TuneFinder$Near", "takeIn", "(LTuneFinder$Notes;I)V"⟩, 5) := ⟨⟨by decide +kernel, by decide +kernel⟩, List.mem_of_getElem? (i := 131) (by decide +kernel), List.mem_of_getElem? (i := 496) (by decide +kernel), List.mem_of_getElem? (i := 497) (by decide +kernel)⟩
theorem lw_p12 : lw_okq (⟨"TuneFinder", "searchNoteByNote", "(II)V"⟩, 6) := ⟨⟨by decide +kernel, by decide +kernel⟩, List.mem_of_getElem? (i := 18) (by decide +kernel), List.mem_of_getElem? (i := 513) (by decide +kernel), List.mem_of_getElem? (i := 514) (by decide +kernel)⟩
theorem lw_p13 : lw_okq (⟨"TuneFinder", "fits", "(ILTuneFinder$Notes;I)Z"⟩, 6) := ⟨⟨by decide +kernel, by decide +kernel⟩, List.mem_of_getElem? (i := 18) (by decide +kernel), List.mem_of_getElem? (i := 517) (by decide +kernel), List.mem_of_getElem? (i := 518) (by decide +kernel)⟩
theorem lw_p14 : lw_okq (⟨"TuneFinder$Repeats", "compare", "(LTuneFinder$Notes;I)V"⟩, 4) := ⟨⟨by decide +kernel, by decide +kernel⟩, List.mem_of_getElem? (i := 154) (by decide +kernel), List.mem_of_getElem? (i := 566) (by decide +kernel), List.mem_of_getElem? (i := 567) (by decide +kernel)⟩
theorem lw_p15 : lw_okq (⟨"TuneFinder$Repeats", "placesOfRepeat", "(LTuneFinder$Notes;II)I"⟩, 4) := ⟨⟨by decide +kernel, by decide +kernel⟩, List.mem_of_getElem? (i := 154) (by decide +kernel), List.mem_of_getElem? (i := 572) (by decide +kernel), List.mem_of_getElem? (i := 573) (by decide +kernel)⟩
def lw_privs_1 : List (MethodName × Nat) := [(⟨"java/lang/Throwable", "fillInStackTrace", "(I)Ljava/lang/Throwable;"⟩, 6), (⟨"TuneFinder", "existing", "(I)LTuneFinder$Tune;"⟩, 6), (⟨"TuneFinder$Tune", "replacedAfter", "(II)I"⟩, 6), (⟨"TuneFinder", "searchTune", "(III)V"⟩, 6), (⟨"TuneFinder", "searchOutline", "(II)V"⟩, 6), (⟨"TuneFinder", "outlineEnds", "(LTuneFinder$Notes;II)I"⟩, 6), (⟨"TuneFinder", "offer", "(IIII)V"⟩, 6), (⟨"TuneFinder$Found", "rankOf", "(II)I"⟩, 4), (⟨"TuneFinder$Found", "makeRoom", "(I)LTuneFinder$Passage;"⟩, 4), (⟨"TuneFinder", "searchNear", "(II)V"⟩, 6), (⟨"TuneFinder$Near", "measure", "(LTuneFinder$Notes;LTuneFinder$Notes;I)V"⟩, 5), (⟨"TuneFinder$Near", "takeIn", "(LTuneFinder$Notes;I)V"⟩, 5), (⟨"TuneFinder", "searchNoteByNote", "(II)V"⟩, 6), (⟨"TuneFinder", "fits", "(ILTuneFinder$Notes;I)Z"⟩, 6), (⟨"TuneFinder$Repeats", "compare", "(LTuneFinder$Notes;I)V"⟩, 4), (⟨"TuneFinder$Repeats", "placesOfRepeat", "(LTuneFinder$Notes;II)I"⟩, 4)]
theorem lw_r1 : ∀ q ∈ lw_privs_1, lw_okq q := List.forall_mem_cons.mpr ⟨lw_p0, List.forall_mem_cons.mpr ⟨lw_p1, List.forall_mem_cons.mpr ⟨lw_p2, List.forall_mem_cons.mpr ⟨lw_p3, List.forall_mem_cons.mpr ⟨lw_p4, List.forall_mem_cons.mpr ⟨lw_p5, List.forall_mem_cons.mpr ⟨lw_p6, List.forall_mem_cons.mpr ⟨lw_p7, List.forall_mem_cons.mpr ⟨lw_p8, List.forall_mem_cons.mpr ⟨lw_p9, List.forall_mem_cons.mpr ⟨lw_p10, List.forall_mem_cons.mpr ⟨lw_p11, List.forall_mem_cons.mpr ⟨lw_p12, List.forall_mem_cons.mpr ⟨lw_p13, List.forall_mem_cons.mpr ⟨lw_p14, List.forall_mem_cons.mpr ⟨lw_p15, fun _ h => absurd h List.not_mem_nil⟩⟩⟩⟩⟩⟩⟩⟩⟩⟩⟩⟩⟩⟩⟩⟩
theorem lw_p16 : lw_okq (⟨"TuneFinderModel", "noTune", "(I)Z"⟩, 21) := ⟨⟨by decide +kernel, by decide +kernel⟩, List.mem_of_getElem? (i := 604) (by decide +kernel), List.mem_of_getElem? (i := 687) (by decide +kernel), List.mem_of_getElem? (i := 688) (by decide +kernel)⟩
theorem lw_p17 : lw_okq (⟨"TuneFinderModel", "spot", "(III)I"⟩, 21) := ⟨⟨by decide +kernel, by decide +kernel⟩, List.mem_of_getElem? (i := 604) (by decide +kernel), List.mem_of_getElem? (i := 698) (by decide +kernel), List.mem_of_getElem? (i := 699) (by decide +kernel)⟩
theorem lw_p18 : lw_okq (⟨"TuneFinderModel", "step", "(II)I"⟩, 21) := ⟨⟨by decide +kernel, by decide +kernel⟩, List.mem_of_getElem? (i := 604) (by decide +kernel), List.mem_of_getElem? (i := 726) (by decide +kernel), List.mem_of_getElem? (i := 727) (by decide +kernel)⟩
theorem lw_p19 : lw_okq (⟨"TuneFinderModel", "pitch", "(II)I"⟩, 21) := ⟨⟨by decide +kernel, by decide +kernel⟩, List.mem_of_getElem? (i := 604) (by decide +kernel), List.mem_of_getElem? (i := 730) (by decide +kernel), List.mem_of_getElem? (i := 731) (by decide +kernel)⟩
theorem lw_p20 : lw_okq (⟨"TuneFinderModel", "part", "(IIIII)I"⟩, 21) := ⟨⟨by decide +kernel, by decide +kernel⟩, List.mem_of_getElem? (i := 604) (by decide +kernel), List.mem_of_getElem? (i := 749) (by decide +kernel), List.mem_of_getElem? (i := 750) (by decide +kernel)⟩
theorem lw_p21 : lw_okq (⟨"TuneFinderModel", "plain", "(III)Z"⟩, 21) := ⟨⟨by decide +kernel, by decide +kernel⟩, List.mem_of_getElem? (i := 604) (by decide +kernel), List.mem_of_getElem? (i := 753) (by decide +kernel), List.mem_of_getElem? (i := 754) (by decide +kernel)⟩
theorem lw_p22 : lw_okq (⟨"TuneFinderModel", "askedStep", "(I)I"⟩, 21) := ⟨⟨by decide +kernel, by decide +kernel⟩, List.mem_of_getElem? (i := 604) (by decide +kernel), List.mem_of_getElem? (i := 757) (by decide +kernel), List.mem_of_getElem? (i := 758) (by decide +kernel)⟩
theorem lw_p23 : lw_okq (⟨"TuneFinderModel", "lengthOf", "(II)I"⟩, 21) := ⟨⟨by decide +kernel, by decide +kernel⟩, List.mem_of_getElem? (i := 604) (by decide +kernel), List.mem_of_getElem? (i := 761) (by decide +kernel), List.mem_of_getElem? (i := 762) (by decide +kernel)⟩
theorem lw_p24 : lw_okq (⟨"TuneFinderModel", "outlines", "(IIII)Z"⟩, 21) := ⟨⟨by decide +kernel, by decide +kernel⟩, List.mem_of_getElem? (i := 604) (by decide +kernel), List.mem_of_getElem? (i := 765) (by decide +kernel), List.mem_of_getElem? (i := 766) (by decide +kernel)⟩
theorem lw_p25 : lw_okq (⟨"TuneFinderModel", "near", "(IIII)Z"⟩, 21) := ⟨⟨by decide +kernel, by decide +kernel⟩, List.mem_of_getElem? (i := 604) (by decide +kernel), List.mem_of_getElem? (i := 769) (by decide +kernel), List.mem_of_getElem? (i := 770) (by decide +kernel)⟩
theorem lw_p26 : lw_okq (⟨"TuneFinderModel", "distance", "(III)I"⟩, 21) := ⟨⟨by decide +kernel, by decide +kernel⟩, List.mem_of_getElem? (i := 604) (by decide +kernel), List.mem_of_getElem? (i := 773) (by decide +kernel), List.mem_of_getElem? (i := 774) (by decide +kernel)⟩
theorem lw_p27 : lw_okq (⟨"TuneFinderModel", "leads", "(II)Z"⟩, 21) := ⟨⟨by decide +kernel, by decide +kernel⟩, List.mem_of_getElem? (i := 604) (by decide +kernel), List.mem_of_getElem? (i := 777) (by decide +kernel), List.mem_of_getElem? (i := 778) (by decide +kernel)⟩
theorem lw_p28 : lw_okq (⟨"TuneFinderModel", "places", "(III)I"⟩, 21) := ⟨⟨by decide +kernel, by decide +kernel⟩, List.mem_of_getElem? (i := 604) (by decide +kernel), List.mem_of_getElem? (i := 792) (by decide +kernel), List.mem_of_getElem? (i := 793) (by decide +kernel)⟩
theorem lw_p29 : lw_okq (⟨"TuneFinderModel", "sameSteps", "(IIII)Z"⟩, 21) := ⟨⟨by decide +kernel, by decide +kernel⟩, List.mem_of_getElem? (i := 604) (by decide +kernel), List.mem_of_getElem? (i := 796) (by decide +kernel), List.mem_of_getElem? (i := 797) (by decide +kernel)⟩
theorem lw_p30 : lw_okq (⟨"TuneFinderModel", "hasStep", "(II)Z"⟩, 21) := ⟨⟨by decide +kernel, by decide +kernel⟩, List.mem_of_getElem? (i := 604) (by decide +kernel), List.mem_of_getElem? (i := 800) (by decide +kernel), List.mem_of_getElem? (i := 801) (by decide +kernel)⟩
theorem lw_p31 : lw_okq (⟨"TuneFinderModel", "sharing", "(II)I"⟩, 21) := ⟨⟨by decide +kernel, by decide +kernel⟩, List.mem_of_getElem? (i := 604) (by decide +kernel), List.mem_of_getElem? (i := 816) (by decide +kernel), List.mem_of_getElem? (i := 817) (by decide +kernel)⟩
def lw_privs_2 : List (MethodName × Nat) := [(⟨"TuneFinderModel", "noTune", "(I)Z"⟩, 21), (⟨"TuneFinderModel", "spot", "(III)I"⟩, 21), (⟨"TuneFinderModel", "step", "(II)I"⟩, 21), (⟨"TuneFinderModel", "pitch", "(II)I"⟩, 21), (⟨"TuneFinderModel", "part", "(IIIII)I"⟩, 21), (⟨"TuneFinderModel", "plain", "(III)Z"⟩, 21), (⟨"TuneFinderModel", "askedStep", "(I)I"⟩, 21), (⟨"TuneFinderModel", "lengthOf", "(II)I"⟩, 21), (⟨"TuneFinderModel", "outlines", "(IIII)Z"⟩, 21), (⟨"TuneFinderModel", "near", "(IIII)Z"⟩, 21), (⟨"TuneFinderModel", "distance", "(III)I"⟩, 21), (⟨"TuneFinderModel", "leads", "(II)Z"⟩, 21), (⟨"TuneFinderModel", "places", "(III)I"⟩, 21), (⟨"TuneFinderModel", "sameSteps", "(IIII)Z"⟩, 21), (⟨"TuneFinderModel", "hasStep", "(II)Z"⟩, 21), (⟨"TuneFinderModel", "sharing", "(II)I"⟩, 21)]
theorem lw_r2 : ∀ q ∈ lw_privs_2, lw_okq q := List.forall_mem_cons.mpr ⟨lw_p16, List.forall_mem_cons.mpr ⟨lw_p17, List.forall_mem_cons.mpr ⟨lw_p18, List.forall_mem_cons.mpr ⟨lw_p19, List.forall_mem_cons.mpr ⟨lw_p20, List.forall_mem_cons.mpr ⟨lw_p21, List.forall_mem_cons.mpr ⟨lw_p22, List.forall_mem_cons.mpr ⟨lw_p23, List.forall_mem_cons.mpr ⟨lw_p24, List.forall_mem_cons.mpr ⟨lw_p25, List.forall_mem_cons.mpr ⟨lw_p26, List.forall_mem_cons.mpr ⟨lw_p27, List.forall_mem_cons.mpr ⟨lw_p28, List.forall_mem_cons.mpr ⟨lw_p29, List.forall_mem_cons.mpr ⟨lw_p30, List.forall_mem_cons.mpr ⟨lw_p31, fun _ h => absurd h List.not_mem_nil⟩⟩⟩⟩⟩⟩⟩⟩⟩⟩⟩⟩⟩⟩⟩⟩
def lw_privs : List (MethodName × Nat) := lw_privs_1 ++ (lw_privs_2)
def lw_tbl : List Cond := k2_sels lw_privs ++ tables_1
theorem lw_privs_ok : ∀ q ∈ lw_privs, lw_okq q := by
  show ∀ q ∈ lw_privs_1 ++ (lw_privs_2), lw_okq q
  exact List.forall_mem_append.mpr ⟨lw_r1, lw_r2⟩
end
section
/-! ===== BEGIN words of one list among another's, by their places ===== -/
theorem goodIn_r {big : List Cond} (ws : List Cond) (ps : List Nat) (hp : ws = ps.filterMap (fun i => big[i]?)) (h : ws.all goodWord = true) : GoodIn big ws := by
  intro w hw
  have h1 := List.all_eq_true.mp h w hw
  rw [hp] at hw
  obtain ⟨i, -, hi⟩ := List.mem_filterMap.mp hw
  have hm : w ∈ big := by first | exact List.mem_of_getElem? hi | exact List.getElem?_mem hi
  exact ⟨hm, good_of_word h1⟩
theorem goodIn_app {big a b : List Cond} (ha : GoodIn big a) (hb : GoodIn big b) : GoodIn big (a ++ b) := fun w h => (List.mem_append.mp h).elim (ha w) (hb w)
theorem goodIn_ca {big a b : List Cond} {c : Cond} (ha : GoodIn big (c :: a)) (hb : GoodIn big b) : GoodIn big (c :: (a ++ b)) := fun w h => (List.mem_cons.mp h).elim (fun e => ha w (List.mem_cons.mpr (Or.inl e))) (fun h => (List.mem_append.mp h).elim (fun h => ha w (List.mem_cons.mpr (Or.inr h))) (hb w))
theorem goodIn_sub {big ws : List Cond} (hm : ∀ w ∈ ws, w ∈ big) (h : ws.all goodWord = true) : GoodIn big ws := fun w hw => ⟨hm w hw, good_of_word (List.all_eq_true.mp h w hw)⟩
/-! ===== END ===== -/

/-! ===== BEGIN exceptions that leave a method, and their catching by the caller (launches without stack traces) ===== -/
section VXA
/-! The laws vx_back, vx_callV, vx_callS, vx_callSW, vx_throw0, vx_throwS follow proofs of the library, with one case more: JvmDerived/Free/Laws.lean (Back.of_free), Shelf42/LK1.lean (callV, callS), Shelf/KitTraced.lean (throwNew0V, throwNewS). -/
/-- where a method has thrown q: the class by its name, the cell, what was written, the world -/
def vx_T (XC : String → State → State → Prop) (st : State) (q : Addr) (t : State) (mc ms : Nat) (free : Addr → Prop) : Prop :=
  ∃ (E : String) (ce : Cell) (L : List Loc), XC E st t ∧ t.heap[q]? = some ce ∧ ce.vm = .none ∧ st.vm.findClass E = some ce.cls ∧ st.WarmedH t.vm ∧ st.sameButNew ({ t with vm := st.vm } : State) L mc ms ∧ ∀ z ∈ L, free z.base
def vx_Q (Qc : Array Value → State → Outcome → State → Prop) (XC : String → State → State → Prop) (mc ms : Nat) (free : Addr → Prop) : Array Value → State → Outcome → State → Prop := fun a st o t =>
  (Qc a st o t ∧ ∃ L, FrameEnd st o t L mc ms ∧ ∀ q ∈ L, free q.base) ∨ ∃ q, o = .threw q ∧ vx_T XC st q t mc ms free
/-- a callee that returns or throws -/
def vx_Met (l : Launch) (y : MethodName) (ws : List Cond) (rm : Room) (Pc : Array Value → State → Prop) (Qc : Array Value → State → Outcome → State → Prop) (XC : String → State → State → Prop) (mc ms : Nat) (free : Addr → Prop) : Prop :=
  MetFree l y (headSpec ws rm) Pc (fun _ _ _ _ _ => True) (vx_Q Qc XC mc ms free)
def vx_Post (XC : String → State → State → Prop) (mc ms : Nat) (free : Addr → Prop) : Pt → Array Value → Addr → Pt → Prop := fun A a q B =>
  ∃ (g : JFrame) (mk : MethodId) (t : State) (L : List Loc) (E : String) (ce : Cell), B.U.heap = t.heap ∧ B.U.vm = t.vm ∧ XC E (A.U.calling g mk a) t ∧ t.heap[q]? = some ce ∧ ce.vm = .none ∧ A.U.vm.findClass E = some ce.cls ∧ B.locs = A.locs ++ L ∧ (∀ z ∈ L, free z.base) ∧ B.cells = A.cells + mc ∧ B.slots = A.slots + ms
def vx_Back (l : Launch) (R : Room) (p : Program) (e : Env) (below : List Frame) (s : State) (sargs : Array Value) (y : MethodName) (len W9 : Nat)
    (Pre : Pt → Array Value → Prop) (Post : Pt → Array Value → Option Value → Pt → Prop) (PostX : Pt → Array Value → Addr → Pt → Prop) : Prop :=
  ∀ (m : MethodId) (meth : Method) (c : Code) (A : Pt) (g : JFrame) (ig : Instr) (mk : MethodId) (a : Array Value),
    Stand p l e R s m sargs below meth c A.U A.locs A.cells A.slots → g.method = m → g.locals.size = c.maxLocals → decode c.code g.pc = .ok (ig, len) →
    2 * g.monitorRoom + (g.stack.map fun v => v.category).sum ≤ W9 → A.U.methodNamed? y = some mk → Pre A a →
    (∃ (v : Option Value) (B : Pt), Stand p l e R s m sargs below meth c B.U B.locs B.cells B.slots ∧ Post A a v B ∧
      Steps p.tables e below (doInvoke e (A.U.setTop g) [] mk a).1 (B.U.setTop { g with pc := g.pc + len, stack := v.toList ++ g.stack })) ∨
    (∃ (q : Addr) (B : Pt), Stand p l e R s m sargs below meth c B.U B.locs B.cells B.slots ∧ PostX A a q B ∧
      Steps p.tables e below (doInvoke e (A.U.setTop g) [] mk a).1 ((B.U.setTop g).pushFrame (.throwing q)))
section Payer
variable {l : Launch} {R : Room} {p : Program} {e : Env} {below : List Frame} {s : State} {sargs : Array Value} {y : MethodName} {len W9 : Nat}
theorem vx_back {ws : List Cond} {rm : Room} {Pc : Array Value → State → Prop} {Qc : Array Value → State → Outcome → State → Prop} {XC : String → State → State → Prop} {mc ms : Nat} {free : Addr → Prop} {bytes : ByteArray} {maxL : Nat} {ret : Option FieldType}
    (hM : vx_Met l y ws rm Pc Qc XC mc ms free) (hblind : FrameBlind Pc) (hrc : rm.cells = mc) (hrs : rm.slots = ms)
    (hframes : rm.frames + 1 ≤ R.frames) (hlocals : W9 + (maxL + 11) + rm.locals ≤ R.locals)
    (hws : ∀ w ∈ ws, ∀ a' U, s.WarmedH U.vm → w.before a' U = true) (hcode : Cond.code y bytes maxL ret ∈ ws) (hinit : ∀ a' U, s.WarmedH U.vm → (Cond.initialized y.cls).before a' U = true) :
    vx_Back l R p e below s sargs y len W9 (PreOf R mc ms Pc) (PostOf Qc mc ms free) (vx_Post XC mc ms free) := by
  intro m meth c A g ig mk a X hg hsize hdg hW hn hp
  have h1 : (headSpec ws rm).pre.before a A.U = true := atoms_intro fun w hw => hws w hw _ _ X.warmed
  have h2 : (Cond.code y bytes maxL ret).before a A.U = true := hws _ hcode _ _ X.warmed
  have h3 : (Cond.initialized y.cls).before a A.U = true := hinit _ _ X.warmed
  have h4 : A.cells + (headSpec ws rm).room.cells ≤ R.cells := by rw [show (headSpec ws rm).room.cells = mc from hrc]; exact hp.1
  have h5 : A.slots + (headSpec ws rm).room.slots ≤ R.slots := by rw [show (headSpec ws rm).room.slots = ms from hrs]; exact hp.2.1
  have hPc : Pc a (A.U.calling g mk a) := hblind _ _ _ _ hp.2.2
  obtain ⟨U, Ls, c0, s0⟩ := A
  dsimp only [Pt.U, Pt.locs, Pt.cells, Pt.slots] at h1 h2 h3 h4 h5 X hn hPc ⊢
  obtain ⟨methY, cY, hmY, hcY, -, hlY, -, -, -, -⟩ := Cond.code_spec hn h2
  obtain ⟨kY, hkY, -⟩ := className_of_methodNamed hn
  have hinitY : kY.init = .initialized := Cond.initialized_spec (findClass_of_methodNamed hn) hkY h3
  have h : At U g.method c below := by rw [hg]; exact X.here
  have hlocals9 : W9 + (maxL + 11) + (headSpec ws rm).room.locals ≤ R.locals := hlocals
  have happ : (headSpec ws rm).appliesLoose y e.platform (U.calling g mk a) = true :=
    Spec.appliesLoose_calling (g := g) h hdg hn hkY hinitY
      (X.room_calling (g := g) (R' := (headSpec ws rm).room) hsize hmY hcY hframes (by rw [hlY]; omega) h4 h5) h1
  obtain ⟨mid, hmid⟩ := h.above
  have hfr : (U.setTop g).frames = (.java g :: mid) ++ below := by rw [State.frames_setTop' g h.top, hmid]; rfl
  obtain ⟨o, s₂, hsteps, -, hend, hq⟩ := Steps.callFree hM p X.admits X.cas X.clock (acts := []) hfr happ hPc trivial
  have hq' : vx_Q Qc XC mc ms free a (U.calling g mk a) o s₂ := hq
  rw [State.frames_setTop' g h.top] at hend
  obtain ⟨g₀, hg0⟩ := Option.isSome_iff_exists.mp h.top
  obtain ⟨r, hr⟩ := State.topJava?_eq_some.mp hg0
  have hr' : (({ U with heap := s₂.heap, slotsUsed := s₂.slotsUsed } : State).setVm s₂.vm).frames = .java g₀ :: r := hr
  rcases hq' with ⟨hqc, L, hfe, hL⟩ | ⟨q, rfl, E, ce, L, hx, hce, hcv, hcl, hW₂, hsm, hL⟩
  · obtain ⟨⟨v, rfl⟩, hW₂, e2, q2, q3, q4, q5, q6⟩ := id hfe
    have e3 : s₂ = ({ (U.calling g mk a).setFrames s₂.frames with heap := s₂.heap, slotsUsed := s₂.slotsUsed } : State).setVm s₂.vm := by
      have : s₂ = ({ s₂ with vm := (U.calling g mk a).vm } : State).setVm s₂.vm := rfl
      rw [e2] at this
      exact this
    obtain ⟨c₂, i₂, len₂, hc₂, hd₂, hf₂⟩ := hend
    have hW' : U.WarmedH s₂.vm := hW₂
    have hcc : c₂ = c := by
      have h1 : s₂.code? g.method = U.code? g.method := by
        rw [State.code?_eq, State.code?_eq, hW'.alike.method?]
      exact Option.some.inj (hc₂.symm.trans (h1.trans h.code))
    subst hcc
    have hlen : len₂ = len := by rw [hdg] at hd₂; cases hd₂; rfl
    subst hlen
    have hs₂ : s₂ = (({ U with heap := s₂.heap, slotsUsed := s₂.slotsUsed } : State).setVm s₂.vm).setTop { g with pc := g.pc + len₂, stack := v.toList ++ g.stack } := by
      refine e3.trans ?_
      rw [hf₂, State.calling_eq h.top, State.setFrames_setFrames, State.setTop_of_frames _ hr', hr]
      rfl
    have hsame : U.sameButNew ({ U with heap := s₂.heap, slotsUsed := s₂.slotsUsed } : State) L mc ms := by
      refine ⟨?_, q2, q3, q4, q5, q6⟩
      obtain ⟨t, ht, -⟩ := State.frames_cons hr
      show ({ U with heap := s₂.heap, slotsUsed := s₂.slotsUsed } : State) = { U.setFrames U.frames with heap := s₂.heap, slotsUsed := s₂.slotsUsed }
      rw [State.setFrames_self ht]
    subst hg
    refine Or.inl ⟨v, ⟨(({ U with heap := s₂.heap, slotsUsed := s₂.slotsUsed } : State).setVm s₂.vm), Ls ++ L, c0 + mc, s0 + ms⟩,
      ⟨X.admits, X.cas, X.clock, X.frames, X.room, X.hears, X.method, X.code, (X.here.setHeapUsed s₂.heap s₂.slotsUsed).setVm hW'.alike, X.tail, State.WarmedH.trans X.warmed hW', X.limits, X.bytes, X.same.trans (hsame.setVm s.vm)⟩,
      ⟨g, mk, s₂, L, rfl, rfl, hqc, rfl, hL, rfl, rfl⟩, ?_⟩
    show Steps p.tables e below _ ((({ U with heap := s₂.heap, slotsUsed := s₂.slotsUsed } : State).setVm s₂.vm).setTop { g with pc := g.pc + len₂, stack := v.toList ++ g.stack })
    rw [← hs₂]
    exact hsteps
  · obtain ⟨e2, q2, q3, q4, q5, q6⟩ := id hsm
    have e3 : s₂ = ({ (U.calling g mk a).setFrames s₂.frames with heap := s₂.heap, slotsUsed := s₂.slotsUsed } : State).setVm s₂.vm := by
      have : s₂ = ({ s₂ with vm := (U.calling g mk a).vm } : State).setVm s₂.vm := rfl
      rw [e2] at this
      exact this
    have hf₂ : s₂.frames = .throwing q :: .java g :: U.frames.tail := hend
    have hW' : U.WarmedH s₂.vm := hW₂
    have hs₂ : s₂ = ((({ U with heap := s₂.heap, slotsUsed := s₂.slotsUsed } : State).setVm s₂.vm).setTop g).pushFrame (.throwing q) := by
      refine e3.trans ?_
      rw [hf₂, State.calling_eq h.top, State.setFrames_setFrames, State.pushFrame, State.frames_setTop _ hr', State.setTop_of_frames _ hr', State.setFrames_setFrames, hr]
      rfl
    have hsame : U.sameButNew ({ U with heap := s₂.heap, slotsUsed := s₂.slotsUsed } : State) L mc ms := by
      refine ⟨?_, q2, q3, q4, q5, q6⟩
      obtain ⟨t, ht, -⟩ := State.frames_cons hr
      show ({ U with heap := s₂.heap, slotsUsed := s₂.slotsUsed } : State) = { U.setFrames U.frames with heap := s₂.heap, slotsUsed := s₂.slotsUsed }
      rw [State.setFrames_self ht]
    subst hg
    refine Or.inr ⟨q, ⟨(({ U with heap := s₂.heap, slotsUsed := s₂.slotsUsed } : State).setVm s₂.vm), Ls ++ L, c0 + mc, s0 + ms⟩,
      ⟨X.admits, X.cas, X.clock, X.frames, X.room, X.hears, X.method, X.code, (X.here.setHeapUsed s₂.heap s₂.slotsUsed).setVm hW'.alike, X.tail, State.WarmedH.trans X.warmed hW', X.limits, X.bytes, X.same.trans (hsame.setVm s.vm)⟩,
      ⟨g, mk, s₂, L, E, ce, rfl, rfl, hx, hce, hcv, hcl, rfl, hL, rfl, rfl⟩, ?_⟩
    show Steps p.tables e below _ (((({ U with heap := s₂.heap, slotsUsed := s₂.slotsUsed } : State).setVm s₂.vm).setTop g).pushFrame (.throwing q))
    rw [← hs₂]
    exact hsteps
end Payer
section Calls
variable {p : Program} {l : Launch} {e : Env} {R : Room} {s : State} {m : MethodId} {args : Array Value} {below : List Frame} {meth : Method} {c : Code} {T : State} {locs : List Loc} {cells slots : Nat}
theorem vx_callV (X : Stand p l e R s m args below meth c T locs cells slots) (hexec : p.tables.exec = Jvm.exec) {own C : String} {index : Nat} {y : MethodName} {bytes : ByteArray} {maxL : Nat} {ret : Option FieldType}
    (hown : s.vm.findClass own = some m.cls) (hlink : (Cond.methodLink own index y).before args s = true) (hinst : (Cond.instanceMethod y).before args s = true) (hsel : (Cond.selects C y y).before args s = true)
    (hcode : (Cond.code y bytes maxL ret).before args s = true) (hy : y.cls ≠ "java/lang/invoke/MethodHandle" ∧ y.cls ≠ "java/lang/invoke/VarHandle")
    {W9 : Nat} {Pre : Pt → Array Value → Prop} {Post : Pt → Array Value → Option Value → Pt → Prop} {PostX : Pt → Array Value → Addr → Pt → Prop} (hK : vx_Back l R p e below s args y 3 W9 Pre Post PostX)
    {b : Addr} {cellB : Cell} (hcell : T.heap[b]? = some cellB) (hobj : cellB.vm.isStatics = false) (hcls : s.vm.findClass C = some cellB.cls)
    {g : JFrame} (hg : g.method = m) (hsize : g.locals.size = c.maxLocals) {argsL rest : List Value} (hlen : ∀ sig, parseMethodDescriptor y.desc = some sig → argsL.length = sig.parameters.length)
    (hstack : g.stack = argsL.reverse ++ .ref b :: rest) (hW : 2 * g.monitorRoom + (rest.map fun v => v.category).sum ≤ W9) (hdg : decode c.code g.pc = .ok (.invokevirtual index, 3))
    (hpre : ∀ vm₁, s.WarmedH vm₁ → Pre ⟨T.setVm vm₁, locs, cells, slots⟩ (Value.ref b :: argsL).toArray) :
    (∃ (v : Option Value) (vm₁ : Vm) (B : Pt), s.WarmedH vm₁ ∧ Stand p l e R s m args below meth c B.U B.locs B.cells B.slots ∧ Post ⟨T.setVm vm₁, locs, cells, slots⟩ (Value.ref b :: argsL).toArray v B ∧
      ∀ target, Steps p.tables e below (B.U.setTop { g with pc := g.pc + 3, stack := v.toList ++ rest }) target → Steps p.tables e below (T.setTop g) target) ∨
    (∃ (q : Addr) (vm₁ : Vm) (B : Pt), s.WarmedH vm₁ ∧ Stand p l e R s m args below meth c B.U B.locs B.cells B.slots ∧ PostX ⟨T.setVm vm₁, locs, cells, slots⟩ (Value.ref b :: argsL).toArray q B ∧
      Steps p.tables e below (T.setTop g) ((B.U.setTop { g with stack := rest }).pushFrame (.throwing q))) := by
  obtain ⟨mk, methM, hnamed, hmethM, hstM, habM⟩ := Cond.instanceMethod_spec hinst
  obtain ⟨methM', cM, hmethM', -, -, -, -, -, -, hsigM⟩ := Cond.code_spec hnamed hcode
  cases hmethM.symm.trans hmethM'
  obtain ⟨c2, r2, m2, q1, q2, q3, q4, kP, hkP, hkPi⟩ := Cond.selects_spec hsel
  cases hcls.symm.trans q1
  cases (State.methodFound?_of_named hnamed hy).symm.trans q2
  cases hnamed.symm.trans q3
  have hselP : selectMethod e.platform s.vm cellB.cls mk = .method mk := by rw [Launch.admits_selectMethod X.admits]; exact q4
  obtain ⟨vm₁, X₁, hstep₁⟩ := X.invokevirtual hexec hown hlink hnamed hmethM hstM hkP hkPi hy (a := b) (cell := cellB) hcell
    (fun z h => by rw [h] at hobj; cases hobj) hselP hmethM habM hkP hkPi (g := g) hg (argsL := argsL) (rest := rest) (hlen _ hsigM) hstack hdg
  rcases hK m meth c ⟨T.setVm vm₁, locs, cells, slots⟩ { g with stack := rest } (.invokevirtual index) mk (Value.ref b :: argsL).toArray X₁ hg hsize hdg hW (X₁.named hnamed) (hpre vm₁ X₁.warmed) with ⟨v, B, X', hpost, hsteps⟩ | ⟨q, B, X', hpost, hsteps⟩
  · exact Or.inl ⟨v, vm₁, B, X₁.warmed, X', hpost, fun target h => hstep₁ _ fun acts => by rw [doInvoke_state]; exact hsteps.trans h⟩
  · exact Or.inr ⟨q, vm₁, B, X₁.warmed, X', hpost, hstep₁ _ fun acts => by rw [doInvoke_state]; exact hsteps⟩
theorem vx_callS (X : Stand p l e R s m args below meth c T locs cells slots) (hexec : p.tables.exec = Jvm.exec) {own : String} {index : Nat} {y : MethodName} {bytes : ByteArray} {maxL : Nat} {ret : Option FieldType}
    (hown : s.vm.findClass own = some m.cls) (hlink : (Cond.methodLink own index y).before args s = true) (hstat : (Cond.static y).before args s = true) (hinit : (Cond.initialized y.cls).before args s = true)
    (hcode : (Cond.code y bytes maxL ret).before args s = true) (hy : y.cls ≠ "java/lang/invoke/MethodHandle" ∧ y.cls ≠ "java/lang/invoke/VarHandle")
    {W9 : Nat} {Pre : Pt → Array Value → Prop} {Post : Pt → Array Value → Option Value → Pt → Prop} {PostX : Pt → Array Value → Addr → Pt → Prop} (hK : vx_Back l R p e below s args y 3 W9 Pre Post PostX)
    {g : JFrame} (hg : g.method = m) (hsize : g.locals.size = c.maxLocals) {argsL rest : List Value} (hlen : ∀ sig, parseMethodDescriptor y.desc = some sig → argsL.length = sig.parameters.length)
    (hstack : g.stack = argsL.reverse ++ rest) (hW : 2 * g.monitorRoom + (rest.map fun v => v.category).sum ≤ W9) (hdg : decode c.code g.pc = .ok (.invokestatic index, 3))
    (hpre : ∀ vm₁, s.WarmedH vm₁ → Pre ⟨T.setVm vm₁, locs, cells, slots⟩ argsL.toArray) :
    (∃ (v : Option Value) (vm₁ : Vm) (B : Pt), s.WarmedH vm₁ ∧ Stand p l e R s m args below meth c B.U B.locs B.cells B.slots ∧ Post ⟨T.setVm vm₁, locs, cells, slots⟩ argsL.toArray v B ∧
      ∀ target, Steps p.tables e below (B.U.setTop { g with pc := g.pc + 3, stack := v.toList ++ rest }) target → Steps p.tables e below (T.setTop g) target) ∨
    (∃ (q : Addr) (vm₁ : Vm) (B : Pt), s.WarmedH vm₁ ∧ Stand p l e R s m args below meth c B.U B.locs B.cells B.slots ∧ PostX ⟨T.setVm vm₁, locs, cells, slots⟩ argsL.toArray q B ∧
      Steps p.tables e below (T.setTop g) ((B.U.setTop { g with stack := rest }).pushFrame (.throwing q))) := by
  obtain ⟨mk, hnamed⟩ := Cond.code_named hcode
  obtain ⟨methM, cM, hmethM, -, -, -, -, -, -, hsigM⟩ := Cond.code_spec hnamed hcode
  have hstatic : methM.isStatic = true := Cond.static_spec hnamed hmethM hstat
  obtain ⟨kP, hkP, -⟩ := className_of_methodNamed hnamed
  have hinitP : kP.init = .initialized := Cond.initialized_spec (findClass_of_methodNamed hnamed) hkP hinit
  obtain ⟨vm₁, X₁, hstep₁⟩ := X.invokestatic hexec hown hlink hnamed hmethM hstatic hkP hinitP hy (g := g) hg (argsL := argsL) (rest := rest) (hlen _ hsigM) hstack hdg
  rcases hK m meth c ⟨T.setVm vm₁, locs, cells, slots⟩ { g with stack := rest } (.invokestatic index) mk argsL.toArray X₁ hg hsize hdg hW (X₁.named hnamed) (hpre vm₁ X₁.warmed) with ⟨v, B, X', hpost, hsteps⟩ | ⟨q, B, X', hpost, hsteps⟩
  · exact Or.inl ⟨v, vm₁, B, X₁.warmed, X', hpost, fun target h => hstep₁ _ fun acts => by rw [doInvoke_state]; exact hsteps.trans h⟩
  · exact Or.inr ⟨q, vm₁, B, X₁.warmed, X', hpost, hstep₁ _ fun acts => by rw [doInvoke_state]; exact hsteps⟩
end Calls
theorem vx_cls {s : State} {T : State} {vm₁ : Vm} {E : String} {k : ClassId} (hW : s.WarmedH vm₁) (h : (T.setVm vm₁).vm.findClass E = some k) : s.vm.findClass E = some k := by
  have h1 : vm₁.findClass E = some k := h
  rw [hW.alike.findClass] at h1
  exact h1
/-- the method's frame g, with q thrown over it -/
def vx_W (p : Program) (l : Launch) (e : Env) (R : Room) (s : State) (m : MethodId) (args : Array Value) (below : List Frame) (meth : Method) (c : Code) (H : Heap) (locs : List Loc) (cells slots : Nat) (Q : State → Prop) (g : JFrame) (q : Addr) : Prop :=
  ∀ T : State, T.heap = H → Stand p l e R s m args below meth c T locs cells slots → ∃ t, Steps p.tables e below ((T.setTop g).pushFrame (.throwing q)) t ∧ Q t
def vx_Run (p : Program) (l : Launch) (e : Env) (R : Room) (s : State) (m : MethodId) (args : Array Value) (below : List Frame) (meth : Method) (c : Code) (H : Heap) (locs : List Loc) (cells slots mc ms : Nat) (g : JFrame) (rest : List Value) (Qa : State → Outcome → State → Prop) (XC : String → State → State → Prop) (free : Addr → Prop) : Prop :=
  ∀ T : State, T.heap = H → Stand p l e R s m args below meth c T locs cells slots →
    (∃ (v : Option Value) (st₀ t T' : State) (L : List Loc), st₀.heap = H ∧ Stand p l e R s m args below meth c T' (locs ++ L) (cells + mc) (slots + ms) ∧ (∀ q ∈ L, free q.base) ∧ T'.heap = t.heap ∧ T'.vm = t.vm ∧ Qa st₀ (.returned v) t ∧
      Goes p e below T g T' { g with pc := g.pc + 3, stack := v.toList ++ rest }) ∨
    (∃ (q : Addr) (st₀ t T' : State) (L : List Loc) (E : String) (ce : Cell), st₀.heap = H ∧ Stand p l e R s m args below meth c T' (locs ++ L) (cells + mc) (slots + ms) ∧ (∀ z ∈ L, free z.base) ∧ T'.heap = t.heap ∧ T'.vm = t.vm ∧ XC E st₀ t ∧ t.heap[q]? = some ce ∧ ce.vm = .none ∧ s.vm.findClass E = some ce.cls ∧
      Steps p.tables e below (T.setTop g) ((T'.setTop { g with stack := rest }).pushFrame (.throwing q)))
def vx_X {S : Type} (px : S → Prop) (B : String → S → State → Prop) (A : Nat → Prop) : String → State → State → Prop := fun E st t => ∃ u : S, px u ∧ B E u t ∧ va_F A st t
section Runs
variable {p : Program} {l : Launch} {e : Env} {R : Room} {s : State} {m : MethodId} {args : Array Value} {below : List Frame} {meth : Method} {c : Code} {H : Heap} {locs : List Loc} {cells slots : Nat}
variable {y : MethodName} {bytes cc : ByteArray} {maxL nL mc ms n index : Nat} {ret : Option FieldType} {ws : List Cond} {rm : Room} {Pc : Array Value → State → Prop} {Qc : Array Value → State → Outcome → State → Prop} {XC : String → State → State → Prop} {free : Addr → Prop} {Ts : List Cond} {own C : String} {b : Addr} {As rest : List Value} {g : JFrame}
theorem vx_callBack (cb : CallB R s args own index y bytes maxL ret ws rm mc ms n) (hM : vx_Met l y ws rm Pc Qc XC mc ms free) (hbl : FrameBlind Pc) : vx_Back l R p e below s args y 3 8 (PreOf R mc ms Pc) (PostOf Qc mc ms free) (vx_Post XC mc ms free) := by
  obtain ⟨hrc, hrs, hfr, hlo, hws, hcw, -, hini, -⟩ := cb
  exact vx_back (bytes := bytes) (maxL := maxL) (ret := ret) hM hbl hrc hrs hfr hlo hws hcw (fun a' U hW => word_at hW (Or.inl (by first | rfl | simp [Cond.onTables, Cond.keeps, Cond.steady])) hini)
theorem vx_runV (S : CallFix p m c cc nL s args Ts own) (hM : vx_Met l y ws rm Pc Qc XC mc ms free) (cw : CallW R s args own C index y bytes maxL ret ws rm mc ms n) (hp : PreV s H C b Pc As)
    (hg : g.method = m) (hn : As.length = n) (hsize : g.locals.size = nL) (hstack : g.stack = As.reverse ++ .ref b :: rest) (hW : 2 * g.monitorRoom + (rest.map fun v => v.category).sum ≤ 8) (hdg : decode cc g.pc = .ok (.invokevirtual index, 3)) (hf : cells + mc ≤ R.cells ∧ slots + ms ≤ R.slots) :
    vx_Run p l e R s m args below meth c H locs cells slots mc ms g rest (Qc (Value.ref b :: As).toArray) XC free := by
  have hK : vx_Back l R p e below s args y 3 8 (PreOf R mc ms Pc) (PostOf Qc mc ms free) (vx_Post XC mc ms free) := vx_callBack cw.1 hM hp.1
  obtain ⟨⟨-, -, -, -, -, -, hcode, -, hy, hlen, hl⟩, hin, hse⟩ := cw
  obtain ⟨hx, hb, hml, ho, -⟩ := S
  obtain ⟨-, ⟨cellB, hcB, hoB, hclB⟩, hPc⟩ := hp
  intro T hT X
  rcases vx_callV X hx (C := C) (bytes := bytes) (maxL := maxL) (ret := ret) ho hl hin hse hcode hy hK (by rw [hT]; exact hcB) hoB hclB hg (hsize.trans hml.symm) (argsL := As) (rest := rest) (fun sig h => hn.trans (hlen sig h)) hstack hW (by rw [hb]; exact hdg)
    (fun vm₁ hW₁ => ⟨hf.1, hf.2, hPc (T.setVm vm₁) hT hW₁⟩) with ⟨v, vm₁, ⟨U', l2, c2, s2⟩, hW₁, X', ⟨g', mk, t, L, e1, e2, hq, h1, hL, h2, h3⟩, st⟩ | ⟨q, vm₁, ⟨U', l2, c2, s2⟩, hW₁, X', ⟨g', mk, t, L, E, ce, e1, e2, hq, hce, hcv, hcl, h1, hL, h2, h3⟩, st⟩
  · dsimp only [Pt.U, Pt.locs, Pt.cells, Pt.slots] at X' e1 e2 h1 h2 h3 st
    subst h1; subst h2; subst h3
    exact Or.inl ⟨v, (T.setVm vm₁).calling g' mk (Value.ref b :: As).toArray, t, U', L, hT, X', hL, e1, e2, hq, st⟩
  · dsimp only [Pt.U, Pt.locs, Pt.cells, Pt.slots] at X' e1 e2 h1 h2 h3 st hcl
    subst h1; subst h2; subst h3
    exact Or.inr ⟨q, (T.setVm vm₁).calling g' mk (Value.ref b :: As).toArray, t, U', L, E, ce, hT, X', hL, e1, e2, hq, hce, hcv, vx_cls hW₁ hcl, st⟩
theorem vx_runS (S : CallFix p m c cc nL s args Ts own) (hM : vx_Met l y ws rm Pc Qc XC mc ms free) (cw : CallB R s args own index y bytes maxL ret ws rm mc ms n ∧ (Cond.static y).before args s = true) (hp : PreS s H Pc As)
    (hg : g.method = m) (hn : As.length = n) (hsize : g.locals.size = nL) (hstack : g.stack = As.reverse ++ rest) (hW : 2 * g.monitorRoom + (rest.map fun v => v.category).sum ≤ 8) (hdg : decode cc g.pc = .ok (.invokestatic index, 3)) (hf : cells + mc ≤ R.cells ∧ slots + ms ≤ R.slots) :
    vx_Run p l e R s m args below meth c H locs cells slots mc ms g rest (Qc As.toArray) XC free := by
  have hK : vx_Back l R p e below s args y 3 8 (PreOf R mc ms Pc) (PostOf Qc mc ms free) (vx_Post XC mc ms free) := vx_callBack cw.1 hM hp.1
  obtain ⟨⟨-, -, -, -, -, -, hcode, hini, hy, hlen, hl⟩, hstt⟩ := cw
  obtain ⟨hx, hb, hml, ho, -⟩ := S
  intro T hT X
  rcases vx_callS X hx (bytes := bytes) (maxL := maxL) (ret := ret) ho hl hstt hini hcode hy hK hg (hsize.trans hml.symm) (argsL := As) (rest := rest) (fun sig h => hn.trans (hlen sig h)) hstack hW (by rw [hb]; exact hdg)
    (fun vm₁ hW₁ => ⟨hf.1, hf.2, hp.2 (T.setVm vm₁) hT hW₁⟩) with ⟨v, vm₁, ⟨U', l2, c2, s2⟩, hW₁, X', ⟨g', mk, t, L, e1, e2, hq, h1, hL, h2, h3⟩, st⟩ | ⟨q, vm₁, ⟨U', l2, c2, s2⟩, hW₁, X', ⟨g', mk, t, L, E, ce, e1, e2, hq, hce, hcv, hcl, h1, hL, h2, h3⟩, st⟩
  · dsimp only [Pt.U, Pt.locs, Pt.cells, Pt.slots] at X' e1 e2 h1 h2 h3 st
    subst h1; subst h2; subst h3
    exact Or.inl ⟨v, (T.setVm vm₁).calling g' mk As.toArray, t, U', L, hT, X', hL, e1, e2, hq, st⟩
  · dsimp only [Pt.U, Pt.locs, Pt.cells, Pt.slots] at X' e1 e2 h1 h2 h3 st hcl
    subst h1; subst h2; subst h3
    exact Or.inr ⟨q, (T.setVm vm₁).calling g' mk As.toArray, t, U', L, E, ce, hT, X', hL, e1, e2, hq, hce, hcv, vx_cls hW₁ hcl, st⟩
end Runs
section Rows
variable {p : Program} {l : Launch} {e : Env} {R : Room} {s : State} {m : MethodId} {args : Array Value} {below : List Frame} {meth : Method} {c : Code} {H : Heap} {locs : List Loc} {cells slots : Nat} {Q : State → Prop}
variable {mc ms : Nat} {free : Addr → Prop} {A0 A1 : Nat → Prop} {H0 : Heap} {a : Array Value} {pc : Nat} {ls : Array Slot} {st0 rest : List Value}
theorem vx_keep {st₀ t T' : State} {L : List Loc} (h0 : st₀.heap = H) (e1 : T'.heap = t.heap) (hS : va_S A0 H0 H locs) (hA : ∀ q, q < H.size → A1 q → A0 q) (hf : ∀ q, free q → A0 q) (hL : ∀ q ∈ L, free q.base) (hF : va_F A1 st₀ t) :
    H.size ≤ T'.heap.size ∧ (∀ q : Nat, q < H.size → ¬ A1 q → T'.heap[q]? = H[q]?) ∧ va_S A0 H0 T'.heap (locs ++ L) := by
  obtain ⟨hz, hk⟩ := hF
  rw [h0] at hz hk
  exact ⟨by rw [e1]; exact hz, fun q h1 h2 => by rw [e1]; exact hk q h1 h2,
    ⟨Nat.le_trans hS.1 (by rw [e1]; exact hz), fun q h1 h2 => by rw [e1, hk q (Nat.lt_of_lt_of_le h1 hS.1) (fun z => h2 (hA q (Nat.lt_of_lt_of_le h1 hS.1) z))]; exact hS.2.1 q h1 h2, fun q hq => by
      rcases List.mem_append.mp hq with h | h
      · exact hS.2.2 q h
      · exact hf _ (hL q h)⟩⟩
theorem vx_calli {S SX : Type} {post : Int32 → S → Prop} {px : SX → Prop} {B : S → State → Prop} {BX : String → SX → State → Prop} {AX : Nat → Prop} (hr : vx_Run p l e R s m args below meth c H locs cells slots mc ms (F0 m pc ls st0) rest (va_Qi post B A1 a) (vx_X px BX AX) free) (hS : va_S A0 H0 H locs) (hA : ∀ q, q < H.size → A1 q → A0 q) (hf : ∀ q, free q → A0 q) (hAX : ∀ q, q < H.size → AX q → A0 q)
    (kx : ∀ (E : String) (ce : Cell) (q9 : Addr) (u : SX) (t : State) (H1 : Heap) (locs1 : List Loc), t.heap = H1 → s.vm.Alike t.vm → px u → BX E u t → H.size ≤ H1.size → (∀ q : Nat, q < H.size → ¬ AX q → H1[q]? = H[q]?) → va_S A0 H0 H1 locs1 → H1[q9]? = some ce → ce.vm = .none → s.vm.findClass E = some ce.cls → vx_W p l e R s m args below meth c H1 locs1 (cells + mc) (slots + ms) Q (F0 m pc ls rest) q9)
    (kk : ∀ (r : Int32) (u : S) (t : State) (H1 : Heap) (locs1 : List Loc), t.heap = H1 → s.vm.Alike t.vm → post r u → B u t → H.size ≤ H1.size → (∀ q : Nat, q < H.size → ¬ A1 q → H1[q]? = H[q]?) → va_S A0 H0 H1 locs1 → W p l e R s m args below meth c H1 locs1 (cells + mc) (slots + ms) Q (F0 m (pc + 3) ls (.int r :: rest))) : W p l e R s m args below meth c H locs cells slots Q (F0 m pc ls st0) := by
  intro T hT X
  rcases hr T hT X with ⟨v, st₀, t, T', L, h0, X', hL, e1, e2, ⟨⟨r, u, hv, hp, hb⟩, hF⟩, st⟩ | ⟨q, st₀, t, T', L, E, ce, h0, X', hL, e1, e2, ⟨u, hp, hb, hF⟩, hce, hcv, hcl, st⟩
  · cases hv
    obtain ⟨k1, k2, k3⟩ := vx_keep h0 e1 hS hA hf hL hF
    obtain ⟨t2, a1, b1⟩ := kk r u t T'.heap (locs ++ L) e1.symm (by rw [← e2]; exact X'.warmed.alike) hp hb k1 k2 k3 T' rfl X'
    exact ⟨t2, st t2 a1, b1⟩
  · obtain ⟨k1, k2, k3⟩ := vx_keep h0 e1 hS hAX hf hL hF
    obtain ⟨t2, a1, b1⟩ := kx E ce q u t T'.heap (locs ++ L) e1.symm (by rw [← e2]; exact X'.warmed.alike) hp hb k1 k2 k3 (by rw [e1]; exact hce) hcv hcl T' rfl X'
    exact ⟨t2, st.trans a1, b1⟩
theorem vx_calll {S SX : Type} {post : Int64 → S → Prop} {px : SX → Prop} {B : S → State → Prop} {BX : String → SX → State → Prop} {AX : Nat → Prop} (hr : vx_Run p l e R s m args below meth c H locs cells slots mc ms (F0 m pc ls st0) rest (va_Ql post B A1 a) (vx_X px BX AX) free) (hS : va_S A0 H0 H locs) (hA : ∀ q, q < H.size → A1 q → A0 q) (hf : ∀ q, free q → A0 q) (hAX : ∀ q, q < H.size → AX q → A0 q)
    (kx : ∀ (E : String) (ce : Cell) (q9 : Addr) (u : SX) (t : State) (H1 : Heap) (locs1 : List Loc), t.heap = H1 → s.vm.Alike t.vm → px u → BX E u t → H.size ≤ H1.size → (∀ q : Nat, q < H.size → ¬ AX q → H1[q]? = H[q]?) → va_S A0 H0 H1 locs1 → H1[q9]? = some ce → ce.vm = .none → s.vm.findClass E = some ce.cls → vx_W p l e R s m args below meth c H1 locs1 (cells + mc) (slots + ms) Q (F0 m pc ls rest) q9)
    (kk : ∀ (r : Int64) (u : S) (t : State) (H1 : Heap) (locs1 : List Loc), t.heap = H1 → s.vm.Alike t.vm → post r u → B u t → H.size ≤ H1.size → (∀ q : Nat, q < H.size → ¬ A1 q → H1[q]? = H[q]?) → va_S A0 H0 H1 locs1 → W p l e R s m args below meth c H1 locs1 (cells + mc) (slots + ms) Q (F0 m (pc + 3) ls (.long r :: rest))) : W p l e R s m args below meth c H locs cells slots Q (F0 m pc ls st0) := by
  intro T hT X
  rcases hr T hT X with ⟨v, st₀, t, T', L, h0, X', hL, e1, e2, ⟨⟨r, u, hv, hp, hb⟩, hF⟩, st⟩ | ⟨q, st₀, t, T', L, E, ce, h0, X', hL, e1, e2, ⟨u, hp, hb, hF⟩, hce, hcv, hcl, st⟩
  · cases hv
    obtain ⟨k1, k2, k3⟩ := vx_keep h0 e1 hS hA hf hL hF
    obtain ⟨t2, a1, b1⟩ := kk r u t T'.heap (locs ++ L) e1.symm (by rw [← e2]; exact X'.warmed.alike) hp hb k1 k2 k3 T' rfl X'
    exact ⟨t2, st t2 a1, b1⟩
  · obtain ⟨k1, k2, k3⟩ := vx_keep h0 e1 hS hAX hf hL hF
    obtain ⟨t2, a1, b1⟩ := kx E ce q u t T'.heap (locs ++ L) e1.symm (by rw [← e2]; exact X'.warmed.alike) hp hb k1 k2 k3 (by rw [e1]; exact hce) hcv hcl T' rfl X'
    exact ⟨t2, st.trans a1, b1⟩
theorem vx_callf {S SX : Type} {post : UInt32 → S → Prop} {px : SX → Prop} {B : S → State → Prop} {BX : String → SX → State → Prop} {AX : Nat → Prop} (hr : vx_Run p l e R s m args below meth c H locs cells slots mc ms (F0 m pc ls st0) rest (va_Qf post B A1 a) (vx_X px BX AX) free) (hS : va_S A0 H0 H locs) (hA : ∀ q, q < H.size → A1 q → A0 q) (hf : ∀ q, free q → A0 q) (hAX : ∀ q, q < H.size → AX q → A0 q)
    (kx : ∀ (E : String) (ce : Cell) (q9 : Addr) (u : SX) (t : State) (H1 : Heap) (locs1 : List Loc), t.heap = H1 → s.vm.Alike t.vm → px u → BX E u t → H.size ≤ H1.size → (∀ q : Nat, q < H.size → ¬ AX q → H1[q]? = H[q]?) → va_S A0 H0 H1 locs1 → H1[q9]? = some ce → ce.vm = .none → s.vm.findClass E = some ce.cls → vx_W p l e R s m args below meth c H1 locs1 (cells + mc) (slots + ms) Q (F0 m pc ls rest) q9)
    (kk : ∀ (r : UInt32) (u : S) (t : State) (H1 : Heap) (locs1 : List Loc), t.heap = H1 → s.vm.Alike t.vm → post r u → B u t → H.size ≤ H1.size → (∀ q : Nat, q < H.size → ¬ A1 q → H1[q]? = H[q]?) → va_S A0 H0 H1 locs1 → W p l e R s m args below meth c H1 locs1 (cells + mc) (slots + ms) Q (F0 m (pc + 3) ls (.float r :: rest))) : W p l e R s m args below meth c H locs cells slots Q (F0 m pc ls st0) := by
  intro T hT X
  rcases hr T hT X with ⟨v, st₀, t, T', L, h0, X', hL, e1, e2, ⟨⟨r, u, hv, hp, hb⟩, hF⟩, st⟩ | ⟨q, st₀, t, T', L, E, ce, h0, X', hL, e1, e2, ⟨u, hp, hb, hF⟩, hce, hcv, hcl, st⟩
  · cases hv
    obtain ⟨k1, k2, k3⟩ := vx_keep h0 e1 hS hA hf hL hF
    obtain ⟨t2, a1, b1⟩ := kk r u t T'.heap (locs ++ L) e1.symm (by rw [← e2]; exact X'.warmed.alike) hp hb k1 k2 k3 T' rfl X'
    exact ⟨t2, st t2 a1, b1⟩
  · obtain ⟨k1, k2, k3⟩ := vx_keep h0 e1 hS hAX hf hL hF
    obtain ⟨t2, a1, b1⟩ := kx E ce q u t T'.heap (locs ++ L) e1.symm (by rw [← e2]; exact X'.warmed.alike) hp hb k1 k2 k3 (by rw [e1]; exact hce) hcv hcl T' rfl X'
    exact ⟨t2, st.trans a1, b1⟩
theorem vx_calld {S SX : Type} {post : UInt64 → S → Prop} {px : SX → Prop} {B : S → State → Prop} {BX : String → SX → State → Prop} {AX : Nat → Prop} (hr : vx_Run p l e R s m args below meth c H locs cells slots mc ms (F0 m pc ls st0) rest (va_Qd post B A1 a) (vx_X px BX AX) free) (hS : va_S A0 H0 H locs) (hA : ∀ q, q < H.size → A1 q → A0 q) (hf : ∀ q, free q → A0 q) (hAX : ∀ q, q < H.size → AX q → A0 q)
    (kx : ∀ (E : String) (ce : Cell) (q9 : Addr) (u : SX) (t : State) (H1 : Heap) (locs1 : List Loc), t.heap = H1 → s.vm.Alike t.vm → px u → BX E u t → H.size ≤ H1.size → (∀ q : Nat, q < H.size → ¬ AX q → H1[q]? = H[q]?) → va_S A0 H0 H1 locs1 → H1[q9]? = some ce → ce.vm = .none → s.vm.findClass E = some ce.cls → vx_W p l e R s m args below meth c H1 locs1 (cells + mc) (slots + ms) Q (F0 m pc ls rest) q9)
    (kk : ∀ (r : UInt64) (u : S) (t : State) (H1 : Heap) (locs1 : List Loc), t.heap = H1 → s.vm.Alike t.vm → post r u → B u t → H.size ≤ H1.size → (∀ q : Nat, q < H.size → ¬ A1 q → H1[q]? = H[q]?) → va_S A0 H0 H1 locs1 → W p l e R s m args below meth c H1 locs1 (cells + mc) (slots + ms) Q (F0 m (pc + 3) ls (.double r :: rest))) : W p l e R s m args below meth c H locs cells slots Q (F0 m pc ls st0) := by
  intro T hT X
  rcases hr T hT X with ⟨v, st₀, t, T', L, h0, X', hL, e1, e2, ⟨⟨r, u, hv, hp, hb⟩, hF⟩, st⟩ | ⟨q, st₀, t, T', L, E, ce, h0, X', hL, e1, e2, ⟨u, hp, hb, hF⟩, hce, hcv, hcl, st⟩
  · cases hv
    obtain ⟨k1, k2, k3⟩ := vx_keep h0 e1 hS hA hf hL hF
    obtain ⟨t2, a1, b1⟩ := kk r u t T'.heap (locs ++ L) e1.symm (by rw [← e2]; exact X'.warmed.alike) hp hb k1 k2 k3 T' rfl X'
    exact ⟨t2, st t2 a1, b1⟩
  · obtain ⟨k1, k2, k3⟩ := vx_keep h0 e1 hS hAX hf hL hF
    obtain ⟨t2, a1, b1⟩ := kx E ce q u t T'.heap (locs ++ L) e1.symm (by rw [← e2]; exact X'.warmed.alike) hp hb k1 k2 k3 (by rw [e1]; exact hce) hcv hcl T' rfl X'
    exact ⟨t2, st.trans a1, b1⟩
theorem vx_callv {S SX : Type} {post : S → Prop} {px : SX → Prop} {B : S → State → Prop} {BX : String → SX → State → Prop} {AX : Nat → Prop} (hr : vx_Run p l e R s m args below meth c H locs cells slots mc ms (F0 m pc ls st0) rest (va_Qv post B A1 a) (vx_X px BX AX) free) (hS : va_S A0 H0 H locs) (hA : ∀ q, q < H.size → A1 q → A0 q) (hf : ∀ q, free q → A0 q) (hAX : ∀ q, q < H.size → AX q → A0 q)
    (kx : ∀ (E : String) (ce : Cell) (q9 : Addr) (u : SX) (t : State) (H1 : Heap) (locs1 : List Loc), t.heap = H1 → s.vm.Alike t.vm → px u → BX E u t → H.size ≤ H1.size → (∀ q : Nat, q < H.size → ¬ AX q → H1[q]? = H[q]?) → va_S A0 H0 H1 locs1 → H1[q9]? = some ce → ce.vm = .none → s.vm.findClass E = some ce.cls → vx_W p l e R s m args below meth c H1 locs1 (cells + mc) (slots + ms) Q (F0 m pc ls rest) q9)
    (kk : ∀ (u : S) (t : State) (H1 : Heap) (locs1 : List Loc), t.heap = H1 → s.vm.Alike t.vm → post u → B u t → H.size ≤ H1.size → (∀ q : Nat, q < H.size → ¬ A1 q → H1[q]? = H[q]?) → va_S A0 H0 H1 locs1 → W p l e R s m args below meth c H1 locs1 (cells + mc) (slots + ms) Q (F0 m (pc + 3) ls (rest))) : W p l e R s m args below meth c H locs cells slots Q (F0 m pc ls st0) := by
  intro T hT X
  rcases hr T hT X with ⟨v, st₀, t, T', L, h0, X', hL, e1, e2, ⟨⟨u, hv, hp, hb⟩, hF⟩, st⟩ | ⟨q, st₀, t, T', L, E, ce, h0, X', hL, e1, e2, ⟨u, hp, hb, hF⟩, hce, hcv, hcl, st⟩
  · cases hv
    obtain ⟨k1, k2, k3⟩ := vx_keep h0 e1 hS hA hf hL hF
    obtain ⟨t2, a1, b1⟩ := kk u t T'.heap (locs ++ L) e1.symm (by rw [← e2]; exact X'.warmed.alike) hp hb k1 k2 k3 T' rfl X'
    exact ⟨t2, st t2 a1, b1⟩
  · obtain ⟨k1, k2, k3⟩ := vx_keep h0 e1 hS hAX hf hL hF
    obtain ⟨t2, a1, b1⟩ := kx E ce q u t T'.heap (locs ++ L) e1.symm (by rw [← e2]; exact X'.warmed.alike) hp hb k1 k2 k3 (by rw [e1]; exact hce) hcv hcl T' rfl X'
    exact ⟨t2, st.trans a1, b1⟩
/-- caught by the row x of this method's table; the rows ahead don't take it -/
theorem vx_catch {own name : String} {E : String} {ce : Cell} {q : Addr} (hown : s.vm.findClass own = some m.cls) (pre : List ExceptionTableEntry) (x : ExceptionTableEntry) (suf : List ExceptionTableEntry) (hsplit : c.exceptionTable.toList = pre ++ x :: suf)
    (hpass : ∀ z ∈ pre, covers z pc = false ∨ (z.catchType ≠ 0 ∧ ∃ nm : String, (Cond.classLink own z.catchType nm).before args s = true ∧ va_Nc E nm s)) (hx : covers x pc = true) (h0 : x.catchType ≠ 0)
    (hlink : (Cond.classLink own x.catchType name).before args s = true) (hcast : (Cond.castable E name).before args s = true) (hcell : H[q]? = some ce) (hv : ce.vm = .none) (hcl : s.vm.findClass E = some ce.cls)
    (kk : W p l e R s m args below meth c H locs cells slots Q (F0 m x.handlerPc ls [.ref q])) : vx_W p l e R s m args below meth c H locs cells slots Q (F0 m pc ls rest) q := by
  intro T hT X
  have hpl : e.platform.magicAccessors = ({} : Platform).magicAccessors := by rw [X.admits.platform]
  obtain ⟨c3, c4, hc3, hc4, hasg⟩ := Cond.castable_spec hcast
  cases Option.some.inj (hc3.symm.trans hcl)
  obtain ⟨c5, hc5, hcl5⟩ := Cond.classLink_spec hown hlink e.platform hpl
  cases Option.some.inj (hc4.symm.trans hc5)
  obtain ⟨vm', X', st⟩ := X.thenCaughtThrough q (g := F0 m pc ls rest) rfl (Steps.refl _) (by rw [hT]; exact hcell) (by rw [hv]; rfl) (by obtain ⟨k9, h9, -⟩ := Vm.findClass_spec hcl; exact ⟨k9, h9⟩) pre x suf hsplit
    (fun z hz => by
      rcases hpass z hz with h | ⟨hz0, nm, hl1, hn1⟩
      · exact Or.inl h
      · obtain ⟨c6, hc6, hcl6⟩ := Cond.classLink_spec hown hl1 e.platform hpl
        obtain ⟨a8, b8, h1, h2, h3⟩ := hn1
        cases Option.some.inj (h1.symm.trans hcl)
        cases Option.some.inj (h2.symm.trans hc6)
        exact Or.inr ⟨hz0, _, hcl6, h3⟩) hx (Or.inr ⟨h0, c4, hcl5, hasg⟩)
  obtain ⟨t, a1, b1⟩ := kk (T.setVm vm') hT X'
  exact ⟨t, st.trans a1, b1⟩
end Rows
section Ends
variable {p : Program} {l : Launch} {e : Env} {R : Room} {s : State} {m : MethodId} {args : Array Value} {below : List Frame} {meth : Method} {c : Code} {H : Heap} {locs : List Loc} {cells slots : Nat} {Q : State → Prop}
variable {mc ms : Nat} {free : Addr → Prop} {A0 A1 : Nat → Prop} {H0 : Heap} {a : Array Value} {ls : Array Slot} {st0 rest : List Value}
variable {Qc : Array Value → State → Outcome → State → Prop} {XC : String → State → State → Prop}
/-- what a body that may throw owes at its end -/
def vx_MQ (below : List Frame) (Qc : Array Value → State → Outcome → State → Prop) (XC : String → State → State → Prop) (a : Array Value) (s : State) (mc ms : Nat) (free : Addr → Prop) : State → Prop := fun t =>
  ∃ o, t.status = .running ∧ Ended t below o ∧ vx_Q Qc XC mc ms free a s o t
theorem vx_ret {g : JFrame} {mc ms : Nat} (k : W p l e R s m args below meth c H locs cells slots (MQ below Qc args s mc ms free) g) : W p l e R s m args below meth c H locs cells slots (vx_MQ below Qc XC args s mc ms free) g := by
  intro T hT X
  obtain ⟨t, a1, o, b1, b2, b3, b4⟩ := k T hT X
  exact ⟨t, a1, o, b1, b2, Or.inl ⟨b3, b4⟩⟩
/-- not caught here: it goes on to the caller -/
theorem vx_widen {g : JFrame} {q : Addr} {k n : Nat} (h1 : cells ≤ k) (h2 : slots ≤ n) (kk : vx_W p l e R s m args below meth c H locs k n Q g q) : vx_W p l e R s m args below meth c H locs cells slots Q g q := fun T hT X => kk T hT (stand_widen X h1 h2)
theorem vx_out {pc : Nat} {E : String} {ce : Cell} {q : Addr} {mc ms : Nat} (hout : ∀ x ∈ c.exceptionTable.toList, covers x pc = false) (hlocks : meth.locks = false) (hcell : H[q]? = some ce) (hv : ce.vm = .none) (hcl : s.vm.findClass E = some ce.cls)
    (hx : ∀ t : State, t.heap = H → s.vm.Alike t.vm → XC E s t) (hf : ∀ z ∈ locs, free z.base) (hc : cells ≤ mc) (hs : slots ≤ ms) :
    vx_W p l e R s m args below meth c H locs cells slots (vx_MQ below Qc XC args s mc ms free) (F0 m pc ls rest) q := by
  intro T hT X
  obtain ⟨st1, hrun, hend, hW, hsm⟩ := X.leaveThrown q (g := F0 m pc ls rest) rfl rfl rfl hout hlocks
  have hcell9 : (T.setFrames (.throwing q :: below)).heap[q]? = some ce := by
    show T.heap[q]? = some ce
    rw [hT]; exact hcell
  exact ⟨_, st1, .threw q, hrun, hend, Or.inr ⟨q, rfl, E, ce, locs, hx _ hT hW.alike, hcell9, hv, hcl, hW, hsm.mono hc hs, hf⟩⟩
theorem vx_frame {U : State} {k n : Nat} (h : s.sameButNew ({ U with vm := s.vm } : State) locs k n) : s.heap.size ≤ U.heap.size ∧ ∀ q : Nat, q < s.heap.size → (∀ z ∈ locs, z.base ≠ q) → U.heap[q]? = s.heap[q]? := by
  obtain ⟨-, h2, -, -, -, h6⟩ := h
  refine ⟨h2, fun q hq hz => ?_⟩
  obtain ⟨c9, e1, e2, e3, e4⟩ := h6 q _ (Array.getElem?_eq_getElem hq)
  have hs : c9.slots = (s.heap[q]).slots := Array.ext_getElem? fun i => e4 i fun hm => hz _ hm rfl
  have h9 : c9 = s.heap[q] := by
    rw [hs] at e2
    exact e2
  have e5 : U.heap[q]? = some c9 := e1
  rw [e5, h9, Array.getElem?_eq_getElem hq]
/-- the words of a throw but the four that speak of the heap -/
def vx_no (w : Cond) : Bool := decide (w ≠ .isRef (.static Bundle.tN "UNASSIGNED_STACK" Bundle.steD)) && decide (w ≠ .isRef (.static Bundle.tN "SUPPRESSED_SENTINEL" Bundle.listD)) && decide (w ≠ .laysStatic Bundle.tN "UNASSIGNED_STACK" Bundle.steD) && decide (w ≠ .laysStatic Bundle.tN "SUPPRESSED_SENTINEL" Bundle.listD)
def vx_at0 (own : String) (ic : Nat) (X : String) (names : List String) : List Cond := (Bundle.ownAtoms0 own ic X names).filter vx_no
def vx_atS (own : String) (ic : Nat) (X : String) (names : List String) : List Cond := (Bundle.ownAtoms own ic X names).filter vx_no
/-- a word that the tables alone decide, or a good one -/
def vx_ot (w : Cond) : Bool := w.onTables || goodWord w
theorem vx_ot_at {args a' : Array Value} {s U : State} {w : Cond} (hW : s.WarmedH U.vm) (hvm : s.vm = U.vm) (hg : vx_ot w = true) (h : w.before args s = true) : w.before a' U = true := by
  simp only [vx_ot, Bool.or_eq_true] at hg
  rcases hg with hg | hg
  · exact va_tabs hg hvm h
  · exact word_at hW (good_of_word hg) h
/-- a list's words: the good ones out of the method's own list, the others by premises of their own -/
theorem vx_hat {args : Array Value} {s : State} {L B : List Cond} (h1 : ∀ w ∈ L.filter goodWord, w.before args s = true) (h2 : ∀ w ∈ L.filter (fun w => !goodWord w), w ∈ B) (h3 : ∀ w ∈ B, w.before args s = true) : ∀ w ∈ L, w.before args s = true := by
  intro w hw
  by_cases g : goodWord w = true
  · exact h1 w (List.mem_filter.mpr ⟨hw, g⟩)
  · refine h3 w (h2 w (List.mem_filter.mpr ⟨hw, ?_⟩))
    show (!goodWord w) = true
    cases hgw : goodWord w
    · rfl
    · exact absurd hgw g
theorem vx_c {args : Array Value} {s : State} {w : Cond} {B : List Cond} (h : w.before args s = true) (t : ∀ w ∈ B, w.before args s = true) : ∀ w' ∈ w :: B, w'.before args s = true := fun w' h' => (List.mem_cons.mp h').elim (fun e => by rw [e]; exact h) (t w')
theorem vx_n {args : Array Value} {s : State} : ∀ w ∈ ([] : List Cond), w.before args s = true := fun _ h => nomatch h
theorem vx_own {args : Array Value} {s : State} {L : List Cond} (h1 : ∀ w ∈ L.filter vx_no, w.before args s = true)
    (hU : (Cond.isRef (.static Bundle.tN "UNASSIGNED_STACK" Bundle.steD)).before args s = true) (hN : (Cond.isRef (.static Bundle.tN "SUPPRESSED_SENTINEL" Bundle.listD)).before args s = true)
    (lU : (Cond.laysStatic Bundle.tN "UNASSIGNED_STACK" Bundle.steD).before args s = true) (lN : (Cond.laysStatic Bundle.tN "SUPPRESSED_SENTINEL" Bundle.listD).before args s = true) : ∀ w ∈ L, w.before args s = true := by
  intro w hw
  by_cases e1 : w = .isRef (.static Bundle.tN "UNASSIGNED_STACK" Bundle.steD)
  · rw [e1]; exact hU
  · by_cases e2 : w = .isRef (.static Bundle.tN "SUPPRESSED_SENTINEL" Bundle.listD)
    · rw [e2]; exact hN
    · by_cases e3 : w = .laysStatic Bundle.tN "UNASSIGNED_STACK" Bundle.steD
      · rw [e3]; exact lU
      · by_cases e4 : w = .laysStatic Bundle.tN "SUPPRESSED_SENTINEL" Bundle.listD
        · rw [e4]; exact lN
        · exact h1 w (List.mem_filter.mpr ⟨hw, by unfold vx_no; rw [decide_eq_true e1, decide_eq_true e2, decide_eq_true e3, decide_eq_true e4]; rfl⟩)
/-- where a static field lies, its class's statics cell in H -/
def vx_L (C n d : String) (A : Nat → Prop) (U : State) (H : Heap) : Prop := ∃ (c : ClassId) (k : Class) (i : Nat) (f : Field) (a : Nat) (cell : Cell), U.vm.findClass C = some c ∧ U.fieldFound? C n d = some (c, k, i, f) ∧ f.isStatic = true ∧ k.statics = some a ∧ H[a]? = some cell ∧ cell.vm.isStatics = true ∧ cell.cls = c ∧ f.slot < cell.slots.size ∧ k.staticTypes[f.slot]? = some f.type ∧ ¬ A a
theorem vx_L.moved {C n d : String} {A : Nat → Prop} {u U : State} {H : Heap} (hvm : u.vm.Alike U.vm) (h : vx_L C n d A u H) : vx_L C n d A U H := by
  obtain ⟨c, k, i, f, a, cell, h1, h2, h3, h4, h5, h6, h7, h8, h9, h10⟩ := h
  obtain ⟨k', hi', he⟩ := State.fieldFound?_setVm hvm h2
  exact ⟨c, k', i, f, a, cell, by rw [hvm.findClass]; exact h1, hi', h3, by rw [he]; exact h4, h5, h6, h7, h8, by rw [he]; exact h9, h10⟩
theorem vx_L.kept {C n d : String} {A : Nat → Prop} {U : State} {H H1 : Heap} (h : vx_L C n d A U H) (hq : ∀ a : Nat, a < H.size → ¬ A a → H1[a]? = H[a]?) : vx_L C n d A U H1 := by
  obtain ⟨c, k, i, f, a, cell, h1, h2, h3, h4, h5, h6, h7, h8, h9, h10⟩ := h
  exact ⟨c, k, i, f, a, cell, h1, h2, h3, h4, by rw [hq a (Array.getElem?_eq_some_iff.mp h5).1 h10]; exact h5, h6, h7, h8, h9, h10⟩
theorem vx_L.narrow {C n d : String} {A B : Nat → Prop} {U : State} {H : Heap} (h : vx_L C n d A U H) (hAB : ∀ q, B q → A q) : vx_L C n d B U H := by
  obtain ⟨c, k, i, f, a, cell, h1, h2, h3, h4, h5, h6, h7, h8, h9, h10⟩ := h
  exact ⟨c, k, i, f, a, cell, h1, h2, h3, h4, h5, h6, h7, h8, h9, fun z => h10 (hAB _ z)⟩
theorem vx_L.word {C n d : String} {A : Nat → Prop} {s : State} {args : Array Value} (h : vx_L C n d A s s.heap) : (Cond.laysStatic C n d).before args s = true := by
  obtain ⟨c, k, i, f, a, cell, h1, h2, h3, h4, h5, h6, h7, h8, h9, -⟩ := h
  show (Cond.laysStatic C n d).holds args s none s [] = true
  exact Cond.laysStatic_of h1 h2 h3 h4 h5 h6 h7 h8 h9
/-- .. and what it holds: null or some reference -/
def vx_Zq (C n d : String) (A : Nat → Prop) (U : State) (H : Heap) : Prop := va_Zq C n d A U H ∧ vx_L C n d A U H
theorem vx_Zq.moved {C n d : String} {A : Nat → Prop} {u U : State} {H : Heap} (hvm : u.vm.Alike U.vm) (h : vx_Zq C n d A u H) : vx_Zq C n d A U H := ⟨va_Zq.moved hvm h.1, vx_L.moved hvm h.2⟩
theorem vx_Zq.kept {C n d : String} {A : Nat → Prop} {U : State} {H H1 : Heap} (h : vx_Zq C n d A U H) (hq : ∀ a : Nat, a < H.size → ¬ A a → H1[a]? = H[a]?) : vx_Zq C n d A U H1 := ⟨va_Zq.kept h.1 hq, vx_L.kept h.2 hq⟩
theorem vx_Zq.narrow {C n d : String} {A B : Nat → Prop} {U : State} {H : Heap} (h : vx_Zq C n d A U H) (hAB : ∀ q, B q → A q) : vx_Zq C n d B U H := ⟨va_Zq.narrow h.1 hAB, vx_L.narrow h.2 hAB⟩
theorem vx_Zqof {args : Array Value} {s : State} {C n d : String} {A : Nat → Prop} (hl : (Cond.laysStatic C n d).before args s = true) (hini : (Cond.initialized C).before args s = true) (h : (Cond.isRef (.static C n d)).before args s = true) (hA : ∀ a : Nat, a < s.heap.size → ¬ A a) : vx_Zq C n d A s s.heap := by
  refine ⟨va_Zqof hl hini h hA, ?_⟩
  obtain ⟨c, k, i, f, a, cell, h1, h2, h3, h4, h5, h6, h7, h8, h9⟩ := Cond.laysStatic_spec hl
  exact ⟨c, k, i, f, a, cell, h1, h2, h3, h4, h5, h6, h7, h8, h9, hA a (Array.getElem?_eq_some_iff.mp h5).1⟩
theorem vx_isRef {C n d : String} {v : Value} {A : Nat → Prop} {s : State} {args : Array Value} (h : va_Z C n d v A s s.heap) (hv : v.isRef = true) : (Cond.isRef (.static C n d)).before args s = true := by
  obtain ⟨cf, kf, fi, f, a, cell, h1, h2, h3, h4, h5, h6, h7, -⟩ := h
  have he : (Term.static C n d).eval args s none [] s = some v := by
    simp [Term.eval, State.fieldNamed?, h1, h2, h4, h5, h6, h7]
  simp only [Cond.before, Cond.holds, Cond.value, he]
  cases v <;> simp_all [Value.isRef]
theorem vx_isRefq {C n d : String} {A : Nat → Prop} {s : State} {args : Array Value} (h : va_Zq C n d A s s.heap) : (Cond.isRef (.static C n d)).before args s = true := by
  rcases h with h | ⟨t, h⟩
  · exact vx_isRef h rfl
  · exact vx_isRef h rfl
/-- the same frame, seen from here: as if the method were called anew in this heap -/
theorem vx_rebase {T : State} (X : Stand p l e R s m args below meth c T locs cells slots) {R' : Room} (hf : R'.frames ≤ R.frames) (hl : R'.locals ≤ R.locals) (hc : cells + R'.cells ≤ R.cells) (hs : slots + R'.slots ≤ R.slots) :
    Stand p l e R' ((T.setVm s.vm).setFrames (.invoking m args :: below)) m args below meth c T [] 0 0 := by
  have htop : (T.setVm s.vm).topJava?.isSome := X.here.top
  have hF : ((T.setVm s.vm).setFrames (.invoking m args :: below)).frames = .invoking m args :: below := State.frames_setFrames _ (State.cur_lt_of_top htop)
  obtain ⟨g₀, hg0⟩ := Option.isSome_iff_exists.mp htop
  obtain ⟨r, hr⟩ := State.topJava?_eq_some.mp hg0
  have hl9 : e.platform.stackLimits (T.setVm s.vm).me = e.platform.stackLimits s.me := X.limits
  have hb9 : (T.setVm s.vm).me.stackBytes = s.me.stackBytes := X.bytes
  refine ⟨X.admits, X.cas, X.clock, hF, ?_, X.hears, X.method, X.code, X.here, X.tail, X.warmed, ?_, ?_, ?_⟩
  · have h := X.room
    have hU : ((T.setVm s.vm).setFrames (.invoking m args :: below)).localsInUse = s.localsInUse := by
      rw [State.localsInUse_invoking hF (meth := meth) (c := c) X.method X.code, State.localsInUse_invoking X.frames X.method X.code]
    simp only [State.hasRoom, Bool.and_eq_true, decide_eq_true_eq] at h ⊢
    obtain ⟨⟨⟨⟨h1, h2, h3, h4, h5, h6⟩, h7⟩, h8⟩, h9⟩ := h
    rw [X.frames, List.length_cons] at h2 h3
    have q1 := X.heapSize
    have q2 := X.used
    simp only [hF, hU, List.length_cons, State.stackLimits_setFrames, State.stackBytes_setFrames, hl9, hb9]
    refine ⟨⟨⟨⟨by omega, by omega, by omega, by omega, by omega, h6⟩, ?_⟩, ?_⟩, X.book⟩
    · show T.heap.size + R'.cells ≤ e.platform.maxCells
      omega
    · show T.slotsUsed + R'.slots ≤ e.platform.maxSlots
      omega
  · rw [State.stackLimits_setFrames]; rfl
  · rw [State.stackBytes_setFrames]; rfl
  · refine ⟨?_, Nat.le_refl _, Nat.le_refl _, ?_, ?_, fun a c9 h9 => ⟨c9, h9, rfl, rfl, fun _ _ => rfl⟩⟩
    · obtain ⟨t, ht, -⟩ := State.frames_cons hr
      show T.setVm s.vm = { ((T.setVm s.vm).setFrames (.invoking m args :: below)).setFrames (T.setVm s.vm).frames with heap := T.heap, slotsUsed := T.slotsUsed }
      rw [State.setFrames_setFrames, State.setFrames_self ht]
      rfl
    · show T.slotsUsed = T.slotsUsed + ((T.heap.toList.drop T.heap.size).map (·.slots.size)).sum
      rw [List.drop_eq_nil_of_le (Nat.le_of_eq Array.length_toList)]
      rfl
    · show ((T.heap.toList.drop T.heap.size).map (·.slots.size)).sum ≤ 0
      rw [List.drop_eq_nil_of_le (Nat.le_of_eq Array.length_toList)]
      exact Nat.le_refl _
/-- 'throw new E()': new; dup; invokespecial; athrow -/
theorem vx_throw0 {cc : ByteArray} {pc : Nat} (hexec : p.tables.exec = Jvm.exec) (hb : c.code = cc) (hl : l.stackTraces = false) {own cls : String} {names : List String} {ik ic mc ms : Nat} {A : Nat → Prop}
    (hown : s.vm.findClass own = some m.cls) (hcls : Bundle.fit cls = true) (hnames : ∀ n ∈ names, Bundle.fit n = true)
    (hk : (Cond.classLink own ik cls).before args s = true) (hini : (Cond.initialized cls).before args s = true) (hat : ∀ w ∈ vx_at0 own ic cls names, w.before args s = true)
    (hgood : ∀ w ∈ Cond.classLink own ik cls :: Cond.initialized cls :: vx_at0 own ic cls names, vx_ot w = true)
    (hU : vx_Zq Bundle.tN "UNASSIGNED_STACK" Bundle.steD A s s.heap) (hN : vx_Zq Bundle.tN "SUPPRESSED_SENTINEL" Bundle.listD A s s.heap) (hS : va_S A s.heap H locs) (hsize : ls.size = c.maxLocals)
    (d0 : decode cc pc = .ok (.new ik, 3)) (d3 : decode cc (pc + 3) = .ok (.dup, 1)) (d4 : decode cc (pc + 4) = .ok (.invokespecial ic, 3)) (d7 : decode cc (pc + 7) = .ok (.athrow, 1))
    (hout : ∀ x ∈ c.exceptionTable.toList, covers x (pc + 7) = false)
    (hRframes : names.length + 3 < R.frames) (hRlocals : (rest.map fun v => v.category).sum + (13 * (names.length + 1) + 42) ≤ R.locals) (hRcells : cells + 1 ≤ R.cells) (hRslots : slots + 6 ≤ R.slots) (hlocks : meth.locks = false)
    (hx : ∀ t : State, s.vm.Alike t.vm → H.size ≤ t.heap.size → (∀ q : Nat, q < H.size → t.heap[q]? = H[q]?) → XC cls s t)
    (hf : ∀ z ∈ locs, free z.base) (hc : cells + 1 ≤ mc) (hs : slots + 6 ≤ ms) :
    W p l e R s m args below meth c H locs cells slots (vx_MQ below Qc XC args s mc ms free) (F0 m pc ls rest) := by
  intro T hT X
  have htr : e.platform.stackTraces = false := (show e.platform.stackTraces = l.stackTraces by rw [X.admits.platform]).trans hl
  have Y := vx_rebase X (R' := { frames := R.frames, locals := R.locals, cells := 1, slots := 6 }) (Nat.le_refl _) (Nat.le_refl _) hRcells hRslots
  obtain ⟨s', hA⟩ : ∃ z, z = (T.setVm s.vm).setFrames (.invoking m args :: below) := ⟨_, rfl⟩
  rw [← hA] at Y
  have hvm : s'.vm = s.vm := by rw [hA]; rfl
  have hhp : s'.heap = H := by rw [hA]; exact hT
  have hW0 : s.WarmedH s'.vm := by rw [hvm]; exact State.WarmedH.refl s
  have hat' : ∀ w ∈ vx_at0 own ic cls names, w.before args s' = true := fun w hw => vx_ot_at hW0 hvm.symm (hgood w (List.mem_cons_of_mem _ (List.mem_cons_of_mem _ hw))) (hat w hw)
  have hk' : (Cond.classLink own ik cls).before args s' = true := vx_ot_at hW0 hvm.symm (hgood _ List.mem_cons_self) hk
  have hini' : (Cond.initialized cls).before args s' = true := vx_ot_at hW0 hvm.symm (hgood _ (List.mem_cons_of_mem _ List.mem_cons_self)) hini
  have hU' : vx_Zq Bundle.tN "UNASSIGNED_STACK" Bundle.steD A s' s'.heap := by rw [hhp]; exact vx_Zq.moved hW0.alike (hU.kept hS.2.1)
  have hN' : vx_Zq Bundle.tN "SUPPRESSED_SENTINEL" Bundle.listD A s' s'.heap := by rw [hhp]; exact vx_Zq.moved hW0.alike (hN.kept hS.2.1)
  have h : ∀ w ∈ Bundle.ownAtoms0 own ic cls names, w.before args s' = true := vx_own hat' (vx_isRefq hU'.1) (vx_isRefq hN'.1) hU'.2.word hN'.2.word
  have hown' : s'.vm.findClass own = some m.cls := by rw [hvm]; exact hown
  have hins : (Cond.instantiable cls 6).before args s' = true := h _ (by simp [Bundle.ownAtoms0])
  obtain ⟨vm₁, cX, kX, hfX, hkX, -, -, X₁, st1⟩ := Y.newCold hexec (own := own) (C := cls) (index := ik) (n := 6) hown' hk' hins hini'
    (g := F0 m pc ls rest) rfl (by rw [hb]; exact d0) (Nat.le_refl _) (Nat.le_refl _)
  generalize hT1 : (T.setVm vm₁).pushCell { cls := cX, slots := kX.instanceTypes.map defaultValue, vm := .none } = T1 at X₁ st1
  have hcat : (Value.ref T.heap.size).category = 1 := rfl
  have hcellA : T1.heap[T.heap.size]? = some (freshCell cX kX) := by rw [← hT1]; exact State.heap_pushCell_size _ _
  have d3' : decode c.code (pc + 3) = .ok (.dup, 1) := by rw [hb]; exact d3
  obtain ⟨U, hsteps, hrun, hend, hW, hsame, ce, hce, hO⟩ := X₁.ctorThrow0 hexec htr (own := own) (cls := cls) (names := names) (ic := ic) hown' hcls hnames h (fun x hx => nomatch hx) hfX hkX hcellA (by rw [hhp, hT]; exact Nat.le_refl _)
    (g := { method := m, pc := pc + 4, locals := ls, stack := .ref T.heap.size :: .ref T.heap.size :: rest, locked := none }) rfl hsize rfl rfl (rest := rest) rfl
    (by rw [hb]; exact d4) (by rw [hb]; exact d7) hout hRframes (by simp only [List.map_cons, List.sum_cons, hcat]; omega) hlocks
  obtain ⟨f1, f2⟩ := vx_frame hsame
  rw [hhp] at f1 f2
  have hWs : s.WarmedH U.vm := State.WarmedH.trans hW0 hW
  have hcl : s.vm.findClass cls = some ce.cls := by
    have h9 := hO.cls
    rw [hvm] at h9
    exact h9
  have hall : s.sameButNew ({ U with vm := s.vm } : State) locs mc ms := by
    subst hA
    obtain ⟨e1, e2⟩ := hsame
    rw [State.setFrames_setFrames] at e1
    have h2 : (T.setVm s.vm).sameButNew ({ U with vm := s.vm } : State) [] (0 + 1) (0 + 6) := ⟨e1, e2⟩
    have h3 := X.same.trans h2
    rw [List.append_nil] at h3
    exact h3.mono hc hs
  refine ⟨U, ?_, .threw T.heap.size, hrun, hend, Or.inr ⟨T.heap.size, rfl, cls, ce, locs, hx U hWs.alike f1 (fun q hq => f2 q hq (fun z hz => nomatch hz)), hce, hO.vm, hcl, hWs, hall, hf⟩⟩
  refine st1 _ ?_
  show Steps p.tables e below (T1.setTop { method := m, pc := pc + 3, locals := ls, stack := .ref T.heap.size :: rest, locked := none }) _
  jvm_step X₁.here [X₁.here.top, hexec, d3', Value.category]
  exact hsteps
/-- 'throw new E("text")': new; dup; ldc; invokespecial; athrow -/
theorem vx_throwS {cc : ByteArray} {pc : Nat} (hexec : p.tables.exec = Jvm.exec) (hb : c.code = cc) (hl : l.stackTraces = false) {own cls text : String} {names : List String} {ik is ic mc ms sa : Nat} {A : Nat → Prop}
    (hown : s.vm.findClass own = some m.cls) (hcls : Bundle.fit cls = true) (hnames : ∀ n ∈ names, Bundle.fit n = true)
    (hk : (Cond.classLink own ik cls).before args s = true) (hini : (Cond.initialized cls).before args s = true) (hstr : vk_R own is text sa s) (hat : ∀ w ∈ vx_atS own ic cls names, w.before args s = true)
    (hgood : ∀ w ∈ Cond.classLink own ik cls :: Cond.initialized cls :: vx_atS own ic cls names, vx_ot w = true)
    (hU : vx_Zq Bundle.tN "UNASSIGNED_STACK" Bundle.steD A s s.heap) (hN : vx_Zq Bundle.tN "SUPPRESSED_SENTINEL" Bundle.listD A s s.heap) (hS : va_S A s.heap H locs) (hsize : ls.size = c.maxLocals)
    (d0 : decode cc pc = .ok (.new ik, 3)) (d3 : decode cc (pc + 3) = .ok (.dup, 1)) (d4 : decode cc (pc + 4) = .ok (.ldc is, 2)) (d6 : decode cc (pc + 6) = .ok (.invokespecial ic, 3)) (d9 : decode cc (pc + 9) = .ok (.athrow, 1))
    (hout : ∀ x ∈ c.exceptionTable.toList, covers x (pc + 9) = false)
    (hRframes : names.length + 3 < R.frames) (hRlocals : (rest.map fun v => v.category).sum + (13 * (names.length + 1) + 43) ≤ R.locals) (hRcells : cells + 1 ≤ R.cells) (hRslots : slots + 6 ≤ R.slots) (hlocks : meth.locks = false)
    (hx : ∀ t : State, s.vm.Alike t.vm → H.size ≤ t.heap.size → (∀ q : Nat, q < H.size → t.heap[q]? = H[q]?) → XC cls s t)
    (hf : ∀ z ∈ locs, free z.base) (hc : cells + 1 ≤ mc) (hs : slots + 6 ≤ ms) :
    W p l e R s m args below meth c H locs cells slots (vx_MQ below Qc XC args s mc ms free) (F0 m pc ls rest) := by
  intro T hT X
  have htr : e.platform.stackTraces = false := (show e.platform.stackTraces = l.stackTraces by rw [X.admits.platform]).trans hl
  have Y := vx_rebase X (R' := { frames := R.frames, locals := R.locals, cells := 1, slots := 6 }) (Nat.le_refl _) (Nat.le_refl _) hRcells hRslots
  obtain ⟨s', hA⟩ : ∃ z, z = (T.setVm s.vm).setFrames (.invoking m args :: below) := ⟨_, rfl⟩
  rw [← hA] at Y
  have hvm : s'.vm = s.vm := by rw [hA]; rfl
  have hhp : s'.heap = H := by rw [hA]; exact hT
  have hW0 : s.WarmedH s'.vm := by rw [hvm]; exact State.WarmedH.refl s
  have hat' : ∀ w ∈ vx_atS own ic cls names, w.before args s' = true := fun w hw => vx_ot_at hW0 hvm.symm (hgood w (List.mem_cons_of_mem _ (List.mem_cons_of_mem _ hw))) (hat w hw)
  have hk' : (Cond.classLink own ik cls).before args s' = true := vx_ot_at hW0 hvm.symm (hgood _ List.mem_cons_self) hk
  have hini' : (Cond.initialized cls).before args s' = true := vx_ot_at hW0 hvm.symm (hgood _ (List.mem_cons_of_mem _ List.mem_cons_self)) hini
  have hU' : vx_Zq Bundle.tN "UNASSIGNED_STACK" Bundle.steD A s' s'.heap := by rw [hhp]; exact vx_Zq.moved hW0.alike (hU.kept hS.2.1)
  have hN' : vx_Zq Bundle.tN "SUPPRESSED_SENTINEL" Bundle.listD A s' s'.heap := by rw [hhp]; exact vx_Zq.moved hW0.alike (hN.kept hS.2.1)
  have h : ∀ w ∈ Bundle.ownAtoms own ic cls names, w.before args s' = true := vx_own hat' (vx_isRefq hU'.1) (vx_isRefq hN'.1) hU'.2.word hN'.2.word
  have hown' : s'.vm.findClass own = some m.cls := by rw [hvm]; exact hown
  have hins : (Cond.instantiable cls 6).before args s' = true := h _ (by simp [Bundle.ownAtoms])
  obtain ⟨vm₁, cX, kX, hfX, hkX, -, -, X₁, st1⟩ := Y.newCold hexec (own := own) (C := cls) (index := ik) (n := 6) hown' hk' hins hini'
    (g := F0 m pc ls rest) rfl (by rw [hb]; exact d0) (Nat.le_refl _) (Nat.le_refl _)
  generalize hT1 : (T.setVm vm₁).pushCell { cls := cX, slots := kX.instanceTypes.map defaultValue, vm := .none } = T1 at X₁ st1
  have hcat : (Value.ref T.heap.size).category = 1 := rfl
  have hcellA : T1.heap[T.heap.size]? = some (freshCell cX kX) := by rw [← hT1]; exact State.heap_pushCell_size _ _
  have d3' : decode c.code (pc + 3) = .ok (.dup, 1) := by rw [hb]; exact d3
  have d4' : decode c.code (pc + 4) = .ok (.ldc is, 2) := by rw [hb]; exact d4
  have hstr' : vk_R own is text sa s' := vk_R.warm hW0 hstr
  obtain ⟨U, hsteps, hrun, hend, hW, hsame, ce, hce, hO⟩ := X₁.ctorThrowS hexec htr (own := own) (cls := cls) (names := names) (ic := ic) hown' hcls hnames h (fun x hx => nomatch hx) hfX hkX hcellA (by rw [hhp, hT]; exact Nat.le_refl _) (msg := .ref sa) rfl
    (g := { method := m, pc := pc + 6, locals := ls, stack := .ref sa :: .ref T.heap.size :: .ref T.heap.size :: rest, locked := none }) rfl hsize rfl rfl (rest := rest) rfl
    (by rw [hb]; exact d6) (by rw [hb]; exact d9) hout hRframes (by simp only [List.map_cons, List.sum_cons, hcat]; omega) hlocks
  obtain ⟨f1, f2⟩ := vx_frame hsame
  rw [hhp] at f1 f2
  have hWs : s.WarmedH U.vm := State.WarmedH.trans hW0 hW
  have hcl : s.vm.findClass cls = some ce.cls := by
    have h9 := hO.cls
    rw [hvm] at h9
    exact h9
  have hall : s.sameButNew ({ U with vm := s.vm } : State) locs mc ms := by
    subst hA
    obtain ⟨e1, e2⟩ := hsame
    rw [State.setFrames_setFrames] at e1
    have h2 : (T.setVm s.vm).sameButNew ({ U with vm := s.vm } : State) [] (0 + 1) (0 + 6) := ⟨e1, e2⟩
    have h3 := X.same.trans h2
    rw [List.append_nil] at h3
    exact h3.mono hc hs
  refine ⟨U, ?_, .threw T.heap.size, hrun, hend, Or.inr ⟨T.heap.size, rfl, cls, ce, locs, hx U hWs.alike f1 (fun q hq => f2 q hq (fun z hz => nomatch hz)), hce, hO.vm, hcl, hWs, hall, hf⟩⟩
  refine st1 _ ?_
  show Steps p.tables e below (T1.setTop { method := m, pc := pc + 3, locals := ls, stack := .ref T.heap.size :: rest, locked := none }) _
  jvm_step X₁.here [X₁.here.top, hexec, d3', Value.category]
  exact X₁.ldcString hexec (own := own) (text := text) (index := is) (a := sa) hown' hstr'.1 hstr'.2
    (g := { method := m, pc := pc + 4, locals := ls, stack := .ref T.heap.size :: .ref T.heap.size :: rest, locked := none }) rfl d4' _ hsteps
/-- 'throw new E("text")', the text by a wide index -/
theorem vx_throwSW {cc : ByteArray} {pc : Nat} (hexec : p.tables.exec = Jvm.exec) (hb : c.code = cc) (hl : l.stackTraces = false) {own cls text : String} {names : List String} {ik is ic mc ms sa : Nat} {A : Nat → Prop}
    (hown : s.vm.findClass own = some m.cls) (hcls : Bundle.fit cls = true) (hnames : ∀ n ∈ names, Bundle.fit n = true)
    (hk : (Cond.classLink own ik cls).before args s = true) (hini : (Cond.initialized cls).before args s = true) (hstr : vk_R own is text sa s) (hat : ∀ w ∈ vx_atS own ic cls names, w.before args s = true)
    (hgood : ∀ w ∈ Cond.classLink own ik cls :: Cond.initialized cls :: vx_atS own ic cls names, vx_ot w = true)
    (hU : vx_Zq Bundle.tN "UNASSIGNED_STACK" Bundle.steD A s s.heap) (hN : vx_Zq Bundle.tN "SUPPRESSED_SENTINEL" Bundle.listD A s s.heap) (hS : va_S A s.heap H locs) (hsize : ls.size = c.maxLocals)
    (d0 : decode cc pc = .ok (.new ik, 3)) (d3 : decode cc (pc + 3) = .ok (.dup, 1)) (d4 : decode cc (pc + 4) = .ok (.ldc_w is, 3)) (d7 : decode cc (pc + 7) = .ok (.invokespecial ic, 3)) (d10 : decode cc (pc + 10) = .ok (.athrow, 1))
    (hout : ∀ x ∈ c.exceptionTable.toList, covers x (pc + 10) = false)
    (hRframes : names.length + 3 < R.frames) (hRlocals : (rest.map fun v => v.category).sum + (13 * (names.length + 1) + 43) ≤ R.locals) (hRcells : cells + 1 ≤ R.cells) (hRslots : slots + 6 ≤ R.slots) (hlocks : meth.locks = false)
    (hx : ∀ t : State, s.vm.Alike t.vm → H.size ≤ t.heap.size → (∀ q : Nat, q < H.size → t.heap[q]? = H[q]?) → XC cls s t)
    (hf : ∀ z ∈ locs, free z.base) (hc : cells + 1 ≤ mc) (hs : slots + 6 ≤ ms) :
    W p l e R s m args below meth c H locs cells slots (vx_MQ below Qc XC args s mc ms free) (F0 m pc ls rest) := by
  intro T hT X
  have htr : e.platform.stackTraces = false := (show e.platform.stackTraces = l.stackTraces by rw [X.admits.platform]).trans hl
  have Y := vx_rebase X (R' := { frames := R.frames, locals := R.locals, cells := 1, slots := 6 }) (Nat.le_refl _) (Nat.le_refl _) hRcells hRslots
  obtain ⟨s', hA⟩ : ∃ z, z = (T.setVm s.vm).setFrames (.invoking m args :: below) := ⟨_, rfl⟩
  rw [← hA] at Y
  have hvm : s'.vm = s.vm := by rw [hA]; rfl
  have hhp : s'.heap = H := by rw [hA]; exact hT
  have hW0 : s.WarmedH s'.vm := by rw [hvm]; exact State.WarmedH.refl s
  have hat' : ∀ w ∈ vx_atS own ic cls names, w.before args s' = true := fun w hw => vx_ot_at hW0 hvm.symm (hgood w (List.mem_cons_of_mem _ (List.mem_cons_of_mem _ hw))) (hat w hw)
  have hk' : (Cond.classLink own ik cls).before args s' = true := vx_ot_at hW0 hvm.symm (hgood _ List.mem_cons_self) hk
  have hini' : (Cond.initialized cls).before args s' = true := vx_ot_at hW0 hvm.symm (hgood _ (List.mem_cons_of_mem _ List.mem_cons_self)) hini
  have hU' : vx_Zq Bundle.tN "UNASSIGNED_STACK" Bundle.steD A s' s'.heap := by rw [hhp]; exact vx_Zq.moved hW0.alike (hU.kept hS.2.1)
  have hN' : vx_Zq Bundle.tN "SUPPRESSED_SENTINEL" Bundle.listD A s' s'.heap := by rw [hhp]; exact vx_Zq.moved hW0.alike (hN.kept hS.2.1)
  have h : ∀ w ∈ Bundle.ownAtoms own ic cls names, w.before args s' = true := vx_own hat' (vx_isRefq hU'.1) (vx_isRefq hN'.1) hU'.2.word hN'.2.word
  have hown' : s'.vm.findClass own = some m.cls := by rw [hvm]; exact hown
  have hins : (Cond.instantiable cls 6).before args s' = true := h _ (by simp [Bundle.ownAtoms])
  obtain ⟨vm₁, cX, kX, hfX, hkX, -, -, X₁, st1⟩ := Y.newCold hexec (own := own) (C := cls) (index := ik) (n := 6) hown' hk' hins hini'
    (g := F0 m pc ls rest) rfl (by rw [hb]; exact d0) (Nat.le_refl _) (Nat.le_refl _)
  generalize hT1 : (T.setVm vm₁).pushCell { cls := cX, slots := kX.instanceTypes.map defaultValue, vm := .none } = T1 at X₁ st1
  have hcat : (Value.ref T.heap.size).category = 1 := rfl
  have hcellA : T1.heap[T.heap.size]? = some (freshCell cX kX) := by rw [← hT1]; exact State.heap_pushCell_size _ _
  have d3' : decode c.code (pc + 3) = .ok (.dup, 1) := by rw [hb]; exact d3
  have d4' : decode c.code (pc + 4) = .ok (.ldc_w is, 3) := by rw [hb]; exact d4
  have hstr' : vk_R own is text sa s' := vk_R.warm hW0 hstr
  obtain ⟨U, hsteps, hrun, hend, hW, hsame, ce, hce, hO⟩ := X₁.ctorThrowS hexec htr (own := own) (cls := cls) (names := names) (ic := ic) hown' hcls hnames h (fun x hx => nomatch hx) hfX hkX hcellA (by rw [hhp, hT]; exact Nat.le_refl _) (msg := .ref sa) rfl
    (g := { method := m, pc := pc + 7, locals := ls, stack := .ref sa :: .ref T.heap.size :: .ref T.heap.size :: rest, locked := none }) rfl hsize rfl rfl (rest := rest) rfl
    (by rw [hb]; exact d7) (by rw [hb]; exact d10) hout hRframes (by simp only [List.map_cons, List.sum_cons, hcat]; omega) hlocks
  obtain ⟨f1, f2⟩ := vx_frame hsame
  rw [hhp] at f1 f2
  have hWs : s.WarmedH U.vm := State.WarmedH.trans hW0 hW
  have hcl : s.vm.findClass cls = some ce.cls := by
    have h9 := hO.cls
    rw [hvm] at h9
    exact h9
  have hall : s.sameButNew ({ U with vm := s.vm } : State) locs mc ms := by
    subst hA
    obtain ⟨e1, e2⟩ := hsame
    rw [State.setFrames_setFrames] at e1
    have h2 : (T.setVm s.vm).sameButNew ({ U with vm := s.vm } : State) [] (0 + 1) (0 + 6) := ⟨e1, e2⟩
    have h3 := X.same.trans h2
    rw [List.append_nil] at h3
    exact h3.mono hc hs
  refine ⟨U, ?_, .threw T.heap.size, hrun, hend, Or.inr ⟨T.heap.size, rfl, cls, ce, locs, hx U hWs.alike f1 (fun q hq => f2 q hq (fun z hz => nomatch hz)), hce, hO.vm, hcl, hWs, hall, hf⟩⟩
  refine st1 _ ?_
  show Steps p.tables e below (T1.setTop { method := m, pc := pc + 3, locals := ls, stack := .ref T.heap.size :: rest, locked := none }) _
  jvm_step X₁.here [X₁.here.top, hexec, d3', Value.category]
  exact X₁.ldcStringW hexec (own := own) (text := text) (index := is) (a := sa) hown' hstr'.1 hstr'.2
    (g := { method := m, pc := pc + 4, locals := ls, stack := .ref T.heap.size :: .ref T.heap.size :: rest, locked := none }) rfl d4' _ hsteps
end Ends
section Bodies
variable {l : Launch}
theorem vx_ofW {y : MethodName} {ws ws' : List Cond} {rm : Room} {Pc : Array Value → State → Prop} {Qc : Array Value → State → Outcome → State → Prop} {XC : String → State → State → Prop} {mc ms : Nat} {free : Addr → Prop} {cc : ByteArray} {maxL : Nat} {ret : Option FieldType}
    (hy : plainName y.cls = true) (hw : ws = Cond.code y cc maxL ret :: ws')
    (body : ∀ p e s m args below meth c s₁, BodyLoose p l y (headSpec ws rm) cc maxL ret e s m args below meth c s₁ → c.maxLocals = maxL → (∀ x ∈ c.exceptionTable.toList, False) → Pc args s →
      W p l e (headSpec ws rm).room s m args below meth c s.heap [] 0 0 (vx_MQ below Qc XC args s mc ms free) (entryFrame m args maxL)) : vx_Met l y ws rm Pc Qc XC mc ms free := by
  refine MetFree.of_bodyS (code := cc) (maxLocals := maxL) (ret := ret) hy ?_ ?_
  · intro args s m h hn
    obtain ⟨meth, c, h1, h2, h3, h4, h5, h6, -, -⟩ := Cond.code_spec hn (atoms_spec (ws := ws) h _ (by rw [hw]; exact List.mem_cons_self))
    exact ⟨meth, c, h1, h2, h3, h4, h5, h6⟩
  · intro p e s m args below meth c s₁ B hml hP _
    have hh0 : s₁.heap = s.heap := by rw [B.state]; rfl
    have ht : ∀ x ∈ c.exceptionTable.toList, False := by
      obtain ⟨meth9, c9, h1, h2, -, -, -, -, h7, -⟩ := Cond.code_spec B.named (atoms_spec (ws := ws) B.pre _ (by rw [hw]; exact List.mem_cons_self))
      cases Option.some.inj (h1.symm.trans B.method)
      cases Option.some.inj (h2.symm.trans (Stand.of_body B).code)
      intro x hx
      rw [Array.isEmpty_iff.mp h7] at hx
      cases hx
    obtain ⟨t, a1, o, b1, b2, b3⟩ := body p e s m args below meth c s₁ B hml ht hP s₁ hh0 (Stand.of_body B)
    exact ⟨t, o, a1, b1, b2, b3⟩
/-- the table of a body with handlers -/
theorem vx_table {p : Program} {x y : MethodName} {S : Spec} {cc bytes : ByteArray} {maxL maxL' : Nat} {ret ret' : Option FieldType} {e : Env} {s s₁ : State} {m : MethodId} {args : Array Value} {below : List Frame} {meth : Method} {c : Code} {hh : List (Nat × Nat × Nat × Nat)}
    (B : BodyLoose p l y S cc maxL ret e s m args below meth c s₁) (h : (Cond.codeWith y bytes maxL' ret' hh).before args s = true) : c.exceptionTable.toList = tableOf hh := by
  obtain ⟨m9, meth9, c9, hn9, h1, h2, -, -, h6, -⟩ := Cond.codeWith_spec h
  cases Option.some.inj (hn9.symm.trans B.named)
  cases Option.some.inj (h1.symm.trans B.method)
  cases Option.some.inj (h2.symm.trans (Stand.of_body B).code)
  rw [← h6, table_eq]
end Bodies
end VXA
/-! ===== END ===== -/
/-! ===== BEGIN a static call of a method with an exception table ===== -/
section VXS
variable {p : Program} {l : Launch} {e : Env} {R : Room} {s : State} {m : MethodId} {args : Array Value} {below : List Frame} {meth : Method} {c : Code} {T : State} {H : Heap} {locs : List Loc} {cells slots : Nat}
abbrev vx_CSW (R : Room) (s : State) (args : Array Value) (own : String) (index : Nat) (y : MethodName) (bytes : ByteArray) (maxL : Nat) (ret : Option FieldType) (hh : List (Nat × Nat × Nat × Nat)) (ws : List Cond) (rm : Room) (mc ms n : Nat) : Prop :=
  (rm.cells = mc ∧ rm.slots = ms ∧ rm.frames + 1 ≤ R.frames ∧ 8 + (maxL + 11) + rm.locals ≤ R.locals ∧ (∀ w ∈ ws, ∀ (a' : Array Value) (U : State), s.WarmedH U.vm → w.before a' U = true) ∧ Cond.codeWith y bytes maxL ret hh ∈ ws) ∧
  (Cond.codeWith y bytes maxL ret hh).before args s = true ∧ (Cond.initialized y.cls).before args s = true ∧ (y.cls ≠ "java/lang/invoke/MethodHandle" ∧ y.cls ≠ "java/lang/invoke/VarHandle") ∧
  (∀ sig, parseMethodDescriptor y.desc = some sig → n = sig.parameters.length) ∧ (Cond.methodLink own index y).before args s = true ∧ (Cond.static y).before args s = true
theorem vx_cwSW {own : String} {index maxL mc ms : Nat} {y : MethodName} {bytes : ByteArray} {ret : Option FieldType} {hh : List (Nat × Nat × Nat × Nat)} {Ts ws ws' : List Cond} {rm : Room} (n : Nat) (ht : ∀ w ∈ Ts, w.before args s = true) (hT : GoodIn Ts (va_wsS own index y ws)) (hw : ws = Cond.codeWith y bytes maxL ret hh :: ws') (hrc : rm.cells = mc) (hrs : rm.slots = ms)
    (hd : y.cls ≠ "java/lang/invoke/MethodHandle" ∧ y.cls ≠ "java/lang/invoke/VarHandle" ∧ (parseMethodDescriptor y.desc).map (fun d => d.parameters.length) = some n) (hR : rm.frames + 1 ≤ R.frames ∧ 8 + (maxL + 11) + rm.locals ≤ R.locals) :
    vx_CSW R s args own index y bytes maxL ret hh ws rm mc ms n := by
  have ok : ∀ w ∈ va_wsS own index y ws, w.before args s = true := fun w h => ht w (hT w h).1
  have hG : GoodIn Ts ws := fun w h => hT w (by unfold va_wsS; exact List.mem_append_right _ h)
  have hc : Cond.codeWith y bytes maxL ret hh ∈ ws := by rw [hw]; exact List.mem_cons_self
  refine ⟨⟨hrc, hrs, hR.1, hR.2, pay_in ht hG, hc⟩, ht _ (hG _ hc).1, ok _ (by simp [va_wsS]), ⟨hd.1, hd.2.1⟩, fun sig h => ?_, ok _ (by simp [va_wsS]), ok _ (by simp [va_wsS])⟩
  have h2 := hd.2.2
  rw [h] at h2
  exact (Option.some.inj h2).symm
theorem vx_callSW (X : Stand p l e R s m args below meth c T locs cells slots) (hexec : p.tables.exec = Jvm.exec) {own : String} {index : Nat} {y : MethodName} {bytes : ByteArray} {maxL : Nat} {ret : Option FieldType} {hh : List (Nat × Nat × Nat × Nat)}
    (hown : s.vm.findClass own = some m.cls) (hlink : (Cond.methodLink own index y).before args s = true) (hstat : (Cond.static y).before args s = true) (hinit : (Cond.initialized y.cls).before args s = true)
    (hcode : (Cond.codeWith y bytes maxL ret hh).before args s = true) (hy : y.cls ≠ "java/lang/invoke/MethodHandle" ∧ y.cls ≠ "java/lang/invoke/VarHandle")
    {W9 : Nat} {Pre : Pt → Array Value → Prop} {Post : Pt → Array Value → Option Value → Pt → Prop} (hK : Back l R p e below s args y 3 W9 Pre Post)
    {g : JFrame} (hg : g.method = m) (hsize : g.locals.size = c.maxLocals) {argsL rest : List Value} (hlen : ∀ sig, parseMethodDescriptor y.desc = some sig → argsL.length = sig.parameters.length)
    (hstack : g.stack = argsL.reverse ++ rest) (hW : 2 * g.monitorRoom + (rest.map fun v => v.category).sum ≤ W9) (hdg : decode c.code g.pc = .ok (.invokestatic index, 3))
    (hpre : ∀ vm₁, s.WarmedH vm₁ → Pre ⟨T.setVm vm₁, locs, cells, slots⟩ argsL.toArray) :
    ∃ (v : Option Value) (vm₁ : Vm) (B : Pt), s.WarmedH vm₁ ∧ Stand p l e R s m args below meth c B.U B.locs B.cells B.slots ∧ Post ⟨T.setVm vm₁, locs, cells, slots⟩ argsL.toArray v B ∧
      ∀ target, Steps p.tables e below (B.U.setTop { g with pc := g.pc + 3, stack := v.toList ++ rest }) target → Steps p.tables e below (T.setTop g) target := by
  obtain ⟨mk, methM, cM, hnamed, hmethM, -, -, -, -, -, -, hsigM⟩ := Cond.codeWith_spec hcode
  have hstatic : methM.isStatic = true := Cond.static_spec hnamed hmethM hstat
  obtain ⟨kP, hkP, -⟩ := className_of_methodNamed hnamed
  have hinitP : kP.init = .initialized := Cond.initialized_spec (findClass_of_methodNamed hnamed) hkP hinit
  obtain ⟨vm₁, X₁, hstep₁⟩ := X.invokestatic hexec hown hlink hnamed hmethM hstatic hkP hinitP hy (g := g) hg (argsL := argsL) (rest := rest) (hlen _ hsigM) hstack hdg
  obtain ⟨v, B, X', hpost, hsteps⟩ := hK m meth c ⟨T.setVm vm₁, locs, cells, slots⟩ { g with stack := rest } (.invokestatic index) mk argsL.toArray X₁ hg hsize hdg hW (X₁.named hnamed) (hpre vm₁ X₁.warmed)
  exact ⟨v, vm₁, B, X₁.warmed, X', hpost, fun target h => hstep₁ _ fun acts => by rw [doInvoke_state]; exact hsteps.trans h⟩
theorem vx_runSW {y : MethodName} {bytes cc : ByteArray} {maxL nL mc ms n index : Nat} {ret : Option FieldType} {hh : List (Nat × Nat × Nat × Nat)} {ws : List Cond} {rm : Room} {Pc : Array Value → State → Prop} {Qc : Array Value → State → Outcome → State → Prop} {free : Addr → Prop} {Ts : List Cond} {own : String} {As rest : List Value} {g : JFrame}
    (S : CallFix p m c cc nL s args Ts own) (hM : Met l y ws rm Pc Qc mc ms free) (cw : vx_CSW R s args own index y bytes maxL ret hh ws rm mc ms n) (hp : PreS s H Pc As)
    (hg : g.method = m) (hn : As.length = n) (hsize : g.locals.size = nL) (hstack : g.stack = As.reverse ++ rest) (hW : 2 * g.monitorRoom + (rest.map fun v => v.category).sum ≤ 8) (hdg : decode cc g.pc = .ok (.invokestatic index, 3)) (hf : cells + mc ≤ R.cells ∧ slots + ms ≤ R.slots) :
    va_Run p l e R s m args below meth c H locs cells slots mc ms g rest (Qc As.toArray) (free) := by
  obtain ⟨⟨hrc, hrs, hfr, hlo, hws, hcw⟩, hcode, hini, hy, hlen, hl, hstt⟩ := cw
  have hK : Back l R p e below s args y 3 8 (PreOf R mc ms Pc) (PostOf Qc mc ms free) := va_backW (hh := hh) (bytes := bytes) (maxL := maxL) (ret := ret) hM hp.1 hrc hrs hfr hlo hws hcw (fun a' U hW => word_at hW (Or.inl (by first | rfl | simp [Cond.onTables, Cond.keeps, Cond.steady])) hini)
  obtain ⟨hx, hb, hml, ho, -⟩ := S
  intro T hT X
  obtain ⟨v, vm₁, ⟨U', l2, c2, s2⟩, hW₁, X', ⟨g', mk, t, L, e1, e2, hq, h1, hL, h2, h3⟩, st⟩ := vx_callSW X hx (hh := hh) (bytes := bytes) (maxL := maxL) (ret := ret) ho hl hstt hini hcode hy hK hg (hsize.trans hml.symm) (argsL := As) (rest := rest) (fun sig h => hn.trans (hlen sig h)) hstack hW (by rw [hb]; exact hdg)
    (fun vm₁ hW₁ => ⟨hf.1, hf.2, hp.2 (T.setVm vm₁) hT hW₁⟩)
  dsimp only [Pt.U, Pt.locs, Pt.cells, Pt.slots] at X' e1 e2 h1 h2 h3 st
  subst h1; subst h2; subst h3
  exact ⟨v, (T.setVm vm₁).calling g' mk As.toArray, t, U', L, hT, X', hL, e1, e2, hq, st⟩
/-- not caught here, past rows that name other classes: it goes on to the caller -/
theorem vx_outP {p : Program} {l : Launch} {e : Env} {R : Room} {s : State} {m : MethodId} {args : Array Value} {below : List Frame} {meth : Method} {c : Code} {H : Heap} {locs : List Loc} {cells slots : Nat} {free : Addr → Prop} {ls : Array Slot} {rest : List Value} {Qc : Array Value → State → Outcome → State → Prop} {XC : String → State → State → Prop}
    {pc : Nat} {own E : String} {ce : Cell} {q : Addr} {mc ms : Nat} (hown : s.vm.findClass own = some m.cls) (hlocks : meth.locks = false)
    (hpass : ∀ z ∈ c.exceptionTable.toList, covers z pc = false ∨ (z.catchType ≠ 0 ∧ ∃ nm : String, (Cond.classLink own z.catchType nm).before args s = true ∧ va_Nc E nm s)) (hcell : H[q]? = some ce) (hv : ce.vm = .none) (hcl : s.vm.findClass E = some ce.cls)
    (hx : ∀ t : State, t.heap = H → s.vm.Alike t.vm → XC E s t) (hf : ∀ z ∈ locs, free z.base) (hc : cells ≤ mc) (hs : slots ≤ ms) :
    vx_W p l e R s m args below meth c H locs cells slots (vx_MQ below Qc XC args s mc ms free) (F0 m pc ls rest) q := by
  intro T hT X
  have hpl : e.platform.magicAccessors = ({} : Platform).magicAccessors := by rw [X.admits.platform]
  obtain ⟨vm', hW', X', st⟩ := X.outThrough hlocks q (g := F0 m pc ls rest) rfl rfl rfl (cell := ce) (by rw [hT]; exact hcell) (by rw [hv]; rfl)
    (by obtain ⟨k9, h9, -⟩ := Vm.findClass_spec hcl; exact ⟨k9, h9⟩) (fun z hz => by
      rcases hpass z hz with h | ⟨hz0, nm, hl1, hn1⟩
      · exact Or.inl h
      · obtain ⟨c6, hc6, hcl6⟩ := Cond.classLink_spec hown hl1 e.platform hpl
        obtain ⟨a8, b8, h1, h2, h3⟩ := hn1
        cases Option.some.inj (h1.symm.trans hcl)
        cases Option.some.inj (h2.symm.trans hc6)
        exact Or.inr ⟨hz0, _, hcl6, h3⟩)
  obtain ⟨g₀, hfr⟩ := X'.frames_eq
  have hcell9 : ((T.setVm vm').setFrames (.throwing q :: below)).heap[q]? = some ce := by
    show T.heap[q]? = some ce
    rw [hT]; exact hcell
  have hend : Ended ((T.setVm vm').setFrames (.throwing q :: below)) below (.threw q) := State.frames_setFrames _ (State.cur_lt_of_frames hfr)
  refine ⟨(T.setVm vm').setFrames (.throwing q :: below), ?_, .threw q, X'.here.running, hend, Or.inr ⟨q, rfl, E, ce, locs, hx _ hT (X'.ends _).1.alike, hcell9, hv, hcl, (X'.ends _).1, (X'.ends _).2.mono hc hs, hf⟩⟩
  rw [X.pushThrowing_eq]
  exact st
/-- a thing of a world lies in the heap -/
theorem vx_lt {D : va_G} {cl : List vw_C} {ws : va_W} {H1 : Heap} (h : va_P D cl ws H1) {k : Nat} {q : Nat × va_E} (hk : ws[k]? = some q) : q.1 < H1.size := (h k q hk).lt
end VXS
/-! ===== END ===== -/
/-! ===== BEGIN methods with a table of their own: called by a name, returning or throwing ===== -/
section VXH
/-! vx_backW, vx_callVX, vx_callSX, vx_callVW, vx_runVW, vx_runVX, vx_runSX, vx_ofWH follow the same proofs as their sisters above (Free/Laws.lean, Shelf42/LK1.lean); vx_outP calls Shelf42/NT130.lean (outThrough). -/
section
variable {l : Launch} {R : Room} {p : Program} {e : Env} {below : List Frame} {s : State} {sargs : Array Value} {y : MethodName} {len W9 : Nat}
theorem vx_backW {ws : List Cond} {rm : Room} {Pc : Array Value → State → Prop} {Qc : Array Value → State → Outcome → State → Prop} {XC : String → State → State → Prop} {mc ms : Nat} {free : Addr → Prop} {bytes : ByteArray} {maxL : Nat} {ret : Option FieldType} {hh : List (Nat × Nat × Nat × Nat)}
    (hM : vx_Met l y ws rm Pc Qc XC mc ms free) (hblind : FrameBlind Pc) (hrc : rm.cells = mc) (hrs : rm.slots = ms)
    (hframes : rm.frames + 1 ≤ R.frames) (hlocals : W9 + (maxL + 11) + rm.locals ≤ R.locals)
    (hws : ∀ w ∈ ws, ∀ a' U, s.WarmedH U.vm → w.before a' U = true) (hcode : Cond.codeWith y bytes maxL ret hh ∈ ws) (hinit : ∀ a' U, s.WarmedH U.vm → (Cond.initialized y.cls).before a' U = true) :
    vx_Back l R p e below s sargs y len W9 (PreOf R mc ms Pc) (PostOf Qc mc ms free) (vx_Post XC mc ms free) := by
  intro m meth c A g ig mk a X hg hsize hdg hW hn hp
  have h1 : (headSpec ws rm).pre.before a A.U = true := atoms_intro fun w hw => hws w hw _ _ X.warmed
  have h2 : (Cond.codeWith y bytes maxL ret hh).before a A.U = true := hws _ hcode _ _ X.warmed
  have h3 : (Cond.initialized y.cls).before a A.U = true := hinit _ _ X.warmed
  have h4 : A.cells + (headSpec ws rm).room.cells ≤ R.cells := by rw [show (headSpec ws rm).room.cells = mc from hrc]; exact hp.1
  have h5 : A.slots + (headSpec ws rm).room.slots ≤ R.slots := by rw [show (headSpec ws rm).room.slots = ms from hrs]; exact hp.2.1
  have hPc : Pc a (A.U.calling g mk a) := hblind _ _ _ _ hp.2.2
  obtain ⟨U, Ls, c0, s0⟩ := A
  dsimp only [Pt.U, Pt.locs, Pt.cells, Pt.slots] at h1 h2 h3 h4 h5 X hn hPc ⊢
  obtain ⟨m9, methY, cY, hn9, hmY, hcY, -, hlY, -⟩ := Cond.codeWith_spec h2
  cases Option.some.inj (hn9.symm.trans hn)
  obtain ⟨kY, hkY, -⟩ := className_of_methodNamed hn
  have hinitY : kY.init = .initialized := Cond.initialized_spec (findClass_of_methodNamed hn) hkY h3
  have h : At U g.method c below := by rw [hg]; exact X.here
  have hlocals9 : W9 + (maxL + 11) + (headSpec ws rm).room.locals ≤ R.locals := hlocals
  have happ : (headSpec ws rm).appliesLoose y e.platform (U.calling g mk a) = true :=
    Spec.appliesLoose_calling (g := g) h hdg hn hkY hinitY
      (X.room_calling (g := g) (R' := (headSpec ws rm).room) hsize hmY hcY hframes (by rw [hlY]; omega) h4 h5) h1
  obtain ⟨mid, hmid⟩ := h.above
  have hfr : (U.setTop g).frames = (.java g :: mid) ++ below := by rw [State.frames_setTop' g h.top, hmid]; rfl
  obtain ⟨o, s₂, hsteps, -, hend, hq⟩ := Steps.callFree hM p X.admits X.cas X.clock (acts := []) hfr happ hPc trivial
  have hq' : vx_Q Qc XC mc ms free a (U.calling g mk a) o s₂ := hq
  rw [State.frames_setTop' g h.top] at hend
  obtain ⟨g₀, hg0⟩ := Option.isSome_iff_exists.mp h.top
  obtain ⟨r, hr⟩ := State.topJava?_eq_some.mp hg0
  have hr' : (({ U with heap := s₂.heap, slotsUsed := s₂.slotsUsed } : State).setVm s₂.vm).frames = .java g₀ :: r := hr
  rcases hq' with ⟨hqc, L, hfe, hL⟩ | ⟨q, rfl, E, ce, L, hx, hce, hcv, hcl, hW₂, hsm, hL⟩
  · obtain ⟨⟨v, rfl⟩, hW₂, e2, q2, q3, q4, q5, q6⟩ := id hfe
    have e3 : s₂ = ({ (U.calling g mk a).setFrames s₂.frames with heap := s₂.heap, slotsUsed := s₂.slotsUsed } : State).setVm s₂.vm := by
      have : s₂ = ({ s₂ with vm := (U.calling g mk a).vm } : State).setVm s₂.vm := rfl
      rw [e2] at this
      exact this
    obtain ⟨c₂, i₂, len₂, hc₂, hd₂, hf₂⟩ := hend
    have hW' : U.WarmedH s₂.vm := hW₂
    have hcc : c₂ = c := by
      have h1 : s₂.code? g.method = U.code? g.method := by
        rw [State.code?_eq, State.code?_eq, hW'.alike.method?]
      exact Option.some.inj (hc₂.symm.trans (h1.trans h.code))
    subst hcc
    have hlen : len₂ = len := by rw [hdg] at hd₂; cases hd₂; rfl
    subst hlen
    have hs₂ : s₂ = (({ U with heap := s₂.heap, slotsUsed := s₂.slotsUsed } : State).setVm s₂.vm).setTop { g with pc := g.pc + len₂, stack := v.toList ++ g.stack } := by
      refine e3.trans ?_
      rw [hf₂, State.calling_eq h.top, State.setFrames_setFrames, State.setTop_of_frames _ hr', hr]
      rfl
    have hsame : U.sameButNew ({ U with heap := s₂.heap, slotsUsed := s₂.slotsUsed } : State) L mc ms := by
      refine ⟨?_, q2, q3, q4, q5, q6⟩
      obtain ⟨t, ht, -⟩ := State.frames_cons hr
      show ({ U with heap := s₂.heap, slotsUsed := s₂.slotsUsed } : State) = { U.setFrames U.frames with heap := s₂.heap, slotsUsed := s₂.slotsUsed }
      rw [State.setFrames_self ht]
    subst hg
    refine Or.inl ⟨v, ⟨(({ U with heap := s₂.heap, slotsUsed := s₂.slotsUsed } : State).setVm s₂.vm), Ls ++ L, c0 + mc, s0 + ms⟩,
      ⟨X.admits, X.cas, X.clock, X.frames, X.room, X.hears, X.method, X.code, (X.here.setHeapUsed s₂.heap s₂.slotsUsed).setVm hW'.alike, X.tail, State.WarmedH.trans X.warmed hW', X.limits, X.bytes, X.same.trans (hsame.setVm s.vm)⟩,
      ⟨g, mk, s₂, L, rfl, rfl, hqc, rfl, hL, rfl, rfl⟩, ?_⟩
    show Steps p.tables e below _ ((({ U with heap := s₂.heap, slotsUsed := s₂.slotsUsed } : State).setVm s₂.vm).setTop { g with pc := g.pc + len₂, stack := v.toList ++ g.stack })
    rw [← hs₂]
    exact hsteps
  · obtain ⟨e2, q2, q3, q4, q5, q6⟩ := id hsm
    have e3 : s₂ = ({ (U.calling g mk a).setFrames s₂.frames with heap := s₂.heap, slotsUsed := s₂.slotsUsed } : State).setVm s₂.vm := by
      have : s₂ = ({ s₂ with vm := (U.calling g mk a).vm } : State).setVm s₂.vm := rfl
      rw [e2] at this
      exact this
    have hf₂ : s₂.frames = .throwing q :: .java g :: U.frames.tail := hend
    have hW' : U.WarmedH s₂.vm := hW₂
    have hs₂ : s₂ = ((({ U with heap := s₂.heap, slotsUsed := s₂.slotsUsed } : State).setVm s₂.vm).setTop g).pushFrame (.throwing q) := by
      refine e3.trans ?_
      rw [hf₂, State.calling_eq h.top, State.setFrames_setFrames, State.pushFrame, State.frames_setTop _ hr', State.setTop_of_frames _ hr', State.setFrames_setFrames, hr]
      rfl
    have hsame : U.sameButNew ({ U with heap := s₂.heap, slotsUsed := s₂.slotsUsed } : State) L mc ms := by
      refine ⟨?_, q2, q3, q4, q5, q6⟩
      obtain ⟨t, ht, -⟩ := State.frames_cons hr
      show ({ U with heap := s₂.heap, slotsUsed := s₂.slotsUsed } : State) = { U.setFrames U.frames with heap := s₂.heap, slotsUsed := s₂.slotsUsed }
      rw [State.setFrames_self ht]
    subst hg
    refine Or.inr ⟨q, ⟨(({ U with heap := s₂.heap, slotsUsed := s₂.slotsUsed } : State).setVm s₂.vm), Ls ++ L, c0 + mc, s0 + ms⟩,
      ⟨X.admits, X.cas, X.clock, X.frames, X.room, X.hears, X.method, X.code, (X.here.setHeapUsed s₂.heap s₂.slotsUsed).setVm hW'.alike, X.tail, State.WarmedH.trans X.warmed hW', X.limits, X.bytes, X.same.trans (hsame.setVm s.vm)⟩,
      ⟨g, mk, s₂, L, E, ce, rfl, rfl, hx, hce, hcv, hcl, rfl, hL, rfl, rfl⟩, ?_⟩
    show Steps p.tables e below _ (((({ U with heap := s₂.heap, slotsUsed := s₂.slotsUsed } : State).setVm s₂.vm).setTop g).pushFrame (.throwing q))
    rw [← hs₂]
    exact hsteps
end
variable {p : Program} {l : Launch} {e : Env} {R : Room} {s : State} {m : MethodId} {args : Array Value} {below : List Frame} {meth : Method} {c : Code} {T : State} {H : Heap} {locs : List Loc} {cells slots : Nat}
theorem vx_callVX (X : Stand p l e R s m args below meth c T locs cells slots) (hexec : p.tables.exec = Jvm.exec) {own C : String} {index : Nat} {y : MethodName} {bytes : ByteArray} {maxL : Nat} {ret : Option FieldType} {hh : List (Nat × Nat × Nat × Nat)}
    (hown : s.vm.findClass own = some m.cls) (hlink : (Cond.methodLink own index y).before args s = true) (hinst : (Cond.instanceMethod y).before args s = true) (hsel : (Cond.selects C y y).before args s = true)
    (hcode : (Cond.codeWith y bytes maxL ret hh).before args s = true) (hy : y.cls ≠ "java/lang/invoke/MethodHandle" ∧ y.cls ≠ "java/lang/invoke/VarHandle")
    {W9 : Nat} {Pre : Pt → Array Value → Prop} {Post : Pt → Array Value → Option Value → Pt → Prop} {PostX : Pt → Array Value → Addr → Pt → Prop} (hK : vx_Back l R p e below s args y 3 W9 Pre Post PostX)
    {b : Addr} {cellB : Cell} (hcell : T.heap[b]? = some cellB) (hobj : cellB.vm.isStatics = false) (hcls : s.vm.findClass C = some cellB.cls)
    {g : JFrame} (hg : g.method = m) (hsize : g.locals.size = c.maxLocals) {argsL rest : List Value} (hlen : ∀ sig, parseMethodDescriptor y.desc = some sig → argsL.length = sig.parameters.length)
    (hstack : g.stack = argsL.reverse ++ .ref b :: rest) (hW : 2 * g.monitorRoom + (rest.map fun v => v.category).sum ≤ W9) (hdg : decode c.code g.pc = .ok (.invokevirtual index, 3))
    (hpre : ∀ vm₁, s.WarmedH vm₁ → Pre ⟨T.setVm vm₁, locs, cells, slots⟩ (Value.ref b :: argsL).toArray) :
    (∃ (v : Option Value) (vm₁ : Vm) (B : Pt), s.WarmedH vm₁ ∧ Stand p l e R s m args below meth c B.U B.locs B.cells B.slots ∧ Post ⟨T.setVm vm₁, locs, cells, slots⟩ (Value.ref b :: argsL).toArray v B ∧
      ∀ target, Steps p.tables e below (B.U.setTop { g with pc := g.pc + 3, stack := v.toList ++ rest }) target → Steps p.tables e below (T.setTop g) target) ∨
    (∃ (q : Addr) (vm₁ : Vm) (B : Pt), s.WarmedH vm₁ ∧ Stand p l e R s m args below meth c B.U B.locs B.cells B.slots ∧ PostX ⟨T.setVm vm₁, locs, cells, slots⟩ (Value.ref b :: argsL).toArray q B ∧
      Steps p.tables e below (T.setTop g) ((B.U.setTop { g with stack := rest }).pushFrame (.throwing q))) := by
  obtain ⟨mk, methM, hnamed, hmethM, hstM, habM⟩ := Cond.instanceMethod_spec hinst
  obtain ⟨m8, methM', cM, hn8, hmethM', -, -, -, -, -, -, hsigM⟩ := Cond.codeWith_spec hcode
  cases Option.some.inj (hn8.symm.trans hnamed)
  cases hmethM.symm.trans hmethM'
  obtain ⟨c2, r2, m2, q1, q2, q3, q4, kP, hkP, hkPi⟩ := Cond.selects_spec hsel
  cases hcls.symm.trans q1
  cases (State.methodFound?_of_named hnamed hy).symm.trans q2
  cases hnamed.symm.trans q3
  have hselP : selectMethod e.platform s.vm cellB.cls mk = .method mk := by rw [Launch.admits_selectMethod X.admits]; exact q4
  obtain ⟨vm₁, X₁, hstep₁⟩ := X.invokevirtual hexec hown hlink hnamed hmethM hstM hkP hkPi hy (a := b) (cell := cellB) hcell
    (fun z h => by rw [h] at hobj; cases hobj) hselP hmethM habM hkP hkPi (g := g) hg (argsL := argsL) (rest := rest) (hlen _ hsigM) hstack hdg
  rcases hK m meth c ⟨T.setVm vm₁, locs, cells, slots⟩ { g with stack := rest } (.invokevirtual index) mk (Value.ref b :: argsL).toArray X₁ hg hsize hdg hW (X₁.named hnamed) (hpre vm₁ X₁.warmed) with ⟨v, B, X', hpost, hsteps⟩ | ⟨q, B, X', hpost, hsteps⟩
  · exact Or.inl ⟨v, vm₁, B, X₁.warmed, X', hpost, fun target h => hstep₁ _ fun acts => by rw [doInvoke_state]; exact hsteps.trans h⟩
  · exact Or.inr ⟨q, vm₁, B, X₁.warmed, X', hpost, hstep₁ _ fun acts => by rw [doInvoke_state]; exact hsteps⟩
theorem vx_callSX (X : Stand p l e R s m args below meth c T locs cells slots) (hexec : p.tables.exec = Jvm.exec) {own : String} {index : Nat} {y : MethodName} {bytes : ByteArray} {maxL : Nat} {ret : Option FieldType} {hh : List (Nat × Nat × Nat × Nat)}
    (hown : s.vm.findClass own = some m.cls) (hlink : (Cond.methodLink own index y).before args s = true) (hstat : (Cond.static y).before args s = true) (hinit : (Cond.initialized y.cls).before args s = true)
    (hcode : (Cond.codeWith y bytes maxL ret hh).before args s = true) (hy : y.cls ≠ "java/lang/invoke/MethodHandle" ∧ y.cls ≠ "java/lang/invoke/VarHandle")
    {W9 : Nat} {Pre : Pt → Array Value → Prop} {Post : Pt → Array Value → Option Value → Pt → Prop} {PostX : Pt → Array Value → Addr → Pt → Prop} (hK : vx_Back l R p e below s args y 3 W9 Pre Post PostX)
    {g : JFrame} (hg : g.method = m) (hsize : g.locals.size = c.maxLocals) {argsL rest : List Value} (hlen : ∀ sig, parseMethodDescriptor y.desc = some sig → argsL.length = sig.parameters.length)
    (hstack : g.stack = argsL.reverse ++ rest) (hW : 2 * g.monitorRoom + (rest.map fun v => v.category).sum ≤ W9) (hdg : decode c.code g.pc = .ok (.invokestatic index, 3))
    (hpre : ∀ vm₁, s.WarmedH vm₁ → Pre ⟨T.setVm vm₁, locs, cells, slots⟩ argsL.toArray) :
    (∃ (v : Option Value) (vm₁ : Vm) (B : Pt), s.WarmedH vm₁ ∧ Stand p l e R s m args below meth c B.U B.locs B.cells B.slots ∧ Post ⟨T.setVm vm₁, locs, cells, slots⟩ argsL.toArray v B ∧
      ∀ target, Steps p.tables e below (B.U.setTop { g with pc := g.pc + 3, stack := v.toList ++ rest }) target → Steps p.tables e below (T.setTop g) target) ∨
    (∃ (q : Addr) (vm₁ : Vm) (B : Pt), s.WarmedH vm₁ ∧ Stand p l e R s m args below meth c B.U B.locs B.cells B.slots ∧ PostX ⟨T.setVm vm₁, locs, cells, slots⟩ argsL.toArray q B ∧
      Steps p.tables e below (T.setTop g) ((B.U.setTop { g with stack := rest }).pushFrame (.throwing q))) := by
  obtain ⟨mk, methM, cM, hnamed, hmethM, -, -, -, -, -, -, hsigM⟩ := Cond.codeWith_spec hcode
  have hstatic : methM.isStatic = true := Cond.static_spec hnamed hmethM hstat
  obtain ⟨kP, hkP, -⟩ := className_of_methodNamed hnamed
  have hinitP : kP.init = .initialized := Cond.initialized_spec (findClass_of_methodNamed hnamed) hkP hinit
  obtain ⟨vm₁, X₁, hstep₁⟩ := X.invokestatic hexec hown hlink hnamed hmethM hstatic hkP hinitP hy (g := g) hg (argsL := argsL) (rest := rest) (hlen _ hsigM) hstack hdg
  rcases hK m meth c ⟨T.setVm vm₁, locs, cells, slots⟩ { g with stack := rest } (.invokestatic index) mk argsL.toArray X₁ hg hsize hdg hW (X₁.named hnamed) (hpre vm₁ X₁.warmed) with ⟨v, B, X', hpost, hsteps⟩ | ⟨q, B, X', hpost, hsteps⟩
  · exact Or.inl ⟨v, vm₁, B, X₁.warmed, X', hpost, fun target h => hstep₁ _ fun acts => by rw [doInvoke_state]; exact hsteps.trans h⟩
  · exact Or.inr ⟨q, vm₁, B, X₁.warmed, X', hpost, hstep₁ _ fun acts => by rw [doInvoke_state]; exact hsteps⟩
theorem vx_callVW (X : Stand p l e R s m args below meth c T locs cells slots) (hexec : p.tables.exec = Jvm.exec) {own C : String} {index : Nat} {y : MethodName} {bytes : ByteArray} {maxL : Nat} {ret : Option FieldType} {hh : List (Nat × Nat × Nat × Nat)}
    (hown : s.vm.findClass own = some m.cls) (hlink : (Cond.methodLink own index y).before args s = true) (hinst : (Cond.instanceMethod y).before args s = true) (hsel : (Cond.selects C y y).before args s = true)
    (hcode : (Cond.codeWith y bytes maxL ret hh).before args s = true) (hy : y.cls ≠ "java/lang/invoke/MethodHandle" ∧ y.cls ≠ "java/lang/invoke/VarHandle")
    {W9 : Nat} {Pre : Pt → Array Value → Prop} {Post : Pt → Array Value → Option Value → Pt → Prop} (hK : Back l R p e below s args y 3 W9 Pre Post)
    {b : Addr} {cellB : Cell} (hcell : T.heap[b]? = some cellB) (hobj : cellB.vm.isStatics = false) (hcls : s.vm.findClass C = some cellB.cls)
    {g : JFrame} (hg : g.method = m) (hsize : g.locals.size = c.maxLocals) {argsL rest : List Value} (hlen : ∀ sig, parseMethodDescriptor y.desc = some sig → argsL.length = sig.parameters.length)
    (hstack : g.stack = argsL.reverse ++ .ref b :: rest) (hW : 2 * g.monitorRoom + (rest.map fun v => v.category).sum ≤ W9) (hdg : decode c.code g.pc = .ok (.invokevirtual index, 3))
    (hpre : ∀ vm₁, s.WarmedH vm₁ → Pre ⟨T.setVm vm₁, locs, cells, slots⟩ (Value.ref b :: argsL).toArray) :
    ∃ (v : Option Value) (vm₁ : Vm) (B : Pt), s.WarmedH vm₁ ∧ Stand p l e R s m args below meth c B.U B.locs B.cells B.slots ∧ Post ⟨T.setVm vm₁, locs, cells, slots⟩ (Value.ref b :: argsL).toArray v B ∧
      ∀ target, Steps p.tables e below (B.U.setTop { g with pc := g.pc + 3, stack := v.toList ++ rest }) target → Steps p.tables e below (T.setTop g) target := by
  obtain ⟨mk, methM, hnamed, hmethM, hstM, habM⟩ := Cond.instanceMethod_spec hinst
  obtain ⟨m8, methM', cM, hn8, hmethM', -, -, -, -, -, -, hsigM⟩ := Cond.codeWith_spec hcode
  cases Option.some.inj (hn8.symm.trans hnamed)
  cases hmethM.symm.trans hmethM'
  obtain ⟨c2, r2, m2, q1, q2, q3, q4, kP, hkP, hkPi⟩ := Cond.selects_spec hsel
  cases hcls.symm.trans q1
  cases (State.methodFound?_of_named hnamed hy).symm.trans q2
  cases hnamed.symm.trans q3
  have hselP : selectMethod e.platform s.vm cellB.cls mk = .method mk := by rw [Launch.admits_selectMethod X.admits]; exact q4
  obtain ⟨vm₁, X₁, hstep₁⟩ := X.invokevirtual hexec hown hlink hnamed hmethM hstM hkP hkPi hy (a := b) (cell := cellB) hcell
    (fun z h => by rw [h] at hobj; cases hobj) hselP hmethM habM hkP hkPi (g := g) hg (argsL := argsL) (rest := rest) (hlen _ hsigM) hstack hdg
  obtain ⟨v, B, X', hpost, hsteps⟩ := hK m meth c ⟨T.setVm vm₁, locs, cells, slots⟩ { g with stack := rest } (.invokevirtual index) mk (Value.ref b :: argsL).toArray X₁ hg hsize hdg hW (X₁.named hnamed) (hpre vm₁ X₁.warmed)
  exact ⟨v, vm₁, B, X₁.warmed, X', hpost, fun target h => hstep₁ _ fun acts => by rw [doInvoke_state]; exact hsteps.trans h⟩
abbrev vx_CVW (R : Room) (s : State) (args : Array Value) (own C : String) (index : Nat) (y : MethodName) (bytes : ByteArray) (maxL : Nat) (ret : Option FieldType) (hh : List (Nat × Nat × Nat × Nat)) (ws : List Cond) (rm : Room) (mc ms n : Nat) : Prop :=
  (rm.cells = mc ∧ rm.slots = ms ∧ rm.frames + 1 ≤ R.frames ∧ 8 + (maxL + 11) + rm.locals ≤ R.locals ∧ (∀ w ∈ ws, ∀ (a' : Array Value) (U : State), s.WarmedH U.vm → w.before a' U = true) ∧ Cond.codeWith y bytes maxL ret hh ∈ ws) ∧
  (Cond.codeWith y bytes maxL ret hh).before args s = true ∧ (Cond.initialized y.cls).before args s = true ∧ (y.cls ≠ "java/lang/invoke/MethodHandle" ∧ y.cls ≠ "java/lang/invoke/VarHandle") ∧
  (∀ sig, parseMethodDescriptor y.desc = some sig → n = sig.parameters.length) ∧ (Cond.methodLink own index y).before args s = true ∧ (Cond.instanceMethod y).before args s = true ∧ (Cond.selects C y y).before args s = true
theorem vx_cwVW {own C : String} {index maxL mc ms : Nat} {y : MethodName} {bytes : ByteArray} {ret : Option FieldType} {hh : List (Nat × Nat × Nat × Nat)} {Ts ws ws' : List Cond} {rm : Room} (n : Nat) (ht : ∀ w ∈ Ts, w.before args s = true) (hT : GoodIn Ts (wsV own index C y ws)) (hw : ws = Cond.codeWith y bytes maxL ret hh :: ws') (hrc : rm.cells = mc) (hrs : rm.slots = ms)
    (hd : y.cls = C ∧ y.cls ≠ "java/lang/invoke/MethodHandle" ∧ y.cls ≠ "java/lang/invoke/VarHandle" ∧ (parseMethodDescriptor y.desc).map (fun d => d.parameters.length) = some n) (hR : rm.frames + 1 ≤ R.frames ∧ 8 + (maxL + 11) + rm.locals ≤ R.locals) :
    vx_CVW R s args own C index y bytes maxL ret hh ws rm mc ms n := by
  obtain ⟨hC, hd⟩ := hd
  subst hC
  have ok : ∀ w ∈ wsV own index y.cls y ws, w.before args s = true := fun w h => ht w (hT w h).1
  have hG : GoodIn Ts ws := fun w h => hT w (by unfold wsV; exact List.mem_append_right _ h)
  have hc : Cond.codeWith y bytes maxL ret hh ∈ ws := by rw [hw]; exact List.mem_cons_self
  refine ⟨⟨hrc, hrs, hR.1, hR.2, pay_in ht hG, hc⟩, ht _ (hG _ hc).1, ok _ (by simp [wsV]), ⟨hd.1, hd.2.1⟩, fun sig h => ?_, ok _ (by simp [wsV]), ok _ (by simp [wsV]), ok _ (by simp [wsV])⟩
  have h2 := hd.2.2
  rw [h] at h2
  exact (Option.some.inj h2).symm
theorem vx_runVW {y : MethodName} {bytes cc : ByteArray} {maxL nL mc ms n index : Nat} {ret : Option FieldType} {hh : List (Nat × Nat × Nat × Nat)} {ws : List Cond} {rm : Room} {Pc : Array Value → State → Prop} {Qc : Array Value → State → Outcome → State → Prop} {free : Addr → Prop} {Ts : List Cond} {own C : String} {b : Addr} {As rest : List Value} {g : JFrame}
    (S : CallFix p m c cc nL s args Ts own) (hM : Met l y ws rm Pc Qc mc ms free) (cw : vx_CVW R s args own C index y bytes maxL ret hh ws rm mc ms n) (hp : PreV s H C b Pc As)
    (hg : g.method = m) (hn : As.length = n) (hsize : g.locals.size = nL) (hstack : g.stack = As.reverse ++ .ref b :: rest) (hW : 2 * g.monitorRoom + (rest.map fun v => v.category).sum ≤ 8) (hdg : decode cc g.pc = .ok (.invokevirtual index, 3)) (hf : cells + mc ≤ R.cells ∧ slots + ms ≤ R.slots) :
    va_Run p l e R s m args below meth c H locs cells slots mc ms g rest (Qc (Value.ref b :: As).toArray) free := by
  obtain ⟨⟨hrc, hrs, hfr, hlo, hws, hcw⟩, hcode, hini, hy, hlen, hl, hin, hse⟩ := cw
  have hK : Back l R p e below s args y 3 8 (PreOf R mc ms Pc) (PostOf Qc mc ms free) := va_backW (hh := hh) (bytes := bytes) (maxL := maxL) (ret := ret) hM hp.1 hrc hrs hfr hlo hws hcw (fun a' U hW => word_at hW (Or.inl (by first | rfl | simp [Cond.onTables, Cond.keeps, Cond.steady])) hini)
  obtain ⟨hx, hb, hml, ho, -⟩ := S
  obtain ⟨-, ⟨cellB, hcB, hoB, hclB⟩, hPc⟩ := hp
  intro T hT X
  obtain ⟨v, vm₁, ⟨U', l2, c2, s2⟩, hW₁, X', ⟨g', mk, t, L, e1, e2, hq, h1, hL, h2, h3⟩, st⟩ := vx_callVW X hx (C := C) (hh := hh) (bytes := bytes) (maxL := maxL) (ret := ret) ho hl hin hse hcode hy hK (by rw [hT]; exact hcB) hoB hclB hg (hsize.trans hml.symm) (argsL := As) (rest := rest) (fun sig h => hn.trans (hlen sig h)) hstack hW (by rw [hb]; exact hdg)
    (fun vm₁ hW₁ => ⟨hf.1, hf.2, hPc (T.setVm vm₁) hT hW₁⟩)
  dsimp only [Pt.U, Pt.locs, Pt.cells, Pt.slots] at X' e1 e2 h1 h2 h3 st
  subst h1; subst h2; subst h3
  exact ⟨v, (T.setVm vm₁).calling g' mk (Value.ref b :: As).toArray, t, U', L, hT, X', hL, e1, e2, hq, st⟩
section
variable {y : MethodName} {bytes cc : ByteArray} {maxL nL mc ms n index : Nat} {ret : Option FieldType} {ws : List Cond} {rm : Room} {Pc : Array Value → State → Prop} {Qc : Array Value → State → Outcome → State → Prop} {XC : String → State → State → Prop} {free : Addr → Prop} {Ts : List Cond} {own C : String} {b : Addr} {As rest : List Value} {g : JFrame}
theorem vx_runVX {hh : List (Nat × Nat × Nat × Nat)} (S : CallFix p m c cc nL s args Ts own) (hM : vx_Met l y ws rm Pc Qc XC mc ms free) (cw : vx_CVW R s args own C index y bytes maxL ret hh ws rm mc ms n) (hp : PreV s H C b Pc As)
    (hg : g.method = m) (hn : As.length = n) (hsize : g.locals.size = nL) (hstack : g.stack = As.reverse ++ .ref b :: rest) (hW : 2 * g.monitorRoom + (rest.map fun v => v.category).sum ≤ 8) (hdg : decode cc g.pc = .ok (.invokevirtual index, 3)) (hf : cells + mc ≤ R.cells ∧ slots + ms ≤ R.slots) :
    vx_Run p l e R s m args below meth c H locs cells slots mc ms g rest (Qc (Value.ref b :: As).toArray) XC free := by
  obtain ⟨⟨hrc, hrs, hfr, hlo, hws, hcw⟩, hcode, hini, hy, hlen, hl, hin, hse⟩ := cw
  have hK : vx_Back l R p e below s args y 3 8 (PreOf R mc ms Pc) (PostOf Qc mc ms free) (vx_Post XC mc ms free) := vx_backW (hh := hh) (bytes := bytes) (maxL := maxL) (ret := ret) hM hp.1 hrc hrs hfr hlo hws hcw (fun a' U hW => word_at hW (Or.inl (by first | rfl | simp [Cond.onTables, Cond.keeps, Cond.steady])) hini)
  obtain ⟨hx, hb, hml, ho, -⟩ := S
  obtain ⟨-, ⟨cellB, hcB, hoB, hclB⟩, hPc⟩ := hp
  intro T hT X
  rcases vx_callVX X hx (C := C) (hh := hh) (bytes := bytes) (maxL := maxL) (ret := ret) ho hl hin hse hcode hy hK (by rw [hT]; exact hcB) hoB hclB hg (hsize.trans hml.symm) (argsL := As) (rest := rest) (fun sig h => hn.trans (hlen sig h)) hstack hW (by rw [hb]; exact hdg)
    (fun vm₁ hW₁ => ⟨hf.1, hf.2, hPc (T.setVm vm₁) hT hW₁⟩) with ⟨v, vm₁, ⟨U', l2, c2, s2⟩, hW₁, X', ⟨g', mk, t, L, e1, e2, hq, h1, hL, h2, h3⟩, st⟩ | ⟨q, vm₁, ⟨U', l2, c2, s2⟩, hW₁, X', ⟨g', mk, t, L, E, ce, e1, e2, hq, hce, hcv, hcl, h1, hL, h2, h3⟩, st⟩
  · dsimp only [Pt.U, Pt.locs, Pt.cells, Pt.slots] at X' e1 e2 h1 h2 h3 st
    subst h1; subst h2; subst h3
    exact Or.inl ⟨v, (T.setVm vm₁).calling g' mk (Value.ref b :: As).toArray, t, U', L, hT, X', hL, e1, e2, hq, st⟩
  · dsimp only [Pt.U, Pt.locs, Pt.cells, Pt.slots] at X' e1 e2 h1 h2 h3 st hcl
    subst h1; subst h2; subst h3
    exact Or.inr ⟨q, (T.setVm vm₁).calling g' mk (Value.ref b :: As).toArray, t, U', L, E, ce, hT, X', hL, e1, e2, hq, hce, hcv, vx_cls hW₁ hcl, st⟩
theorem vx_runSX {hh : List (Nat × Nat × Nat × Nat)} (S : CallFix p m c cc nL s args Ts own) (hM : vx_Met l y ws rm Pc Qc XC mc ms free) (cw : vx_CSW R s args own index y bytes maxL ret hh ws rm mc ms n) (hp : PreS s H Pc As)
    (hg : g.method = m) (hn : As.length = n) (hsize : g.locals.size = nL) (hstack : g.stack = As.reverse ++ rest) (hW : 2 * g.monitorRoom + (rest.map fun v => v.category).sum ≤ 8) (hdg : decode cc g.pc = .ok (.invokestatic index, 3)) (hf : cells + mc ≤ R.cells ∧ slots + ms ≤ R.slots) :
    vx_Run p l e R s m args below meth c H locs cells slots mc ms g rest (Qc As.toArray) XC free := by
  obtain ⟨⟨hrc, hrs, hfr, hlo, hws, hcw⟩, hcode, hini, hy, hlen, hl, hstt⟩ := cw
  have hK : vx_Back l R p e below s args y 3 8 (PreOf R mc ms Pc) (PostOf Qc mc ms free) (vx_Post XC mc ms free) := vx_backW (hh := hh) (bytes := bytes) (maxL := maxL) (ret := ret) hM hp.1 hrc hrs hfr hlo hws hcw (fun a' U hW => word_at hW (Or.inl (by first | rfl | simp [Cond.onTables, Cond.keeps, Cond.steady])) hini)
  obtain ⟨hx, hb, hml, ho, -⟩ := S
  intro T hT X
  rcases vx_callSX X hx (hh := hh) (bytes := bytes) (maxL := maxL) (ret := ret) ho hl hstt hini hcode hy hK hg (hsize.trans hml.symm) (argsL := As) (rest := rest) (fun sig h => hn.trans (hlen sig h)) hstack hW (by rw [hb]; exact hdg)
    (fun vm₁ hW₁ => ⟨hf.1, hf.2, hp.2 (T.setVm vm₁) hT hW₁⟩) with ⟨v, vm₁, ⟨U', l2, c2, s2⟩, hW₁, X', ⟨g', mk, t, L, e1, e2, hq, h1, hL, h2, h3⟩, st⟩ | ⟨q, vm₁, ⟨U', l2, c2, s2⟩, hW₁, X', ⟨g', mk, t, L, E, ce, e1, e2, hq, hce, hcv, hcl, h1, hL, h2, h3⟩, st⟩
  · dsimp only [Pt.U, Pt.locs, Pt.cells, Pt.slots] at X' e1 e2 h1 h2 h3 st
    subst h1; subst h2; subst h3
    exact Or.inl ⟨v, (T.setVm vm₁).calling g' mk As.toArray, t, U', L, hT, X', hL, e1, e2, hq, st⟩
  · dsimp only [Pt.U, Pt.locs, Pt.cells, Pt.slots] at X' e1 e2 h1 h2 h3 st hcl
    subst h1; subst h2; subst h3
    exact Or.inr ⟨q, (T.setVm vm₁).calling g' mk As.toArray, t, U', L, E, ce, hT, X', hL, e1, e2, hq, hce, hcv, vx_cls hW₁ hcl, st⟩
end
end VXH
theorem vx_ofWH {l : Launch} {y : MethodName} {ws ws' : List Cond} {rm : Room} {Pc : Array Value → State → Prop} {Qc : Array Value → State → Outcome → State → Prop} {XC : String → State → State → Prop} {mc ms : Nat} {free : Addr → Prop} {cc : ByteArray} {maxL : Nat} {ret : Option FieldType} {hh : List (Nat × Nat × Nat × Nat)}
    (hy : plainName y.cls = true) (hw : ws = Cond.codeWith y cc maxL ret hh :: ws')
    (body : ∀ p e s m args below meth c s₁, BodyLoose p l y (headSpec ws rm) cc maxL ret e s m args below meth c s₁ → c.maxLocals = maxL → Pc args s →
      W p l e (headSpec ws rm).room s m args below meth c s.heap [] 0 0 (vx_MQ below Qc XC args s mc ms free) (entryFrame m args maxL)) : vx_Met l y ws rm Pc Qc XC mc ms free := by
  refine MetFree.of_bodyS (code := cc) (maxLocals := maxL) (ret := ret) hy ?_ ?_
  · intro args s m h hn
    obtain ⟨m9, meth, c, hn9, h1, h2, h3, h4, -, h5, h6, -⟩ := Cond.codeWith_spec (atoms_spec (ws := ws) h _ (by rw [hw]; exact List.mem_cons_self))
    cases hn.symm.trans hn9
    exact ⟨meth, c, h1, h2, h3, h4, h5, h6⟩
  · intro p e s m args below meth c s₁ B hml hP _
    have hh0 : s₁.heap = s.heap := by rw [B.state]; rfl
    obtain ⟨t, a1, o, b1, b2, b3⟩ := body p e s m args below meth c s₁ B hml hP s₁ hh0 (Stand.of_body B)
    exact ⟨t, o, a1, b1, b2, b3⟩
/-! ===== END ===== -/
end
section
def cn_F : String := "TuneFinder$Found"
def ft_F : u_T := fun k => match k with
  | 0 => ("TuneFinder$Found", "passages", "[LTuneFinder$Passage;", true)
  | 1 => ("TuneFinder$Found", "asked", "I", false)
  | 2 => ("TuneFinder$Found", "total", "I", false)
  | _ => ("TuneFinder$Found", "kept", "I", false)
def fy_F : Nat → FieldType := fun k => match k with
  | 0 => .array (.object "TuneFinder$Passage")
  | 1 => .int
  | 2 => .int
  | _ => .int
theorem fn_F : ∀ a, a < 4 → ∀ b, b < 4 → a ≠ b → (ft_F a).2.1 ≠ (ft_F b).2.1 := by decide +kernel
theorem fk_F : ∀ k, k < 4 → parseFieldDescriptor (ft_F k).2.2.1 = some (fy_F k) := by decide +kernel
def cn_R : String := "TuneFinder$Near"
def ft_R : u_T := fun k => match k with
  | 0 => ("TuneFinder$Near", "weights", "[I", true)
  | 1 => ("TuneFinder$Near", "here", "[I", false)
  | 2 => ("TuneFinder$Near", "behind", "[I", false)
  | 3 => ("TuneFinder$Near", "most", "I", false)
  | _ => ("TuneFinder$Near", "longest", "I", false)
def fy_R : Nat → FieldType := fun k => match k with
  | 0 => .array .int
  | 1 => .array .int
  | 2 => .array .int
  | 3 => .int
  | _ => .int
theorem fn_R : ∀ a, a < 5 → ∀ b, b < 5 → a ≠ b → (ft_R a).2.1 ≠ (ft_R b).2.1 := by decide +kernel
theorem fk_R : ∀ k, k < 5 → parseFieldDescriptor (ft_R k).2.2.1 = some (fy_R k) := by decide +kernel
def cn_N : String := "TuneFinder$Notes"
def ft_N : u_T := fun k => match k with
  | 0 => ("TuneFinder$Notes", "pitches", "[I", true)
  | 1 => ("TuneFinder$Notes", "lengths", "[I", true)
  | _ => ("TuneFinder$Notes", "count", "I", false)
def fy_N : Nat → FieldType := fun k => match k with
  | 0 => .array .int
  | 1 => .array .int
  | _ => .int
theorem fn_N : ∀ a, a < 3 → ∀ b, b < 3 → a ≠ b → (ft_N a).2.1 ≠ (ft_N b).2.1 := by decide +kernel
theorem fk_N : ∀ k, k < 3 → parseFieldDescriptor (ft_N k).2.2.1 = some (fy_N k) := by decide +kernel
def cn_P : String := "TuneFinder$Passage"
def ft_P : u_T := fun k => match k with
  | 0 => ("TuneFinder$Passage", "id", "I", false)
  | 1 => ("TuneFinder$Passage", "place", "I", false)
  | 2 => ("TuneFinder$Passage", "span", "I", false)
  | 3 => ("TuneFinder$Passage", "higher", "I", false)
  | _ => ("TuneFinder$Passage", "c", "I", false)
def fy_P : Nat → FieldType := fun k => match k with
  | 0 => .int
  | 1 => .int
  | 2 => .int
  | 3 => .int
  | _ => .int
theorem fn_P : ∀ a, a < 5 → ∀ b, b < 5 → a ≠ b → (ft_P a).2.1 ≠ (ft_P b).2.1 := by decide +kernel
theorem fk_P : ∀ k, k < 5 → parseFieldDescriptor (ft_P k).2.2.1 = some (fy_P k) := by decide +kernel
def cn_W : String := "TuneFinder$Repeats"
def ft_W : u_T := fun k => match k with
  | 0 => ("TuneFinder$Repeats", "common", "[I", true)
  | 1 => ("TuneFinder$Repeats", "first", "I", false)
  | 2 => ("TuneFinder$Repeats", "size", "I", false)
  | _ => ("TuneFinder$Repeats", "places", "I", false)
def fy_W : Nat → FieldType := fun k => match k with
  | 0 => .array .int
  | 1 => .int
  | 2 => .int
  | _ => .int
theorem fn_W : ∀ a, a < 4 → ∀ b, b < 4 → a ≠ b → (ft_W a).2.1 ≠ (ft_W b).2.1 := by decide +kernel
theorem fk_W : ∀ k, k < 4 → parseFieldDescriptor (ft_W k).2.2.1 = some (fy_W k) := by decide +kernel
def cn_U : String := "TuneFinder$Tune"
def ft_U : u_T := fun k => match k with
  | 0 => ("TuneFinder$Tune", "now", "LTuneFinder$Notes;", true)
  | 1 => ("TuneFinder$Tune", "placesReplaced", "[I", true)
  | 2 => ("TuneFinder$Tune", "replaced", "LTuneFinder$Notes;", true)
  | 3 => ("TuneFinder$Tune", "there", "Z", false)
  | 4 => ("TuneFinder$Tune", "shown", "Z", false)
  | _ => ("TuneFinder$Tune", "lastReading", "I", false)
def fy_U : Nat → FieldType := fun k => match k with
  | 0 => .object "TuneFinder$Notes"
  | 1 => .array .int
  | 2 => .object "TuneFinder$Notes"
  | 3 => .boolean
  | 4 => .boolean
  | _ => .int
theorem fn_U : ∀ a, a < 6 → ∀ b, b < 6 → a ≠ b → (ft_U a).2.1 ≠ (ft_U b).2.1 := by decide +kernel
theorem fk_U : ∀ k, k < 6 → parseFieldDescriptor (ft_U k).2.2.1 = some (fy_U k) := by decide +kernel
def cn_T : String := "TuneFinder"
def ft_T : u_T := fun k => match k with
  | 0 => ("TuneFinder", "tunes", "[LTuneFinder$Tune;", true)
  | 1 => ("TuneFinder", "query", "LTuneFinder$Notes;", true)
  | 2 => ("TuneFinder", "found", "LTuneFinder$Found;", true)
  | 3 => ("TuneFinder", "near", "LTuneFinder$Near;", true)
  | 4 => ("TuneFinder", "rows", "LTuneFinder$Repeats;", true)
  | _ => ("TuneFinder", "sharedSteps", "[I", true)
def fy_T : Nat → FieldType := fun k => match k with
  | 0 => .array (.object "TuneFinder$Tune")
  | 1 => .object "TuneFinder$Notes"
  | 2 => .object "TuneFinder$Found"
  | 3 => .object "TuneFinder$Near"
  | 4 => .object "TuneFinder$Repeats"
  | _ => .array .int
theorem fn_T : ∀ a, a < 6 → ∀ b, b < 6 → a ≠ b → (ft_T a).2.1 ≠ (ft_T b).2.1 := by decide +kernel
theorem fk_T : ∀ k, k < 6 → parseFieldDescriptor (ft_T k).2.2.1 = some (fy_T k) := by decide +kernel
def cn_M : String := "TuneFinderModel"
def ft_M : u_T := fun k => match k with
  | 0 => ("TuneFinderModel", "code", "I", false)
  | 1 => ("TuneFinderModel", "there", "[Z", true)
  | 2 => ("TuneFinderModel", "shown", "[Z", true)
  | 3 => ("TuneFinderModel", "sizes", "[I", true)
  | 4 => ("TuneFinderModel", "readings", "[I", true)
  | 5 => ("TuneFinderModel", "pitches", "[I", true)
  | 6 => ("TuneFinderModel", "lengths", "[I", true)
  | 7 => ("TuneFinderModel", "asked", "I", false)
  | 8 => ("TuneFinderModel", "askedPitch", "[I", true)
  | 9 => ("TuneFinderModel", "askedLength", "[I", true)
  | 10 => ("TuneFinderModel", "found", "I", false)
  | 11 => ("TuneFinderModel", "foundTune", "[I", true)
  | 12 => ("TuneFinderModel", "foundPlace", "[I", true)
  | 13 => ("TuneFinderModel", "foundSpan", "[I", true)
  | 14 => ("TuneFinderModel", "foundPart", "[I", true)
  | 15 => ("TuneFinderModel", "taken", "[Z", true)
  | 16 => ("TuneFinderModel", "kept", "I", false)
  | 17 => ("TuneFinderModel", "best", "[I", true)
  | 18 => ("TuneFinderModel", "changes", "[I", true)
  | 19 => ("TuneFinderModel", "stays", "[I", true)
  | _ => ("TuneFinderModel", "may", "[Z", true)
def fy_M : Nat → FieldType := fun k => match k with
  | 0 => .int
  | 1 => .array .boolean
  | 2 => .array .boolean
  | 3 => .array .int
  | 4 => .array .int
  | 5 => .array .int
  | 6 => .array .int
  | 7 => .int
  | 8 => .array .int
  | 9 => .array .int
  | 10 => .int
  | 11 => .array .int
  | 12 => .array .int
  | 13 => .array .int
  | 14 => .array .int
  | 15 => .array .boolean
  | 16 => .int
  | 17 => .array .int
  | 18 => .array .int
  | 19 => .array .int
  | _ => .array .boolean
theorem fn_M : ∀ a, a < 21 → ∀ b, b < 21 → a ≠ b → (ft_M a).2.1 ≠ (ft_M b).2.1 := by decide +kernel
theorem fk_M : ∀ k, k < 21 → parseFieldDescriptor (ft_M k).2.2.1 = some (fy_M k) := by decide +kernel
def cn_L : String := "TuneFinderLaw"
def cn_G : String := "java/lang/Integer"
abbrev zc_l : List vw_C := [(cn_F, ft_F, 4), (cn_R, ft_R, 5), (cn_N, ft_N, 3), (cn_P, ft_P, 5), (cn_W, ft_W, 4), (cn_U, ft_U, 6), (cn_T, ft_T, 6), (cn_M, ft_M, 21)]
/-- the words that stay true while a method runs: one list for all -/
def zt_tbl : List Cond := lw_tbl.filter goodWord
theorem zt_in {i : Nat} {w : Cond} (h : tables_1[i]? = some w) (hg : goodWord w = true) : w ∈ zt_tbl := List.mem_filter.mpr ⟨List.mem_append_right _ (List.mem_of_getElem? h), hg⟩
theorem zt_sel {i : Nat} {q : MethodName × Nat} (h : lw_privs[i]? = some q) : Cond.selects q.1.cls q.1 q.1 ∈ zt_tbl := List.mem_filter.mpr ⟨List.mem_append_left _ (List.mem_map.mpr ⟨q, List.mem_of_getElem? h, rfl⟩), rfl⟩
theorem fw_F : ∀ w ∈ u_ws cn_F ft_F 4, w ∈ zt_tbl := by decide +kernel
theorem fw_R : ∀ w ∈ u_ws cn_R ft_R 5, w ∈ zt_tbl := by decide +kernel
theorem fw_N : ∀ w ∈ u_ws cn_N ft_N 3, w ∈ zt_tbl := by decide +kernel
theorem fw_P : ∀ w ∈ u_ws cn_P ft_P 5, w ∈ zt_tbl := by decide +kernel
theorem fw_W : ∀ w ∈ u_ws cn_W ft_W 4, w ∈ zt_tbl := by decide +kernel
theorem fw_U : ∀ w ∈ u_ws cn_U ft_U 6, w ∈ zt_tbl := by decide +kernel
theorem fw_T : ∀ w ∈ u_ws cn_T ft_T 6, w ∈ zt_tbl := by decide +kernel
theorem fw_M : ∀ w ∈ u_ws cn_M ft_M 21, w ∈ zt_tbl := by decide +kernel
abbrev bc_T_init : ByteArray := prog_1_method_1_code
def mn_T_init : MethodName := ⟨cn_T, "<init>", "()V"⟩
def mr_T_init : Option FieldType := none
abbrev bc_U_init : ByteArray := prog_7_method_1_code
def mn_U_init : MethodName := ⟨cn_U, "<init>", "()V"⟩
def mr_U_init : Option FieldType := none
abbrev bc_N_init : ByteArray := prog_4_method_1_code
def mn_N_init : MethodName := ⟨cn_N, "<init>", "(I)V"⟩
def mr_N_init : Option FieldType := none
abbrev bc_F_init : ByteArray := prog_2_method_1_code
def mn_F_init : MethodName := ⟨cn_F, "<init>", "()V"⟩
def mr_F_init : Option FieldType := none
abbrev bc_P_init : ByteArray := prog_5_method_1_code
def mn_P_init : MethodName := ⟨cn_P, "<init>", "()V"⟩
def mr_P_init : Option FieldType := none
abbrev bc_R_init : ByteArray := prog_3_method_1_code
def mn_R_init : MethodName := ⟨cn_R, "<init>", "()V"⟩
def mr_R_init : Option FieldType := none
abbrev bc_W_init : ByteArray := prog_6_method_1_code
def mn_W_init : MethodName := ⟨cn_W, "<init>", "()V"⟩
def mr_W_init : Option FieldType := none
abbrev bc_T_forget : ByteArray := prog_1_method_12_code
def mn_T_forget : MethodName := ⟨cn_T, "forget", "()V"⟩
def mr_T_forget : Option FieldType := none
abbrev bc_N_clear : ByteArray := prog_4_method_2_code
def mn_N_clear : MethodName := ⟨cn_N, "clear", "()V"⟩
def mr_N_clear : Option FieldType := none
abbrev bc_L_tune : ByteArray := method_3_code
def mn_L_tune : MethodName := ⟨cn_L, "tune", "(LTuneFinder;I)I"⟩
def mr_L_tune : Option FieldType := (some .int)
abbrev bc_T_tune : ByteArray := prog_1_method_2_code
def mn_T_tune : MethodName := ⟨cn_T, "tune", "(I)V"⟩
def mr_T_tune : Option FieldType := none
abbrev bc_U_begin : ByteArray := prog_7_method_2_code
def mn_U_begin : MethodName := ⟨cn_U, "begin", "()V"⟩
def mr_U_begin : Option FieldType := none
abbrev bc_L_drop : ByteArray := method_4_code
def mn_L_drop : MethodName := ⟨cn_L, "drop", "(LTuneFinder;I)I"⟩
def mr_L_drop : Option FieldType := (some .int)
abbrev bc_T_drop : ByteArray := prog_1_method_3_code
def mn_T_drop : MethodName := ⟨cn_T, "drop", "(I)V"⟩
def mr_T_drop : Option FieldType := none
abbrev bc_T_existing : ByteArray := prog_1_method_19_code
def mn_T_existing : MethodName := ⟨cn_T, "existing", "(I)LTuneFinder$Tune;"⟩
def mr_T_existing : Option FieldType := (some (.object "TuneFinder$Tune"))
abbrev bc_U_end : ByteArray := prog_7_method_3_code
def mn_U_end : MethodName := ⟨cn_U, "end", "()V"⟩
def mr_U_end : Option FieldType := none
abbrev bc_L_note : ByteArray := method_5_code
def mn_L_note : MethodName := ⟨cn_L, "note", "(LTuneFinder;III[J)I"⟩
def mr_L_note : Option FieldType := (some .int)
abbrev bc_T_note : ByteArray := prog_1_method_4_code
def mn_T_note : MethodName := ⟨cn_T, "note", "(III)I"⟩
def mr_T_note : Option FieldType := (some .int)
abbrev bc_T_refuseUnlessNote : ByteArray := prog_1_method_22_code
def mn_T_refuseUnlessNote : MethodName := ⟨cn_T, "refuseUnlessNote", "(II)V"⟩
def mr_T_refuseUnlessNote : Option FieldType := none
abbrev bc_N_append : ByteArray := prog_4_method_3_code
def mn_N_append : MethodName := ⟨cn_N, "append", "(II)I"⟩
def mr_N_append : Option FieldType := (some .int)
abbrev bc_N_put : ByteArray := prog_4_method_4_code
def mn_N_put : MethodName := ⟨cn_N, "put", "(III)V"⟩
def mr_N_put : Option FieldType := none
abbrev bc_L_show : ByteArray := method_6_code
def mn_L_show : MethodName := ⟨cn_L, "show", "(LTuneFinder;IZ)I"⟩
def mr_L_show : Option FieldType := (some .int)
abbrev bc_T_show : ByteArray := prog_1_method_5_code
def mn_T_show : MethodName := ⟨cn_T, "show", "(IZ)V"⟩
def mr_T_show : Option FieldType := none
abbrev bc_L_correct : ByteArray := method_7_code
def mn_L_correct : MethodName := ⟨cn_L, "correct", "(LTuneFinder;IIII[J)I"⟩
def mr_L_correct : Option FieldType := (some .int)
abbrev bc_T_correct : ByteArray := prog_1_method_6_code
def mn_T_correct : MethodName := ⟨cn_T, "correct", "(IIII)I"⟩
def mr_T_correct : Option FieldType := (some .int)
abbrev bc_T_refuseUnlessPlace : ByteArray := prog_1_method_20_code
def mn_T_refuseUnlessPlace : MethodName := ⟨cn_T, "refuseUnlessPlace", "(LTuneFinder$Tune;I)V"⟩
def mr_T_refuseUnlessPlace : Option FieldType := none
abbrev bc_U_replace : ByteArray := prog_7_method_4_code
def mn_U_replace : MethodName := ⟨cn_U, "replace", "(III)I"⟩
def mr_U_replace : Option FieldType := (some .int)
abbrev bc_L_restore : ByteArray := method_8_code
def mn_L_restore : MethodName := ⟨cn_L, "restore", "(LTuneFinder;II)I"⟩
def mr_L_restore : Option FieldType := (some .int)
abbrev bc_T_restore : ByteArray := prog_1_method_7_code
def mn_T_restore : MethodName := ⟨cn_T, "restore", "(II)V"⟩
def mr_T_restore : Option FieldType := none
abbrev bc_T_refuseUnlessReading : ByteArray := prog_1_method_21_code
def mn_T_refuseUnlessReading : MethodName := ⟨cn_T, "refuseUnlessReading", "(LTuneFinder$Tune;I)V"⟩
def mr_T_refuseUnlessReading : Option FieldType := none
abbrev bc_U_goBack : ByteArray := prog_7_method_5_code
def mn_U_goBack : MethodName := ⟨cn_U, "goBack", "(I)V"⟩
def mr_U_goBack : Option FieldType := none
abbrev bc_L_at : ByteArray := method_9_code
def mn_L_at : MethodName := ⟨cn_L, "at", "(LTuneFinder;IIII[J)I"⟩
def mr_L_at : Option FieldType := (some .int)
abbrev bc_T_at : ByteArray := prog_1_method_8_code
def mn_T_at : MethodName := ⟨cn_T, "at", "(IIII)I"⟩
def mr_T_at : Option FieldType := (some .int)
abbrev bc_U_pitchIn : ByteArray := prog_7_method_6_code
def mn_U_pitchIn : MethodName := ⟨cn_U, "pitchIn", "(II)I"⟩
def mr_U_pitchIn : Option FieldType := (some .int)
abbrev bc_U_replacedAfter : ByteArray := prog_7_method_9_code
def mn_U_replacedAfter : MethodName := ⟨cn_U, "replacedAfter", "(II)I"⟩
def mr_U_replacedAfter : Option FieldType := (some .int)
abbrev bc_U_lengthIn : ByteArray := prog_7_method_7_code
def mn_U_lengthIn : MethodName := ⟨cn_U, "lengthIn", "(II)I"⟩
def mr_U_lengthIn : Option FieldType := (some .int)
abbrev bc_U_stepIn : ByteArray := prog_7_method_8_code
def mn_U_stepIn : MethodName := ⟨cn_U, "stepIn", "(II)I"⟩
def mr_U_stepIn : Option FieldType := (some .int)
abbrev bc_L_about : ByteArray := method_10_code
def mn_L_about : MethodName := ⟨cn_L, "about", "(LTuneFinder;II[J)I"⟩
def mr_L_about : Option FieldType := (some .int)
abbrev bc_T_about : ByteArray := prog_1_method_9_code
def mn_T_about : MethodName := ⟨cn_T, "about", "(II)I"⟩
def mr_T_about : Option FieldType := (some .int)
abbrev bc_L_contour : ByteArray := method_11_code
def mn_L_contour : MethodName := ⟨cn_L, "contour", "(LTuneFinder;II[J)I"⟩
def mr_L_contour : Option FieldType := (some .int)
abbrev bc_T_contour : ByteArray := prog_1_method_10_code
def mn_T_contour : MethodName := ⟨cn_T, "contour", "(II)I"⟩
def mr_T_contour : Option FieldType := (some .int)
abbrev bc_N_steps : ByteArray := prog_4_method_5_code
def mn_N_steps : MethodName := ⟨cn_N, "steps", "()I"⟩
def mr_N_steps : Option FieldType := (some .int)
abbrev bc_N_stepBehind : ByteArray := prog_4_method_6_code
def mn_N_stepBehind : MethodName := ⟨cn_N, "stepBehind", "(I)I"⟩
def mr_N_stepBehind : Option FieldType := (some .int)
abbrev bc_L_ask : ByteArray := method_12_code
def mn_L_ask : MethodName := ⟨cn_L, "ask", "(LTuneFinder;II[J)I"⟩
def mr_L_ask : Option FieldType := (some .int)
abbrev bc_T_ask : ByteArray := prog_1_method_11_code
def mn_T_ask : MethodName := ⟨cn_T, "ask", "(II)I"⟩
def mr_T_ask : Option FieldType := (some .int)
abbrev bc_L_search : ByteArray := method_13_code
def mn_L_search : MethodName := ⟨cn_L, "search", "(LTuneFinder;II[J)I"⟩
def mr_L_search : Option FieldType := (some .int)
abbrev bc_T_search : ByteArray := prog_1_method_13_code
def mn_T_search : MethodName := ⟨cn_T, "search", "(II)I"⟩
def mr_T_search : Option FieldType := (some .int)
abbrev bc_F_begin : ByteArray := prog_2_method_2_code
def mn_F_begin : MethodName := ⟨cn_F, "begin", "(I)V"⟩
def mr_F_begin : Option FieldType := none
abbrev bc_T_searchTune : ByteArray := prog_1_method_24_code
def mn_T_searchTune : MethodName := ⟨cn_T, "searchTune", "(III)V"⟩
def mr_T_searchTune : Option FieldType := none
abbrev bc_T_searchOutline : ByteArray := prog_1_method_27_code
def mn_T_searchOutline : MethodName := ⟨cn_T, "searchOutline", "(II)V"⟩
def mr_T_searchOutline : Option FieldType := none
abbrev bc_T_outlineEnds : ByteArray := prog_1_method_28_code
def mn_T_outlineEnds : MethodName := ⟨cn_T, "outlineEnds", "(LTuneFinder$Notes;II)I"⟩
def mr_T_outlineEnds : Option FieldType := (some .int)
abbrev bc_N_placesOfPitch : ByteArray := prog_4_method_7_code
def mn_N_placesOfPitch : MethodName := ⟨cn_N, "placesOfPitch", "(I)I"⟩
def mr_N_placesOfPitch : Option FieldType := (some .int)
abbrev bc_T_offer : ByteArray := prog_1_method_30_code
def mn_T_offer : MethodName := ⟨cn_T, "offer", "(IIII)V"⟩
def mr_T_offer : Option FieldType := none
abbrev bc_F_add : ByteArray := prog_2_method_3_code
def mn_F_add : MethodName := ⟨cn_F, "add", "(IIIII)V"⟩
def mr_F_add : Option FieldType := none
abbrev bc_F_rankOf : ByteArray := prog_2_method_4_code
def mn_F_rankOf : MethodName := ⟨cn_F, "rankOf", "(II)I"⟩
def mr_F_rankOf : Option FieldType := (some .int)
abbrev bc_F_makeRoom : ByteArray := prog_2_method_5_code
def mn_F_makeRoom : MethodName := ⟨cn_F, "makeRoom", "(I)LTuneFinder$Passage;"⟩
def mr_F_makeRoom : Option FieldType := (some (.object "TuneFinder$Passage"))
abbrev bc_T_searchNear : ByteArray := prog_1_method_29_code
def mn_T_searchNear : MethodName := ⟨cn_T, "searchNear", "(II)V"⟩
def mr_T_searchNear : Option FieldType := none
abbrev bc_R_begin : ByteArray := prog_3_method_2_code
def mn_R_begin : MethodName := ⟨cn_R, "begin", "(LTuneFinder$Notes;LTuneFinder$Notes;I)V"⟩
def mr_R_begin : Option FieldType := none
abbrev bc_R_measure : ByteArray := prog_3_method_6_code
def mn_R_measure : MethodName := ⟨cn_R, "measure", "(LTuneFinder$Notes;LTuneFinder$Notes;I)V"⟩
def mr_R_measure : Option FieldType := none
abbrev bc_R_takeIn : ByteArray := prog_3_method_7_code
def mn_R_takeIn : MethodName := ⟨cn_R, "takeIn", "(LTuneFinder$Notes;I)V"⟩
def mr_R_takeIn : Option FieldType := none
abbrev bc_R_goOn : ByteArray := prog_3_method_3_code
def mn_R_goOn : MethodName := ⟨cn_R, "goOn", "(LTuneFinder$Notes;LTuneFinder$Notes;I)V"⟩
def mr_R_goOn : Option FieldType := none
abbrev bc_R_holds : ByteArray := prog_3_method_4_code
def mn_R_holds : MethodName := ⟨cn_R, "holds", "(I)Z"⟩
def mr_R_holds : Option FieldType := (some .boolean)
abbrev bc_R_staying : ByteArray := prog_3_method_5_code
def mn_R_staying : MethodName := ⟨cn_R, "staying", "(I)I"⟩
def mr_R_staying : Option FieldType := (some .int)
abbrev bc_T_searchNoteByNote : ByteArray := prog_1_method_25_code
def mn_T_searchNoteByNote : MethodName := ⟨cn_T, "searchNoteByNote", "(II)V"⟩
def mr_T_searchNoteByNote : Option FieldType := none
abbrev bc_T_fits : ByteArray := prog_1_method_26_code
def mn_T_fits : MethodName := ⟨cn_T, "fits", "(ILTuneFinder$Notes;I)Z"⟩
def mr_T_fits : Option FieldType := (some .boolean)
abbrev bc_T_sameSteps : ByteArray := prog_1_method_31_code
def mn_T_sameSteps : MethodName := ⟨cn_T, "sameSteps", "(LTuneFinder$Notes;ILTuneFinder$Notes;I)Z"⟩
def mr_T_sameSteps : Option FieldType := (some .boolean)
abbrev bc_T_sameRatio : ByteArray := prog_1_method_33_code
def mn_T_sameRatio : MethodName := ⟨cn_T, "sameRatio", "(LTuneFinder$Notes;LTuneFinder$Notes;I)Z"⟩
def mr_T_sameRatio : Option FieldType := (some .boolean)
abbrev bc_T_sameContour : ByteArray := prog_1_method_32_code
def mn_T_sameContour : MethodName := ⟨cn_T, "sameContour", "(LTuneFinder$Notes;LTuneFinder$Notes;I)Z"⟩
def mr_T_sameContour : Option FieldType := (some .boolean)
abbrev bc_G_signum : ByteArray := prog_14_method_56_code
def mn_G_signum : MethodName := ⟨cn_G, "signum", "(I)I"⟩
def mr_G_signum : Option FieldType := (some .int)
abbrev bc_L_match : ByteArray := method_14_code
def mn_L_match : MethodName := ⟨cn_L, "match", "(LTuneFinder;II[J)I"⟩
def mr_L_match : Option FieldType := (some .int)
abbrev bc_T_match : ByteArray := prog_1_method_14_code
def mn_T_match : MethodName := ⟨cn_T, "match", "(II)I"⟩
def mr_T_match : Option FieldType := (some .int)
abbrev bc_F_upperOfScore : ByteArray := prog_2_method_6_code
def mn_F_upperOfScore : MethodName := ⟨cn_F, "upperOfScore", "(LTuneFinder$Passage;)I"⟩
def mr_F_upperOfScore : Option FieldType := (some .int)
abbrev bc_F_leastTerm : ByteArray := prog_2_method_8_code
def mn_F_leastTerm : MethodName := ⟨cn_F, "leastTerm", "(II)I"⟩
def mr_F_leastTerm : Option FieldType := (some .int)
abbrev bc_F_lowerOfScore : ByteArray := prog_2_method_7_code
def mn_F_lowerOfScore : MethodName := ⟨cn_F, "lowerOfScore", "(LTuneFinder$Passage;)I"⟩
def mr_F_lowerOfScore : Option FieldType := (some .int)
abbrev bc_L_repeats : ByteArray := method_15_code
def mn_L_repeats : MethodName := ⟨cn_L, "repeats", "(LTuneFinder;II[J)I"⟩
def mr_L_repeats : Option FieldType := (some .int)
abbrev bc_T_repeats : ByteArray := prog_1_method_15_code
def mn_T_repeats : MethodName := ⟨cn_T, "repeats", "(II)I"⟩
def mr_T_repeats : Option FieldType := (some .int)
abbrev bc_T_refuseUnlessLeast : ByteArray := prog_1_method_23_code
def mn_T_refuseUnlessLeast : MethodName := ⟨cn_T, "refuseUnlessLeast", "(I)V"⟩
def mr_T_refuseUnlessLeast : Option FieldType := none
abbrev bc_W_walk : ByteArray := prog_6_method_2_code
def mn_W_walk : MethodName := ⟨cn_W, "walk", "(LTuneFinder$Notes;II)I"⟩
def mr_W_walk : Option FieldType := (some .int)
abbrev bc_W_compare : ByteArray := prog_6_method_3_code
def mn_W_compare : MethodName := ⟨cn_W, "compare", "(LTuneFinder$Notes;I)V"⟩
def mr_W_compare : Option FieldType := none
abbrev bc_W_placesOfRepeat : ByteArray := prog_6_method_4_code
def mn_W_placesOfRepeat : MethodName := ⟨cn_W, "placesOfRepeat", "(LTuneFinder$Notes;II)I"⟩
def mr_W_placesOfRepeat : Option FieldType := (some .int)
abbrev bc_L_repeat : ByteArray := method_16_code
def mn_L_repeat : MethodName := ⟨cn_L, "repeat", "(LTuneFinder;IIII[J)I"⟩
def mr_L_repeat : Option FieldType := (some .int)
abbrev bc_T_repeat : ByteArray := prog_1_method_16_code
def mn_T_repeat : MethodName := ⟨cn_T, "repeat", "(IIII)I"⟩
def mr_T_repeat : Option FieldType := (some .int)
abbrev bc_L_canon : ByteArray := method_17_code
def mn_L_canon : MethodName := ⟨cn_L, "canon", "(LTuneFinder;III[J)I"⟩
def mr_L_canon : Option FieldType := (some .int)
abbrev bc_T_canon : ByteArray := prog_1_method_17_code
def mn_T_canon : MethodName := ⟨cn_T, "canon", "(III)I"⟩
def mr_T_canon : Option FieldType := (some .int)
abbrev bc_T_sameLengths : ByteArray := prog_1_method_34_code
def mn_T_sameLengths : MethodName := ⟨cn_T, "sameLengths", "(LTuneFinder$Notes;ILTuneFinder$Notes;I)Z"⟩
def mr_T_sameLengths : Option FieldType := (some .boolean)
abbrev bc_L_opening : ByteArray := method_18_code
def mn_L_opening : MethodName := ⟨cn_L, "opening", "(LTuneFinder;II[J)I"⟩
def mr_L_opening : Option FieldType := (some .int)
abbrev bc_T_opening : ByteArray := prog_1_method_18_code
def mn_T_opening : MethodName := ⟨cn_T, "opening", "(II)I"⟩
def mr_T_opening : Option FieldType := (some .int)
abbrev bc_T_stepsSharedAtFirst : ByteArray := prog_1_method_35_code
def mn_T_stepsSharedAtFirst : MethodName := ⟨cn_T, "stepsSharedAtFirst", "(LTuneFinder$Notes;LTuneFinder$Notes;)I"⟩
def mr_T_stepsSharedAtFirst : Option FieldType := (some .int)
abbrev bc_M_init : ByteArray := prog_9_method_1_code
def mn_M_init : MethodName := ⟨cn_M, "<init>", "()V"⟩
def mr_M_init : Option FieldType := none
abbrev bc_M_thrown : ByteArray := prog_9_method_2_code
def mn_M_thrown : MethodName := ⟨cn_M, "thrown", "()I"⟩
def mr_M_thrown : Option FieldType := (some .int)
abbrev bc_M_tune : ByteArray := prog_9_method_10_code
def mn_M_tune : MethodName := ⟨cn_M, "tune", "(I)V"⟩
def mr_M_tune : Option FieldType := none
abbrev bc_M_drop : ByteArray := prog_9_method_11_code
def mn_M_drop : MethodName := ⟨cn_M, "drop", "(I)V"⟩
def mr_M_drop : Option FieldType := none
abbrev bc_M_noTune : ByteArray := prog_9_method_3_code
def mn_M_noTune : MethodName := ⟨cn_M, "noTune", "(I)Z"⟩
def mr_M_noTune : Option FieldType := (some .boolean)
abbrev bc_M_note : ByteArray := prog_9_method_12_code
def mn_M_note : MethodName := ⟨cn_M, "note", "(III)I"⟩
def mr_M_note : Option FieldType := (some .int)
abbrev bc_M_noNote : ByteArray := prog_9_method_4_code
def mn_M_noNote : MethodName := ⟨cn_M, "noNote", "(II)Z"⟩
def mr_M_noNote : Option FieldType := (some .boolean)
abbrev bc_M_spot : ByteArray := prog_9_method_5_code
def mn_M_spot : MethodName := ⟨cn_M, "spot", "(III)I"⟩
def mr_M_spot : Option FieldType := (some .int)
abbrev bc_M_show : ByteArray := prog_9_method_13_code
def mn_M_show : MethodName := ⟨cn_M, "show", "(IZ)V"⟩
def mr_M_show : Option FieldType := none
abbrev bc_M_correct : ByteArray := prog_9_method_14_code
def mn_M_correct : MethodName := ⟨cn_M, "correct", "(IIII)I"⟩
def mr_M_correct : Option FieldType := (some .int)
abbrev bc_M_restore : ByteArray := prog_9_method_15_code
def mn_M_restore : MethodName := ⟨cn_M, "restore", "(II)V"⟩
def mr_M_restore : Option FieldType := none
abbrev bc_M_at : ByteArray := prog_9_method_16_code
def mn_M_at : MethodName := ⟨cn_M, "at", "(IIII)I"⟩
def mr_M_at : Option FieldType := (some .int)
abbrev bc_M_about : ByteArray := prog_9_method_17_code
def mn_M_about : MethodName := ⟨cn_M, "about", "(II)I"⟩
def mr_M_about : Option FieldType := (some .int)
abbrev bc_M_contour : ByteArray := prog_9_method_19_code
def mn_M_contour : MethodName := ⟨cn_M, "contour", "(II)I"⟩
def mr_M_contour : Option FieldType := (some .int)
abbrev bc_M_step : ByteArray := prog_9_method_8_code
def mn_M_step : MethodName := ⟨cn_M, "step", "(II)I"⟩
def mr_M_step : Option FieldType := (some .int)
abbrev bc_M_pitch : ByteArray := prog_9_method_6_code
def mn_M_pitch : MethodName := ⟨cn_M, "pitch", "(II)I"⟩
def mr_M_pitch : Option FieldType := (some .int)
abbrev bc_M_sign : ByteArray := prog_9_method_18_code
def mn_M_sign : MethodName := ⟨cn_M, "sign", "(I)I"⟩
def mr_M_sign : Option FieldType := (some .int)
abbrev bc_M_ask : ByteArray := prog_9_method_20_code
def mn_M_ask : MethodName := ⟨cn_M, "ask", "(II)I"⟩
def mr_M_ask : Option FieldType := (some .int)
abbrev bc_M_forget : ByteArray := prog_9_method_21_code
def mn_M_forget : MethodName := ⟨cn_M, "forget", "()V"⟩
def mr_M_forget : Option FieldType := none
abbrev bc_M_search : ByteArray := prog_9_method_29_code
def mn_M_search : MethodName := ⟨cn_M, "search", "(II)I"⟩
def mr_M_search : Option FieldType := (some .int)
abbrev bc_M_part : ByteArray := prog_9_method_26_code
def mn_M_part : MethodName := ⟨cn_M, "part", "(IIIII)I"⟩
def mr_M_part : Option FieldType := (some .int)
abbrev bc_M_plain : ByteArray := prog_9_method_22_code
def mn_M_plain : MethodName := ⟨cn_M, "plain", "(III)Z"⟩
def mr_M_plain : Option FieldType := (some .boolean)
abbrev bc_M_askedStep : ByteArray := prog_9_method_9_code
def mn_M_askedStep : MethodName := ⟨cn_M, "askedStep", "(I)I"⟩
def mr_M_askedStep : Option FieldType := (some .int)
abbrev bc_M_lengthOf : ByteArray := prog_9_method_7_code
def mn_M_lengthOf : MethodName := ⟨cn_M, "lengthOf", "(II)I"⟩
def mr_M_lengthOf : Option FieldType := (some .int)
abbrev bc_M_outlines : ByteArray := prog_9_method_23_code
def mn_M_outlines : MethodName := ⟨cn_M, "outlines", "(IIII)Z"⟩
def mr_M_outlines : Option FieldType := (some .boolean)
abbrev bc_M_near : ByteArray := prog_9_method_25_code
def mn_M_near : MethodName := ⟨cn_M, "near", "(IIII)Z"⟩
def mr_M_near : Option FieldType := (some .boolean)
abbrev bc_M_distance : ByteArray := prog_9_method_24_code
def mn_M_distance : MethodName := ⟨cn_M, "distance", "(III)I"⟩
def mr_M_distance : Option FieldType := (some .int)
abbrev bc_M_leads : ByteArray := prog_9_method_27_code
def mn_M_leads : MethodName := ⟨cn_M, "leads", "(II)Z"⟩
def mr_M_leads : Option FieldType := (some .boolean)
abbrev bc_M_divisor : ByteArray := prog_9_method_28_code
def mn_M_divisor : MethodName := ⟨cn_M, "divisor", "(II)I"⟩
def mr_M_divisor : Option FieldType := (some .int)
abbrev bc_M_match : ByteArray := prog_9_method_30_code
def mn_M_match : MethodName := ⟨cn_M, "match", "(II)I"⟩
def mr_M_match : Option FieldType := (some .int)
abbrev bc_M_repeats : ByteArray := prog_9_method_34_code
def mn_M_repeats : MethodName := ⟨cn_M, "repeats", "(II)I"⟩
def mr_M_repeats : Option FieldType := (some .int)
abbrev bc_M_places : ByteArray := prog_9_method_33_code
def mn_M_places : MethodName := ⟨cn_M, "places", "(III)I"⟩
def mr_M_places : Option FieldType := (some .int)
abbrev bc_M_sameSteps : ByteArray := prog_9_method_31_code
def mn_M_sameSteps : MethodName := ⟨cn_M, "sameSteps", "(IIII)Z"⟩
def mr_M_sameSteps : Option FieldType := (some .boolean)
abbrev bc_M_hasStep : ByteArray := prog_9_method_32_code
def mn_M_hasStep : MethodName := ⟨cn_M, "hasStep", "(II)Z"⟩
def mr_M_hasStep : Option FieldType := (some .boolean)
abbrev bc_M_repeat : ByteArray := prog_9_method_35_code
def mn_M_repeat : MethodName := ⟨cn_M, "repeat", "(IIII)I"⟩
def mr_M_repeat : Option FieldType := (some .int)
abbrev bc_M_canon : ByteArray := prog_9_method_36_code
def mn_M_canon : MethodName := ⟨cn_M, "canon", "(III)I"⟩
def mr_M_canon : Option FieldType := (some .int)
abbrev bc_M_opening : ByteArray := prog_9_method_38_code
def mn_M_opening : MethodName := ⟨cn_M, "opening", "(II)I"⟩
def mr_M_opening : Option FieldType := (some .int)
abbrev bc_M_sharing : ByteArray := prog_9_method_37_code
def mn_M_sharing : MethodName := ⟨cn_M, "sharing", "(II)I"⟩
def mr_M_sharing : Option FieldType := (some .int)
end
section
theorem ini_L : Cond.initialized cn_L ∈ zt_tbl := zt_in (i := 0) (by decide +kernel) rfl
theorem ini_T : Cond.initialized cn_T ∈ zt_tbl := zt_in (i := 1) (by decide +kernel) rfl
theorem ini_U : Cond.initialized cn_U ∈ zt_tbl := zt_in (i := 2) (by decide +kernel) rfl
theorem ini_N : Cond.initialized cn_N ∈ zt_tbl := zt_in (i := 3) (by decide +kernel) rfl
theorem ini_F : Cond.initialized cn_F ∈ zt_tbl := zt_in (i := 4) (by decide +kernel) rfl
theorem ini_P : Cond.initialized cn_P ∈ zt_tbl := zt_in (i := 5) (by decide +kernel) rfl
theorem ini_R : Cond.initialized cn_R ∈ zt_tbl := zt_in (i := 6) (by decide +kernel) rfl
theorem ini_W : Cond.initialized cn_W ∈ zt_tbl := zt_in (i := 7) (by decide +kernel) rfl
theorem ini_M : Cond.initialized cn_M ∈ zt_tbl := zt_in (i := 8) (by decide +kernel) rfl
theorem ini_Throwable : Cond.initialized "java/lang/Throwable" ∈ zt_tbl := zt_in (i := 9) (by decide +kernel) rfl
theorem ini_Exception : Cond.initialized "java/lang/Exception" ∈ zt_tbl := zt_in (i := 10) (by decide +kernel) rfl
theorem ini_RuntimeException : Cond.initialized "java/lang/RuntimeException" ∈ zt_tbl := zt_in (i := 11) (by decide +kernel) rfl
theorem ini_IndexOutOfBoundsException : Cond.initialized "java/lang/IndexOutOfBoundsException" ∈ zt_tbl := zt_in (i := 12) (by decide +kernel) rfl
theorem ini_IllegalStateException : Cond.initialized "java/lang/IllegalStateException" ∈ zt_tbl := zt_in (i := 13) (by decide +kernel) rfl
theorem ini_IllegalArgumentException : Cond.initialized "java/lang/IllegalArgumentException" ∈ zt_tbl := zt_in (i := 14) (by decide +kernel) rfl
theorem ini_Math : Cond.initialized "java/lang/Math" ∈ zt_tbl := zt_in (i := 15) (by decide +kernel) rfl
theorem ini_G : Cond.initialized cn_G ∈ zt_tbl := zt_in (i := 16) (by decide +kernel) rfl
theorem cl_L_8 : Cond.classLink cn_L 8 cn_T ∈ zt_tbl := zt_in (i := 17) (by decide +kernel) rfl
theorem ins_T : Cond.instantiable cn_T 6 ∈ zt_tbl := zt_in (i := 18) (by decide +kernel) rfl
theorem ml_L_69 : Cond.methodLink cn_L 69 mn_T_init ∈ zt_tbl := zt_in (i := 19) (by decide +kernel) rfl
theorem im_T_init : Cond.instanceMethod mn_T_init ∈ zt_tbl := zt_in (i := 20) (by decide +kernel) rfl
theorem wk_T_init : Cond.code mn_T_init bc_T_init 2 none ∈ zt_tbl := zt_in (i := 21) (by decide +kernel) rfl
theorem ml_T_3 : Cond.methodLink cn_T 3 ⟨"java/lang/Object", "<init>", "()V"⟩ ∈ zt_tbl := zt_in (i := 22) (by decide +kernel) rfl
theorem im_Object_init : Cond.instanceMethod ⟨"java/lang/Object", "<init>", "()V"⟩ ∈ zt_tbl := zt_in (i := 23) (by decide +kernel) rfl
theorem wk_Object_init : Cond.code ⟨"java/lang/Object", "<init>", "()V"⟩ object_method_1_code 1 none ∈ zt_tbl := zt_in (i := 24) (by decide +kernel) rfl
theorem cl_T_9 : Cond.classLink cn_T 9 cn_U ∈ zt_tbl := zt_in (i := 25) (by decide +kernel) rfl
theorem ins_U : Cond.instantiable cn_U 6 ∈ zt_tbl := zt_in (i := 27) (by decide +kernel) rfl
theorem ml_T_15 : Cond.methodLink cn_T 15 mn_U_init ∈ zt_tbl := zt_in (i := 28) (by decide +kernel) rfl
theorem im_U_init : Cond.instanceMethod mn_U_init ∈ zt_tbl := zt_in (i := 29) (by decide +kernel) rfl
theorem wk_U_init : Cond.code mn_U_init bc_U_init 1 none ∈ zt_tbl := zt_in (i := 30) (by decide +kernel) rfl
theorem ml_U_3 : Cond.methodLink cn_U 3 ⟨"java/lang/Object", "<init>", "()V"⟩ ∈ zt_tbl := zt_in (i := 31) (by decide +kernel) rfl
theorem cl_U_9 : Cond.classLink cn_U 9 cn_N ∈ zt_tbl := zt_in (i := 32) (by decide +kernel) rfl
theorem ins_N : Cond.instantiable cn_N 3 ∈ zt_tbl := zt_in (i := 33) (by decide +kernel) rfl
theorem ml_U_11 : Cond.methodLink cn_U 11 mn_N_init ∈ zt_tbl := zt_in (i := 34) (by decide +kernel) rfl
theorem im_N_init : Cond.instanceMethod mn_N_init ∈ zt_tbl := zt_in (i := 35) (by decide +kernel) rfl
theorem wk_N_init : Cond.code mn_N_init bc_N_init 2 none ∈ zt_tbl := zt_in (i := 36) (by decide +kernel) rfl
theorem ml_N_1 : Cond.methodLink cn_N 1 ⟨"java/lang/Object", "<init>", "()V"⟩ ∈ zt_tbl := zt_in (i := 37) (by decide +kernel) rfl
theorem fl_N_7 : Cond.fieldLink cn_N 7 "TuneFinder$Notes" "pitches" "[I" ∈ zt_tbl := zt_in (i := 38) (by decide +kernel) rfl
theorem fl_U_41 : Cond.fieldLink cn_U 41 "TuneFinder$Notes" "pitches" "[I" ∈ zt_tbl := zt_in (i := 39) (by decide +kernel) rfl
theorem fl_T_219 : Cond.fieldLink cn_T 219 "TuneFinder$Notes" "pitches" "[I" ∈ zt_tbl := zt_in (i := 40) (by decide +kernel) rfl
theorem fl_N_13 : Cond.fieldLink cn_N 13 "TuneFinder$Notes" "lengths" "[I" ∈ zt_tbl := zt_in (i := 41) (by decide +kernel) rfl
theorem fl_U_44 : Cond.fieldLink cn_U 44 "TuneFinder$Notes" "lengths" "[I" ∈ zt_tbl := zt_in (i := 42) (by decide +kernel) rfl
theorem fl_T_250 : Cond.fieldLink cn_T 250 "TuneFinder$Notes" "lengths" "[I" ∈ zt_tbl := zt_in (i := 43) (by decide +kernel) rfl
theorem fl_N_16 : Cond.fieldLink cn_N 16 "TuneFinder$Notes" "count" "I" ∈ zt_tbl := zt_in (i := 44) (by decide +kernel) rfl
theorem fl_R_25 : Cond.fieldLink cn_R 25 "TuneFinder$Notes" "count" "I" ∈ zt_tbl := zt_in (i := 45) (by decide +kernel) rfl
theorem fl_T_84 : Cond.fieldLink cn_T 84 "TuneFinder$Notes" "count" "I" ∈ zt_tbl := zt_in (i := 46) (by decide +kernel) rfl
theorem fl_U_55 : Cond.fieldLink cn_U 55 "TuneFinder$Notes" "count" "I" ∈ zt_tbl := zt_in (i := 47) (by decide +kernel) rfl
theorem ac_int : Cond.arrayClass .int ∈ zt_tbl := zt_in (i := 55) (by decide +kernel) rfl
theorem fl_U_14 : Cond.fieldLink cn_U 14 "TuneFinder$Tune" "now" "LTuneFinder$Notes;" ∈ zt_tbl := zt_in (i := 56) (by decide +kernel) rfl
theorem fl_T_81 : Cond.fieldLink cn_T 81 "TuneFinder$Tune" "now" "LTuneFinder$Notes;" ∈ zt_tbl := zt_in (i := 57) (by decide +kernel) rfl
theorem fl_U_20 : Cond.fieldLink cn_U 20 "TuneFinder$Tune" "placesReplaced" "[I" ∈ zt_tbl := zt_in (i := 58) (by decide +kernel) rfl
theorem fl_U_24 : Cond.fieldLink cn_U 24 "TuneFinder$Tune" "replaced" "LTuneFinder$Notes;" ∈ zt_tbl := zt_in (i := 59) (by decide +kernel) rfl
theorem fl_U_30 : Cond.fieldLink cn_U 30 "TuneFinder$Tune" "there" "Z" ∈ zt_tbl := zt_in (i := 60) (by decide +kernel) rfl
theorem fl_T_53 : Cond.fieldLink cn_T 53 "TuneFinder$Tune" "there" "Z" ∈ zt_tbl := zt_in (i := 61) (by decide +kernel) rfl
theorem fl_U_34 : Cond.fieldLink cn_U 34 "TuneFinder$Tune" "shown" "Z" ∈ zt_tbl := zt_in (i := 62) (by decide +kernel) rfl
theorem fl_T_74 : Cond.fieldLink cn_T 74 "TuneFinder$Tune" "shown" "Z" ∈ zt_tbl := zt_in (i := 63) (by decide +kernel) rfl
theorem fl_U_37 : Cond.fieldLink cn_U 37 "TuneFinder$Tune" "lastReading" "I" ∈ zt_tbl := zt_in (i := 64) (by decide +kernel) rfl
theorem fl_T_77 : Cond.fieldLink cn_T 77 "TuneFinder$Tune" "lastReading" "I" ∈ zt_tbl := zt_in (i := 65) (by decide +kernel) rfl
theorem cl_T_16 : Cond.classLink cn_T 16 cn_N ∈ zt_tbl := zt_in (i := 79) (by decide +kernel) rfl
theorem ml_T_18 : Cond.methodLink cn_T 18 mn_N_init ∈ zt_tbl := zt_in (i := 80) (by decide +kernel) rfl
theorem cl_T_25 : Cond.classLink cn_T 25 cn_F ∈ zt_tbl := zt_in (i := 81) (by decide +kernel) rfl
theorem ins_F : Cond.instantiable cn_F 4 ∈ zt_tbl := zt_in (i := 82) (by decide +kernel) rfl
theorem ml_T_27 : Cond.methodLink cn_T 27 mn_F_init ∈ zt_tbl := zt_in (i := 83) (by decide +kernel) rfl
theorem im_F_init : Cond.instanceMethod mn_F_init ∈ zt_tbl := zt_in (i := 84) (by decide +kernel) rfl
theorem wk_F_init : Cond.code mn_F_init bc_F_init 2 none ∈ zt_tbl := zt_in (i := 85) (by decide +kernel) rfl
theorem ml_F_3 : Cond.methodLink cn_F 3 ⟨"java/lang/Object", "<init>", "()V"⟩ ∈ zt_tbl := zt_in (i := 86) (by decide +kernel) rfl
theorem cl_F_9 : Cond.classLink cn_F 9 cn_P ∈ zt_tbl := zt_in (i := 87) (by decide +kernel) rfl
theorem ins_P : Cond.instantiable cn_P 5 ∈ zt_tbl := zt_in (i := 89) (by decide +kernel) rfl
theorem im_P_init : Cond.instanceMethod mn_P_init ∈ zt_tbl := zt_in (i := 91) (by decide +kernel) rfl
theorem wk_P_init : Cond.code mn_P_init bc_P_init 1 none ∈ zt_tbl := zt_in (i := 92) (by decide +kernel) rfl
theorem ml_P_1 : Cond.methodLink cn_P 1 ⟨"java/lang/Object", "<init>", "()V"⟩ ∈ zt_tbl := zt_in (i := 93) (by decide +kernel) rfl
theorem fl_F_36 : Cond.fieldLink cn_F 36 "TuneFinder$Passage" "id" "I" ∈ zt_tbl := zt_in (i := 94) (by decide +kernel) rfl
theorem fl_T_144 : Cond.fieldLink cn_T 144 "TuneFinder$Passage" "id" "I" ∈ zt_tbl := zt_in (i := 95) (by decide +kernel) rfl
theorem fl_F_39 : Cond.fieldLink cn_F 39 "TuneFinder$Passage" "place" "I" ∈ zt_tbl := zt_in (i := 96) (by decide +kernel) rfl
theorem fl_T_149 : Cond.fieldLink cn_T 149 "TuneFinder$Passage" "place" "I" ∈ zt_tbl := zt_in (i := 97) (by decide +kernel) rfl
theorem fl_F_42 : Cond.fieldLink cn_F 42 "TuneFinder$Passage" "span" "I" ∈ zt_tbl := zt_in (i := 98) (by decide +kernel) rfl
theorem fl_T_152 : Cond.fieldLink cn_T 152 "TuneFinder$Passage" "span" "I" ∈ zt_tbl := zt_in (i := 99) (by decide +kernel) rfl
theorem fl_F_45 : Cond.fieldLink cn_F 45 "TuneFinder$Passage" "higher" "I" ∈ zt_tbl := zt_in (i := 100) (by decide +kernel) rfl
theorem fl_T_155 : Cond.fieldLink cn_T 155 "TuneFinder$Passage" "higher" "I" ∈ zt_tbl := zt_in (i := 101) (by decide +kernel) rfl
theorem fl_F_48 : Cond.fieldLink cn_F 48 "TuneFinder$Passage" "c" "I" ∈ zt_tbl := zt_in (i := 102) (by decide +kernel) rfl
theorem fl_F_11 : Cond.fieldLink cn_F 11 "TuneFinder$Found" "passages" "[LTuneFinder$Passage;" ∈ zt_tbl := zt_in (i := 114) (by decide +kernel) rfl
theorem fl_T_140 : Cond.fieldLink cn_T 140 "TuneFinder$Found" "passages" "[LTuneFinder$Passage;" ∈ zt_tbl := zt_in (i := 115) (by decide +kernel) rfl
theorem fl_F_18 : Cond.fieldLink cn_F 18 "TuneFinder$Found" "asked" "I" ∈ zt_tbl := zt_in (i := 116) (by decide +kernel) rfl
theorem fl_F_22 : Cond.fieldLink cn_F 22 "TuneFinder$Found" "total" "I" ∈ zt_tbl := zt_in (i := 117) (by decide +kernel) rfl
theorem fl_T_134 : Cond.fieldLink cn_T 134 "TuneFinder$Found" "total" "I" ∈ zt_tbl := zt_in (i := 118) (by decide +kernel) rfl
theorem fl_F_25 : Cond.fieldLink cn_F 25 "TuneFinder$Found" "kept" "I" ∈ zt_tbl := zt_in (i := 119) (by decide +kernel) rfl
theorem fl_T_137 : Cond.fieldLink cn_T 137 "TuneFinder$Found" "kept" "I" ∈ zt_tbl := zt_in (i := 120) (by decide +kernel) rfl
theorem cl_T_32 : Cond.classLink cn_T 32 cn_R ∈ zt_tbl := zt_in (i := 130) (by decide +kernel) rfl
theorem ins_R : Cond.instantiable cn_R 5 ∈ zt_tbl := zt_in (i := 131) (by decide +kernel) rfl
theorem ml_T_34 : Cond.methodLink cn_T 34 mn_R_init ∈ zt_tbl := zt_in (i := 132) (by decide +kernel) rfl
theorem im_R_init : Cond.instanceMethod mn_R_init ∈ zt_tbl := zt_in (i := 133) (by decide +kernel) rfl
theorem wk_R_init : Cond.code mn_R_init bc_R_init 1 none ∈ zt_tbl := zt_in (i := 134) (by decide +kernel) rfl
theorem ml_R_3 : Cond.methodLink cn_R 3 ⟨"java/lang/Object", "<init>", "()V"⟩ ∈ zt_tbl := zt_in (i := 135) (by decide +kernel) rfl
theorem fl_R_9 : Cond.fieldLink cn_R 9 "TuneFinder$Near" "weights" "[I" ∈ zt_tbl := zt_in (i := 136) (by decide +kernel) rfl
theorem fl_R_15 : Cond.fieldLink cn_R 15 "TuneFinder$Near" "here" "[I" ∈ zt_tbl := zt_in (i := 137) (by decide +kernel) rfl
theorem fl_R_18 : Cond.fieldLink cn_R 18 "TuneFinder$Near" "behind" "[I" ∈ zt_tbl := zt_in (i := 138) (by decide +kernel) rfl
theorem fl_R_21 : Cond.fieldLink cn_R 21 "TuneFinder$Near" "most" "I" ∈ zt_tbl := zt_in (i := 139) (by decide +kernel) rfl
theorem fl_R_30 : Cond.fieldLink cn_R 30 "TuneFinder$Near" "longest" "I" ∈ zt_tbl := zt_in (i := 140) (by decide +kernel) rfl
theorem fl_T_231 : Cond.fieldLink cn_T 231 "TuneFinder$Near" "longest" "I" ∈ zt_tbl := zt_in (i := 141) (by decide +kernel) rfl
theorem cl_T_39 : Cond.classLink cn_T 39 cn_W ∈ zt_tbl := zt_in (i := 153) (by decide +kernel) rfl
theorem ins_W : Cond.instantiable cn_W 4 ∈ zt_tbl := zt_in (i := 154) (by decide +kernel) rfl
theorem ml_T_41 : Cond.methodLink cn_T 41 mn_W_init ∈ zt_tbl := zt_in (i := 155) (by decide +kernel) rfl
theorem im_W_init : Cond.instanceMethod mn_W_init ∈ zt_tbl := zt_in (i := 156) (by decide +kernel) rfl
theorem wk_W_init : Cond.code mn_W_init bc_W_init 1 none ∈ zt_tbl := zt_in (i := 157) (by decide +kernel) rfl
theorem ml_W_3 : Cond.methodLink cn_W 3 ⟨"java/lang/Object", "<init>", "()V"⟩ ∈ zt_tbl := zt_in (i := 158) (by decide +kernel) rfl
theorem fl_W_9 : Cond.fieldLink cn_W 9 "TuneFinder$Repeats" "common" "[I" ∈ zt_tbl := zt_in (i := 159) (by decide +kernel) rfl
theorem fl_W_29 : Cond.fieldLink cn_W 29 "TuneFinder$Repeats" "first" "I" ∈ zt_tbl := zt_in (i := 160) (by decide +kernel) rfl
theorem fl_T_172 : Cond.fieldLink cn_T 172 "TuneFinder$Repeats" "first" "I" ∈ zt_tbl := zt_in (i := 161) (by decide +kernel) rfl
theorem fl_W_33 : Cond.fieldLink cn_W 33 "TuneFinder$Repeats" "size" "I" ∈ zt_tbl := zt_in (i := 162) (by decide +kernel) rfl
theorem fl_T_175 : Cond.fieldLink cn_T 175 "TuneFinder$Repeats" "size" "I" ∈ zt_tbl := zt_in (i := 163) (by decide +kernel) rfl
theorem fl_W_36 : Cond.fieldLink cn_W 36 "TuneFinder$Repeats" "places" "I" ∈ zt_tbl := zt_in (i := 164) (by decide +kernel) rfl
theorem fl_T_178 : Cond.fieldLink cn_T 178 "TuneFinder$Repeats" "places" "I" ∈ zt_tbl := zt_in (i := 165) (by decide +kernel) rfl
theorem fl_T_11 : Cond.fieldLink cn_T 11 "TuneFinder" "tunes" "[LTuneFinder$Tune;" ∈ zt_tbl := zt_in (i := 175) (by decide +kernel) rfl
theorem fl_T_21 : Cond.fieldLink cn_T 21 "TuneFinder" "query" "LTuneFinder$Notes;" ∈ zt_tbl := zt_in (i := 176) (by decide +kernel) rfl
theorem fl_T_28 : Cond.fieldLink cn_T 28 "TuneFinder" "found" "LTuneFinder$Found;" ∈ zt_tbl := zt_in (i := 177) (by decide +kernel) rfl
theorem fl_T_35 : Cond.fieldLink cn_T 35 "TuneFinder" "near" "LTuneFinder$Near;" ∈ zt_tbl := zt_in (i := 178) (by decide +kernel) rfl
theorem fl_T_42 : Cond.fieldLink cn_T 42 "TuneFinder" "rows" "LTuneFinder$Repeats;" ∈ zt_tbl := zt_in (i := 179) (by decide +kernel) rfl
theorem fl_T_46 : Cond.fieldLink cn_T 46 "TuneFinder" "sharedSteps" "[I" ∈ zt_tbl := zt_in (i := 180) (by decide +kernel) rfl
theorem ml_L_115 : Cond.methodLink cn_L 115 mn_T_forget ∈ zt_tbl := zt_in (i := 194) (by decide +kernel) rfl
theorem im_T_forget : Cond.instanceMethod mn_T_forget ∈ zt_tbl := zt_in (i := 195) (by decide +kernel) rfl
theorem se_T_forget : Cond.selects cn_T mn_T_forget mn_T_forget ∈ zt_tbl := zt_in (i := 196) (by decide +kernel) rfl
theorem wk_T_forget : Cond.code mn_T_forget bc_T_forget 1 none ∈ zt_tbl := zt_in (i := 197) (by decide +kernel) rfl
theorem ml_T_125 : Cond.methodLink cn_T 125 mn_N_clear ∈ zt_tbl := zt_in (i := 198) (by decide +kernel) rfl
theorem im_N_clear : Cond.instanceMethod mn_N_clear ∈ zt_tbl := zt_in (i := 199) (by decide +kernel) rfl
theorem se_N_clear : Cond.selects cn_N mn_N_clear mn_N_clear ∈ zt_tbl := zt_in (i := 200) (by decide +kernel) rfl
theorem wk_N_clear : Cond.code mn_N_clear bc_N_clear 1 none ∈ zt_tbl := zt_in (i := 201) (by decide +kernel) rfl
theorem ml_L_73 : Cond.methodLink cn_L 73 mn_L_tune ∈ zt_tbl := zt_in (i := 202) (by decide +kernel) rfl
theorem sm_L_tune : Cond.static mn_L_tune ∈ zt_tbl := zt_in (i := 203) (by decide +kernel) rfl
theorem cl_L_13 : Cond.classLink cn_L 13 "java/lang/IndexOutOfBoundsException" ∈ zt_tbl := zt_in (i := 205) (by decide +kernel) rfl
theorem cl_L_15 : Cond.classLink cn_L 15 "java/lang/IllegalStateException" ∈ zt_tbl := zt_in (i := 206) (by decide +kernel) rfl
theorem ml_L_7 : Cond.methodLink cn_L 7 mn_T_tune ∈ zt_tbl := zt_in (i := 207) (by decide +kernel) rfl
theorem im_T_tune : Cond.instanceMethod mn_T_tune ∈ zt_tbl := zt_in (i := 208) (by decide +kernel) rfl
theorem se_T_tune : Cond.selects cn_T mn_T_tune mn_T_tune ∈ zt_tbl := zt_in (i := 209) (by decide +kernel) rfl
theorem wk_T_tune : Cond.code mn_T_tune bc_T_tune 2 none ∈ zt_tbl := zt_in (i := 210) (by decide +kernel) rfl
theorem cl_T_50 : Cond.classLink cn_T 50 "java/lang/IndexOutOfBoundsException" ∈ zt_tbl := zt_in (i := 211) (by decide +kernel) rfl
theorem ins_IndexOutOfBoundsException : Cond.instantiable "java/lang/IndexOutOfBoundsException" 6 ∈ zt_tbl := zt_in (i := 212) (by decide +kernel) rfl
theorem ins_Throwable : Cond.instantiable "java/lang/Throwable" 6 ∈ zt_tbl := zt_in (i := 250) (by decide +kernel) rfl
theorem ml_T_52 : Cond.methodLink cn_T 52 ⟨"java/lang/IndexOutOfBoundsException", "<init>", "()V"⟩ ∈ zt_tbl := zt_in (i := 252) (by decide +kernel) rfl
theorem cl_T_57 : Cond.classLink cn_T 57 "java/lang/IllegalStateException" ∈ zt_tbl := zt_in (i := 274) (by decide +kernel) rfl
theorem ins_IllegalStateException : Cond.instantiable "java/lang/IllegalStateException" 6 ∈ zt_tbl := zt_in (i := 275) (by decide +kernel) rfl
theorem ml_T_59 : Cond.methodLink cn_T 59 ⟨"java/lang/IllegalStateException", "<init>", "()V"⟩ ∈ zt_tbl := zt_in (i := 283) (by decide +kernel) rfl
theorem ml_T_60 : Cond.methodLink cn_T 60 mn_U_begin ∈ zt_tbl := zt_in (i := 289) (by decide +kernel) rfl
theorem im_U_begin : Cond.instanceMethod mn_U_begin ∈ zt_tbl := zt_in (i := 290) (by decide +kernel) rfl
theorem se_U_begin : Cond.selects cn_U mn_U_begin mn_U_begin ∈ zt_tbl := zt_in (i := 291) (by decide +kernel) rfl
theorem wk_U_begin : Cond.code mn_U_begin bc_U_begin 1 none ∈ zt_tbl := zt_in (i := 292) (by decide +kernel) rfl
theorem ml_U_27 : Cond.methodLink cn_U 27 mn_N_clear ∈ zt_tbl := zt_in (i := 293) (by decide +kernel) rfl
theorem ml_L_83 : Cond.methodLink cn_L 83 mn_L_drop ∈ zt_tbl := zt_in (i := 294) (by decide +kernel) rfl
theorem sm_L_drop : Cond.static mn_L_drop ∈ zt_tbl := zt_in (i := 295) (by decide +kernel) rfl
theorem ml_L_17 : Cond.methodLink cn_L 17 mn_T_drop ∈ zt_tbl := zt_in (i := 297) (by decide +kernel) rfl
theorem im_T_drop : Cond.instanceMethod mn_T_drop ∈ zt_tbl := zt_in (i := 298) (by decide +kernel) rfl
theorem se_T_drop : Cond.selects cn_T mn_T_drop mn_T_drop ∈ zt_tbl := zt_in (i := 299) (by decide +kernel) rfl
theorem wk_T_drop : Cond.code mn_T_drop bc_T_drop 2 none ∈ zt_tbl := zt_in (i := 300) (by decide +kernel) rfl
theorem ml_T_63 : Cond.methodLink cn_T 63 mn_T_existing ∈ zt_tbl := zt_in (i := 301) (by decide +kernel) rfl
theorem im_T_existing : Cond.instanceMethod mn_T_existing ∈ zt_tbl := zt_in (i := 303) (by decide +kernel) rfl
theorem wk_T_existing : Cond.code mn_T_existing bc_T_existing 2 ((some (.object "TuneFinder$Tune"))) ∈ zt_tbl := zt_in (i := 304) (by decide +kernel) rfl
theorem ml_T_67 : Cond.methodLink cn_T 67 mn_U_end ∈ zt_tbl := zt_in (i := 305) (by decide +kernel) rfl
theorem im_U_end : Cond.instanceMethod mn_U_end ∈ zt_tbl := zt_in (i := 306) (by decide +kernel) rfl
theorem se_U_end : Cond.selects cn_U mn_U_end mn_U_end ∈ zt_tbl := zt_in (i := 307) (by decide +kernel) rfl
theorem wk_U_end : Cond.code mn_U_end bc_U_end 1 none ∈ zt_tbl := zt_in (i := 308) (by decide +kernel) rfl
theorem ml_L_86 : Cond.methodLink cn_L 86 mn_L_note ∈ zt_tbl := zt_in (i := 309) (by decide +kernel) rfl
theorem sm_L_note : Cond.static mn_L_note ∈ zt_tbl := zt_in (i := 310) (by decide +kernel) rfl
theorem cl_L_24 : Cond.classLink cn_L 24 "java/lang/IllegalArgumentException" ∈ zt_tbl := zt_in (i := 312) (by decide +kernel) rfl
theorem ml_L_20 : Cond.methodLink cn_L 20 mn_T_note ∈ zt_tbl := zt_in (i := 313) (by decide +kernel) rfl
theorem im_T_note : Cond.instanceMethod mn_T_note ∈ zt_tbl := zt_in (i := 314) (by decide +kernel) rfl
theorem se_T_note : Cond.selects cn_T mn_T_note mn_T_note ∈ zt_tbl := zt_in (i := 315) (by decide +kernel) rfl
theorem wk_T_note : Cond.code mn_T_note bc_T_note 5 ((some .int)) ∈ zt_tbl := zt_in (i := 316) (by decide +kernel) rfl
theorem ml_T_70 : Cond.methodLink cn_T 70 mn_T_refuseUnlessNote ∈ zt_tbl := zt_in (i := 317) (by decide +kernel) rfl
theorem sm_T_refuseUnlessNote : Cond.static mn_T_refuseUnlessNote ∈ zt_tbl := zt_in (i := 318) (by decide +kernel) rfl
theorem wk_T_refuseUnlessNote : Cond.code mn_T_refuseUnlessNote bc_T_refuseUnlessNote 2 none ∈ zt_tbl := zt_in (i := 319) (by decide +kernel) rfl
theorem cl_T_114 : Cond.classLink cn_T 114 "java/lang/IllegalArgumentException" ∈ zt_tbl := zt_in (i := 320) (by decide +kernel) rfl
theorem ins_IllegalArgumentException : Cond.instantiable "java/lang/IllegalArgumentException" 6 ∈ zt_tbl := zt_in (i := 321) (by decide +kernel) rfl
theorem ml_T_116 : Cond.methodLink cn_T 116 ⟨"java/lang/IllegalArgumentException", "<init>", "()V"⟩ ∈ zt_tbl := zt_in (i := 329) (by decide +kernel) rfl
theorem ml_T_87 : Cond.methodLink cn_T 87 mn_N_append ∈ zt_tbl := zt_in (i := 335) (by decide +kernel) rfl
theorem im_N_append : Cond.instanceMethod mn_N_append ∈ zt_tbl := zt_in (i := 336) (by decide +kernel) rfl
theorem se_N_append : Cond.selects cn_N mn_N_append mn_N_append ∈ zt_tbl := zt_in (i := 337) (by decide +kernel) rfl
theorem wk_N_append : Cond.code mn_N_append bc_N_append 3 ((some .int)) ∈ zt_tbl := zt_in (i := 338) (by decide +kernel) rfl
theorem ml_N_20 : Cond.methodLink cn_N 20 mn_N_put ∈ zt_tbl := zt_in (i := 339) (by decide +kernel) rfl
theorem im_N_put : Cond.instanceMethod mn_N_put ∈ zt_tbl := zt_in (i := 340) (by decide +kernel) rfl
theorem se_N_put : Cond.selects cn_N mn_N_put mn_N_put ∈ zt_tbl := zt_in (i := 341) (by decide +kernel) rfl
theorem wk_N_put : Cond.code mn_N_put bc_N_put 4 none ∈ zt_tbl := zt_in (i := 342) (by decide +kernel) rfl
theorem ml_L_90 : Cond.methodLink cn_L 90 mn_L_show ∈ zt_tbl := zt_in (i := 343) (by decide +kernel) rfl
theorem sm_L_show : Cond.static mn_L_show ∈ zt_tbl := zt_in (i := 344) (by decide +kernel) rfl
theorem ml_L_26 : Cond.methodLink cn_L 26 mn_T_show ∈ zt_tbl := zt_in (i := 346) (by decide +kernel) rfl
theorem im_T_show : Cond.instanceMethod mn_T_show ∈ zt_tbl := zt_in (i := 347) (by decide +kernel) rfl
theorem se_T_show : Cond.selects cn_T mn_T_show mn_T_show ∈ zt_tbl := zt_in (i := 348) (by decide +kernel) rfl
theorem wk_T_show : Cond.code mn_T_show bc_T_show 4 none ∈ zt_tbl := zt_in (i := 349) (by decide +kernel) rfl
theorem ml_L_94 : Cond.methodLink cn_L 94 mn_L_correct ∈ zt_tbl := zt_in (i := 350) (by decide +kernel) rfl
theorem sm_L_correct : Cond.static mn_L_correct ∈ zt_tbl := zt_in (i := 351) (by decide +kernel) rfl
theorem ml_L_30 : Cond.methodLink cn_L 30 mn_T_correct ∈ zt_tbl := zt_in (i := 353) (by decide +kernel) rfl
theorem im_T_correct : Cond.instanceMethod mn_T_correct ∈ zt_tbl := zt_in (i := 354) (by decide +kernel) rfl
theorem se_T_correct : Cond.selects cn_T mn_T_correct mn_T_correct ∈ zt_tbl := zt_in (i := 355) (by decide +kernel) rfl
theorem wk_T_correct : Cond.code mn_T_correct bc_T_correct 6 ((some .int)) ∈ zt_tbl := zt_in (i := 356) (by decide +kernel) rfl
theorem ml_T_91 : Cond.methodLink cn_T 91 mn_T_refuseUnlessPlace ∈ zt_tbl := zt_in (i := 357) (by decide +kernel) rfl
theorem sm_T_refuseUnlessPlace : Cond.static mn_T_refuseUnlessPlace ∈ zt_tbl := zt_in (i := 358) (by decide +kernel) rfl
theorem wk_T_refuseUnlessPlace : Cond.code mn_T_refuseUnlessPlace bc_T_refuseUnlessPlace 2 none ∈ zt_tbl := zt_in (i := 359) (by decide +kernel) rfl
theorem ml_T_95 : Cond.methodLink cn_T 95 mn_U_replace ∈ zt_tbl := zt_in (i := 360) (by decide +kernel) rfl
theorem im_U_replace : Cond.instanceMethod mn_U_replace ∈ zt_tbl := zt_in (i := 361) (by decide +kernel) rfl
theorem se_U_replace : Cond.selects cn_U mn_U_replace mn_U_replace ∈ zt_tbl := zt_in (i := 362) (by decide +kernel) rfl
theorem wk_U_replace : Cond.code mn_U_replace bc_U_replace 4 ((some .int)) ∈ zt_tbl := zt_in (i := 363) (by decide +kernel) rfl
theorem ml_U_47 : Cond.methodLink cn_U 47 mn_N_put ∈ zt_tbl := zt_in (i := 364) (by decide +kernel) rfl
theorem ml_L_98 : Cond.methodLink cn_L 98 mn_L_restore ∈ zt_tbl := zt_in (i := 365) (by decide +kernel) rfl
theorem sm_L_restore : Cond.static mn_L_restore ∈ zt_tbl := zt_in (i := 366) (by decide +kernel) rfl
theorem ml_L_34 : Cond.methodLink cn_L 34 mn_T_restore ∈ zt_tbl := zt_in (i := 368) (by decide +kernel) rfl
theorem im_T_restore : Cond.instanceMethod mn_T_restore ∈ zt_tbl := zt_in (i := 369) (by decide +kernel) rfl
theorem se_T_restore : Cond.selects cn_T mn_T_restore mn_T_restore ∈ zt_tbl := zt_in (i := 370) (by decide +kernel) rfl
theorem wk_T_restore : Cond.code mn_T_restore bc_T_restore 4 none ∈ zt_tbl := zt_in (i := 371) (by decide +kernel) rfl
theorem ml_T_99 : Cond.methodLink cn_T 99 mn_T_refuseUnlessReading ∈ zt_tbl := zt_in (i := 372) (by decide +kernel) rfl
theorem sm_T_refuseUnlessReading : Cond.static mn_T_refuseUnlessReading ∈ zt_tbl := zt_in (i := 373) (by decide +kernel) rfl
theorem wk_T_refuseUnlessReading : Cond.code mn_T_refuseUnlessReading bc_T_refuseUnlessReading 2 none ∈ zt_tbl := zt_in (i := 374) (by decide +kernel) rfl
theorem ml_T_102 : Cond.methodLink cn_T 102 mn_U_goBack ∈ zt_tbl := zt_in (i := 375) (by decide +kernel) rfl
theorem im_U_goBack : Cond.instanceMethod mn_U_goBack ∈ zt_tbl := zt_in (i := 376) (by decide +kernel) rfl
theorem se_U_goBack : Cond.selects cn_U mn_U_goBack mn_U_goBack ∈ zt_tbl := zt_in (i := 377) (by decide +kernel) rfl
theorem wk_U_goBack : Cond.code mn_U_goBack bc_U_goBack 3 none ∈ zt_tbl := zt_in (i := 378) (by decide +kernel) rfl
theorem ml_L_102 : Cond.methodLink cn_L 102 mn_L_at ∈ zt_tbl := zt_in (i := 379) (by decide +kernel) rfl
theorem sm_L_at : Cond.static mn_L_at ∈ zt_tbl := zt_in (i := 380) (by decide +kernel) rfl
theorem ml_L_38 : Cond.methodLink cn_L 38 mn_T_at ∈ zt_tbl := zt_in (i := 382) (by decide +kernel) rfl
theorem im_T_at : Cond.instanceMethod mn_T_at ∈ zt_tbl := zt_in (i := 383) (by decide +kernel) rfl
theorem se_T_at : Cond.selects cn_T mn_T_at mn_T_at ∈ zt_tbl := zt_in (i := 384) (by decide +kernel) rfl
theorem wk_T_at : Cond.code mn_T_at bc_T_at 7 ((some .int)) ∈ zt_tbl := zt_in (i := 385) (by decide +kernel) rfl
theorem ml_T_105 : Cond.methodLink cn_T 105 mn_U_pitchIn ∈ zt_tbl := zt_in (i := 386) (by decide +kernel) rfl
theorem im_U_pitchIn : Cond.instanceMethod mn_U_pitchIn ∈ zt_tbl := zt_in (i := 387) (by decide +kernel) rfl
theorem se_U_pitchIn : Cond.selects cn_U mn_U_pitchIn mn_U_pitchIn ∈ zt_tbl := zt_in (i := 388) (by decide +kernel) rfl
theorem wk_U_pitchIn : Cond.code mn_U_pitchIn bc_U_pitchIn 4 ((some .int)) ∈ zt_tbl := zt_in (i := 389) (by decide +kernel) rfl
theorem ml_U_51 : Cond.methodLink cn_U 51 mn_U_replacedAfter ∈ zt_tbl := zt_in (i := 390) (by decide +kernel) rfl
theorem im_U_replacedAfter : Cond.instanceMethod mn_U_replacedAfter ∈ zt_tbl := zt_in (i := 392) (by decide +kernel) rfl
theorem wk_U_replacedAfter : Cond.code mn_U_replacedAfter bc_U_replacedAfter 4 ((some .int)) ∈ zt_tbl := zt_in (i := 393) (by decide +kernel) rfl
theorem ml_T_108 : Cond.methodLink cn_T 108 mn_U_lengthIn ∈ zt_tbl := zt_in (i := 394) (by decide +kernel) rfl
theorem im_U_lengthIn : Cond.instanceMethod mn_U_lengthIn ∈ zt_tbl := zt_in (i := 395) (by decide +kernel) rfl
theorem se_U_lengthIn : Cond.selects cn_U mn_U_lengthIn mn_U_lengthIn ∈ zt_tbl := zt_in (i := 396) (by decide +kernel) rfl
theorem wk_U_lengthIn : Cond.code mn_U_lengthIn bc_U_lengthIn 4 ((some .int)) ∈ zt_tbl := zt_in (i := 397) (by decide +kernel) rfl
theorem ml_T_111 : Cond.methodLink cn_T 111 mn_U_stepIn ∈ zt_tbl := zt_in (i := 398) (by decide +kernel) rfl
theorem im_U_stepIn : Cond.instanceMethod mn_U_stepIn ∈ zt_tbl := zt_in (i := 399) (by decide +kernel) rfl
theorem se_U_stepIn : Cond.selects cn_U mn_U_stepIn mn_U_stepIn ∈ zt_tbl := zt_in (i := 400) (by decide +kernel) rfl
theorem wk_U_stepIn : Cond.code mn_U_stepIn bc_U_stepIn 3 ((some .int)) ∈ zt_tbl := zt_in (i := 401) (by decide +kernel) rfl
theorem ml_U_58 : Cond.methodLink cn_U 58 mn_U_pitchIn ∈ zt_tbl := zt_in (i := 402) (by decide +kernel) rfl
theorem ml_L_105 : Cond.methodLink cn_L 105 mn_L_about ∈ zt_tbl := zt_in (i := 403) (by decide +kernel) rfl
theorem sm_L_about : Cond.static mn_L_about ∈ zt_tbl := zt_in (i := 404) (by decide +kernel) rfl
theorem ml_L_41 : Cond.methodLink cn_L 41 mn_T_about ∈ zt_tbl := zt_in (i := 406) (by decide +kernel) rfl
theorem im_T_about : Cond.instanceMethod mn_T_about ∈ zt_tbl := zt_in (i := 407) (by decide +kernel) rfl
theorem se_T_about : Cond.selects cn_T mn_T_about mn_T_about ∈ zt_tbl := zt_in (i := 408) (by decide +kernel) rfl
theorem wk_T_about : Cond.code mn_T_about bc_T_about 4 ((some .int)) ∈ zt_tbl := zt_in (i := 409) (by decide +kernel) rfl
theorem ml_L_109 : Cond.methodLink cn_L 109 mn_L_contour ∈ zt_tbl := zt_in (i := 410) (by decide +kernel) rfl
theorem sm_L_contour : Cond.static mn_L_contour ∈ zt_tbl := zt_in (i := 411) (by decide +kernel) rfl
theorem ml_L_45 : Cond.methodLink cn_L 45 mn_T_contour ∈ zt_tbl := zt_in (i := 413) (by decide +kernel) rfl
theorem im_T_contour : Cond.instanceMethod mn_T_contour ∈ zt_tbl := zt_in (i := 414) (by decide +kernel) rfl
theorem se_T_contour : Cond.selects cn_T mn_T_contour mn_T_contour ∈ zt_tbl := zt_in (i := 415) (by decide +kernel) rfl
theorem wk_T_contour : Cond.code mn_T_contour bc_T_contour 5 ((some .int)) ∈ zt_tbl := zt_in (i := 416) (by decide +kernel) rfl
theorem ml_T_117 : Cond.methodLink cn_T 117 mn_N_steps ∈ zt_tbl := zt_in (i := 417) (by decide +kernel) rfl
theorem im_N_steps : Cond.instanceMethod mn_N_steps ∈ zt_tbl := zt_in (i := 418) (by decide +kernel) rfl
theorem se_N_steps : Cond.selects cn_N mn_N_steps mn_N_steps ∈ zt_tbl := zt_in (i := 419) (by decide +kernel) rfl
theorem wk_N_steps : Cond.code mn_N_steps bc_N_steps 1 ((some .int)) ∈ zt_tbl := zt_in (i := 420) (by decide +kernel) rfl
theorem ml_N_24 : Cond.methodLink cn_N 24 ⟨"java/lang/Math", "max", "(II)I"⟩ ∈ zt_tbl := zt_in (i := 421) (by decide +kernel) rfl
theorem sm_Math_max : Cond.static ⟨"java/lang/Math", "max", "(II)I"⟩ ∈ zt_tbl := zt_in (i := 422) (by decide +kernel) rfl
theorem wk_Math_max : Cond.code ⟨"java/lang/Math", "max", "(II)I"⟩ prog_15_method_65_code 2 (some .int) ∈ zt_tbl := zt_in (i := 423) (by decide +kernel) rfl
theorem ml_T_121 : Cond.methodLink cn_T 121 mn_N_stepBehind ∈ zt_tbl := zt_in (i := 424) (by decide +kernel) rfl
theorem im_N_stepBehind : Cond.instanceMethod mn_N_stepBehind ∈ zt_tbl := zt_in (i := 425) (by decide +kernel) rfl
theorem se_N_stepBehind : Cond.selects cn_N mn_N_stepBehind mn_N_stepBehind ∈ zt_tbl := zt_in (i := 426) (by decide +kernel) rfl
theorem wk_N_stepBehind : Cond.code mn_N_stepBehind bc_N_stepBehind 2 ((some .int)) ∈ zt_tbl := zt_in (i := 427) (by decide +kernel) rfl
theorem ml_L_112 : Cond.methodLink cn_L 112 mn_L_ask ∈ zt_tbl := zt_in (i := 428) (by decide +kernel) rfl
theorem sm_L_ask : Cond.static mn_L_ask ∈ zt_tbl := zt_in (i := 429) (by decide +kernel) rfl
theorem ml_L_48 : Cond.methodLink cn_L 48 mn_T_ask ∈ zt_tbl := zt_in (i := 431) (by decide +kernel) rfl
theorem im_T_ask : Cond.instanceMethod mn_T_ask ∈ zt_tbl := zt_in (i := 432) (by decide +kernel) rfl
theorem se_T_ask : Cond.selects cn_T mn_T_ask mn_T_ask ∈ zt_tbl := zt_in (i := 433) (by decide +kernel) rfl
theorem wk_T_ask : Cond.code mn_T_ask bc_T_ask 3 ((some .int)) ∈ zt_tbl := zt_in (i := 434) (by decide +kernel) rfl
theorem ml_L_119 : Cond.methodLink cn_L 119 mn_L_search ∈ zt_tbl := zt_in (i := 435) (by decide +kernel) rfl
theorem sm_L_search : Cond.static mn_L_search ∈ zt_tbl := zt_in (i := 436) (by decide +kernel) rfl
theorem ml_L_51 : Cond.methodLink cn_L 51 mn_T_search ∈ zt_tbl := zt_in (i := 438) (by decide +kernel) rfl
theorem im_T_search : Cond.instanceMethod mn_T_search ∈ zt_tbl := zt_in (i := 439) (by decide +kernel) rfl
theorem se_T_search : Cond.selects cn_T mn_T_search mn_T_search ∈ zt_tbl := zt_in (i := 440) (by decide +kernel) rfl
theorem wk_T_search : Cond.code mn_T_search bc_T_search 4 ((some .int)) ∈ zt_tbl := zt_in (i := 441) (by decide +kernel) rfl
theorem ml_T_128 : Cond.methodLink cn_T 128 mn_F_begin ∈ zt_tbl := zt_in (i := 442) (by decide +kernel) rfl
theorem im_F_begin : Cond.instanceMethod mn_F_begin ∈ zt_tbl := zt_in (i := 443) (by decide +kernel) rfl
theorem se_F_begin : Cond.selects cn_F mn_F_begin mn_F_begin ∈ zt_tbl := zt_in (i := 444) (by decide +kernel) rfl
theorem wk_F_begin : Cond.code mn_F_begin bc_F_begin 2 none ∈ zt_tbl := zt_in (i := 445) (by decide +kernel) rfl
theorem ml_T_130 : Cond.methodLink cn_T 130 mn_T_searchTune ∈ zt_tbl := zt_in (i := 446) (by decide +kernel) rfl
theorem im_T_searchTune : Cond.instanceMethod mn_T_searchTune ∈ zt_tbl := zt_in (i := 448) (by decide +kernel) rfl
theorem wk_T_searchTune : Cond.code mn_T_searchTune bc_T_searchTune 4 none ∈ zt_tbl := zt_in (i := 449) (by decide +kernel) rfl
theorem ml_T_192 : Cond.methodLink cn_T 192 mn_T_searchOutline ∈ zt_tbl := zt_in (i := 450) (by decide +kernel) rfl
theorem im_T_searchOutline : Cond.instanceMethod mn_T_searchOutline ∈ zt_tbl := zt_in (i := 452) (by decide +kernel) rfl
theorem wk_T_searchOutline : Cond.code mn_T_searchOutline bc_T_searchOutline 7 none ∈ zt_tbl := zt_in (i := 453) (by decide +kernel) rfl
theorem ml_T_216 : Cond.methodLink cn_T 216 mn_T_outlineEnds ∈ zt_tbl := zt_in (i := 454) (by decide +kernel) rfl
theorem im_T_outlineEnds : Cond.instanceMethod mn_T_outlineEnds ∈ zt_tbl := zt_in (i := 456) (by decide +kernel) rfl
theorem wk_T_outlineEnds : Cond.code mn_T_outlineEnds bc_T_outlineEnds 9 ((some .int)) ∈ zt_tbl := zt_in (i := 457) (by decide +kernel) rfl
theorem ml_T_222 : Cond.methodLink cn_T 222 mn_N_placesOfPitch ∈ zt_tbl := zt_in (i := 458) (by decide +kernel) rfl
theorem im_N_placesOfPitch : Cond.instanceMethod mn_N_placesOfPitch ∈ zt_tbl := zt_in (i := 459) (by decide +kernel) rfl
theorem se_N_placesOfPitch : Cond.selects cn_N mn_N_placesOfPitch mn_N_placesOfPitch ∈ zt_tbl := zt_in (i := 460) (by decide +kernel) rfl
theorem wk_N_placesOfPitch : Cond.code mn_N_placesOfPitch bc_N_placesOfPitch 4 ((some .int)) ∈ zt_tbl := zt_in (i := 461) (by decide +kernel) rfl
theorem ml_T_205 : Cond.methodLink cn_T 205 mn_T_offer ∈ zt_tbl := zt_in (i := 462) (by decide +kernel) rfl
theorem im_T_offer : Cond.instanceMethod mn_T_offer ∈ zt_tbl := zt_in (i := 464) (by decide +kernel) rfl
theorem wk_T_offer : Cond.code mn_T_offer bc_T_offer 6 none ∈ zt_tbl := zt_in (i := 465) (by decide +kernel) rfl
theorem ml_T_241 : Cond.methodLink cn_T 241 mn_F_add ∈ zt_tbl := zt_in (i := 466) (by decide +kernel) rfl
theorem im_F_add : Cond.instanceMethod mn_F_add ∈ zt_tbl := zt_in (i := 467) (by decide +kernel) rfl
theorem se_F_add : Cond.selects cn_F mn_F_add mn_F_add ∈ zt_tbl := zt_in (i := 468) (by decide +kernel) rfl
theorem wk_F_add : Cond.code mn_F_add bc_F_add 8 none ∈ zt_tbl := zt_in (i := 469) (by decide +kernel) rfl
theorem ml_F_28 : Cond.methodLink cn_F 28 mn_F_rankOf ∈ zt_tbl := zt_in (i := 470) (by decide +kernel) rfl
theorem im_F_rankOf : Cond.instanceMethod mn_F_rankOf ∈ zt_tbl := zt_in (i := 472) (by decide +kernel) rfl
theorem wk_F_rankOf : Cond.code mn_F_rankOf bc_F_rankOf 5 ((some .int)) ∈ zt_tbl := zt_in (i := 473) (by decide +kernel) rfl
theorem ml_F_32 : Cond.methodLink cn_F 32 mn_F_makeRoom ∈ zt_tbl := zt_in (i := 474) (by decide +kernel) rfl
theorem im_F_makeRoom : Cond.instanceMethod mn_F_makeRoom ∈ zt_tbl := zt_in (i := 476) (by decide +kernel) rfl
theorem wk_F_makeRoom : Cond.code mn_F_makeRoom bc_F_makeRoom 5 ((some (.object "TuneFinder$Passage"))) ∈ zt_tbl := zt_in (i := 477) (by decide +kernel) rfl
theorem ml_F_51 : Cond.methodLink cn_F 51 ⟨"java/lang/Math", "min", "(II)I"⟩ ∈ zt_tbl := zt_in (i := 478) (by decide +kernel) rfl
theorem sm_Math_min : Cond.static ⟨"java/lang/Math", "min", "(II)I"⟩ ∈ zt_tbl := zt_in (i := 479) (by decide +kernel) rfl
theorem wk_Math_min : Cond.code ⟨"java/lang/Math", "min", "(II)I"⟩ prog_15_method_69_code 2 (some .int) ∈ zt_tbl := zt_in (i := 480) (by decide +kernel) rfl
theorem ml_T_195 : Cond.methodLink cn_T 195 mn_T_searchNear ∈ zt_tbl := zt_in (i := 481) (by decide +kernel) rfl
theorem im_T_searchNear : Cond.instanceMethod mn_T_searchNear ∈ zt_tbl := zt_in (i := 483) (by decide +kernel) rfl
theorem wk_T_searchNear : Cond.code mn_T_searchNear bc_T_searchNear 6 none ∈ zt_tbl := zt_in (i := 484) (by decide +kernel) rfl
theorem ml_T_225 : Cond.methodLink cn_T 225 mn_R_begin ∈ zt_tbl := zt_in (i := 485) (by decide +kernel) rfl
theorem im_R_begin : Cond.instanceMethod mn_R_begin ∈ zt_tbl := zt_in (i := 486) (by decide +kernel) rfl
theorem se_R_begin : Cond.selects cn_R mn_R_begin mn_R_begin ∈ zt_tbl := zt_in (i := 487) (by decide +kernel) rfl
theorem wk_R_begin : Cond.code mn_R_begin bc_R_begin 4 none ∈ zt_tbl := zt_in (i := 488) (by decide +kernel) rfl
theorem ml_R_33 : Cond.methodLink cn_R 33 mn_R_measure ∈ zt_tbl := zt_in (i := 489) (by decide +kernel) rfl
theorem im_R_measure : Cond.instanceMethod mn_R_measure ∈ zt_tbl := zt_in (i := 491) (by decide +kernel) rfl
theorem wk_R_measure : Cond.code mn_R_measure bc_R_measure 5 none ∈ zt_tbl := zt_in (i := 492) (by decide +kernel) rfl
theorem ml_R_37 : Cond.methodLink cn_R 37 mn_N_steps ∈ zt_tbl := zt_in (i := 493) (by decide +kernel) rfl
theorem ml_R_41 : Cond.methodLink cn_R 41 mn_N_stepBehind ∈ zt_tbl := zt_in (i := 494) (by decide +kernel) rfl
theorem ml_R_45 : Cond.methodLink cn_R 45 mn_R_takeIn ∈ zt_tbl := zt_in (i := 495) (by decide +kernel) rfl
theorem im_R_takeIn : Cond.instanceMethod mn_R_takeIn ∈ zt_tbl := zt_in (i := 497) (by decide +kernel) rfl
theorem wk_R_takeIn : Cond.code mn_R_takeIn bc_R_takeIn 8 none ∈ zt_tbl := zt_in (i := 498) (by decide +kernel) rfl
theorem ml_R_49 : Cond.methodLink cn_R 49 ⟨"java/lang/Math", "min", "(II)I"⟩ ∈ zt_tbl := zt_in (i := 499) (by decide +kernel) rfl
theorem ml_T_228 : Cond.methodLink cn_T 228 mn_R_goOn ∈ zt_tbl := zt_in (i := 500) (by decide +kernel) rfl
theorem im_R_goOn : Cond.instanceMethod mn_R_goOn ∈ zt_tbl := zt_in (i := 501) (by decide +kernel) rfl
theorem se_R_goOn : Cond.selects cn_R mn_R_goOn mn_R_goOn ∈ zt_tbl := zt_in (i := 502) (by decide +kernel) rfl
theorem wk_R_goOn : Cond.code mn_R_goOn bc_R_goOn 5 none ∈ zt_tbl := zt_in (i := 503) (by decide +kernel) rfl
theorem ml_T_234 : Cond.methodLink cn_T 234 mn_R_holds ∈ zt_tbl := zt_in (i := 504) (by decide +kernel) rfl
theorem im_R_holds : Cond.instanceMethod mn_R_holds ∈ zt_tbl := zt_in (i := 505) (by decide +kernel) rfl
theorem se_R_holds : Cond.selects cn_R mn_R_holds mn_R_holds ∈ zt_tbl := zt_in (i := 506) (by decide +kernel) rfl
theorem wk_R_holds : Cond.code mn_R_holds bc_R_holds 2 ((some .boolean)) ∈ zt_tbl := zt_in (i := 507) (by decide +kernel) rfl
theorem ml_T_238 : Cond.methodLink cn_T 238 mn_R_staying ∈ zt_tbl := zt_in (i := 508) (by decide +kernel) rfl
theorem im_R_staying : Cond.instanceMethod mn_R_staying ∈ zt_tbl := zt_in (i := 509) (by decide +kernel) rfl
theorem se_R_staying : Cond.selects cn_R mn_R_staying mn_R_staying ∈ zt_tbl := zt_in (i := 510) (by decide +kernel) rfl
theorem wk_R_staying : Cond.code mn_R_staying bc_R_staying 3 ((some .int)) ∈ zt_tbl := zt_in (i := 511) (by decide +kernel) rfl
theorem ml_T_198 : Cond.methodLink cn_T 198 mn_T_searchNoteByNote ∈ zt_tbl := zt_in (i := 512) (by decide +kernel) rfl
theorem im_T_searchNoteByNote : Cond.instanceMethod mn_T_searchNoteByNote ∈ zt_tbl := zt_in (i := 514) (by decide +kernel) rfl
theorem wk_T_searchNoteByNote : Cond.code mn_T_searchNoteByNote bc_T_searchNoteByNote 5 none ∈ zt_tbl := zt_in (i := 515) (by decide +kernel) rfl
theorem ml_T_201 : Cond.methodLink cn_T 201 mn_T_fits ∈ zt_tbl := zt_in (i := 516) (by decide +kernel) rfl
theorem im_T_fits : Cond.instanceMethod mn_T_fits ∈ zt_tbl := zt_in (i := 518) (by decide +kernel) rfl
theorem wk_T_fits : Cond.code mn_T_fits bc_T_fits 4 ((some .boolean)) ∈ zt_tbl := zt_in (i := 519) (by decide +kernel) rfl
theorem ml_T_181 : Cond.methodLink cn_T 181 mn_T_sameSteps ∈ zt_tbl := zt_in (i := 520) (by decide +kernel) rfl
theorem sm_T_sameSteps : Cond.static mn_T_sameSteps ∈ zt_tbl := zt_in (i := 521) (by decide +kernel) rfl
theorem wk_T_sameSteps : Cond.code mn_T_sameSteps bc_T_sameSteps 5 ((some .boolean)) ∈ zt_tbl := zt_in (i := 522) (by decide +kernel) rfl
theorem ml_T_209 : Cond.methodLink cn_T 209 mn_T_sameRatio ∈ zt_tbl := zt_in (i := 523) (by decide +kernel) rfl
theorem sm_T_sameRatio : Cond.static mn_T_sameRatio ∈ zt_tbl := zt_in (i := 524) (by decide +kernel) rfl
theorem wk_T_sameRatio : Cond.code mn_T_sameRatio bc_T_sameRatio 4 ((some .boolean)) ∈ zt_tbl := zt_in (i := 525) (by decide +kernel) rfl
theorem ml_T_213 : Cond.methodLink cn_T 213 mn_T_sameContour ∈ zt_tbl := zt_in (i := 526) (by decide +kernel) rfl
theorem sm_T_sameContour : Cond.static mn_T_sameContour ∈ zt_tbl := zt_in (i := 527) (by decide +kernel) rfl
theorem wk_T_sameContour : Cond.code mn_T_sameContour bc_T_sameContour 4 ((some .boolean)) ∈ zt_tbl := zt_in (i := 528) (by decide +kernel) rfl
theorem ml_T_245 : Cond.methodLink cn_T 245 mn_G_signum ∈ zt_tbl := zt_in (i := 529) (by decide +kernel) rfl
theorem sm_G_signum : Cond.static mn_G_signum ∈ zt_tbl := zt_in (i := 530) (by decide +kernel) rfl
theorem wk_G_signum : Cond.code mn_G_signum bc_G_signum 1 ((some .int)) ∈ zt_tbl := zt_in (i := 531) (by decide +kernel) rfl
theorem ml_L_122 : Cond.methodLink cn_L 122 mn_L_match ∈ zt_tbl := zt_in (i := 532) (by decide +kernel) rfl
theorem sm_L_match : Cond.static mn_L_match ∈ zt_tbl := zt_in (i := 533) (by decide +kernel) rfl
theorem ml_L_54 : Cond.methodLink cn_L 54 mn_T_match ∈ zt_tbl := zt_in (i := 535) (by decide +kernel) rfl
theorem im_T_match : Cond.instanceMethod mn_T_match ∈ zt_tbl := zt_in (i := 536) (by decide +kernel) rfl
theorem se_T_match : Cond.selects cn_T mn_T_match mn_T_match ∈ zt_tbl := zt_in (i := 537) (by decide +kernel) rfl
theorem wk_T_match : Cond.code mn_T_match bc_T_match 4 ((some .int)) ∈ zt_tbl := zt_in (i := 538) (by decide +kernel) rfl
theorem ml_T_158 : Cond.methodLink cn_T 158 mn_F_upperOfScore ∈ zt_tbl := zt_in (i := 539) (by decide +kernel) rfl
theorem im_F_upperOfScore : Cond.instanceMethod mn_F_upperOfScore ∈ zt_tbl := zt_in (i := 540) (by decide +kernel) rfl
theorem se_F_upperOfScore : Cond.selects cn_F mn_F_upperOfScore mn_F_upperOfScore ∈ zt_tbl := zt_in (i := 541) (by decide +kernel) rfl
theorem wk_F_upperOfScore : Cond.code mn_F_upperOfScore bc_F_upperOfScore 2 ((some .int)) ∈ zt_tbl := zt_in (i := 542) (by decide +kernel) rfl
theorem ml_F_56 : Cond.methodLink cn_F 56 mn_F_leastTerm ∈ zt_tbl := zt_in (i := 543) (by decide +kernel) rfl
theorem sm_F_leastTerm : Cond.static mn_F_leastTerm ∈ zt_tbl := zt_in (i := 544) (by decide +kernel) rfl
theorem wk_F_leastTerm : Cond.code mn_F_leastTerm bc_F_leastTerm 3 ((some .int)) ∈ zt_tbl := zt_in (i := 545) (by decide +kernel) rfl
theorem ml_T_162 : Cond.methodLink cn_T 162 mn_F_lowerOfScore ∈ zt_tbl := zt_in (i := 546) (by decide +kernel) rfl
theorem im_F_lowerOfScore : Cond.instanceMethod mn_F_lowerOfScore ∈ zt_tbl := zt_in (i := 547) (by decide +kernel) rfl
theorem se_F_lowerOfScore : Cond.selects cn_F mn_F_lowerOfScore mn_F_lowerOfScore ∈ zt_tbl := zt_in (i := 548) (by decide +kernel) rfl
theorem wk_F_lowerOfScore : Cond.code mn_F_lowerOfScore bc_F_lowerOfScore 2 ((some .int)) ∈ zt_tbl := zt_in (i := 549) (by decide +kernel) rfl
theorem ml_L_125 : Cond.methodLink cn_L 125 mn_L_repeats ∈ zt_tbl := zt_in (i := 550) (by decide +kernel) rfl
theorem sm_L_repeats : Cond.static mn_L_repeats ∈ zt_tbl := zt_in (i := 551) (by decide +kernel) rfl
theorem ml_L_57 : Cond.methodLink cn_L 57 mn_T_repeats ∈ zt_tbl := zt_in (i := 553) (by decide +kernel) rfl
theorem im_T_repeats : Cond.instanceMethod mn_T_repeats ∈ zt_tbl := zt_in (i := 554) (by decide +kernel) rfl
theorem se_T_repeats : Cond.selects cn_T mn_T_repeats mn_T_repeats ∈ zt_tbl := zt_in (i := 555) (by decide +kernel) rfl
theorem wk_T_repeats : Cond.code mn_T_repeats bc_T_repeats 4 ((some .int)) ∈ zt_tbl := zt_in (i := 556) (by decide +kernel) rfl
theorem ml_T_165 : Cond.methodLink cn_T 165 mn_T_refuseUnlessLeast ∈ zt_tbl := zt_in (i := 557) (by decide +kernel) rfl
theorem sm_T_refuseUnlessLeast : Cond.static mn_T_refuseUnlessLeast ∈ zt_tbl := zt_in (i := 558) (by decide +kernel) rfl
theorem wk_T_refuseUnlessLeast : Cond.code mn_T_refuseUnlessLeast bc_T_refuseUnlessLeast 1 none ∈ zt_tbl := zt_in (i := 559) (by decide +kernel) rfl
theorem ml_T_168 : Cond.methodLink cn_T 168 mn_W_walk ∈ zt_tbl := zt_in (i := 560) (by decide +kernel) rfl
theorem im_W_walk : Cond.instanceMethod mn_W_walk ∈ zt_tbl := zt_in (i := 561) (by decide +kernel) rfl
theorem se_W_walk : Cond.selects cn_W mn_W_walk mn_W_walk ∈ zt_tbl := zt_in (i := 562) (by decide +kernel) rfl
theorem wk_W_walk : Cond.code mn_W_walk bc_W_walk 8 ((some .int)) ∈ zt_tbl := zt_in (i := 563) (by decide +kernel) rfl
theorem ml_W_15 : Cond.methodLink cn_W 15 mn_N_steps ∈ zt_tbl := zt_in (i := 564) (by decide +kernel) rfl
theorem ml_W_21 : Cond.methodLink cn_W 21 mn_W_compare ∈ zt_tbl := zt_in (i := 565) (by decide +kernel) rfl
theorem im_W_compare : Cond.instanceMethod mn_W_compare ∈ zt_tbl := zt_in (i := 567) (by decide +kernel) rfl
theorem wk_W_compare : Cond.code mn_W_compare bc_W_compare 6 none ∈ zt_tbl := zt_in (i := 568) (by decide +kernel) rfl
theorem ml_W_39 : Cond.methodLink cn_W 39 ⟨"java/lang/Math", "max", "(II)I"⟩ ∈ zt_tbl := zt_in (i := 569) (by decide +kernel) rfl
theorem ml_W_45 : Cond.methodLink cn_W 45 mn_N_stepBehind ∈ zt_tbl := zt_in (i := 570) (by decide +kernel) rfl
theorem ml_W_25 : Cond.methodLink cn_W 25 mn_W_placesOfRepeat ∈ zt_tbl := zt_in (i := 571) (by decide +kernel) rfl
theorem im_W_placesOfRepeat : Cond.instanceMethod mn_W_placesOfRepeat ∈ zt_tbl := zt_in (i := 573) (by decide +kernel) rfl
theorem wk_W_placesOfRepeat : Cond.code mn_W_placesOfRepeat bc_W_placesOfRepeat 8 ((some .int)) ∈ zt_tbl := zt_in (i := 574) (by decide +kernel) rfl
theorem ml_L_128 : Cond.methodLink cn_L 128 mn_L_repeat ∈ zt_tbl := zt_in (i := 575) (by decide +kernel) rfl
theorem sm_L_repeat : Cond.static mn_L_repeat ∈ zt_tbl := zt_in (i := 576) (by decide +kernel) rfl
theorem ml_L_60 : Cond.methodLink cn_L 60 mn_T_repeat ∈ zt_tbl := zt_in (i := 578) (by decide +kernel) rfl
theorem im_T_repeat : Cond.instanceMethod mn_T_repeat ∈ zt_tbl := zt_in (i := 579) (by decide +kernel) rfl
theorem se_T_repeat : Cond.selects cn_T mn_T_repeat mn_T_repeat ∈ zt_tbl := zt_in (i := 580) (by decide +kernel) rfl
theorem wk_T_repeat : Cond.code mn_T_repeat bc_T_repeat 6 ((some .int)) ∈ zt_tbl := zt_in (i := 581) (by decide +kernel) rfl
theorem ml_L_131 : Cond.methodLink cn_L 131 mn_L_canon ∈ zt_tbl := zt_in (i := 582) (by decide +kernel) rfl
theorem sm_L_canon : Cond.static mn_L_canon ∈ zt_tbl := zt_in (i := 583) (by decide +kernel) rfl
theorem ml_L_63 : Cond.methodLink cn_L 63 mn_T_canon ∈ zt_tbl := zt_in (i := 585) (by decide +kernel) rfl
theorem im_T_canon : Cond.instanceMethod mn_T_canon ∈ zt_tbl := zt_in (i := 586) (by decide +kernel) rfl
theorem se_T_canon : Cond.selects cn_T mn_T_canon mn_T_canon ∈ zt_tbl := zt_in (i := 587) (by decide +kernel) rfl
theorem wk_T_canon : Cond.code mn_T_canon bc_T_canon 7 ((some .int)) ∈ zt_tbl := zt_in (i := 588) (by decide +kernel) rfl
theorem ml_T_185 : Cond.methodLink cn_T 185 mn_T_sameLengths ∈ zt_tbl := zt_in (i := 589) (by decide +kernel) rfl
theorem sm_T_sameLengths : Cond.static mn_T_sameLengths ∈ zt_tbl := zt_in (i := 590) (by decide +kernel) rfl
theorem wk_T_sameLengths : Cond.code mn_T_sameLengths bc_T_sameLengths 5 ((some .boolean)) ∈ zt_tbl := zt_in (i := 591) (by decide +kernel) rfl
theorem ml_L_134 : Cond.methodLink cn_L 134 mn_L_opening ∈ zt_tbl := zt_in (i := 592) (by decide +kernel) rfl
theorem sm_L_opening : Cond.static mn_L_opening ∈ zt_tbl := zt_in (i := 593) (by decide +kernel) rfl
theorem ml_L_66 : Cond.methodLink cn_L 66 mn_T_opening ∈ zt_tbl := zt_in (i := 595) (by decide +kernel) rfl
theorem im_T_opening : Cond.instanceMethod mn_T_opening ∈ zt_tbl := zt_in (i := 596) (by decide +kernel) rfl
theorem se_T_opening : Cond.selects cn_T mn_T_opening mn_T_opening ∈ zt_tbl := zt_in (i := 597) (by decide +kernel) rfl
theorem wk_T_opening : Cond.code mn_T_opening bc_T_opening 7 ((some .int)) ∈ zt_tbl := zt_in (i := 598) (by decide +kernel) rfl
theorem ml_T_188 : Cond.methodLink cn_T 188 mn_T_stepsSharedAtFirst ∈ zt_tbl := zt_in (i := 599) (by decide +kernel) rfl
theorem sm_T_stepsSharedAtFirst : Cond.static mn_T_stepsSharedAtFirst ∈ zt_tbl := zt_in (i := 600) (by decide +kernel) rfl
theorem wk_T_stepsSharedAtFirst : Cond.code mn_T_stepsSharedAtFirst bc_T_stepsSharedAtFirst 4 ((some .int)) ∈ zt_tbl := zt_in (i := 601) (by decide +kernel) rfl
theorem ml_T_253 : Cond.methodLink cn_T 253 ⟨"java/lang/Math", "min", "(II)I"⟩ ∈ zt_tbl := zt_in (i := 602) (by decide +kernel) rfl
theorem cl_L_70 : Cond.classLink cn_L 70 cn_M ∈ zt_tbl := zt_in (i := 603) (by decide +kernel) rfl
theorem ins_M : Cond.instantiable cn_M 21 ∈ zt_tbl := zt_in (i := 604) (by decide +kernel) rfl
theorem ml_L_72 : Cond.methodLink cn_L 72 mn_M_init ∈ zt_tbl := zt_in (i := 605) (by decide +kernel) rfl
theorem im_M_init : Cond.instanceMethod mn_M_init ∈ zt_tbl := zt_in (i := 606) (by decide +kernel) rfl
theorem wk_M_init : Cond.code mn_M_init bc_M_init 1 none ∈ zt_tbl := zt_in (i := 607) (by decide +kernel) rfl
theorem ml_M_1 : Cond.methodLink cn_M 1 ⟨"java/lang/Object", "<init>", "()V"⟩ ∈ zt_tbl := zt_in (i := 608) (by decide +kernel) rfl
theorem fl_M_62 : Cond.fieldLink cn_M 62 "TuneFinderModel" "code" "I" ∈ zt_tbl := zt_in (i := 609) (by decide +kernel) rfl
theorem fl_M_7 : Cond.fieldLink cn_M 7 "TuneFinderModel" "there" "[Z" ∈ zt_tbl := zt_in (i := 610) (by decide +kernel) rfl
theorem fl_M_13 : Cond.fieldLink cn_M 13 "TuneFinderModel" "shown" "[Z" ∈ zt_tbl := zt_in (i := 611) (by decide +kernel) rfl
theorem fl_M_16 : Cond.fieldLink cn_M 16 "TuneFinderModel" "sizes" "[I" ∈ zt_tbl := zt_in (i := 612) (by decide +kernel) rfl
theorem fl_M_20 : Cond.fieldLink cn_M 20 "TuneFinderModel" "readings" "[I" ∈ zt_tbl := zt_in (i := 613) (by decide +kernel) rfl
theorem fl_M_23 : Cond.fieldLink cn_M 23 "TuneFinderModel" "pitches" "[I" ∈ zt_tbl := zt_in (i := 614) (by decide +kernel) rfl
theorem fl_M_26 : Cond.fieldLink cn_M 26 "TuneFinderModel" "lengths" "[I" ∈ zt_tbl := zt_in (i := 615) (by decide +kernel) rfl
theorem fl_M_89 : Cond.fieldLink cn_M 89 "TuneFinderModel" "asked" "I" ∈ zt_tbl := zt_in (i := 616) (by decide +kernel) rfl
theorem fl_M_29 : Cond.fieldLink cn_M 29 "TuneFinderModel" "askedPitch" "[I" ∈ zt_tbl := zt_in (i := 617) (by decide +kernel) rfl
theorem fl_M_32 : Cond.fieldLink cn_M 32 "TuneFinderModel" "askedLength" "[I" ∈ zt_tbl := zt_in (i := 618) (by decide +kernel) rfl
theorem fl_M_112 : Cond.fieldLink cn_M 112 "TuneFinderModel" "found" "I" ∈ zt_tbl := zt_in (i := 619) (by decide +kernel) rfl
theorem fl_M_35 : Cond.fieldLink cn_M 35 "TuneFinderModel" "foundTune" "[I" ∈ zt_tbl := zt_in (i := 620) (by decide +kernel) rfl
theorem fl_M_38 : Cond.fieldLink cn_M 38 "TuneFinderModel" "foundPlace" "[I" ∈ zt_tbl := zt_in (i := 621) (by decide +kernel) rfl
theorem fl_M_41 : Cond.fieldLink cn_M 41 "TuneFinderModel" "foundSpan" "[I" ∈ zt_tbl := zt_in (i := 622) (by decide +kernel) rfl
theorem fl_M_44 : Cond.fieldLink cn_M 44 "TuneFinderModel" "foundPart" "[I" ∈ zt_tbl := zt_in (i := 623) (by decide +kernel) rfl
theorem fl_M_47 : Cond.fieldLink cn_M 47 "TuneFinderModel" "taken" "[Z" ∈ zt_tbl := zt_in (i := 624) (by decide +kernel) rfl
theorem fl_M_119 : Cond.fieldLink cn_M 119 "TuneFinderModel" "kept" "I" ∈ zt_tbl := zt_in (i := 625) (by decide +kernel) rfl
theorem fl_M_50 : Cond.fieldLink cn_M 50 "TuneFinderModel" "best" "[I" ∈ zt_tbl := zt_in (i := 626) (by decide +kernel) rfl
theorem fl_M_53 : Cond.fieldLink cn_M 53 "TuneFinderModel" "changes" "[I" ∈ zt_tbl := zt_in (i := 627) (by decide +kernel) rfl
theorem fl_M_56 : Cond.fieldLink cn_M 56 "TuneFinderModel" "stays" "[I" ∈ zt_tbl := zt_in (i := 628) (by decide +kernel) rfl
theorem fl_M_59 : Cond.fieldLink cn_M 59 "TuneFinderModel" "may" "[Z" ∈ zt_tbl := zt_in (i := 629) (by decide +kernel) rfl
theorem ac_boolean : Cond.arrayClass .boolean ∈ zt_tbl := zt_in (i := 673) (by decide +kernel) rfl
theorem ml_L_79 : Cond.methodLink cn_L 79 mn_M_thrown ∈ zt_tbl := zt_in (i := 674) (by decide +kernel) rfl
theorem im_M_thrown : Cond.instanceMethod mn_M_thrown ∈ zt_tbl := zt_in (i := 675) (by decide +kernel) rfl
theorem se_M_thrown : Cond.selects cn_M mn_M_thrown mn_M_thrown ∈ zt_tbl := zt_in (i := 676) (by decide +kernel) rfl
theorem wk_M_thrown : Cond.code mn_M_thrown bc_M_thrown 1 ((some .int)) ∈ zt_tbl := zt_in (i := 677) (by decide +kernel) rfl
theorem ml_L_78 : Cond.methodLink cn_L 78 mn_M_tune ∈ zt_tbl := zt_in (i := 678) (by decide +kernel) rfl
theorem im_M_tune : Cond.instanceMethod mn_M_tune ∈ zt_tbl := zt_in (i := 679) (by decide +kernel) rfl
theorem se_M_tune : Cond.selects cn_M mn_M_tune mn_M_tune ∈ zt_tbl := zt_in (i := 680) (by decide +kernel) rfl
theorem wk_M_tune : Cond.code mn_M_tune bc_M_tune 2 none ∈ zt_tbl := zt_in (i := 681) (by decide +kernel) rfl
theorem ml_L_85 : Cond.methodLink cn_L 85 mn_M_drop ∈ zt_tbl := zt_in (i := 682) (by decide +kernel) rfl
theorem im_M_drop : Cond.instanceMethod mn_M_drop ∈ zt_tbl := zt_in (i := 683) (by decide +kernel) rfl
theorem se_M_drop : Cond.selects cn_M mn_M_drop mn_M_drop ∈ zt_tbl := zt_in (i := 684) (by decide +kernel) rfl
theorem wk_M_drop : Cond.code mn_M_drop bc_M_drop 2 none ∈ zt_tbl := zt_in (i := 685) (by decide +kernel) rfl
theorem ml_M_74 : Cond.methodLink cn_M 74 mn_M_noTune ∈ zt_tbl := zt_in (i := 686) (by decide +kernel) rfl
theorem im_M_noTune : Cond.instanceMethod mn_M_noTune ∈ zt_tbl := zt_in (i := 688) (by decide +kernel) rfl
theorem wk_M_noTune : Cond.code mn_M_noTune bc_M_noTune 2 ((some .boolean)) ∈ zt_tbl := zt_in (i := 689) (by decide +kernel) rfl
theorem ml_L_89 : Cond.methodLink cn_L 89 mn_M_note ∈ zt_tbl := zt_in (i := 690) (by decide +kernel) rfl
theorem im_M_note : Cond.instanceMethod mn_M_note ∈ zt_tbl := zt_in (i := 691) (by decide +kernel) rfl
theorem se_M_note : Cond.selects cn_M mn_M_note mn_M_note ∈ zt_tbl := zt_in (i := 692) (by decide +kernel) rfl
theorem wk_M_note : Cond.code mn_M_note bc_M_note 4 ((some .int)) ∈ zt_tbl := zt_in (i := 693) (by decide +kernel) rfl
theorem ml_M_78 : Cond.methodLink cn_M 78 mn_M_noNote ∈ zt_tbl := zt_in (i := 694) (by decide +kernel) rfl
theorem sm_M_noNote : Cond.static mn_M_noNote ∈ zt_tbl := zt_in (i := 695) (by decide +kernel) rfl
theorem wk_M_noNote : Cond.code mn_M_noNote bc_M_noNote 2 ((some .boolean)) ∈ zt_tbl := zt_in (i := 696) (by decide +kernel) rfl
theorem ml_M_66 : Cond.methodLink cn_M 66 mn_M_spot ∈ zt_tbl := zt_in (i := 697) (by decide +kernel) rfl
theorem im_M_spot : Cond.instanceMethod mn_M_spot ∈ zt_tbl := zt_in (i := 699) (by decide +kernel) rfl
theorem wk_M_spot : Cond.code mn_M_spot bc_M_spot 4 ((some .int)) ∈ zt_tbl := zt_in (i := 700) (by decide +kernel) rfl
theorem ml_L_93 : Cond.methodLink cn_L 93 mn_M_show ∈ zt_tbl := zt_in (i := 701) (by decide +kernel) rfl
theorem im_M_show : Cond.instanceMethod mn_M_show ∈ zt_tbl := zt_in (i := 702) (by decide +kernel) rfl
theorem se_M_show : Cond.selects cn_M mn_M_show mn_M_show ∈ zt_tbl := zt_in (i := 703) (by decide +kernel) rfl
theorem wk_M_show : Cond.code mn_M_show bc_M_show 3 none ∈ zt_tbl := zt_in (i := 704) (by decide +kernel) rfl
theorem ml_L_97 : Cond.methodLink cn_L 97 mn_M_correct ∈ zt_tbl := zt_in (i := 705) (by decide +kernel) rfl
theorem im_M_correct : Cond.instanceMethod mn_M_correct ∈ zt_tbl := zt_in (i := 706) (by decide +kernel) rfl
theorem se_M_correct : Cond.selects cn_M mn_M_correct mn_M_correct ∈ zt_tbl := zt_in (i := 707) (by decide +kernel) rfl
theorem wk_M_correct : Cond.code mn_M_correct bc_M_correct 7 ((some .int)) ∈ zt_tbl := zt_in (i := 708) (by decide +kernel) rfl
theorem ml_L_101 : Cond.methodLink cn_L 101 mn_M_restore ∈ zt_tbl := zt_in (i := 709) (by decide +kernel) rfl
theorem im_M_restore : Cond.instanceMethod mn_M_restore ∈ zt_tbl := zt_in (i := 710) (by decide +kernel) rfl
theorem se_M_restore : Cond.selects cn_M mn_M_restore mn_M_restore ∈ zt_tbl := zt_in (i := 711) (by decide +kernel) rfl
theorem wk_M_restore : Cond.code mn_M_restore bc_M_restore 3 none ∈ zt_tbl := zt_in (i := 712) (by decide +kernel) rfl
theorem ml_L_104 : Cond.methodLink cn_L 104 mn_M_at ∈ zt_tbl := zt_in (i := 713) (by decide +kernel) rfl
theorem im_M_at : Cond.instanceMethod mn_M_at ∈ zt_tbl := zt_in (i := 714) (by decide +kernel) rfl
theorem se_M_at : Cond.selects cn_M mn_M_at mn_M_at ∈ zt_tbl := zt_in (i := 715) (by decide +kernel) rfl
theorem wk_M_at : Cond.code mn_M_at bc_M_at 7 ((some .int)) ∈ zt_tbl := zt_in (i := 716) (by decide +kernel) rfl
theorem ml_L_108 : Cond.methodLink cn_L 108 mn_M_about ∈ zt_tbl := zt_in (i := 717) (by decide +kernel) rfl
theorem im_M_about : Cond.instanceMethod mn_M_about ∈ zt_tbl := zt_in (i := 718) (by decide +kernel) rfl
theorem se_M_about : Cond.selects cn_M mn_M_about mn_M_about ∈ zt_tbl := zt_in (i := 719) (by decide +kernel) rfl
theorem wk_M_about : Cond.code mn_M_about bc_M_about 3 ((some .int)) ∈ zt_tbl := zt_in (i := 720) (by decide +kernel) rfl
theorem ml_L_111 : Cond.methodLink cn_L 111 mn_M_contour ∈ zt_tbl := zt_in (i := 721) (by decide +kernel) rfl
theorem im_M_contour : Cond.instanceMethod mn_M_contour ∈ zt_tbl := zt_in (i := 722) (by decide +kernel) rfl
theorem se_M_contour : Cond.selects cn_M mn_M_contour mn_M_contour ∈ zt_tbl := zt_in (i := 723) (by decide +kernel) rfl
theorem wk_M_contour : Cond.code mn_M_contour bc_M_contour 4 ((some .int)) ∈ zt_tbl := zt_in (i := 724) (by decide +kernel) rfl
theorem ml_M_82 : Cond.methodLink cn_M 82 mn_M_step ∈ zt_tbl := zt_in (i := 725) (by decide +kernel) rfl
theorem im_M_step : Cond.instanceMethod mn_M_step ∈ zt_tbl := zt_in (i := 727) (by decide +kernel) rfl
theorem wk_M_step : Cond.code mn_M_step bc_M_step 3 ((some .int)) ∈ zt_tbl := zt_in (i := 728) (by decide +kernel) rfl
theorem ml_M_70 : Cond.methodLink cn_M 70 mn_M_pitch ∈ zt_tbl := zt_in (i := 729) (by decide +kernel) rfl
theorem im_M_pitch : Cond.instanceMethod mn_M_pitch ∈ zt_tbl := zt_in (i := 731) (by decide +kernel) rfl
theorem wk_M_pitch : Cond.code mn_M_pitch bc_M_pitch 3 ((some .int)) ∈ zt_tbl := zt_in (i := 732) (by decide +kernel) rfl
theorem ml_M_85 : Cond.methodLink cn_M 85 mn_M_sign ∈ zt_tbl := zt_in (i := 733) (by decide +kernel) rfl
theorem sm_M_sign : Cond.static mn_M_sign ∈ zt_tbl := zt_in (i := 734) (by decide +kernel) rfl
theorem wk_M_sign : Cond.code mn_M_sign bc_M_sign 1 ((some .int)) ∈ zt_tbl := zt_in (i := 735) (by decide +kernel) rfl
theorem ml_L_114 : Cond.methodLink cn_L 114 mn_M_ask ∈ zt_tbl := zt_in (i := 736) (by decide +kernel) rfl
theorem im_M_ask : Cond.instanceMethod mn_M_ask ∈ zt_tbl := zt_in (i := 737) (by decide +kernel) rfl
theorem se_M_ask : Cond.selects cn_M mn_M_ask mn_M_ask ∈ zt_tbl := zt_in (i := 738) (by decide +kernel) rfl
theorem wk_M_ask : Cond.code mn_M_ask bc_M_ask 3 ((some .int)) ∈ zt_tbl := zt_in (i := 739) (by decide +kernel) rfl
theorem ml_L_118 : Cond.methodLink cn_L 118 mn_M_forget ∈ zt_tbl := zt_in (i := 740) (by decide +kernel) rfl
theorem im_M_forget : Cond.instanceMethod mn_M_forget ∈ zt_tbl := zt_in (i := 741) (by decide +kernel) rfl
theorem se_M_forget : Cond.selects cn_M mn_M_forget mn_M_forget ∈ zt_tbl := zt_in (i := 742) (by decide +kernel) rfl
theorem wk_M_forget : Cond.code mn_M_forget bc_M_forget 1 none ∈ zt_tbl := zt_in (i := 743) (by decide +kernel) rfl
theorem ml_L_121 : Cond.methodLink cn_L 121 mn_M_search ∈ zt_tbl := zt_in (i := 744) (by decide +kernel) rfl
theorem im_M_search : Cond.instanceMethod mn_M_search ∈ zt_tbl := zt_in (i := 745) (by decide +kernel) rfl
theorem se_M_search : Cond.selects cn_M mn_M_search mn_M_search ∈ zt_tbl := zt_in (i := 746) (by decide +kernel) rfl
theorem wk_M_search : Cond.code mn_M_search bc_M_search 7 ((some .int)) ∈ zt_tbl := zt_in (i := 747) (by decide +kernel) rfl
theorem ml_M_115 : Cond.methodLink cn_M 115 mn_M_part ∈ zt_tbl := zt_in (i := 748) (by decide +kernel) rfl
theorem im_M_part : Cond.instanceMethod mn_M_part ∈ zt_tbl := zt_in (i := 750) (by decide +kernel) rfl
theorem wk_M_part : Cond.code mn_M_part bc_M_part 7 ((some .int)) ∈ zt_tbl := zt_in (i := 751) (by decide +kernel) rfl
theorem ml_M_101 : Cond.methodLink cn_M 101 mn_M_plain ∈ zt_tbl := zt_in (i := 752) (by decide +kernel) rfl
theorem im_M_plain : Cond.instanceMethod mn_M_plain ∈ zt_tbl := zt_in (i := 754) (by decide +kernel) rfl
theorem wk_M_plain : Cond.code mn_M_plain bc_M_plain 10 ((some .boolean)) ∈ zt_tbl := zt_in (i := 755) (by decide +kernel) rfl
theorem ml_M_92 : Cond.methodLink cn_M 92 mn_M_askedStep ∈ zt_tbl := zt_in (i := 756) (by decide +kernel) rfl
theorem im_M_askedStep : Cond.instanceMethod mn_M_askedStep ∈ zt_tbl := zt_in (i := 758) (by decide +kernel) rfl
theorem wk_M_askedStep : Cond.code mn_M_askedStep bc_M_askedStep 2 ((some .int)) ∈ zt_tbl := zt_in (i := 759) (by decide +kernel) rfl
theorem ml_M_95 : Cond.methodLink cn_M 95 mn_M_lengthOf ∈ zt_tbl := zt_in (i := 760) (by decide +kernel) rfl
theorem im_M_lengthOf : Cond.instanceMethod mn_M_lengthOf ∈ zt_tbl := zt_in (i := 762) (by decide +kernel) rfl
theorem wk_M_lengthOf : Cond.code mn_M_lengthOf bc_M_lengthOf 3 ((some .int)) ∈ zt_tbl := zt_in (i := 763) (by decide +kernel) rfl
theorem ml_M_105 : Cond.methodLink cn_M 105 mn_M_outlines ∈ zt_tbl := zt_in (i := 764) (by decide +kernel) rfl
theorem im_M_outlines : Cond.instanceMethod mn_M_outlines ∈ zt_tbl := zt_in (i := 766) (by decide +kernel) rfl
theorem wk_M_outlines : Cond.code mn_M_outlines bc_M_outlines 10 ((some .boolean)) ∈ zt_tbl := zt_in (i := 767) (by decide +kernel) rfl
theorem ml_M_109 : Cond.methodLink cn_M 109 mn_M_near ∈ zt_tbl := zt_in (i := 768) (by decide +kernel) rfl
theorem im_M_near : Cond.instanceMethod mn_M_near ∈ zt_tbl := zt_in (i := 770) (by decide +kernel) rfl
theorem wk_M_near : Cond.code mn_M_near bc_M_near 5 ((some .boolean)) ∈ zt_tbl := zt_in (i := 771) (by decide +kernel) rfl
theorem ml_M_98 : Cond.methodLink cn_M 98 mn_M_distance ∈ zt_tbl := zt_in (i := 772) (by decide +kernel) rfl
theorem im_M_distance : Cond.instanceMethod mn_M_distance ∈ zt_tbl := zt_in (i := 774) (by decide +kernel) rfl
theorem wk_M_distance : Cond.code mn_M_distance bc_M_distance 12 ((some .int)) ∈ zt_tbl := zt_in (i := 775) (by decide +kernel) rfl
theorem ml_M_122 : Cond.methodLink cn_M 122 mn_M_leads ∈ zt_tbl := zt_in (i := 776) (by decide +kernel) rfl
theorem im_M_leads : Cond.instanceMethod mn_M_leads ∈ zt_tbl := zt_in (i := 778) (by decide +kernel) rfl
theorem wk_M_leads : Cond.code mn_M_leads bc_M_leads 5 ((some .boolean)) ∈ zt_tbl := zt_in (i := 779) (by decide +kernel) rfl
theorem ml_M_125 : Cond.methodLink cn_M 125 mn_M_divisor ∈ zt_tbl := zt_in (i := 780) (by decide +kernel) rfl
theorem sm_M_divisor : Cond.static mn_M_divisor ∈ zt_tbl := zt_in (i := 781) (by decide +kernel) rfl
theorem wk_M_divisor : Cond.code mn_M_divisor bc_M_divisor 3 ((some .int)) ∈ zt_tbl := zt_in (i := 782) (by decide +kernel) rfl
theorem ml_L_124 : Cond.methodLink cn_L 124 mn_M_match ∈ zt_tbl := zt_in (i := 783) (by decide +kernel) rfl
theorem im_M_match : Cond.instanceMethod mn_M_match ∈ zt_tbl := zt_in (i := 784) (by decide +kernel) rfl
theorem se_M_match : Cond.selects cn_M mn_M_match mn_M_match ∈ zt_tbl := zt_in (i := 785) (by decide +kernel) rfl
theorem wk_M_match : Cond.code mn_M_match bc_M_match 3 ((some .int)) ∈ zt_tbl := zt_in (i := 786) (by decide +kernel) rfl
theorem ml_L_127 : Cond.methodLink cn_L 127 mn_M_repeats ∈ zt_tbl := zt_in (i := 787) (by decide +kernel) rfl
theorem im_M_repeats : Cond.instanceMethod mn_M_repeats ∈ zt_tbl := zt_in (i := 788) (by decide +kernel) rfl
theorem se_M_repeats : Cond.selects cn_M mn_M_repeats mn_M_repeats ∈ zt_tbl := zt_in (i := 789) (by decide +kernel) rfl
theorem wk_M_repeats : Cond.code mn_M_repeats bc_M_repeats 6 ((some .int)) ∈ zt_tbl := zt_in (i := 790) (by decide +kernel) rfl
theorem ml_M_134 : Cond.methodLink cn_M 134 mn_M_places ∈ zt_tbl := zt_in (i := 791) (by decide +kernel) rfl
theorem im_M_places : Cond.instanceMethod mn_M_places ∈ zt_tbl := zt_in (i := 793) (by decide +kernel) rfl
theorem wk_M_places : Cond.code mn_M_places bc_M_places 8 ((some .int)) ∈ zt_tbl := zt_in (i := 794) (by decide +kernel) rfl
theorem ml_M_128 : Cond.methodLink cn_M 128 mn_M_sameSteps ∈ zt_tbl := zt_in (i := 795) (by decide +kernel) rfl
theorem im_M_sameSteps : Cond.instanceMethod mn_M_sameSteps ∈ zt_tbl := zt_in (i := 797) (by decide +kernel) rfl
theorem wk_M_sameSteps : Cond.code mn_M_sameSteps bc_M_sameSteps 7 ((some .boolean)) ∈ zt_tbl := zt_in (i := 798) (by decide +kernel) rfl
theorem ml_M_131 : Cond.methodLink cn_M 131 mn_M_hasStep ∈ zt_tbl := zt_in (i := 799) (by decide +kernel) rfl
theorem im_M_hasStep : Cond.instanceMethod mn_M_hasStep ∈ zt_tbl := zt_in (i := 801) (by decide +kernel) rfl
theorem wk_M_hasStep : Cond.code mn_M_hasStep bc_M_hasStep 3 ((some .boolean)) ∈ zt_tbl := zt_in (i := 802) (by decide +kernel) rfl
theorem ml_L_130 : Cond.methodLink cn_L 130 mn_M_repeat ∈ zt_tbl := zt_in (i := 803) (by decide +kernel) rfl
theorem im_M_repeat : Cond.instanceMethod mn_M_repeat ∈ zt_tbl := zt_in (i := 804) (by decide +kernel) rfl
theorem se_M_repeat : Cond.selects cn_M mn_M_repeat mn_M_repeat ∈ zt_tbl := zt_in (i := 805) (by decide +kernel) rfl
theorem wk_M_repeat : Cond.code mn_M_repeat bc_M_repeat 9 ((some .int)) ∈ zt_tbl := zt_in (i := 806) (by decide +kernel) rfl
theorem ml_L_133 : Cond.methodLink cn_L 133 mn_M_canon ∈ zt_tbl := zt_in (i := 807) (by decide +kernel) rfl
theorem im_M_canon : Cond.instanceMethod mn_M_canon ∈ zt_tbl := zt_in (i := 808) (by decide +kernel) rfl
theorem se_M_canon : Cond.selects cn_M mn_M_canon mn_M_canon ∈ zt_tbl := zt_in (i := 809) (by decide +kernel) rfl
theorem wk_M_canon : Cond.code mn_M_canon bc_M_canon 7 ((some .int)) ∈ zt_tbl := zt_in (i := 810) (by decide +kernel) rfl
theorem ml_L_136 : Cond.methodLink cn_L 136 mn_M_opening ∈ zt_tbl := zt_in (i := 811) (by decide +kernel) rfl
theorem im_M_opening : Cond.instanceMethod mn_M_opening ∈ zt_tbl := zt_in (i := 812) (by decide +kernel) rfl
theorem se_M_opening : Cond.selects cn_M mn_M_opening mn_M_opening ∈ zt_tbl := zt_in (i := 813) (by decide +kernel) rfl
theorem wk_M_opening : Cond.code mn_M_opening bc_M_opening 9 ((some .int)) ∈ zt_tbl := zt_in (i := 814) (by decide +kernel) rfl
theorem ml_M_137 : Cond.methodLink cn_M 137 mn_M_sharing ∈ zt_tbl := zt_in (i := 815) (by decide +kernel) rfl
theorem im_M_sharing : Cond.instanceMethod mn_M_sharing ∈ zt_tbl := zt_in (i := 817) (by decide +kernel) rfl
theorem wk_M_sharing : Cond.code mn_M_sharing bc_M_sharing 4 ((some .int)) ∈ zt_tbl := zt_in (i := 818) (by decide +kernel) rfl
theorem ac_long : Cond.arrayClass .long ∈ zt_tbl := zt_in (i := 819) (by decide +kernel) rfl
theorem se_T_existing : Cond.selects cn_T mn_T_existing mn_T_existing ∈ zt_tbl := zt_sel (i := 1) (q := (mn_T_existing, 6)) (by decide +kernel)
theorem se_U_replacedAfter : Cond.selects cn_U mn_U_replacedAfter mn_U_replacedAfter ∈ zt_tbl := zt_sel (i := 2) (q := (mn_U_replacedAfter, 6)) (by decide +kernel)
theorem se_T_searchTune : Cond.selects cn_T mn_T_searchTune mn_T_searchTune ∈ zt_tbl := zt_sel (i := 3) (q := (mn_T_searchTune, 6)) (by decide +kernel)
theorem se_T_searchOutline : Cond.selects cn_T mn_T_searchOutline mn_T_searchOutline ∈ zt_tbl := zt_sel (i := 4) (q := (mn_T_searchOutline, 6)) (by decide +kernel)
theorem se_T_outlineEnds : Cond.selects cn_T mn_T_outlineEnds mn_T_outlineEnds ∈ zt_tbl := zt_sel (i := 5) (q := (mn_T_outlineEnds, 6)) (by decide +kernel)
theorem se_T_offer : Cond.selects cn_T mn_T_offer mn_T_offer ∈ zt_tbl := zt_sel (i := 6) (q := (mn_T_offer, 6)) (by decide +kernel)
theorem se_F_rankOf : Cond.selects cn_F mn_F_rankOf mn_F_rankOf ∈ zt_tbl := zt_sel (i := 7) (q := (mn_F_rankOf, 4)) (by decide +kernel)
theorem se_F_makeRoom : Cond.selects cn_F mn_F_makeRoom mn_F_makeRoom ∈ zt_tbl := zt_sel (i := 8) (q := (mn_F_makeRoom, 4)) (by decide +kernel)
theorem se_T_searchNear : Cond.selects cn_T mn_T_searchNear mn_T_searchNear ∈ zt_tbl := zt_sel (i := 9) (q := (mn_T_searchNear, 6)) (by decide +kernel)
theorem se_R_measure : Cond.selects cn_R mn_R_measure mn_R_measure ∈ zt_tbl := zt_sel (i := 10) (q := (mn_R_measure, 5)) (by decide +kernel)
theorem se_R_takeIn : Cond.selects cn_R mn_R_takeIn mn_R_takeIn ∈ zt_tbl := zt_sel (i := 11) (q := (mn_R_takeIn, 5)) (by decide +kernel)
theorem se_T_searchNoteByNote : Cond.selects cn_T mn_T_searchNoteByNote mn_T_searchNoteByNote ∈ zt_tbl := zt_sel (i := 12) (q := (mn_T_searchNoteByNote, 6)) (by decide +kernel)
theorem se_T_fits : Cond.selects cn_T mn_T_fits mn_T_fits ∈ zt_tbl := zt_sel (i := 13) (q := (mn_T_fits, 6)) (by decide +kernel)
theorem se_W_compare : Cond.selects cn_W mn_W_compare mn_W_compare ∈ zt_tbl := zt_sel (i := 14) (q := (mn_W_compare, 4)) (by decide +kernel)
theorem se_W_placesOfRepeat : Cond.selects cn_W mn_W_placesOfRepeat mn_W_placesOfRepeat ∈ zt_tbl := zt_sel (i := 15) (q := (mn_W_placesOfRepeat, 4)) (by decide +kernel)
theorem se_M_noTune : Cond.selects cn_M mn_M_noTune mn_M_noTune ∈ zt_tbl := zt_sel (i := 16) (q := (mn_M_noTune, 21)) (by decide +kernel)
theorem se_M_spot : Cond.selects cn_M mn_M_spot mn_M_spot ∈ zt_tbl := zt_sel (i := 17) (q := (mn_M_spot, 21)) (by decide +kernel)
theorem se_M_step : Cond.selects cn_M mn_M_step mn_M_step ∈ zt_tbl := zt_sel (i := 18) (q := (mn_M_step, 21)) (by decide +kernel)
theorem se_M_pitch : Cond.selects cn_M mn_M_pitch mn_M_pitch ∈ zt_tbl := zt_sel (i := 19) (q := (mn_M_pitch, 21)) (by decide +kernel)
theorem se_M_part : Cond.selects cn_M mn_M_part mn_M_part ∈ zt_tbl := zt_sel (i := 20) (q := (mn_M_part, 21)) (by decide +kernel)
theorem se_M_plain : Cond.selects cn_M mn_M_plain mn_M_plain ∈ zt_tbl := zt_sel (i := 21) (q := (mn_M_plain, 21)) (by decide +kernel)
theorem se_M_askedStep : Cond.selects cn_M mn_M_askedStep mn_M_askedStep ∈ zt_tbl := zt_sel (i := 22) (q := (mn_M_askedStep, 21)) (by decide +kernel)
theorem se_M_lengthOf : Cond.selects cn_M mn_M_lengthOf mn_M_lengthOf ∈ zt_tbl := zt_sel (i := 23) (q := (mn_M_lengthOf, 21)) (by decide +kernel)
theorem se_M_outlines : Cond.selects cn_M mn_M_outlines mn_M_outlines ∈ zt_tbl := zt_sel (i := 24) (q := (mn_M_outlines, 21)) (by decide +kernel)
theorem se_M_near : Cond.selects cn_M mn_M_near mn_M_near ∈ zt_tbl := zt_sel (i := 25) (q := (mn_M_near, 21)) (by decide +kernel)
theorem se_M_distance : Cond.selects cn_M mn_M_distance mn_M_distance ∈ zt_tbl := zt_sel (i := 26) (q := (mn_M_distance, 21)) (by decide +kernel)
theorem se_M_leads : Cond.selects cn_M mn_M_leads mn_M_leads ∈ zt_tbl := zt_sel (i := 27) (q := (mn_M_leads, 21)) (by decide +kernel)
theorem se_M_places : Cond.selects cn_M mn_M_places mn_M_places ∈ zt_tbl := zt_sel (i := 28) (q := (mn_M_places, 21)) (by decide +kernel)
theorem se_M_sameSteps : Cond.selects cn_M mn_M_sameSteps mn_M_sameSteps ∈ zt_tbl := zt_sel (i := 29) (q := (mn_M_sameSteps, 21)) (by decide +kernel)
theorem se_M_hasStep : Cond.selects cn_M mn_M_hasStep mn_M_hasStep ∈ zt_tbl := zt_sel (i := 30) (q := (mn_M_hasStep, 21)) (by decide +kernel)
theorem se_M_sharing : Cond.selects cn_M mn_M_sharing mn_M_sharing ∈ zt_tbl := zt_sel (i := 31) (q := (mn_M_sharing, 21)) (by decide +kernel)
end
section
theorem dc_F_init_0 : decode bc_F_init 0 = .ok (.aload_n 0, 1) := by decide +kernel
theorem dc_F_init_1 : decode bc_F_init 1 = .ok (.invokespecial 3, 3) := by decide +kernel
theorem dc_F_init_4 : decode bc_F_init 4 = .ok (.aload_n 0, 1) := by decide +kernel
theorem dc_F_init_5 : decode bc_F_init 5 = .ok (.bipush 30, 2) := by decide +kernel
theorem dc_F_init_7 : decode bc_F_init 7 = .ok (.anewarray 9, 3) := by decide +kernel
theorem dc_F_init_10 : decode bc_F_init 10 = .ok (.putfield 11, 3) := by decide +kernel
theorem dc_F_init_13 : decode bc_F_init 13 = .ok (.iconst 0, 1) := by decide +kernel
theorem dc_F_init_14 : decode bc_F_init 14 = .ok (.istore_n 1, 1) := by decide +kernel
theorem dc_F_init_15 : decode bc_F_init 15 = .ok (.iload_n 1, 1) := by decide +kernel
theorem dc_F_init_16 : decode bc_F_init 16 = .ok (.bipush 30, 2) := by decide +kernel
theorem dc_F_init_18 : decode bc_F_init 18 = .ok (.if_icmp .ge 22, 3) := by decide +kernel
theorem dc_F_init_21 : decode bc_F_init 21 = .ok (.aload_n 0, 1) := by decide +kernel
theorem dc_F_init_22 : decode bc_F_init 22 = .ok (.getfield 11, 3) := by decide +kernel
theorem dc_F_init_25 : decode bc_F_init 25 = .ok (.iload_n 1, 1) := by decide +kernel
theorem dc_F_init_26 : decode bc_F_init 26 = .ok (.new 9, 3) := by decide +kernel
theorem dc_F_init_29 : decode bc_F_init 29 = .ok (.dup, 1) := by decide +kernel
theorem dc_F_init_30 : decode bc_F_init 30 = .ok (.invokespecial 17, 3) := by decide +kernel
theorem dc_F_init_33 : decode bc_F_init 33 = .ok (.aastore, 1) := by decide +kernel
theorem dc_F_init_34 : decode bc_F_init 34 = .ok (.iinc 1 1, 3) := by decide +kernel
theorem dc_F_init_37 : decode bc_F_init 37 = .ok (.goto (-22), 3) := by decide +kernel
theorem dc_F_init_40 : decode bc_F_init 40 = .ok (.return_, 1) := by decide +kernel
theorem dc_F_begin_0 : decode bc_F_begin 0 = .ok (.aload_n 0, 1) := by decide +kernel
theorem dc_F_begin_1 : decode bc_F_begin 1 = .ok (.iload_n 1, 1) := by decide +kernel
theorem dc_F_begin_2 : decode bc_F_begin 2 = .ok (.putfield 18, 3) := by decide +kernel
theorem dc_F_begin_5 : decode bc_F_begin 5 = .ok (.aload_n 0, 1) := by decide +kernel
theorem dc_F_begin_6 : decode bc_F_begin 6 = .ok (.iconst 0, 1) := by decide +kernel
theorem dc_F_begin_7 : decode bc_F_begin 7 = .ok (.putfield 22, 3) := by decide +kernel
theorem dc_F_begin_10 : decode bc_F_begin 10 = .ok (.aload_n 0, 1) := by decide +kernel
theorem dc_F_begin_11 : decode bc_F_begin 11 = .ok (.iconst 0, 1) := by decide +kernel
theorem dc_F_begin_12 : decode bc_F_begin 12 = .ok (.putfield 25, 3) := by decide +kernel
theorem dc_F_begin_15 : decode bc_F_begin 15 = .ok (.return_, 1) := by decide +kernel
theorem dc_F_add_0 : decode bc_F_add 0 = .ok (.aload_n 0, 1) := by decide +kernel
theorem dc_F_add_1 : decode bc_F_add 1 = .ok (.dup, 1) := by decide +kernel
theorem dc_F_add_2 : decode bc_F_add 2 = .ok (.getfield 22, 3) := by decide +kernel
theorem dc_F_add_5 : decode bc_F_add 5 = .ok (.iconst 1, 1) := by decide +kernel
theorem dc_F_add_6 : decode bc_F_add 6 = .ok (.iadd, 1) := by decide +kernel
theorem dc_F_add_7 : decode bc_F_add 7 = .ok (.putfield 22, 3) := by decide +kernel
theorem dc_F_add_10 : decode bc_F_add 10 = .ok (.aload_n 0, 1) := by decide +kernel
theorem dc_F_add_11 : decode bc_F_add 11 = .ok (.iload_n 3, 1) := by decide +kernel
theorem dc_F_add_12 : decode bc_F_add 12 = .ok (.iload 5, 2) := by decide +kernel
theorem dc_F_add_14 : decode bc_F_add 14 = .ok (.invokevirtual 28, 3) := by decide +kernel
theorem dc_F_add_17 : decode bc_F_add 17 = .ok (.istore 6, 2) := by decide +kernel
theorem dc_F_add_19 : decode bc_F_add 19 = .ok (.iload 6, 2) := by decide +kernel
theorem dc_F_add_21 : decode bc_F_add 21 = .ok (.bipush 30, 2) := by decide +kernel
theorem dc_F_add_23 : decode bc_F_add 23 = .ok (.if_icmp .lt 4, 3) := by decide +kernel
theorem dc_F_add_26 : decode bc_F_add 26 = .ok (.return_, 1) := by decide +kernel
theorem dc_F_add_27 : decode bc_F_add 27 = .ok (.aload_n 0, 1) := by decide +kernel
theorem dc_F_add_28 : decode bc_F_add 28 = .ok (.iload 6, 2) := by decide +kernel
theorem dc_F_add_30 : decode bc_F_add 30 = .ok (.invokevirtual 32, 3) := by decide +kernel
theorem dc_F_add_33 : decode bc_F_add 33 = .ok (.astore 7, 2) := by decide +kernel
theorem dc_F_add_35 : decode bc_F_add 35 = .ok (.aload 7, 2) := by decide +kernel
theorem dc_F_add_37 : decode bc_F_add 37 = .ok (.iload_n 1, 1) := by decide +kernel
theorem dc_F_add_38 : decode bc_F_add 38 = .ok (.putfield 36, 3) := by decide +kernel
theorem dc_F_add_41 : decode bc_F_add 41 = .ok (.aload 7, 2) := by decide +kernel
theorem dc_F_add_43 : decode bc_F_add 43 = .ok (.iload_n 2, 1) := by decide +kernel
theorem dc_F_add_44 : decode bc_F_add 44 = .ok (.putfield 39, 3) := by decide +kernel
theorem dc_F_add_47 : decode bc_F_add 47 = .ok (.aload 7, 2) := by decide +kernel
theorem dc_F_add_49 : decode bc_F_add 49 = .ok (.iload_n 3, 1) := by decide +kernel
theorem dc_F_add_50 : decode bc_F_add 50 = .ok (.putfield 42, 3) := by decide +kernel
theorem dc_F_add_53 : decode bc_F_add 53 = .ok (.aload 7, 2) := by decide +kernel
theorem dc_F_add_55 : decode bc_F_add 55 = .ok (.iload 4, 2) := by decide +kernel
theorem dc_F_add_57 : decode bc_F_add 57 = .ok (.putfield 45, 3) := by decide +kernel
theorem dc_F_add_60 : decode bc_F_add 60 = .ok (.aload 7, 2) := by decide +kernel
theorem dc_F_add_62 : decode bc_F_add 62 = .ok (.iload 5, 2) := by decide +kernel
theorem dc_F_add_64 : decode bc_F_add 64 = .ok (.putfield 48, 3) := by decide +kernel
theorem dc_F_add_67 : decode bc_F_add 67 = .ok (.return_, 1) := by decide +kernel
theorem dc_F_rankOf_0 : decode bc_F_rankOf 0 = .ok (.aload_n 0, 1) := by decide +kernel
theorem dc_F_rankOf_1 : decode bc_F_rankOf 1 = .ok (.getfield 25, 3) := by decide +kernel
theorem dc_F_rankOf_4 : decode bc_F_rankOf 4 = .ok (.istore_n 3, 1) := by decide +kernel
theorem dc_F_rankOf_5 : decode bc_F_rankOf 5 = .ok (.iload_n 3, 1) := by decide +kernel
theorem dc_F_rankOf_6 : decode bc_F_rankOf 6 = .ok (.ifCond .le 46, 3) := by decide +kernel
theorem dc_F_rankOf_9 : decode bc_F_rankOf 9 = .ok (.aload_n 0, 1) := by decide +kernel
theorem dc_F_rankOf_10 : decode bc_F_rankOf 10 = .ok (.getfield 11, 3) := by decide +kernel
theorem dc_F_rankOf_13 : decode bc_F_rankOf 13 = .ok (.iload_n 3, 1) := by decide +kernel
theorem dc_F_rankOf_14 : decode bc_F_rankOf 14 = .ok (.iconst 1, 1) := by decide +kernel
theorem dc_F_rankOf_15 : decode bc_F_rankOf 15 = .ok (.isub, 1) := by decide +kernel
theorem dc_F_rankOf_16 : decode bc_F_rankOf 16 = .ok (.aaload, 1) := by decide +kernel
theorem dc_F_rankOf_17 : decode bc_F_rankOf 17 = .ok (.astore 4, 2) := by decide +kernel
theorem dc_F_rankOf_19 : decode bc_F_rankOf 19 = .ok (.iload_n 2, 1) := by decide +kernel
theorem dc_F_rankOf_20 : decode bc_F_rankOf 20 = .ok (.iload_n 2, 1) := by decide +kernel
theorem dc_F_rankOf_21 : decode bc_F_rankOf 21 = .ok (.imul, 1) := by decide +kernel
theorem dc_F_rankOf_22 : decode bc_F_rankOf 22 = .ok (.aload 4, 2) := by decide +kernel
theorem dc_F_rankOf_24 : decode bc_F_rankOf 24 = .ok (.getfield 42, 3) := by decide +kernel
theorem dc_F_rankOf_27 : decode bc_F_rankOf 27 = .ok (.imul, 1) := by decide +kernel
theorem dc_F_rankOf_28 : decode bc_F_rankOf 28 = .ok (.aload 4, 2) := by decide +kernel
theorem dc_F_rankOf_30 : decode bc_F_rankOf 30 = .ok (.getfield 48, 3) := by decide +kernel
theorem dc_F_rankOf_33 : decode bc_F_rankOf 33 = .ok (.aload 4, 2) := by decide +kernel
theorem dc_F_rankOf_35 : decode bc_F_rankOf 35 = .ok (.getfield 48, 3) := by decide +kernel
theorem dc_F_rankOf_38 : decode bc_F_rankOf 38 = .ok (.imul, 1) := by decide +kernel
theorem dc_F_rankOf_39 : decode bc_F_rankOf 39 = .ok (.iload_n 1, 1) := by decide +kernel
theorem dc_F_rankOf_40 : decode bc_F_rankOf 40 = .ok (.imul, 1) := by decide +kernel
theorem dc_F_rankOf_41 : decode bc_F_rankOf 41 = .ok (.if_icmp .gt 5, 3) := by decide +kernel
theorem dc_F_rankOf_44 : decode bc_F_rankOf 44 = .ok (.iload_n 3, 1) := by decide +kernel
theorem dc_F_rankOf_45 : decode bc_F_rankOf 45 = .ok (.ireturn, 1) := by decide +kernel
theorem dc_F_rankOf_46 : decode bc_F_rankOf 46 = .ok (.iinc 3 (-1), 3) := by decide +kernel
theorem dc_F_rankOf_49 : decode bc_F_rankOf 49 = .ok (.goto (-44), 3) := by decide +kernel
theorem dc_F_rankOf_52 : decode bc_F_rankOf 52 = .ok (.iconst 0, 1) := by decide +kernel
theorem dc_F_rankOf_53 : decode bc_F_rankOf 53 = .ok (.ireturn, 1) := by decide +kernel
theorem dc_F_makeRoom_0 : decode bc_F_makeRoom 0 = .ok (.aload_n 0, 1) := by decide +kernel
theorem dc_F_makeRoom_1 : decode bc_F_makeRoom 1 = .ok (.getfield 25, 3) := by decide +kernel
theorem dc_F_makeRoom_4 : decode bc_F_makeRoom 4 = .ok (.bipush 29, 2) := by decide +kernel
theorem dc_F_makeRoom_6 : decode bc_F_makeRoom 6 = .ok (.invokestatic 51, 3) := by decide +kernel
theorem dc_F_makeRoom_9 : decode bc_F_makeRoom 9 = .ok (.istore_n 2, 1) := by decide +kernel
theorem dc_F_makeRoom_10 : decode bc_F_makeRoom 10 = .ok (.aload_n 0, 1) := by decide +kernel
theorem dc_F_makeRoom_11 : decode bc_F_makeRoom 11 = .ok (.getfield 11, 3) := by decide +kernel
theorem dc_F_makeRoom_14 : decode bc_F_makeRoom 14 = .ok (.iload_n 2, 1) := by decide +kernel
theorem dc_F_makeRoom_15 : decode bc_F_makeRoom 15 = .ok (.aaload, 1) := by decide +kernel
theorem dc_F_makeRoom_16 : decode bc_F_makeRoom 16 = .ok (.astore_n 3, 1) := by decide +kernel
theorem dc_F_makeRoom_17 : decode bc_F_makeRoom 17 = .ok (.iload_n 2, 1) := by decide +kernel
theorem dc_F_makeRoom_18 : decode bc_F_makeRoom 18 = .ok (.istore 4, 2) := by decide +kernel
theorem dc_F_makeRoom_20 : decode bc_F_makeRoom 20 = .ok (.iload 4, 2) := by decide +kernel
theorem dc_F_makeRoom_22 : decode bc_F_makeRoom 22 = .ok (.iload_n 1, 1) := by decide +kernel
theorem dc_F_makeRoom_23 : decode bc_F_makeRoom 23 = .ok (.if_icmp .le 25, 3) := by decide +kernel
theorem dc_F_makeRoom_26 : decode bc_F_makeRoom 26 = .ok (.aload_n 0, 1) := by decide +kernel
theorem dc_F_makeRoom_27 : decode bc_F_makeRoom 27 = .ok (.getfield 11, 3) := by decide +kernel
theorem dc_F_makeRoom_30 : decode bc_F_makeRoom 30 = .ok (.iload 4, 2) := by decide +kernel
theorem dc_F_makeRoom_32 : decode bc_F_makeRoom 32 = .ok (.aload_n 0, 1) := by decide +kernel
theorem dc_F_makeRoom_33 : decode bc_F_makeRoom 33 = .ok (.getfield 11, 3) := by decide +kernel
theorem dc_F_makeRoom_36 : decode bc_F_makeRoom 36 = .ok (.iload 4, 2) := by decide +kernel
theorem dc_F_makeRoom_38 : decode bc_F_makeRoom 38 = .ok (.iconst 1, 1) := by decide +kernel
theorem dc_F_makeRoom_39 : decode bc_F_makeRoom 39 = .ok (.isub, 1) := by decide +kernel
theorem dc_F_makeRoom_40 : decode bc_F_makeRoom 40 = .ok (.aaload, 1) := by decide +kernel
theorem dc_F_makeRoom_41 : decode bc_F_makeRoom 41 = .ok (.aastore, 1) := by decide +kernel
theorem dc_F_makeRoom_42 : decode bc_F_makeRoom 42 = .ok (.iinc 4 (-1), 3) := by decide +kernel
theorem dc_F_makeRoom_45 : decode bc_F_makeRoom 45 = .ok (.goto (-25), 3) := by decide +kernel
theorem dc_F_makeRoom_48 : decode bc_F_makeRoom 48 = .ok (.aload_n 0, 1) := by decide +kernel
theorem dc_F_makeRoom_49 : decode bc_F_makeRoom 49 = .ok (.getfield 11, 3) := by decide +kernel
theorem dc_F_makeRoom_52 : decode bc_F_makeRoom 52 = .ok (.iload_n 1, 1) := by decide +kernel
theorem dc_F_makeRoom_53 : decode bc_F_makeRoom 53 = .ok (.aload_n 3, 1) := by decide +kernel
theorem dc_F_makeRoom_54 : decode bc_F_makeRoom 54 = .ok (.aastore, 1) := by decide +kernel
theorem dc_F_makeRoom_55 : decode bc_F_makeRoom 55 = .ok (.aload_n 0, 1) := by decide +kernel
theorem dc_F_makeRoom_56 : decode bc_F_makeRoom 56 = .ok (.iload_n 2, 1) := by decide +kernel
theorem dc_F_makeRoom_57 : decode bc_F_makeRoom 57 = .ok (.iconst 1, 1) := by decide +kernel
theorem dc_F_makeRoom_58 : decode bc_F_makeRoom 58 = .ok (.iadd, 1) := by decide +kernel
theorem dc_F_makeRoom_59 : decode bc_F_makeRoom 59 = .ok (.putfield 25, 3) := by decide +kernel
theorem dc_F_makeRoom_62 : decode bc_F_makeRoom 62 = .ok (.aload_n 3, 1) := by decide +kernel
theorem dc_F_makeRoom_63 : decode bc_F_makeRoom 63 = .ok (.areturn, 1) := by decide +kernel
theorem dc_F_upperOfScore_0 : decode bc_F_upperOfScore 0 = .ok (.aload_n 1, 1) := by decide +kernel
theorem dc_F_upperOfScore_1 : decode bc_F_upperOfScore 1 = .ok (.getfield 48, 3) := by decide +kernel
theorem dc_F_upperOfScore_4 : decode bc_F_upperOfScore 4 = .ok (.aload_n 1, 1) := by decide +kernel
theorem dc_F_upperOfScore_5 : decode bc_F_upperOfScore 5 = .ok (.getfield 48, 3) := by decide +kernel
theorem dc_F_upperOfScore_8 : decode bc_F_upperOfScore 8 = .ok (.imul, 1) := by decide +kernel
theorem dc_F_upperOfScore_9 : decode bc_F_upperOfScore 9 = .ok (.aload_n 0, 1) := by decide +kernel
theorem dc_F_upperOfScore_10 : decode bc_F_upperOfScore 10 = .ok (.getfield 18, 3) := by decide +kernel
theorem dc_F_upperOfScore_13 : decode bc_F_upperOfScore 13 = .ok (.aload_n 1, 1) := by decide +kernel
theorem dc_F_upperOfScore_14 : decode bc_F_upperOfScore 14 = .ok (.getfield 42, 3) := by decide +kernel
theorem dc_F_upperOfScore_17 : decode bc_F_upperOfScore 17 = .ok (.imul, 1) := by decide +kernel
theorem dc_F_upperOfScore_18 : decode bc_F_upperOfScore 18 = .ok (.invokestatic 56, 3) := by decide +kernel
theorem dc_F_upperOfScore_21 : decode bc_F_upperOfScore 21 = .ok (.ireturn, 1) := by decide +kernel
theorem dc_F_leastTerm_0 : decode bc_F_leastTerm 0 = .ok (.iload_n 0, 1) := by decide +kernel
theorem dc_F_leastTerm_1 : decode bc_F_leastTerm 1 = .ok (.istore_n 2, 1) := by decide +kernel
theorem dc_F_leastTerm_2 : decode bc_F_leastTerm 2 = .ok (.iload_n 2, 1) := by decide +kernel
theorem dc_F_leastTerm_3 : decode bc_F_leastTerm 3 = .ok (.iconst 1, 1) := by decide +kernel
theorem dc_F_leastTerm_4 : decode bc_F_leastTerm 4 = .ok (.if_icmp .le 25, 3) := by decide +kernel
theorem dc_F_leastTerm_7 : decode bc_F_leastTerm 7 = .ok (.iload_n 0, 1) := by decide +kernel
theorem dc_F_leastTerm_8 : decode bc_F_leastTerm 8 = .ok (.iload_n 2, 1) := by decide +kernel
theorem dc_F_leastTerm_9 : decode bc_F_leastTerm 9 = .ok (.irem, 1) := by decide +kernel
theorem dc_F_leastTerm_10 : decode bc_F_leastTerm 10 = .ok (.ifCond .ne 13, 3) := by decide +kernel
theorem dc_F_leastTerm_13 : decode bc_F_leastTerm 13 = .ok (.iload_n 1, 1) := by decide +kernel
theorem dc_F_leastTerm_14 : decode bc_F_leastTerm 14 = .ok (.iload_n 2, 1) := by decide +kernel
theorem dc_F_leastTerm_15 : decode bc_F_leastTerm 15 = .ok (.irem, 1) := by decide +kernel
theorem dc_F_leastTerm_16 : decode bc_F_leastTerm 16 = .ok (.ifCond .ne 7, 3) := by decide +kernel
theorem dc_F_leastTerm_19 : decode bc_F_leastTerm 19 = .ok (.iload_n 0, 1) := by decide +kernel
theorem dc_F_leastTerm_20 : decode bc_F_leastTerm 20 = .ok (.iload_n 2, 1) := by decide +kernel
theorem dc_F_leastTerm_21 : decode bc_F_leastTerm 21 = .ok (.idiv, 1) := by decide +kernel
theorem dc_F_leastTerm_22 : decode bc_F_leastTerm 22 = .ok (.ireturn, 1) := by decide +kernel
theorem dc_F_leastTerm_23 : decode bc_F_leastTerm 23 = .ok (.iinc 2 (-1), 3) := by decide +kernel
theorem dc_F_leastTerm_26 : decode bc_F_leastTerm 26 = .ok (.goto (-24), 3) := by decide +kernel
theorem dc_F_leastTerm_29 : decode bc_F_leastTerm 29 = .ok (.iload_n 0, 1) := by decide +kernel
theorem dc_F_leastTerm_30 : decode bc_F_leastTerm 30 = .ok (.ireturn, 1) := by decide +kernel
theorem dc_F_lowerOfScore_0 : decode bc_F_lowerOfScore 0 = .ok (.aload_n 0, 1) := by decide +kernel
theorem dc_F_lowerOfScore_1 : decode bc_F_lowerOfScore 1 = .ok (.getfield 18, 3) := by decide +kernel
theorem dc_F_lowerOfScore_4 : decode bc_F_lowerOfScore 4 = .ok (.aload_n 1, 1) := by decide +kernel
theorem dc_F_lowerOfScore_5 : decode bc_F_lowerOfScore 5 = .ok (.getfield 42, 3) := by decide +kernel
theorem dc_F_lowerOfScore_8 : decode bc_F_lowerOfScore 8 = .ok (.imul, 1) := by decide +kernel
theorem dc_F_lowerOfScore_9 : decode bc_F_lowerOfScore 9 = .ok (.aload_n 1, 1) := by decide +kernel
theorem dc_F_lowerOfScore_10 : decode bc_F_lowerOfScore 10 = .ok (.getfield 48, 3) := by decide +kernel
theorem dc_F_lowerOfScore_13 : decode bc_F_lowerOfScore 13 = .ok (.aload_n 1, 1) := by decide +kernel
theorem dc_F_lowerOfScore_14 : decode bc_F_lowerOfScore 14 = .ok (.getfield 48, 3) := by decide +kernel
theorem dc_F_lowerOfScore_17 : decode bc_F_lowerOfScore 17 = .ok (.imul, 1) := by decide +kernel
theorem dc_F_lowerOfScore_18 : decode bc_F_lowerOfScore 18 = .ok (.invokestatic 56, 3) := by decide +kernel
theorem dc_F_lowerOfScore_21 : decode bc_F_lowerOfScore 21 = .ok (.ireturn, 1) := by decide +kernel
end
section
theorem dc_G_signum_0 : decode bc_G_signum 0 = .ok (.iload_n 0, 1) := by decide +kernel
theorem dc_G_signum_1 : decode bc_G_signum 1 = .ok (.bipush 31, 2) := by decide +kernel
theorem dc_G_signum_3 : decode bc_G_signum 3 = .ok (.ishr, 1) := by decide +kernel
theorem dc_G_signum_4 : decode bc_G_signum 4 = .ok (.iload_n 0, 1) := by decide +kernel
theorem dc_G_signum_5 : decode bc_G_signum 5 = .ok (.ineg, 1) := by decide +kernel
theorem dc_G_signum_6 : decode bc_G_signum 6 = .ok (.bipush 31, 2) := by decide +kernel
theorem dc_G_signum_8 : decode bc_G_signum 8 = .ok (.iushr, 1) := by decide +kernel
theorem dc_G_signum_9 : decode bc_G_signum 9 = .ok (.ior, 1) := by decide +kernel
theorem dc_G_signum_10 : decode bc_G_signum 10 = .ok (.ireturn, 1) := by decide +kernel
end
section
theorem dc_N_init_0 : decode bc_N_init 0 = .ok (.aload_n 0, 1) := by decide +kernel
theorem dc_N_init_1 : decode bc_N_init 1 = .ok (.invokespecial 1, 3) := by decide +kernel
theorem dc_N_init_4 : decode bc_N_init 4 = .ok (.aload_n 0, 1) := by decide +kernel
theorem dc_N_init_5 : decode bc_N_init 5 = .ok (.iload_n 1, 1) := by decide +kernel
theorem dc_N_init_6 : decode bc_N_init 6 = .ok (.newarray .int, 2) := by decide +kernel
theorem dc_N_init_8 : decode bc_N_init 8 = .ok (.putfield 7, 3) := by decide +kernel
theorem dc_N_init_11 : decode bc_N_init 11 = .ok (.aload_n 0, 1) := by decide +kernel
theorem dc_N_init_12 : decode bc_N_init 12 = .ok (.iload_n 1, 1) := by decide +kernel
theorem dc_N_init_13 : decode bc_N_init 13 = .ok (.newarray .int, 2) := by decide +kernel
theorem dc_N_init_15 : decode bc_N_init 15 = .ok (.putfield 13, 3) := by decide +kernel
theorem dc_N_init_18 : decode bc_N_init 18 = .ok (.return_, 1) := by decide +kernel
theorem dc_N_clear_0 : decode bc_N_clear 0 = .ok (.aload_n 0, 1) := by decide +kernel
theorem dc_N_clear_1 : decode bc_N_clear 1 = .ok (.iconst 0, 1) := by decide +kernel
theorem dc_N_clear_2 : decode bc_N_clear 2 = .ok (.putfield 16, 3) := by decide +kernel
theorem dc_N_clear_5 : decode bc_N_clear 5 = .ok (.return_, 1) := by decide +kernel
theorem dc_N_append_0 : decode bc_N_append 0 = .ok (.aload_n 0, 1) := by decide +kernel
theorem dc_N_append_1 : decode bc_N_append 1 = .ok (.aload_n 0, 1) := by decide +kernel
theorem dc_N_append_2 : decode bc_N_append 2 = .ok (.getfield 16, 3) := by decide +kernel
theorem dc_N_append_5 : decode bc_N_append 5 = .ok (.iload_n 1, 1) := by decide +kernel
theorem dc_N_append_6 : decode bc_N_append 6 = .ok (.iload_n 2, 1) := by decide +kernel
theorem dc_N_append_7 : decode bc_N_append 7 = .ok (.invokevirtual 20, 3) := by decide +kernel
theorem dc_N_append_10 : decode bc_N_append 10 = .ok (.aload_n 0, 1) := by decide +kernel
theorem dc_N_append_11 : decode bc_N_append 11 = .ok (.dup, 1) := by decide +kernel
theorem dc_N_append_12 : decode bc_N_append 12 = .ok (.getfield 16, 3) := by decide +kernel
theorem dc_N_append_15 : decode bc_N_append 15 = .ok (.iconst 1, 1) := by decide +kernel
theorem dc_N_append_16 : decode bc_N_append 16 = .ok (.iadd, 1) := by decide +kernel
theorem dc_N_append_17 : decode bc_N_append 17 = .ok (.putfield 16, 3) := by decide +kernel
theorem dc_N_append_20 : decode bc_N_append 20 = .ok (.aload_n 0, 1) := by decide +kernel
theorem dc_N_append_21 : decode bc_N_append 21 = .ok (.getfield 16, 3) := by decide +kernel
theorem dc_N_append_24 : decode bc_N_append 24 = .ok (.ireturn, 1) := by decide +kernel
theorem dc_N_put_0 : decode bc_N_put 0 = .ok (.aload_n 0, 1) := by decide +kernel
theorem dc_N_put_1 : decode bc_N_put 1 = .ok (.getfield 7, 3) := by decide +kernel
theorem dc_N_put_4 : decode bc_N_put 4 = .ok (.iload_n 1, 1) := by decide +kernel
theorem dc_N_put_5 : decode bc_N_put 5 = .ok (.iload_n 2, 1) := by decide +kernel
theorem dc_N_put_6 : decode bc_N_put 6 = .ok (.iastore, 1) := by decide +kernel
theorem dc_N_put_7 : decode bc_N_put 7 = .ok (.aload_n 0, 1) := by decide +kernel
theorem dc_N_put_8 : decode bc_N_put 8 = .ok (.getfield 13, 3) := by decide +kernel
theorem dc_N_put_11 : decode bc_N_put 11 = .ok (.iload_n 1, 1) := by decide +kernel
theorem dc_N_put_12 : decode bc_N_put 12 = .ok (.iload_n 3, 1) := by decide +kernel
theorem dc_N_put_13 : decode bc_N_put 13 = .ok (.iastore, 1) := by decide +kernel
theorem dc_N_put_14 : decode bc_N_put 14 = .ok (.return_, 1) := by decide +kernel
theorem dc_N_steps_0 : decode bc_N_steps 0 = .ok (.aload_n 0, 1) := by decide +kernel
theorem dc_N_steps_1 : decode bc_N_steps 1 = .ok (.getfield 16, 3) := by decide +kernel
theorem dc_N_steps_4 : decode bc_N_steps 4 = .ok (.iconst 1, 1) := by decide +kernel
theorem dc_N_steps_5 : decode bc_N_steps 5 = .ok (.isub, 1) := by decide +kernel
theorem dc_N_steps_6 : decode bc_N_steps 6 = .ok (.iconst 0, 1) := by decide +kernel
theorem dc_N_steps_7 : decode bc_N_steps 7 = .ok (.invokestatic 24, 3) := by decide +kernel
theorem dc_N_steps_10 : decode bc_N_steps 10 = .ok (.ireturn, 1) := by decide +kernel
theorem dc_N_stepBehind_0 : decode bc_N_stepBehind 0 = .ok (.aload_n 0, 1) := by decide +kernel
theorem dc_N_stepBehind_1 : decode bc_N_stepBehind 1 = .ok (.getfield 7, 3) := by decide +kernel
theorem dc_N_stepBehind_4 : decode bc_N_stepBehind 4 = .ok (.iload_n 1, 1) := by decide +kernel
theorem dc_N_stepBehind_5 : decode bc_N_stepBehind 5 = .ok (.iconst 1, 1) := by decide +kernel
theorem dc_N_stepBehind_6 : decode bc_N_stepBehind 6 = .ok (.iadd, 1) := by decide +kernel
theorem dc_N_stepBehind_7 : decode bc_N_stepBehind 7 = .ok (.iaload, 1) := by decide +kernel
theorem dc_N_stepBehind_8 : decode bc_N_stepBehind 8 = .ok (.aload_n 0, 1) := by decide +kernel
theorem dc_N_stepBehind_9 : decode bc_N_stepBehind 9 = .ok (.getfield 7, 3) := by decide +kernel
theorem dc_N_stepBehind_12 : decode bc_N_stepBehind 12 = .ok (.iload_n 1, 1) := by decide +kernel
theorem dc_N_stepBehind_13 : decode bc_N_stepBehind 13 = .ok (.iaload, 1) := by decide +kernel
theorem dc_N_stepBehind_14 : decode bc_N_stepBehind 14 = .ok (.isub, 1) := by decide +kernel
theorem dc_N_stepBehind_15 : decode bc_N_stepBehind 15 = .ok (.ireturn, 1) := by decide +kernel
theorem dc_N_placesOfPitch_0 : decode bc_N_placesOfPitch 0 = .ok (.iconst 0, 1) := by decide +kernel
theorem dc_N_placesOfPitch_1 : decode bc_N_placesOfPitch 1 = .ok (.istore_n 2, 1) := by decide +kernel
theorem dc_N_placesOfPitch_2 : decode bc_N_placesOfPitch 2 = .ok (.iconst 0, 1) := by decide +kernel
theorem dc_N_placesOfPitch_3 : decode bc_N_placesOfPitch 3 = .ok (.istore_n 3, 1) := by decide +kernel
theorem dc_N_placesOfPitch_4 : decode bc_N_placesOfPitch 4 = .ok (.iload_n 3, 1) := by decide +kernel
theorem dc_N_placesOfPitch_5 : decode bc_N_placesOfPitch 5 = .ok (.aload_n 0, 1) := by decide +kernel
theorem dc_N_placesOfPitch_6 : decode bc_N_placesOfPitch 6 = .ok (.getfield 16, 3) := by decide +kernel
theorem dc_N_placesOfPitch_9 : decode bc_N_placesOfPitch 9 = .ok (.if_icmp .ge 25, 3) := by decide +kernel
theorem dc_N_placesOfPitch_12 : decode bc_N_placesOfPitch 12 = .ok (.aload_n 0, 1) := by decide +kernel
theorem dc_N_placesOfPitch_13 : decode bc_N_placesOfPitch 13 = .ok (.getfield 7, 3) := by decide +kernel
theorem dc_N_placesOfPitch_16 : decode bc_N_placesOfPitch 16 = .ok (.iload_n 3, 1) := by decide +kernel
theorem dc_N_placesOfPitch_17 : decode bc_N_placesOfPitch 17 = .ok (.iaload, 1) := by decide +kernel
theorem dc_N_placesOfPitch_18 : decode bc_N_placesOfPitch 18 = .ok (.iload_n 1, 1) := by decide +kernel
theorem dc_N_placesOfPitch_19 : decode bc_N_placesOfPitch 19 = .ok (.if_icmp .ne 9, 3) := by decide +kernel
theorem dc_N_placesOfPitch_22 : decode bc_N_placesOfPitch 22 = .ok (.iload_n 2, 1) := by decide +kernel
theorem dc_N_placesOfPitch_23 : decode bc_N_placesOfPitch 23 = .ok (.iconst 1, 1) := by decide +kernel
theorem dc_N_placesOfPitch_24 : decode bc_N_placesOfPitch 24 = .ok (.iload_n 3, 1) := by decide +kernel
theorem dc_N_placesOfPitch_25 : decode bc_N_placesOfPitch 25 = .ok (.ishl, 1) := by decide +kernel
theorem dc_N_placesOfPitch_26 : decode bc_N_placesOfPitch 26 = .ok (.ior, 1) := by decide +kernel
theorem dc_N_placesOfPitch_27 : decode bc_N_placesOfPitch 27 = .ok (.istore_n 2, 1) := by decide +kernel
theorem dc_N_placesOfPitch_28 : decode bc_N_placesOfPitch 28 = .ok (.iinc 3 1, 3) := by decide +kernel
theorem dc_N_placesOfPitch_31 : decode bc_N_placesOfPitch 31 = .ok (.goto (-27), 3) := by decide +kernel
theorem dc_N_placesOfPitch_34 : decode bc_N_placesOfPitch 34 = .ok (.iload_n 2, 1) := by decide +kernel
theorem dc_N_placesOfPitch_35 : decode bc_N_placesOfPitch 35 = .ok (.ireturn, 1) := by decide +kernel
end
section
theorem dc_P_init_0 : decode bc_P_init 0 = .ok (.aload_n 0, 1) := by decide +kernel
theorem dc_P_init_1 : decode bc_P_init 1 = .ok (.invokespecial 1, 3) := by decide +kernel
theorem dc_P_init_4 : decode bc_P_init 4 = .ok (.return_, 1) := by decide +kernel
end
section
theorem dc_R_init_0 : decode bc_R_init 0 = .ok (.aload_n 0, 1) := by decide +kernel
theorem dc_R_init_1 : decode bc_R_init 1 = .ok (.invokespecial 3, 3) := by decide +kernel
theorem dc_R_init_4 : decode bc_R_init 4 = .ok (.aload_n 0, 1) := by decide +kernel
theorem dc_R_init_5 : decode bc_R_init 5 = .ok (.bipush 8, 2) := by decide +kernel
theorem dc_R_init_7 : decode bc_R_init 7 = .ok (.newarray .int, 2) := by decide +kernel
theorem dc_R_init_9 : decode bc_R_init 9 = .ok (.putfield 9, 3) := by decide +kernel
theorem dc_R_init_12 : decode bc_R_init 12 = .ok (.aload_n 0, 1) := by decide +kernel
theorem dc_R_init_13 : decode bc_R_init 13 = .ok (.bipush 13, 2) := by decide +kernel
theorem dc_R_init_15 : decode bc_R_init 15 = .ok (.newarray .int, 2) := by decide +kernel
theorem dc_R_init_17 : decode bc_R_init 17 = .ok (.putfield 15, 3) := by decide +kernel
theorem dc_R_init_20 : decode bc_R_init 20 = .ok (.aload_n 0, 1) := by decide +kernel
theorem dc_R_init_21 : decode bc_R_init 21 = .ok (.bipush 13, 2) := by decide +kernel
theorem dc_R_init_23 : decode bc_R_init 23 = .ok (.newarray .int, 2) := by decide +kernel
theorem dc_R_init_25 : decode bc_R_init 25 = .ok (.putfield 18, 3) := by decide +kernel
theorem dc_R_init_28 : decode bc_R_init 28 = .ok (.return_, 1) := by decide +kernel
theorem dc_R_begin_0 : decode bc_R_begin 0 = .ok (.aload_n 0, 1) := by decide +kernel
theorem dc_R_begin_1 : decode bc_R_begin 1 = .ok (.iload_n 3, 1) := by decide +kernel
theorem dc_R_begin_2 : decode bc_R_begin 2 = .ok (.bipush 16, 2) := by decide +kernel
theorem dc_R_begin_4 : decode bc_R_begin 4 = .ok (.imul, 1) := by decide +kernel
theorem dc_R_begin_5 : decode bc_R_begin 5 = .ok (.putfield 21, 3) := by decide +kernel
theorem dc_R_begin_8 : decode bc_R_begin 8 = .ok (.aload_n 0, 1) := by decide +kernel
theorem dc_R_begin_9 : decode bc_R_begin 9 = .ok (.aload_n 1, 1) := by decide +kernel
theorem dc_R_begin_10 : decode bc_R_begin 10 = .ok (.getfield 25, 3) := by decide +kernel
theorem dc_R_begin_13 : decode bc_R_begin 13 = .ok (.iload_n 3, 1) := by decide +kernel
theorem dc_R_begin_14 : decode bc_R_begin 14 = .ok (.iadd, 1) := by decide +kernel
theorem dc_R_begin_15 : decode bc_R_begin 15 = .ok (.putfield 30, 3) := by decide +kernel
theorem dc_R_begin_18 : decode bc_R_begin 18 = .ok (.aload_n 0, 1) := by decide +kernel
theorem dc_R_begin_19 : decode bc_R_begin 19 = .ok (.aload_n 1, 1) := by decide +kernel
theorem dc_R_begin_20 : decode bc_R_begin 20 = .ok (.aload_n 2, 1) := by decide +kernel
theorem dc_R_begin_21 : decode bc_R_begin 21 = .ok (.iconst 0, 1) := by decide +kernel
theorem dc_R_begin_22 : decode bc_R_begin 22 = .ok (.invokevirtual 33, 3) := by decide +kernel
theorem dc_R_begin_25 : decode bc_R_begin 25 = .ok (.return_, 1) := by decide +kernel
theorem dc_R_measure_0 : decode bc_R_measure 0 = .ok (.iconst 0, 1) := by decide +kernel
theorem dc_R_measure_1 : decode bc_R_measure 1 = .ok (.istore 4, 2) := by decide +kernel
theorem dc_R_measure_3 : decode bc_R_measure 3 = .ok (.iload 4, 2) := by decide +kernel
theorem dc_R_measure_5 : decode bc_R_measure 5 = .ok (.aload_n 1, 1) := by decide +kernel
theorem dc_R_measure_6 : decode bc_R_measure 6 = .ok (.invokevirtual 37, 3) := by decide +kernel
theorem dc_R_measure_9 : decode bc_R_measure 9 = .ok (.if_icmp .gt 21, 3) := by decide +kernel
theorem dc_R_measure_12 : decode bc_R_measure 12 = .ok (.aload_n 0, 1) := by decide +kernel
theorem dc_R_measure_13 : decode bc_R_measure 13 = .ok (.getfield 9, 3) := by decide +kernel
theorem dc_R_measure_16 : decode bc_R_measure 16 = .ok (.iload 4, 2) := by decide +kernel
theorem dc_R_measure_18 : decode bc_R_measure 18 = .ok (.iload 4, 2) := by decide +kernel
theorem dc_R_measure_20 : decode bc_R_measure 20 = .ok (.bipush 16, 2) := by decide +kernel
theorem dc_R_measure_22 : decode bc_R_measure 22 = .ok (.imul, 1) := by decide +kernel
theorem dc_R_measure_23 : decode bc_R_measure 23 = .ok (.iastore, 1) := by decide +kernel
theorem dc_R_measure_24 : decode bc_R_measure 24 = .ok (.iinc 4 1, 3) := by decide +kernel
theorem dc_R_measure_27 : decode bc_R_measure 27 = .ok (.goto (-24), 3) := by decide +kernel
theorem dc_R_measure_30 : decode bc_R_measure 30 = .ok (.iconst 2, 1) := by decide +kernel
theorem dc_R_measure_31 : decode bc_R_measure 31 = .ok (.istore 4, 2) := by decide +kernel
theorem dc_R_measure_33 : decode bc_R_measure 33 = .ok (.iload 4, 2) := by decide +kernel
theorem dc_R_measure_35 : decode bc_R_measure 35 = .ok (.aload_n 0, 1) := by decide +kernel
theorem dc_R_measure_36 : decode bc_R_measure 36 = .ok (.getfield 30, 3) := by decide +kernel
theorem dc_R_measure_39 : decode bc_R_measure 39 = .ok (.if_icmp .gt 51, 3) := by decide +kernel
theorem dc_R_measure_42 : decode bc_R_measure 42 = .ok (.iload_n 3, 1) := by decide +kernel
theorem dc_R_measure_43 : decode bc_R_measure 43 = .ok (.iload 4, 2) := by decide +kernel
theorem dc_R_measure_45 : decode bc_R_measure 45 = .ok (.iadd, 1) := by decide +kernel
theorem dc_R_measure_46 : decode bc_R_measure 46 = .ok (.aload_n 2, 1) := by decide +kernel
theorem dc_R_measure_47 : decode bc_R_measure 47 = .ok (.getfield 25, 3) := by decide +kernel
theorem dc_R_measure_50 : decode bc_R_measure 50 = .ok (.if_icmp .gt 40, 3) := by decide +kernel
theorem dc_R_measure_53 : decode bc_R_measure 53 = .ok (.aload_n 0, 1) := by decide +kernel
theorem dc_R_measure_54 : decode bc_R_measure 54 = .ok (.aload_n 1, 1) := by decide +kernel
theorem dc_R_measure_55 : decode bc_R_measure 55 = .ok (.aload_n 2, 1) := by decide +kernel
theorem dc_R_measure_56 : decode bc_R_measure 56 = .ok (.iload_n 3, 1) := by decide +kernel
theorem dc_R_measure_57 : decode bc_R_measure 57 = .ok (.iload 4, 2) := by decide +kernel
theorem dc_R_measure_59 : decode bc_R_measure 59 = .ok (.iadd, 1) := by decide +kernel
theorem dc_R_measure_60 : decode bc_R_measure 60 = .ok (.iconst 2, 1) := by decide +kernel
theorem dc_R_measure_61 : decode bc_R_measure 61 = .ok (.isub, 1) := by decide +kernel
theorem dc_R_measure_62 : decode bc_R_measure 62 = .ok (.invokevirtual 41, 3) := by decide +kernel
theorem dc_R_measure_65 : decode bc_R_measure 65 = .ok (.invokevirtual 45, 3) := by decide +kernel
theorem dc_R_measure_68 : decode bc_R_measure 68 = .ok (.aload_n 0, 1) := by decide +kernel
theorem dc_R_measure_69 : decode bc_R_measure 69 = .ok (.getfield 18, 3) := by decide +kernel
theorem dc_R_measure_72 : decode bc_R_measure 72 = .ok (.iload 4, 2) := by decide +kernel
theorem dc_R_measure_74 : decode bc_R_measure 74 = .ok (.aload_n 0, 1) := by decide +kernel
theorem dc_R_measure_75 : decode bc_R_measure 75 = .ok (.getfield 9, 3) := by decide +kernel
theorem dc_R_measure_78 : decode bc_R_measure 78 = .ok (.aload_n 1, 1) := by decide +kernel
theorem dc_R_measure_79 : decode bc_R_measure 79 = .ok (.invokevirtual 37, 3) := by decide +kernel
theorem dc_R_measure_82 : decode bc_R_measure 82 = .ok (.iaload, 1) := by decide +kernel
theorem dc_R_measure_83 : decode bc_R_measure 83 = .ok (.iastore, 1) := by decide +kernel
theorem dc_R_measure_84 : decode bc_R_measure 84 = .ok (.iinc 4 1, 3) := by decide +kernel
theorem dc_R_measure_87 : decode bc_R_measure 87 = .ok (.goto (-54), 3) := by decide +kernel
theorem dc_R_measure_90 : decode bc_R_measure 90 = .ok (.return_, 1) := by decide +kernel
theorem dc_R_takeIn_0 : decode bc_R_takeIn 0 = .ok (.aload_n 0, 1) := by decide +kernel
theorem dc_R_takeIn_1 : decode bc_R_takeIn 1 = .ok (.getfield 9, 3) := by decide +kernel
theorem dc_R_takeIn_4 : decode bc_R_takeIn 4 = .ok (.iconst 0, 1) := by decide +kernel
theorem dc_R_takeIn_5 : decode bc_R_takeIn 5 = .ok (.iaload, 1) := by decide +kernel
theorem dc_R_takeIn_6 : decode bc_R_takeIn 6 = .ok (.istore_n 3, 1) := by decide +kernel
theorem dc_R_takeIn_7 : decode bc_R_takeIn 7 = .ok (.aload_n 0, 1) := by decide +kernel
theorem dc_R_takeIn_8 : decode bc_R_takeIn 8 = .ok (.getfield 9, 3) := by decide +kernel
theorem dc_R_takeIn_11 : decode bc_R_takeIn 11 = .ok (.iconst 0, 1) := by decide +kernel
theorem dc_R_takeIn_12 : decode bc_R_takeIn 12 = .ok (.dup2, 1) := by decide +kernel
theorem dc_R_takeIn_13 : decode bc_R_takeIn 13 = .ok (.iaload, 1) := by decide +kernel
theorem dc_R_takeIn_14 : decode bc_R_takeIn 14 = .ok (.bipush 16, 2) := by decide +kernel
theorem dc_R_takeIn_16 : decode bc_R_takeIn 16 = .ok (.iadd, 1) := by decide +kernel
theorem dc_R_takeIn_17 : decode bc_R_takeIn 17 = .ok (.iastore, 1) := by decide +kernel
theorem dc_R_takeIn_18 : decode bc_R_takeIn 18 = .ok (.iconst 1, 1) := by decide +kernel
theorem dc_R_takeIn_19 : decode bc_R_takeIn 19 = .ok (.istore 4, 2) := by decide +kernel
theorem dc_R_takeIn_21 : decode bc_R_takeIn 21 = .ok (.iload 4, 2) := by decide +kernel
theorem dc_R_takeIn_23 : decode bc_R_takeIn 23 = .ok (.aload_n 1, 1) := by decide +kernel
theorem dc_R_takeIn_24 : decode bc_R_takeIn 24 = .ok (.invokevirtual 37, 3) := by decide +kernel
theorem dc_R_takeIn_27 : decode bc_R_takeIn 27 = .ok (.if_icmp .gt 89, 3) := by decide +kernel
theorem dc_R_takeIn_30 : decode bc_R_takeIn 30 = .ok (.aload_n 1, 1) := by decide +kernel
theorem dc_R_takeIn_31 : decode bc_R_takeIn 31 = .ok (.iload 4, 2) := by decide +kernel
theorem dc_R_takeIn_33 : decode bc_R_takeIn 33 = .ok (.iconst 1, 1) := by decide +kernel
theorem dc_R_takeIn_34 : decode bc_R_takeIn 34 = .ok (.isub, 1) := by decide +kernel
theorem dc_R_takeIn_35 : decode bc_R_takeIn 35 = .ok (.invokevirtual 41, 3) := by decide +kernel
theorem dc_R_takeIn_38 : decode bc_R_takeIn 38 = .ok (.iload_n 2, 1) := by decide +kernel
theorem dc_R_takeIn_39 : decode bc_R_takeIn 39 = .ok (.if_icmp .ne 7, 3) := by decide +kernel
theorem dc_R_takeIn_42 : decode bc_R_takeIn 42 = .ok (.iconst 1, 1) := by decide +kernel
theorem dc_R_takeIn_43 : decode bc_R_takeIn 43 = .ok (.goto 4, 3) := by decide +kernel
theorem dc_R_takeIn_46 : decode bc_R_takeIn 46 = .ok (.iconst 0, 1) := by decide +kernel
theorem dc_R_takeIn_47 : decode bc_R_takeIn 47 = .ok (.istore 5, 2) := by decide +kernel
theorem dc_R_takeIn_49 : decode bc_R_takeIn 49 = .ok (.iload_n 3, 1) := by decide +kernel
theorem dc_R_takeIn_50 : decode bc_R_takeIn 50 = .ok (.iload 5, 2) := by decide +kernel
theorem dc_R_takeIn_52 : decode bc_R_takeIn 52 = .ok (.ifCond .eq 7, 3) := by decide +kernel
theorem dc_R_takeIn_55 : decode bc_R_takeIn 55 = .ok (.iconst (-1), 1) := by decide +kernel
theorem dc_R_takeIn_56 : decode bc_R_takeIn 56 = .ok (.goto 5, 3) := by decide +kernel
theorem dc_R_takeIn_59 : decode bc_R_takeIn 59 = .ok (.bipush 16, 2) := by decide +kernel
theorem dc_R_takeIn_61 : decode bc_R_takeIn 61 = .ok (.iadd, 1) := by decide +kernel
theorem dc_R_takeIn_62 : decode bc_R_takeIn 62 = .ok (.istore 6, 2) := by decide +kernel
theorem dc_R_takeIn_64 : decode bc_R_takeIn 64 = .ok (.aload_n 0, 1) := by decide +kernel
theorem dc_R_takeIn_65 : decode bc_R_takeIn 65 = .ok (.getfield 9, 3) := by decide +kernel
theorem dc_R_takeIn_68 : decode bc_R_takeIn 68 = .ok (.iload 4, 2) := by decide +kernel
theorem dc_R_takeIn_70 : decode bc_R_takeIn 70 = .ok (.iaload, 1) := by decide +kernel
theorem dc_R_takeIn_71 : decode bc_R_takeIn 71 = .ok (.istore_n 3, 1) := by decide +kernel
theorem dc_R_takeIn_72 : decode bc_R_takeIn 72 = .ok (.aload_n 0, 1) := by decide +kernel
theorem dc_R_takeIn_73 : decode bc_R_takeIn 73 = .ok (.getfield 9, 3) := by decide +kernel
theorem dc_R_takeIn_76 : decode bc_R_takeIn 76 = .ok (.iload 4, 2) := by decide +kernel
theorem dc_R_takeIn_78 : decode bc_R_takeIn 78 = .ok (.iaload, 1) := by decide +kernel
theorem dc_R_takeIn_79 : decode bc_R_takeIn 79 = .ok (.aload_n 0, 1) := by decide +kernel
theorem dc_R_takeIn_80 : decode bc_R_takeIn 80 = .ok (.getfield 9, 3) := by decide +kernel
theorem dc_R_takeIn_83 : decode bc_R_takeIn 83 = .ok (.iload 4, 2) := by decide +kernel
theorem dc_R_takeIn_85 : decode bc_R_takeIn 85 = .ok (.iconst 1, 1) := by decide +kernel
theorem dc_R_takeIn_86 : decode bc_R_takeIn 86 = .ok (.isub, 1) := by decide +kernel
theorem dc_R_takeIn_87 : decode bc_R_takeIn 87 = .ok (.iaload, 1) := by decide +kernel
theorem dc_R_takeIn_88 : decode bc_R_takeIn 88 = .ok (.invokestatic 49, 3) := by decide +kernel
theorem dc_R_takeIn_91 : decode bc_R_takeIn 91 = .ok (.bipush 16, 2) := by decide +kernel
theorem dc_R_takeIn_93 : decode bc_R_takeIn 93 = .ok (.iadd, 1) := by decide +kernel
theorem dc_R_takeIn_94 : decode bc_R_takeIn 94 = .ok (.istore 7, 2) := by decide +kernel
theorem dc_R_takeIn_96 : decode bc_R_takeIn 96 = .ok (.aload_n 0, 1) := by decide +kernel
theorem dc_R_takeIn_97 : decode bc_R_takeIn 97 = .ok (.getfield 9, 3) := by decide +kernel
theorem dc_R_takeIn_100 : decode bc_R_takeIn 100 = .ok (.iload 4, 2) := by decide +kernel
theorem dc_R_takeIn_102 : decode bc_R_takeIn 102 = .ok (.iload 6, 2) := by decide +kernel
theorem dc_R_takeIn_104 : decode bc_R_takeIn 104 = .ok (.iload 7, 2) := by decide +kernel
theorem dc_R_takeIn_106 : decode bc_R_takeIn 106 = .ok (.invokestatic 49, 3) := by decide +kernel
theorem dc_R_takeIn_109 : decode bc_R_takeIn 109 = .ok (.iastore, 1) := by decide +kernel
theorem dc_R_takeIn_110 : decode bc_R_takeIn 110 = .ok (.iinc 4 1, 3) := by decide +kernel
theorem dc_R_takeIn_113 : decode bc_R_takeIn 113 = .ok (.goto (-92), 3) := by decide +kernel
theorem dc_R_takeIn_116 : decode bc_R_takeIn 116 = .ok (.return_, 1) := by decide +kernel
theorem dc_R_goOn_0 : decode bc_R_goOn 0 = .ok (.aload_n 0, 1) := by decide +kernel
theorem dc_R_goOn_1 : decode bc_R_goOn 1 = .ok (.getfield 18, 3) := by decide +kernel
theorem dc_R_goOn_4 : decode bc_R_goOn 4 = .ok (.astore 4, 2) := by decide +kernel
theorem dc_R_goOn_6 : decode bc_R_goOn 6 = .ok (.aload_n 0, 1) := by decide +kernel
theorem dc_R_goOn_7 : decode bc_R_goOn 7 = .ok (.aload_n 0, 1) := by decide +kernel
theorem dc_R_goOn_8 : decode bc_R_goOn 8 = .ok (.getfield 15, 3) := by decide +kernel
theorem dc_R_goOn_11 : decode bc_R_goOn 11 = .ok (.putfield 18, 3) := by decide +kernel
theorem dc_R_goOn_14 : decode bc_R_goOn 14 = .ok (.aload_n 0, 1) := by decide +kernel
theorem dc_R_goOn_15 : decode bc_R_goOn 15 = .ok (.aload 4, 2) := by decide +kernel
theorem dc_R_goOn_17 : decode bc_R_goOn 17 = .ok (.putfield 15, 3) := by decide +kernel
theorem dc_R_goOn_20 : decode bc_R_goOn 20 = .ok (.aload_n 0, 1) := by decide +kernel
theorem dc_R_goOn_21 : decode bc_R_goOn 21 = .ok (.aload_n 1, 1) := by decide +kernel
theorem dc_R_goOn_22 : decode bc_R_goOn 22 = .ok (.aload_n 2, 1) := by decide +kernel
theorem dc_R_goOn_23 : decode bc_R_goOn 23 = .ok (.iload_n 3, 1) := by decide +kernel
theorem dc_R_goOn_24 : decode bc_R_goOn 24 = .ok (.iconst 1, 1) := by decide +kernel
theorem dc_R_goOn_25 : decode bc_R_goOn 25 = .ok (.iadd, 1) := by decide +kernel
theorem dc_R_goOn_26 : decode bc_R_goOn 26 = .ok (.invokevirtual 33, 3) := by decide +kernel
theorem dc_R_goOn_29 : decode bc_R_goOn 29 = .ok (.return_, 1) := by decide +kernel
theorem dc_R_holds_0 : decode bc_R_holds 0 = .ok (.aload_n 0, 1) := by decide +kernel
theorem dc_R_holds_1 : decode bc_R_holds 1 = .ok (.getfield 15, 3) := by decide +kernel
theorem dc_R_holds_4 : decode bc_R_holds 4 = .ok (.iload_n 1, 1) := by decide +kernel
theorem dc_R_holds_5 : decode bc_R_holds 5 = .ok (.iaload, 1) := by decide +kernel
theorem dc_R_holds_6 : decode bc_R_holds 6 = .ok (.aload_n 0, 1) := by decide +kernel
theorem dc_R_holds_7 : decode bc_R_holds 7 = .ok (.getfield 21, 3) := by decide +kernel
theorem dc_R_holds_10 : decode bc_R_holds 10 = .ok (.if_icmp .le 5, 3) := by decide +kernel
theorem dc_R_holds_13 : decode bc_R_holds 13 = .ok (.iconst 0, 1) := by decide +kernel
theorem dc_R_holds_14 : decode bc_R_holds 14 = .ok (.ireturn, 1) := by decide +kernel
theorem dc_R_holds_15 : decode bc_R_holds 15 = .ok (.iload_n 1, 1) := by decide +kernel
theorem dc_R_holds_16 : decode bc_R_holds 16 = .ok (.iconst 2, 1) := by decide +kernel
theorem dc_R_holds_17 : decode bc_R_holds 17 = .ok (.if_icmp .eq 33, 3) := by decide +kernel
theorem dc_R_holds_20 : decode bc_R_holds 20 = .ok (.aload_n 0, 1) := by decide +kernel
theorem dc_R_holds_21 : decode bc_R_holds 21 = .ok (.getfield 15, 3) := by decide +kernel
theorem dc_R_holds_24 : decode bc_R_holds 24 = .ok (.iload_n 1, 1) := by decide +kernel
theorem dc_R_holds_25 : decode bc_R_holds 25 = .ok (.iconst 1, 1) := by decide +kernel
theorem dc_R_holds_26 : decode bc_R_holds 26 = .ok (.isub, 1) := by decide +kernel
theorem dc_R_holds_27 : decode bc_R_holds 27 = .ok (.iaload, 1) := by decide +kernel
theorem dc_R_holds_28 : decode bc_R_holds 28 = .ok (.aload_n 0, 1) := by decide +kernel
theorem dc_R_holds_29 : decode bc_R_holds 29 = .ok (.getfield 21, 3) := by decide +kernel
theorem dc_R_holds_32 : decode bc_R_holds 32 = .ok (.if_icmp .le 22, 3) := by decide +kernel
theorem dc_R_holds_35 : decode bc_R_holds 35 = .ok (.aload_n 0, 1) := by decide +kernel
theorem dc_R_holds_36 : decode bc_R_holds 36 = .ok (.getfield 18, 3) := by decide +kernel
theorem dc_R_holds_39 : decode bc_R_holds 39 = .ok (.iload_n 1, 1) := by decide +kernel
theorem dc_R_holds_40 : decode bc_R_holds 40 = .ok (.iconst 1, 1) := by decide +kernel
theorem dc_R_holds_41 : decode bc_R_holds 41 = .ok (.isub, 1) := by decide +kernel
theorem dc_R_holds_42 : decode bc_R_holds 42 = .ok (.iaload, 1) := by decide +kernel
theorem dc_R_holds_43 : decode bc_R_holds 43 = .ok (.aload_n 0, 1) := by decide +kernel
theorem dc_R_holds_44 : decode bc_R_holds 44 = .ok (.getfield 21, 3) := by decide +kernel
theorem dc_R_holds_47 : decode bc_R_holds 47 = .ok (.if_icmp .le 7, 3) := by decide +kernel
theorem dc_R_holds_50 : decode bc_R_holds 50 = .ok (.iconst 1, 1) := by decide +kernel
theorem dc_R_holds_51 : decode bc_R_holds 51 = .ok (.goto 4, 3) := by decide +kernel
theorem dc_R_holds_54 : decode bc_R_holds 54 = .ok (.iconst 0, 1) := by decide +kernel
theorem dc_R_holds_55 : decode bc_R_holds 55 = .ok (.ireturn, 1) := by decide +kernel
theorem dc_R_staying_0 : decode bc_R_staying 0 = .ok (.aload_n 0, 1) := by decide +kernel
theorem dc_R_staying_1 : decode bc_R_staying 1 = .ok (.getfield 15, 3) := by decide +kernel
theorem dc_R_staying_4 : decode bc_R_staying 4 = .ok (.iload_n 1, 1) := by decide +kernel
theorem dc_R_staying_5 : decode bc_R_staying 5 = .ok (.iaload, 1) := by decide +kernel
theorem dc_R_staying_6 : decode bc_R_staying 6 = .ok (.bipush 16, 2) := by decide +kernel
theorem dc_R_staying_8 : decode bc_R_staying 8 = .ok (.iadd, 1) := by decide +kernel
theorem dc_R_staying_9 : decode bc_R_staying 9 = .ok (.iconst 1, 1) := by decide +kernel
theorem dc_R_staying_10 : decode bc_R_staying 10 = .ok (.isub, 1) := by decide +kernel
theorem dc_R_staying_11 : decode bc_R_staying 11 = .ok (.bipush 16, 2) := by decide +kernel
theorem dc_R_staying_13 : decode bc_R_staying 13 = .ok (.idiv, 1) := by decide +kernel
theorem dc_R_staying_14 : decode bc_R_staying 14 = .ok (.istore_n 2, 1) := by decide +kernel
theorem dc_R_staying_15 : decode bc_R_staying 15 = .ok (.iload_n 2, 1) := by decide +kernel
theorem dc_R_staying_16 : decode bc_R_staying 16 = .ok (.bipush 16, 2) := by decide +kernel
theorem dc_R_staying_18 : decode bc_R_staying 18 = .ok (.imul, 1) := by decide +kernel
theorem dc_R_staying_19 : decode bc_R_staying 19 = .ok (.aload_n 0, 1) := by decide +kernel
theorem dc_R_staying_20 : decode bc_R_staying 20 = .ok (.getfield 15, 3) := by decide +kernel
theorem dc_R_staying_23 : decode bc_R_staying 23 = .ok (.iload_n 1, 1) := by decide +kernel
theorem dc_R_staying_24 : decode bc_R_staying 24 = .ok (.iaload, 1) := by decide +kernel
theorem dc_R_staying_25 : decode bc_R_staying 25 = .ok (.isub, 1) := by decide +kernel
theorem dc_R_staying_26 : decode bc_R_staying 26 = .ok (.ireturn, 1) := by decide +kernel
end
section
theorem dc_U_init_0 : decode bc_U_init 0 = .ok (.aload_n 0, 1) := by decide +kernel
theorem dc_U_init_1 : decode bc_U_init 1 = .ok (.invokespecial 3, 3) := by decide +kernel
theorem dc_U_init_4 : decode bc_U_init 4 = .ok (.aload_n 0, 1) := by decide +kernel
theorem dc_U_init_5 : decode bc_U_init 5 = .ok (.new 9, 3) := by decide +kernel
theorem dc_U_init_8 : decode bc_U_init 8 = .ok (.dup, 1) := by decide +kernel
theorem dc_U_init_9 : decode bc_U_init 9 = .ok (.bipush 20, 2) := by decide +kernel
theorem dc_U_init_11 : decode bc_U_init 11 = .ok (.invokespecial 11, 3) := by decide +kernel
theorem dc_U_init_14 : decode bc_U_init 14 = .ok (.putfield 14, 3) := by decide +kernel
theorem dc_U_init_17 : decode bc_U_init 17 = .ok (.aload_n 0, 1) := by decide +kernel
theorem dc_U_init_18 : decode bc_U_init 18 = .ok (.bipush 8, 2) := by decide +kernel
theorem dc_U_init_20 : decode bc_U_init 20 = .ok (.newarray .int, 2) := by decide +kernel
theorem dc_U_init_22 : decode bc_U_init 22 = .ok (.putfield 20, 3) := by decide +kernel
theorem dc_U_init_25 : decode bc_U_init 25 = .ok (.aload_n 0, 1) := by decide +kernel
theorem dc_U_init_26 : decode bc_U_init 26 = .ok (.new 9, 3) := by decide +kernel
theorem dc_U_init_29 : decode bc_U_init 29 = .ok (.dup, 1) := by decide +kernel
theorem dc_U_init_30 : decode bc_U_init 30 = .ok (.bipush 8, 2) := by decide +kernel
theorem dc_U_init_32 : decode bc_U_init 32 = .ok (.invokespecial 11, 3) := by decide +kernel
theorem dc_U_init_35 : decode bc_U_init 35 = .ok (.putfield 24, 3) := by decide +kernel
theorem dc_U_init_38 : decode bc_U_init 38 = .ok (.return_, 1) := by decide +kernel
theorem dc_U_begin_0 : decode bc_U_begin 0 = .ok (.aload_n 0, 1) := by decide +kernel
theorem dc_U_begin_1 : decode bc_U_begin 1 = .ok (.getfield 14, 3) := by decide +kernel
theorem dc_U_begin_4 : decode bc_U_begin 4 = .ok (.invokevirtual 27, 3) := by decide +kernel
theorem dc_U_begin_7 : decode bc_U_begin 7 = .ok (.aload_n 0, 1) := by decide +kernel
theorem dc_U_begin_8 : decode bc_U_begin 8 = .ok (.iconst 1, 1) := by decide +kernel
theorem dc_U_begin_9 : decode bc_U_begin 9 = .ok (.putfield 30, 3) := by decide +kernel
theorem dc_U_begin_12 : decode bc_U_begin 12 = .ok (.aload_n 0, 1) := by decide +kernel
theorem dc_U_begin_13 : decode bc_U_begin 13 = .ok (.iconst 0, 1) := by decide +kernel
theorem dc_U_begin_14 : decode bc_U_begin 14 = .ok (.putfield 34, 3) := by decide +kernel
theorem dc_U_begin_17 : decode bc_U_begin 17 = .ok (.aload_n 0, 1) := by decide +kernel
theorem dc_U_begin_18 : decode bc_U_begin 18 = .ok (.iconst 0, 1) := by decide +kernel
theorem dc_U_begin_19 : decode bc_U_begin 19 = .ok (.putfield 37, 3) := by decide +kernel
theorem dc_U_begin_22 : decode bc_U_begin 22 = .ok (.return_, 1) := by decide +kernel
theorem dc_U_end_0 : decode bc_U_end 0 = .ok (.aload_n 0, 1) := by decide +kernel
theorem dc_U_end_1 : decode bc_U_end 1 = .ok (.iconst 0, 1) := by decide +kernel
theorem dc_U_end_2 : decode bc_U_end 2 = .ok (.putfield 30, 3) := by decide +kernel
theorem dc_U_end_5 : decode bc_U_end 5 = .ok (.aload_n 0, 1) := by decide +kernel
theorem dc_U_end_6 : decode bc_U_end 6 = .ok (.iconst 0, 1) := by decide +kernel
theorem dc_U_end_7 : decode bc_U_end 7 = .ok (.putfield 34, 3) := by decide +kernel
theorem dc_U_end_10 : decode bc_U_end 10 = .ok (.return_, 1) := by decide +kernel
theorem dc_U_replace_0 : decode bc_U_replace 0 = .ok (.aload_n 0, 1) := by decide +kernel
theorem dc_U_replace_1 : decode bc_U_replace 1 = .ok (.getfield 20, 3) := by decide +kernel
theorem dc_U_replace_4 : decode bc_U_replace 4 = .ok (.aload_n 0, 1) := by decide +kernel
theorem dc_U_replace_5 : decode bc_U_replace 5 = .ok (.getfield 37, 3) := by decide +kernel
theorem dc_U_replace_8 : decode bc_U_replace 8 = .ok (.iload_n 1, 1) := by decide +kernel
theorem dc_U_replace_9 : decode bc_U_replace 9 = .ok (.iastore, 1) := by decide +kernel
theorem dc_U_replace_10 : decode bc_U_replace 10 = .ok (.aload_n 0, 1) := by decide +kernel
theorem dc_U_replace_11 : decode bc_U_replace 11 = .ok (.getfield 24, 3) := by decide +kernel
theorem dc_U_replace_14 : decode bc_U_replace 14 = .ok (.aload_n 0, 1) := by decide +kernel
theorem dc_U_replace_15 : decode bc_U_replace 15 = .ok (.getfield 37, 3) := by decide +kernel
theorem dc_U_replace_18 : decode bc_U_replace 18 = .ok (.aload_n 0, 1) := by decide +kernel
theorem dc_U_replace_19 : decode bc_U_replace 19 = .ok (.getfield 14, 3) := by decide +kernel
theorem dc_U_replace_22 : decode bc_U_replace 22 = .ok (.getfield 41, 3) := by decide +kernel
theorem dc_U_replace_25 : decode bc_U_replace 25 = .ok (.iload_n 1, 1) := by decide +kernel
theorem dc_U_replace_26 : decode bc_U_replace 26 = .ok (.iaload, 1) := by decide +kernel
theorem dc_U_replace_27 : decode bc_U_replace 27 = .ok (.aload_n 0, 1) := by decide +kernel
theorem dc_U_replace_28 : decode bc_U_replace 28 = .ok (.getfield 14, 3) := by decide +kernel
theorem dc_U_replace_31 : decode bc_U_replace 31 = .ok (.getfield 44, 3) := by decide +kernel
theorem dc_U_replace_34 : decode bc_U_replace 34 = .ok (.iload_n 1, 1) := by decide +kernel
theorem dc_U_replace_35 : decode bc_U_replace 35 = .ok (.iaload, 1) := by decide +kernel
theorem dc_U_replace_36 : decode bc_U_replace 36 = .ok (.invokevirtual 47, 3) := by decide +kernel
theorem dc_U_replace_39 : decode bc_U_replace 39 = .ok (.aload_n 0, 1) := by decide +kernel
theorem dc_U_replace_40 : decode bc_U_replace 40 = .ok (.getfield 14, 3) := by decide +kernel
theorem dc_U_replace_43 : decode bc_U_replace 43 = .ok (.iload_n 1, 1) := by decide +kernel
theorem dc_U_replace_44 : decode bc_U_replace 44 = .ok (.iload_n 2, 1) := by decide +kernel
theorem dc_U_replace_45 : decode bc_U_replace 45 = .ok (.iload_n 3, 1) := by decide +kernel
theorem dc_U_replace_46 : decode bc_U_replace 46 = .ok (.invokevirtual 47, 3) := by decide +kernel
theorem dc_U_replace_49 : decode bc_U_replace 49 = .ok (.aload_n 0, 1) := by decide +kernel
theorem dc_U_replace_50 : decode bc_U_replace 50 = .ok (.dup, 1) := by decide +kernel
theorem dc_U_replace_51 : decode bc_U_replace 51 = .ok (.getfield 37, 3) := by decide +kernel
theorem dc_U_replace_54 : decode bc_U_replace 54 = .ok (.iconst 1, 1) := by decide +kernel
theorem dc_U_replace_55 : decode bc_U_replace 55 = .ok (.iadd, 1) := by decide +kernel
theorem dc_U_replace_56 : decode bc_U_replace 56 = .ok (.putfield 37, 3) := by decide +kernel
theorem dc_U_replace_59 : decode bc_U_replace 59 = .ok (.aload_n 0, 1) := by decide +kernel
theorem dc_U_replace_60 : decode bc_U_replace 60 = .ok (.getfield 37, 3) := by decide +kernel
theorem dc_U_replace_63 : decode bc_U_replace 63 = .ok (.ireturn, 1) := by decide +kernel
theorem dc_U_goBack_0 : decode bc_U_goBack 0 = .ok (.aload_n 0, 1) := by decide +kernel
theorem dc_U_goBack_1 : decode bc_U_goBack 1 = .ok (.getfield 37, 3) := by decide +kernel
theorem dc_U_goBack_4 : decode bc_U_goBack 4 = .ok (.iconst 1, 1) := by decide +kernel
theorem dc_U_goBack_5 : decode bc_U_goBack 5 = .ok (.isub, 1) := by decide +kernel
theorem dc_U_goBack_6 : decode bc_U_goBack 6 = .ok (.istore_n 2, 1) := by decide +kernel
theorem dc_U_goBack_7 : decode bc_U_goBack 7 = .ok (.iload_n 2, 1) := by decide +kernel
theorem dc_U_goBack_8 : decode bc_U_goBack 8 = .ok (.iload_n 1, 1) := by decide +kernel
theorem dc_U_goBack_9 : decode bc_U_goBack 9 = .ok (.if_icmp .lt 40, 3) := by decide +kernel
theorem dc_U_goBack_12 : decode bc_U_goBack 12 = .ok (.aload_n 0, 1) := by decide +kernel
theorem dc_U_goBack_13 : decode bc_U_goBack 13 = .ok (.getfield 14, 3) := by decide +kernel
theorem dc_U_goBack_16 : decode bc_U_goBack 16 = .ok (.aload_n 0, 1) := by decide +kernel
theorem dc_U_goBack_17 : decode bc_U_goBack 17 = .ok (.getfield 20, 3) := by decide +kernel
theorem dc_U_goBack_20 : decode bc_U_goBack 20 = .ok (.iload_n 2, 1) := by decide +kernel
theorem dc_U_goBack_21 : decode bc_U_goBack 21 = .ok (.iaload, 1) := by decide +kernel
theorem dc_U_goBack_22 : decode bc_U_goBack 22 = .ok (.aload_n 0, 1) := by decide +kernel
theorem dc_U_goBack_23 : decode bc_U_goBack 23 = .ok (.getfield 24, 3) := by decide +kernel
theorem dc_U_goBack_26 : decode bc_U_goBack 26 = .ok (.getfield 41, 3) := by decide +kernel
theorem dc_U_goBack_29 : decode bc_U_goBack 29 = .ok (.iload_n 2, 1) := by decide +kernel
theorem dc_U_goBack_30 : decode bc_U_goBack 30 = .ok (.iaload, 1) := by decide +kernel
theorem dc_U_goBack_31 : decode bc_U_goBack 31 = .ok (.aload_n 0, 1) := by decide +kernel
theorem dc_U_goBack_32 : decode bc_U_goBack 32 = .ok (.getfield 24, 3) := by decide +kernel
theorem dc_U_goBack_35 : decode bc_U_goBack 35 = .ok (.getfield 44, 3) := by decide +kernel
theorem dc_U_goBack_38 : decode bc_U_goBack 38 = .ok (.iload_n 2, 1) := by decide +kernel
theorem dc_U_goBack_39 : decode bc_U_goBack 39 = .ok (.iaload, 1) := by decide +kernel
theorem dc_U_goBack_40 : decode bc_U_goBack 40 = .ok (.invokevirtual 47, 3) := by decide +kernel
theorem dc_U_goBack_43 : decode bc_U_goBack 43 = .ok (.iinc 2 (-1), 3) := by decide +kernel
theorem dc_U_goBack_46 : decode bc_U_goBack 46 = .ok (.goto (-39), 3) := by decide +kernel
theorem dc_U_goBack_49 : decode bc_U_goBack 49 = .ok (.aload_n 0, 1) := by decide +kernel
theorem dc_U_goBack_50 : decode bc_U_goBack 50 = .ok (.iload_n 1, 1) := by decide +kernel
theorem dc_U_goBack_51 : decode bc_U_goBack 51 = .ok (.putfield 37, 3) := by decide +kernel
theorem dc_U_goBack_54 : decode bc_U_goBack 54 = .ok (.return_, 1) := by decide +kernel
theorem dc_U_pitchIn_0 : decode bc_U_pitchIn 0 = .ok (.aload_n 0, 1) := by decide +kernel
theorem dc_U_pitchIn_1 : decode bc_U_pitchIn 1 = .ok (.iload_n 1, 1) := by decide +kernel
theorem dc_U_pitchIn_2 : decode bc_U_pitchIn 2 = .ok (.iload_n 2, 1) := by decide +kernel
theorem dc_U_pitchIn_3 : decode bc_U_pitchIn 3 = .ok (.invokevirtual 51, 3) := by decide +kernel
theorem dc_U_pitchIn_6 : decode bc_U_pitchIn 6 = .ok (.istore_n 3, 1) := by decide +kernel
theorem dc_U_pitchIn_7 : decode bc_U_pitchIn 7 = .ok (.iload_n 3, 1) := by decide +kernel
theorem dc_U_pitchIn_8 : decode bc_U_pitchIn 8 = .ok (.iconst (-1), 1) := by decide +kernel
theorem dc_U_pitchIn_9 : decode bc_U_pitchIn 9 = .ok (.if_icmp .ne 15, 3) := by decide +kernel
theorem dc_U_pitchIn_12 : decode bc_U_pitchIn 12 = .ok (.aload_n 0, 1) := by decide +kernel
theorem dc_U_pitchIn_13 : decode bc_U_pitchIn 13 = .ok (.getfield 14, 3) := by decide +kernel
theorem dc_U_pitchIn_16 : decode bc_U_pitchIn 16 = .ok (.getfield 41, 3) := by decide +kernel
theorem dc_U_pitchIn_19 : decode bc_U_pitchIn 19 = .ok (.iload_n 2, 1) := by decide +kernel
theorem dc_U_pitchIn_20 : decode bc_U_pitchIn 20 = .ok (.iaload, 1) := by decide +kernel
theorem dc_U_pitchIn_21 : decode bc_U_pitchIn 21 = .ok (.goto 12, 3) := by decide +kernel
theorem dc_U_pitchIn_24 : decode bc_U_pitchIn 24 = .ok (.aload_n 0, 1) := by decide +kernel
theorem dc_U_pitchIn_25 : decode bc_U_pitchIn 25 = .ok (.getfield 24, 3) := by decide +kernel
theorem dc_U_pitchIn_28 : decode bc_U_pitchIn 28 = .ok (.getfield 41, 3) := by decide +kernel
theorem dc_U_pitchIn_31 : decode bc_U_pitchIn 31 = .ok (.iload_n 3, 1) := by decide +kernel
theorem dc_U_pitchIn_32 : decode bc_U_pitchIn 32 = .ok (.iaload, 1) := by decide +kernel
theorem dc_U_pitchIn_33 : decode bc_U_pitchIn 33 = .ok (.ireturn, 1) := by decide +kernel
theorem dc_U_replacedAfter_0 : decode bc_U_replacedAfter 0 = .ok (.iload_n 1, 1) := by decide +kernel
theorem dc_U_replacedAfter_1 : decode bc_U_replacedAfter 1 = .ok (.istore_n 3, 1) := by decide +kernel
theorem dc_U_replacedAfter_2 : decode bc_U_replacedAfter 2 = .ok (.iload_n 3, 1) := by decide +kernel
theorem dc_U_replacedAfter_3 : decode bc_U_replacedAfter 3 = .ok (.aload_n 0, 1) := by decide +kernel
theorem dc_U_replacedAfter_4 : decode bc_U_replacedAfter 4 = .ok (.getfield 37, 3) := by decide +kernel
theorem dc_U_replacedAfter_7 : decode bc_U_replacedAfter 7 = .ok (.if_icmp .ge 21, 3) := by decide +kernel
theorem dc_U_replacedAfter_10 : decode bc_U_replacedAfter 10 = .ok (.aload_n 0, 1) := by decide +kernel
theorem dc_U_replacedAfter_11 : decode bc_U_replacedAfter 11 = .ok (.getfield 20, 3) := by decide +kernel
theorem dc_U_replacedAfter_14 : decode bc_U_replacedAfter 14 = .ok (.iload_n 3, 1) := by decide +kernel
theorem dc_U_replacedAfter_15 : decode bc_U_replacedAfter 15 = .ok (.iaload, 1) := by decide +kernel
theorem dc_U_replacedAfter_16 : decode bc_U_replacedAfter 16 = .ok (.iload_n 2, 1) := by decide +kernel
theorem dc_U_replacedAfter_17 : decode bc_U_replacedAfter 17 = .ok (.if_icmp .ne 5, 3) := by decide +kernel
theorem dc_U_replacedAfter_20 : decode bc_U_replacedAfter 20 = .ok (.iload_n 3, 1) := by decide +kernel
theorem dc_U_replacedAfter_21 : decode bc_U_replacedAfter 21 = .ok (.ireturn, 1) := by decide +kernel
theorem dc_U_replacedAfter_22 : decode bc_U_replacedAfter 22 = .ok (.iinc 3 1, 3) := by decide +kernel
theorem dc_U_replacedAfter_25 : decode bc_U_replacedAfter 25 = .ok (.goto (-23), 3) := by decide +kernel
theorem dc_U_replacedAfter_28 : decode bc_U_replacedAfter 28 = .ok (.iconst (-1), 1) := by decide +kernel
theorem dc_U_replacedAfter_29 : decode bc_U_replacedAfter 29 = .ok (.ireturn, 1) := by decide +kernel
theorem dc_U_lengthIn_0 : decode bc_U_lengthIn 0 = .ok (.aload_n 0, 1) := by decide +kernel
theorem dc_U_lengthIn_1 : decode bc_U_lengthIn 1 = .ok (.iload_n 1, 1) := by decide +kernel
theorem dc_U_lengthIn_2 : decode bc_U_lengthIn 2 = .ok (.iload_n 2, 1) := by decide +kernel
theorem dc_U_lengthIn_3 : decode bc_U_lengthIn 3 = .ok (.invokevirtual 51, 3) := by decide +kernel
theorem dc_U_lengthIn_6 : decode bc_U_lengthIn 6 = .ok (.istore_n 3, 1) := by decide +kernel
theorem dc_U_lengthIn_7 : decode bc_U_lengthIn 7 = .ok (.iload_n 3, 1) := by decide +kernel
theorem dc_U_lengthIn_8 : decode bc_U_lengthIn 8 = .ok (.iconst (-1), 1) := by decide +kernel
theorem dc_U_lengthIn_9 : decode bc_U_lengthIn 9 = .ok (.if_icmp .ne 15, 3) := by decide +kernel
theorem dc_U_lengthIn_12 : decode bc_U_lengthIn 12 = .ok (.aload_n 0, 1) := by decide +kernel
theorem dc_U_lengthIn_13 : decode bc_U_lengthIn 13 = .ok (.getfield 14, 3) := by decide +kernel
theorem dc_U_lengthIn_16 : decode bc_U_lengthIn 16 = .ok (.getfield 44, 3) := by decide +kernel
theorem dc_U_lengthIn_19 : decode bc_U_lengthIn 19 = .ok (.iload_n 2, 1) := by decide +kernel
theorem dc_U_lengthIn_20 : decode bc_U_lengthIn 20 = .ok (.iaload, 1) := by decide +kernel
theorem dc_U_lengthIn_21 : decode bc_U_lengthIn 21 = .ok (.goto 12, 3) := by decide +kernel
theorem dc_U_lengthIn_24 : decode bc_U_lengthIn 24 = .ok (.aload_n 0, 1) := by decide +kernel
theorem dc_U_lengthIn_25 : decode bc_U_lengthIn 25 = .ok (.getfield 24, 3) := by decide +kernel
theorem dc_U_lengthIn_28 : decode bc_U_lengthIn 28 = .ok (.getfield 44, 3) := by decide +kernel
theorem dc_U_lengthIn_31 : decode bc_U_lengthIn 31 = .ok (.iload_n 3, 1) := by decide +kernel
theorem dc_U_lengthIn_32 : decode bc_U_lengthIn 32 = .ok (.iaload, 1) := by decide +kernel
theorem dc_U_lengthIn_33 : decode bc_U_lengthIn 33 = .ok (.ireturn, 1) := by decide +kernel
theorem dc_U_stepIn_0 : decode bc_U_stepIn 0 = .ok (.iload_n 2, 1) := by decide +kernel
theorem dc_U_stepIn_1 : decode bc_U_stepIn 1 = .ok (.iconst 1, 1) := by decide +kernel
theorem dc_U_stepIn_2 : decode bc_U_stepIn 2 = .ok (.iadd, 1) := by decide +kernel
theorem dc_U_stepIn_3 : decode bc_U_stepIn 3 = .ok (.aload_n 0, 1) := by decide +kernel
theorem dc_U_stepIn_4 : decode bc_U_stepIn 4 = .ok (.getfield 14, 3) := by decide +kernel
theorem dc_U_stepIn_7 : decode bc_U_stepIn 7 = .ok (.getfield 55, 3) := by decide +kernel
theorem dc_U_stepIn_10 : decode bc_U_stepIn 10 = .ok (.if_icmp .lt 5, 3) := by decide +kernel
theorem dc_U_stepIn_13 : decode bc_U_stepIn 13 = .ok (.iconst 0, 1) := by decide +kernel
theorem dc_U_stepIn_14 : decode bc_U_stepIn 14 = .ok (.ireturn, 1) := by decide +kernel
theorem dc_U_stepIn_15 : decode bc_U_stepIn 15 = .ok (.aload_n 0, 1) := by decide +kernel
theorem dc_U_stepIn_16 : decode bc_U_stepIn 16 = .ok (.iload_n 1, 1) := by decide +kernel
theorem dc_U_stepIn_17 : decode bc_U_stepIn 17 = .ok (.iload_n 2, 1) := by decide +kernel
theorem dc_U_stepIn_18 : decode bc_U_stepIn 18 = .ok (.iconst 1, 1) := by decide +kernel
theorem dc_U_stepIn_19 : decode bc_U_stepIn 19 = .ok (.iadd, 1) := by decide +kernel
theorem dc_U_stepIn_20 : decode bc_U_stepIn 20 = .ok (.invokevirtual 58, 3) := by decide +kernel
theorem dc_U_stepIn_23 : decode bc_U_stepIn 23 = .ok (.aload_n 0, 1) := by decide +kernel
theorem dc_U_stepIn_24 : decode bc_U_stepIn 24 = .ok (.iload_n 1, 1) := by decide +kernel
theorem dc_U_stepIn_25 : decode bc_U_stepIn 25 = .ok (.iload_n 2, 1) := by decide +kernel
theorem dc_U_stepIn_26 : decode bc_U_stepIn 26 = .ok (.invokevirtual 58, 3) := by decide +kernel
theorem dc_U_stepIn_29 : decode bc_U_stepIn 29 = .ok (.isub, 1) := by decide +kernel
theorem dc_U_stepIn_30 : decode bc_U_stepIn 30 = .ok (.ireturn, 1) := by decide +kernel
end
section
theorem dc_W_init_0 : decode bc_W_init 0 = .ok (.aload_n 0, 1) := by decide +kernel
theorem dc_W_init_1 : decode bc_W_init 1 = .ok (.invokespecial 3, 3) := by decide +kernel
theorem dc_W_init_4 : decode bc_W_init 4 = .ok (.aload_n 0, 1) := by decide +kernel
theorem dc_W_init_5 : decode bc_W_init 5 = .ok (.bipush 19, 2) := by decide +kernel
theorem dc_W_init_7 : decode bc_W_init 7 = .ok (.newarray .int, 2) := by decide +kernel
theorem dc_W_init_9 : decode bc_W_init 9 = .ok (.putfield 9, 3) := by decide +kernel
theorem dc_W_init_12 : decode bc_W_init 12 = .ok (.return_, 1) := by decide +kernel
theorem dc_W_walk_0 : decode bc_W_walk 0 = .ok (.iconst 0, 1) := by decide +kernel
theorem dc_W_walk_1 : decode bc_W_walk 1 = .ok (.istore 4, 2) := by decide +kernel
theorem dc_W_walk_3 : decode bc_W_walk 3 = .ok (.iconst 0, 1) := by decide +kernel
theorem dc_W_walk_4 : decode bc_W_walk 4 = .ok (.istore 5, 2) := by decide +kernel
theorem dc_W_walk_6 : decode bc_W_walk 6 = .ok (.iload 5, 2) := by decide +kernel
theorem dc_W_walk_8 : decode bc_W_walk 8 = .ok (.aload_n 1, 1) := by decide +kernel
theorem dc_W_walk_9 : decode bc_W_walk 9 = .ok (.invokevirtual 15, 3) := by decide +kernel
theorem dc_W_walk_12 : decode bc_W_walk 12 = .ok (.if_icmp .ge 85, 3) := by decide +kernel
theorem dc_W_walk_15 : decode bc_W_walk 15 = .ok (.aload_n 0, 1) := by decide +kernel
theorem dc_W_walk_16 : decode bc_W_walk 16 = .ok (.aload_n 1, 1) := by decide +kernel
theorem dc_W_walk_17 : decode bc_W_walk 17 = .ok (.iload 5, 2) := by decide +kernel
theorem dc_W_walk_19 : decode bc_W_walk 19 = .ok (.invokevirtual 21, 3) := by decide +kernel
theorem dc_W_walk_22 : decode bc_W_walk 22 = .ok (.iload_n 2, 1) := by decide +kernel
theorem dc_W_walk_23 : decode bc_W_walk 23 = .ok (.istore 6, 2) := by decide +kernel
theorem dc_W_walk_25 : decode bc_W_walk 25 = .ok (.iload 5, 2) := by decide +kernel
theorem dc_W_walk_27 : decode bc_W_walk 27 = .ok (.iload 6, 2) := by decide +kernel
theorem dc_W_walk_29 : decode bc_W_walk 29 = .ok (.iadd, 1) := by decide +kernel
theorem dc_W_walk_30 : decode bc_W_walk 30 = .ok (.aload_n 1, 1) := by decide +kernel
theorem dc_W_walk_31 : decode bc_W_walk 31 = .ok (.invokevirtual 15, 3) := by decide +kernel
theorem dc_W_walk_34 : decode bc_W_walk 34 = .ok (.if_icmp .gt 57, 3) := by decide +kernel
theorem dc_W_walk_37 : decode bc_W_walk 37 = .ok (.aload_n 0, 1) := by decide +kernel
theorem dc_W_walk_38 : decode bc_W_walk 38 = .ok (.aload_n 1, 1) := by decide +kernel
theorem dc_W_walk_39 : decode bc_W_walk 39 = .ok (.iload 5, 2) := by decide +kernel
theorem dc_W_walk_41 : decode bc_W_walk 41 = .ok (.iload 6, 2) := by decide +kernel
theorem dc_W_walk_43 : decode bc_W_walk 43 = .ok (.invokevirtual 25, 3) := by decide +kernel
theorem dc_W_walk_46 : decode bc_W_walk 46 = .ok (.istore 7, 2) := by decide +kernel
theorem dc_W_walk_48 : decode bc_W_walk 48 = .ok (.iload 7, 2) := by decide +kernel
theorem dc_W_walk_50 : decode bc_W_walk 50 = .ok (.ifCond .le 35, 3) := by decide +kernel
theorem dc_W_walk_53 : decode bc_W_walk 53 = .ok (.iinc 4 1, 3) := by decide +kernel
theorem dc_W_walk_56 : decode bc_W_walk 56 = .ok (.iload 4, 2) := by decide +kernel
theorem dc_W_walk_58 : decode bc_W_walk 58 = .ok (.iconst 1, 1) := by decide +kernel
theorem dc_W_walk_59 : decode bc_W_walk 59 = .ok (.isub, 1) := by decide +kernel
theorem dc_W_walk_60 : decode bc_W_walk 60 = .ok (.iload_n 3, 1) := by decide +kernel
theorem dc_W_walk_61 : decode bc_W_walk 61 = .ok (.if_icmp .ne 24, 3) := by decide +kernel
theorem dc_W_walk_64 : decode bc_W_walk 64 = .ok (.aload_n 0, 1) := by decide +kernel
theorem dc_W_walk_65 : decode bc_W_walk 65 = .ok (.iload 5, 2) := by decide +kernel
theorem dc_W_walk_67 : decode bc_W_walk 67 = .ok (.putfield 29, 3) := by decide +kernel
theorem dc_W_walk_70 : decode bc_W_walk 70 = .ok (.aload_n 0, 1) := by decide +kernel
theorem dc_W_walk_71 : decode bc_W_walk 71 = .ok (.iload 6, 2) := by decide +kernel
theorem dc_W_walk_73 : decode bc_W_walk 73 = .ok (.putfield 33, 3) := by decide +kernel
theorem dc_W_walk_76 : decode bc_W_walk 76 = .ok (.aload_n 0, 1) := by decide +kernel
theorem dc_W_walk_77 : decode bc_W_walk 77 = .ok (.iload 7, 2) := by decide +kernel
theorem dc_W_walk_79 : decode bc_W_walk 79 = .ok (.putfield 36, 3) := by decide +kernel
theorem dc_W_walk_82 : decode bc_W_walk 82 = .ok (.iload 4, 2) := by decide +kernel
theorem dc_W_walk_84 : decode bc_W_walk 84 = .ok (.ireturn, 1) := by decide +kernel
theorem dc_W_walk_85 : decode bc_W_walk 85 = .ok (.iinc 6 1, 3) := by decide +kernel
theorem dc_W_walk_88 : decode bc_W_walk 88 = .ok (.goto (-63), 3) := by decide +kernel
theorem dc_W_walk_91 : decode bc_W_walk 91 = .ok (.iinc 5 1, 3) := by decide +kernel
theorem dc_W_walk_94 : decode bc_W_walk 94 = .ok (.goto (-88), 3) := by decide +kernel
theorem dc_W_walk_97 : decode bc_W_walk 97 = .ok (.iload 4, 2) := by decide +kernel
theorem dc_W_walk_99 : decode bc_W_walk 99 = .ok (.ireturn, 1) := by decide +kernel
theorem dc_W_compare_0 : decode bc_W_compare 0 = .ok (.iconst 0, 1) := by decide +kernel
theorem dc_W_compare_1 : decode bc_W_compare 1 = .ok (.istore_n 3, 1) := by decide +kernel
theorem dc_W_compare_2 : decode bc_W_compare 2 = .ok (.iload_n 3, 1) := by decide +kernel
theorem dc_W_compare_3 : decode bc_W_compare 3 = .ok (.aload_n 1, 1) := by decide +kernel
theorem dc_W_compare_4 : decode bc_W_compare 4 = .ok (.invokevirtual 15, 3) := by decide +kernel
theorem dc_W_compare_7 : decode bc_W_compare 7 = .ok (.if_icmp .ge 64, 3) := by decide +kernel
theorem dc_W_compare_10 : decode bc_W_compare 10 = .ok (.aload_n 1, 1) := by decide +kernel
theorem dc_W_compare_11 : decode bc_W_compare 11 = .ok (.invokevirtual 15, 3) := by decide +kernel
theorem dc_W_compare_14 : decode bc_W_compare 14 = .ok (.iload_n 2, 1) := by decide +kernel
theorem dc_W_compare_15 : decode bc_W_compare 15 = .ok (.iload_n 3, 1) := by decide +kernel
theorem dc_W_compare_16 : decode bc_W_compare 16 = .ok (.invokestatic 39, 3) := by decide +kernel
theorem dc_W_compare_19 : decode bc_W_compare 19 = .ok (.isub, 1) := by decide +kernel
theorem dc_W_compare_20 : decode bc_W_compare 20 = .ok (.istore 4, 2) := by decide +kernel
theorem dc_W_compare_22 : decode bc_W_compare 22 = .ok (.iconst 0, 1) := by decide +kernel
theorem dc_W_compare_23 : decode bc_W_compare 23 = .ok (.istore 5, 2) := by decide +kernel
theorem dc_W_compare_25 : decode bc_W_compare 25 = .ok (.iload 5, 2) := by decide +kernel
theorem dc_W_compare_27 : decode bc_W_compare 27 = .ok (.iload 4, 2) := by decide +kernel
theorem dc_W_compare_29 : decode bc_W_compare 29 = .ok (.if_icmp .ge 28, 3) := by decide +kernel
theorem dc_W_compare_32 : decode bc_W_compare 32 = .ok (.aload_n 1, 1) := by decide +kernel
theorem dc_W_compare_33 : decode bc_W_compare 33 = .ok (.iload_n 2, 1) := by decide +kernel
theorem dc_W_compare_34 : decode bc_W_compare 34 = .ok (.iload 5, 2) := by decide +kernel
theorem dc_W_compare_36 : decode bc_W_compare 36 = .ok (.iadd, 1) := by decide +kernel
theorem dc_W_compare_37 : decode bc_W_compare 37 = .ok (.invokevirtual 45, 3) := by decide +kernel
theorem dc_W_compare_40 : decode bc_W_compare 40 = .ok (.aload_n 1, 1) := by decide +kernel
theorem dc_W_compare_41 : decode bc_W_compare 41 = .ok (.iload_n 3, 1) := by decide +kernel
theorem dc_W_compare_42 : decode bc_W_compare 42 = .ok (.iload 5, 2) := by decide +kernel
theorem dc_W_compare_44 : decode bc_W_compare 44 = .ok (.iadd, 1) := by decide +kernel
theorem dc_W_compare_45 : decode bc_W_compare 45 = .ok (.invokevirtual 45, 3) := by decide +kernel
theorem dc_W_compare_48 : decode bc_W_compare 48 = .ok (.if_icmp .ne 9, 3) := by decide +kernel
theorem dc_W_compare_51 : decode bc_W_compare 51 = .ok (.iinc 5 1, 3) := by decide +kernel
theorem dc_W_compare_54 : decode bc_W_compare 54 = .ok (.goto (-29), 3) := by decide +kernel
theorem dc_W_compare_57 : decode bc_W_compare 57 = .ok (.aload_n 0, 1) := by decide +kernel
theorem dc_W_compare_58 : decode bc_W_compare 58 = .ok (.getfield 9, 3) := by decide +kernel
theorem dc_W_compare_61 : decode bc_W_compare 61 = .ok (.iload_n 3, 1) := by decide +kernel
theorem dc_W_compare_62 : decode bc_W_compare 62 = .ok (.iload 5, 2) := by decide +kernel
theorem dc_W_compare_64 : decode bc_W_compare 64 = .ok (.iastore, 1) := by decide +kernel
theorem dc_W_compare_65 : decode bc_W_compare 65 = .ok (.iinc 3 1, 3) := by decide +kernel
theorem dc_W_compare_68 : decode bc_W_compare 68 = .ok (.goto (-66), 3) := by decide +kernel
theorem dc_W_compare_71 : decode bc_W_compare 71 = .ok (.return_, 1) := by decide +kernel
theorem dc_W_placesOfRepeat_0 : decode bc_W_placesOfRepeat 0 = .ok (.iconst 0, 1) := by decide +kernel
theorem dc_W_placesOfRepeat_1 : decode bc_W_placesOfRepeat 1 = .ok (.istore 4, 2) := by decide +kernel
theorem dc_W_placesOfRepeat_3 : decode bc_W_placesOfRepeat 3 = .ok (.iload_n 2, 1) := by decide +kernel
theorem dc_W_placesOfRepeat_4 : decode bc_W_placesOfRepeat 4 = .ok (.ifCond .le 7, 3) := by decide +kernel
theorem dc_W_placesOfRepeat_7 : decode bc_W_placesOfRepeat 7 = .ok (.iconst 1, 1) := by decide +kernel
theorem dc_W_placesOfRepeat_8 : decode bc_W_placesOfRepeat 8 = .ok (.goto 4, 3) := by decide +kernel
theorem dc_W_placesOfRepeat_11 : decode bc_W_placesOfRepeat 11 = .ok (.iconst 0, 1) := by decide +kernel
theorem dc_W_placesOfRepeat_12 : decode bc_W_placesOfRepeat 12 = .ok (.istore 5, 2) := by decide +kernel
theorem dc_W_placesOfRepeat_14 : decode bc_W_placesOfRepeat 14 = .ok (.iconst 1, 1) := by decide +kernel
theorem dc_W_placesOfRepeat_15 : decode bc_W_placesOfRepeat 15 = .ok (.istore 6, 2) := by decide +kernel
theorem dc_W_placesOfRepeat_17 : decode bc_W_placesOfRepeat 17 = .ok (.iconst 0, 1) := by decide +kernel
theorem dc_W_placesOfRepeat_18 : decode bc_W_placesOfRepeat 18 = .ok (.istore 7, 2) := by decide +kernel
theorem dc_W_placesOfRepeat_20 : decode bc_W_placesOfRepeat 20 = .ok (.iload 7, 2) := by decide +kernel
theorem dc_W_placesOfRepeat_22 : decode bc_W_placesOfRepeat 22 = .ok (.aload_n 1, 1) := by decide +kernel
theorem dc_W_placesOfRepeat_23 : decode bc_W_placesOfRepeat 23 = .ok (.invokevirtual 15, 3) := by decide +kernel
theorem dc_W_placesOfRepeat_26 : decode bc_W_placesOfRepeat 26 = .ok (.if_icmp .ge 84, 3) := by decide +kernel
theorem dc_W_placesOfRepeat_29 : decode bc_W_placesOfRepeat 29 = .ok (.aload_n 0, 1) := by decide +kernel
theorem dc_W_placesOfRepeat_30 : decode bc_W_placesOfRepeat 30 = .ok (.getfield 9, 3) := by decide +kernel
theorem dc_W_placesOfRepeat_33 : decode bc_W_placesOfRepeat 33 = .ok (.iload 7, 2) := by decide +kernel
theorem dc_W_placesOfRepeat_35 : decode bc_W_placesOfRepeat 35 = .ok (.iaload, 1) := by decide +kernel
theorem dc_W_placesOfRepeat_36 : decode bc_W_placesOfRepeat 36 = .ok (.iload_n 3, 1) := by decide +kernel
theorem dc_W_placesOfRepeat_37 : decode bc_W_placesOfRepeat 37 = .ok (.if_icmp .lt 67, 3) := by decide +kernel
theorem dc_W_placesOfRepeat_40 : decode bc_W_placesOfRepeat 40 = .ok (.iload 7, 2) := by decide +kernel
theorem dc_W_placesOfRepeat_42 : decode bc_W_placesOfRepeat 42 = .ok (.iload_n 2, 1) := by decide +kernel
theorem dc_W_placesOfRepeat_43 : decode bc_W_placesOfRepeat 43 = .ok (.if_icmp .ge 5, 3) := by decide +kernel
theorem dc_W_placesOfRepeat_46 : decode bc_W_placesOfRepeat 46 = .ok (.iconst 0, 1) := by decide +kernel
theorem dc_W_placesOfRepeat_47 : decode bc_W_placesOfRepeat 47 = .ok (.ireturn, 1) := by decide +kernel
theorem dc_W_placesOfRepeat_48 : decode bc_W_placesOfRepeat 48 = .ok (.iinc 4 1, 3) := by decide +kernel
theorem dc_W_placesOfRepeat_51 : decode bc_W_placesOfRepeat 51 = .ok (.iload 5, 2) := by decide +kernel
theorem dc_W_placesOfRepeat_53 : decode bc_W_placesOfRepeat 53 = .ok (.ifCond .eq 25, 3) := by decide +kernel
theorem dc_W_placesOfRepeat_56 : decode bc_W_placesOfRepeat 56 = .ok (.aload_n 1, 1) := by decide +kernel
theorem dc_W_placesOfRepeat_57 : decode bc_W_placesOfRepeat 57 = .ok (.iload 7, 2) := by decide +kernel
theorem dc_W_placesOfRepeat_59 : decode bc_W_placesOfRepeat 59 = .ok (.iconst 1, 1) := by decide +kernel
theorem dc_W_placesOfRepeat_60 : decode bc_W_placesOfRepeat 60 = .ok (.isub, 1) := by decide +kernel
theorem dc_W_placesOfRepeat_61 : decode bc_W_placesOfRepeat 61 = .ok (.invokevirtual 45, 3) := by decide +kernel
theorem dc_W_placesOfRepeat_64 : decode bc_W_placesOfRepeat 64 = .ok (.aload_n 1, 1) := by decide +kernel
theorem dc_W_placesOfRepeat_65 : decode bc_W_placesOfRepeat 65 = .ok (.iload_n 2, 1) := by decide +kernel
theorem dc_W_placesOfRepeat_66 : decode bc_W_placesOfRepeat 66 = .ok (.iconst 1, 1) := by decide +kernel
theorem dc_W_placesOfRepeat_67 : decode bc_W_placesOfRepeat 67 = .ok (.isub, 1) := by decide +kernel
theorem dc_W_placesOfRepeat_68 : decode bc_W_placesOfRepeat 68 = .ok (.invokevirtual 45, 3) := by decide +kernel
theorem dc_W_placesOfRepeat_71 : decode bc_W_placesOfRepeat 71 = .ok (.if_icmp .ne 7, 3) := by decide +kernel
theorem dc_W_placesOfRepeat_74 : decode bc_W_placesOfRepeat 74 = .ok (.iconst 1, 1) := by decide +kernel
theorem dc_W_placesOfRepeat_75 : decode bc_W_placesOfRepeat 75 = .ok (.goto 4, 3) := by decide +kernel
theorem dc_W_placesOfRepeat_78 : decode bc_W_placesOfRepeat 78 = .ok (.iconst 0, 1) := by decide +kernel
theorem dc_W_placesOfRepeat_79 : decode bc_W_placesOfRepeat 79 = .ok (.istore 5, 2) := by decide +kernel
theorem dc_W_placesOfRepeat_81 : decode bc_W_placesOfRepeat 81 = .ok (.iload 6, 2) := by decide +kernel
theorem dc_W_placesOfRepeat_83 : decode bc_W_placesOfRepeat 83 = .ok (.ifCond .eq 18, 3) := by decide +kernel
theorem dc_W_placesOfRepeat_86 : decode bc_W_placesOfRepeat 86 = .ok (.aload_n 0, 1) := by decide +kernel
theorem dc_W_placesOfRepeat_87 : decode bc_W_placesOfRepeat 87 = .ok (.getfield 9, 3) := by decide +kernel
theorem dc_W_placesOfRepeat_90 : decode bc_W_placesOfRepeat 90 = .ok (.iload 7, 2) := by decide +kernel
theorem dc_W_placesOfRepeat_92 : decode bc_W_placesOfRepeat 92 = .ok (.iaload, 1) := by decide +kernel
theorem dc_W_placesOfRepeat_93 : decode bc_W_placesOfRepeat 93 = .ok (.iload_n 3, 1) := by decide +kernel
theorem dc_W_placesOfRepeat_94 : decode bc_W_placesOfRepeat 94 = .ok (.if_icmp .le 7, 3) := by decide +kernel
theorem dc_W_placesOfRepeat_97 : decode bc_W_placesOfRepeat 97 = .ok (.iconst 1, 1) := by decide +kernel
theorem dc_W_placesOfRepeat_98 : decode bc_W_placesOfRepeat 98 = .ok (.goto 4, 3) := by decide +kernel
theorem dc_W_placesOfRepeat_101 : decode bc_W_placesOfRepeat 101 = .ok (.iconst 0, 1) := by decide +kernel
theorem dc_W_placesOfRepeat_102 : decode bc_W_placesOfRepeat 102 = .ok (.istore 6, 2) := by decide +kernel
theorem dc_W_placesOfRepeat_104 : decode bc_W_placesOfRepeat 104 = .ok (.iinc 7 1, 3) := by decide +kernel
theorem dc_W_placesOfRepeat_107 : decode bc_W_placesOfRepeat 107 = .ok (.goto (-87), 3) := by decide +kernel
theorem dc_W_placesOfRepeat_110 : decode bc_W_placesOfRepeat 110 = .ok (.iload 4, 2) := by decide +kernel
theorem dc_W_placesOfRepeat_112 : decode bc_W_placesOfRepeat 112 = .ok (.iconst 2, 1) := by decide +kernel
theorem dc_W_placesOfRepeat_113 : decode bc_W_placesOfRepeat 113 = .ok (.if_icmp .lt 18, 3) := by decide +kernel
theorem dc_W_placesOfRepeat_116 : decode bc_W_placesOfRepeat 116 = .ok (.iload 5, 2) := by decide +kernel
theorem dc_W_placesOfRepeat_118 : decode bc_W_placesOfRepeat 118 = .ok (.ifCond .ne 13, 3) := by decide +kernel
theorem dc_W_placesOfRepeat_121 : decode bc_W_placesOfRepeat 121 = .ok (.iload 6, 2) := by decide +kernel
theorem dc_W_placesOfRepeat_123 : decode bc_W_placesOfRepeat 123 = .ok (.ifCond .ne 8, 3) := by decide +kernel
theorem dc_W_placesOfRepeat_126 : decode bc_W_placesOfRepeat 126 = .ok (.iload 4, 2) := by decide +kernel
theorem dc_W_placesOfRepeat_128 : decode bc_W_placesOfRepeat 128 = .ok (.goto 4, 3) := by decide +kernel
theorem dc_W_placesOfRepeat_131 : decode bc_W_placesOfRepeat 131 = .ok (.iconst 0, 1) := by decide +kernel
theorem dc_W_placesOfRepeat_132 : decode bc_W_placesOfRepeat 132 = .ok (.ireturn, 1) := by decide +kernel
end
section
section ZW
/-- the world's parameters: class numbers and slots, the array classes, which cells may change -/
abbrev zv_T : Type := (Nat → ClassId) × (Nat → Nat → Nat) × ClassId × ClassId × ClassId × ClassId × ClassId × (Nat → Prop)
def zv_D (z : zv_T) : va_G := (z.1, z.2.1)
def zv_I (z : zv_T) : ClassId := z.2.2.1
def zv_Z (z : zv_T) : ClassId := z.2.2.2.1
def zv_L (z : zv_T) : ClassId := z.2.2.2.2.1
def zv_U (z : zv_T) : ClassId := z.2.2.2.2.2.1
def zv_P (z : zv_T) : ClassId := z.2.2.2.2.2.2.1
def zv_A (z : zv_T) : Nat → Prop := z.2.2.2.2.2.2.2
def zv_t (z : zv_T) : List (ClassId × FieldType) := [(zv_I z, .int), (zv_Z z, .boolean), (zv_L z, .long), (zv_U z, .object cn_U), (zv_P z, .object cn_P)]
/-- arrays of ints, of booleans, of longs, of tunes, of passages -/
def ze_i (z : zv_T) (n : Nat) (f : Nat → Int32) : va_E := .inl (zv_I z, n, .inl f)
def ze_z (z : zv_T) (n : Nat) (f : Nat → Int32) : va_E := .inl (zv_Z z, n, .inl f)
def ze_l (z : zv_T) (n : Nat) (f : Nat → Int64) : va_E := .inl (zv_L z, n, .inr (.inl f))
def ze_u (z : zv_T) (n : Nat) (f : Nat → Option Nat) : va_E := .inl (zv_U z, n, .inr (.inr (.inr (.inr f))))
def ze_p (z : zv_T) (n : Nat) (f : Nat → Option Nat) : va_E := .inl (zv_P z, n, .inr (.inr (.inr (.inr f))))
def ze_o (c : Nat) (fs : List Value) : va_E := .inr (c, fs)
/-- the cells 0 .. N - 1, their addresses and what they hold -/
def zw_W (ad : Nat → Nat) (N : Nat) (g : Nat → va_E) : va_W := (List.range N).map (fun i => (ad i, g i))
theorem zw_at {ad : Nat → Nat} {N : Nat} {g : Nat → va_E} {i : Nat} (h : i < N) : (zw_W ad N g)[i]? = some (ad i, g i) := by
  simp [zw_W, h]
theorem zw_ate {ad : Nat → Nat} {N : Nat} {g : Nat → va_E} {i : Nat} {e : va_E} (h : i < N) (he : g i = e) : (zw_W ad N g)[i]? = some (ad i, e) := by
  rw [zw_at h, he]
theorem zw_len {ad : Nat → Nat} {N : Nat} {g : Nat → va_E} : (zw_W ad N g).length = N := by simp [zw_W]
theorem zw_set {ad : Nat → Nat} {N : Nat} {g : Nat → va_E} {i : Nat} (h : i < N) (e : va_E) : (zw_W ad N g).set i (ad i, e) = zw_W ad N (va_up g i e) := by
  apply List.ext_getElem?
  intro k
  by_cases hk : k < N
  · rw [zw_at hk]
    by_cases hki : k = i
    · subst hki
      rw [List.getElem?_set_self (by rw [zw_len]; exact hk), va_up_self]
    · rw [List.getElem?_set_ne (Ne.symm hki), zw_at hk, va_up_ne _ _ hki]
  · rw [List.getElem?_eq_none (by rw [List.length_set, zw_len]; omega), List.getElem?_eq_none (by rw [zw_len]; omega)]
theorem zw_push (ad : Nat → Nat) (N : Nat) (g : Nat → va_E) (a : Nat) (e : va_E) : zw_W ad N g ++ [(a, e)] = zw_W (va_up ad N a) (N + 1) (va_up g N e) := by
  unfold zw_W
  rw [List.range_succ, List.map_append]
  congr 1
  · apply List.map_congr_left
    intro k hk
    have hk := List.mem_range.mp hk
    rw [va_up_ne _ _ (by omega), va_up_ne _ _ (by omega)]
  · simp [va_up_self]
end ZW
section ZJ
/-- the constructors that an exception's constructor calls, one after another, are declared -/
def zb_ds : List MethodName := [⟨"java/lang/RuntimeException", "<init>", "()V"⟩, ⟨"java/lang/Exception", "<init>", "()V"⟩, ⟨"java/lang/Throwable", "<init>", "()V"⟩]
theorem zb_decl {u U : State} (hvm : u.vm.Alike U.vm) {x : MethodName} (h : va_Nw (.declares x) u) : va_Nw (.declares x) U := by
  have h1 : (Cond.declares x).before #[] (u.setVm U.vm) = true := by rw [Cond.declares_setVm hvm]; exact h
  exact va_tabs (A := #[]) (u := u.setVm U.vm) rfl rfl h1
/-- what the tables say beside the words: arrays of tunes and of passages can be made; which exceptions are not which -/
def zb_N (U : State) : Prop := va_AO cn_U U ∧ va_AO cn_P U ∧ va_Nc "java/lang/IllegalStateException" "java/lang/IndexOutOfBoundsException" U ∧ va_Nc "java/lang/IllegalArgumentException" "java/lang/IndexOutOfBoundsException" U ∧ va_Nc "java/lang/IllegalStateException" "java/lang/IllegalArgumentException" U ∧ ∀ x ∈ zb_ds, va_Nw (.declares x) U
theorem zb_N.moved {u U : State} (hvm : u.vm.Alike U.vm) (h : zb_N u) : zb_N U := ⟨va_AO.moved hvm h.1, va_AO.moved hvm h.2.1, va_Nc.moved hvm h.2.2.1, va_Nc.moved hvm h.2.2.2.1, va_Nc.moved hvm h.2.2.2.2.1, fun x hx => zb_decl hvm (h.2.2.2.2.2 x hx)⟩
/-- all that stays while a method's body runs -/
abbrev zj_T : Type := Program × Launch × Env × Room × State × MethodId × Array Value × List Frame × Method × Code × Nat × zv_T
def zj_J (X : zj_T) (cells slots : Nat) (Q : State → Prop) (ad : Nat → Nat) (N : Nat) (g : Nat → va_E) (pc : Nat) (L : List (Nat × Value)) (st : List Value) : Prop :=
  match X with
  | (p, l, e, R, s, m, args, below, meth, c, nL, z) => ∀ (H : Heap) (locs : List Loc) (ls : Array Slot), lv_has ls nL L → va_P (zv_D z) zc_l (zw_W ad N g) H → va_D (zv_A z) (zw_W ad N g) → va_S (zv_A z) s.heap H locs → W p l e R s m args below meth c H locs cells slots Q (F0 m pc ls st)
def zj_C (X : zj_T) (z : zv_T) (cc : ByteArray) (nL : Nat) (own : String) (rm : Room) (ret : Option FieldType) : Prop :=
  match X with
  | (p, l, _, R, s, m, args, _, meth, c, nL', z') => CallFix p m c cc nL' s args zt_tbl own ∧ va_K (zv_D z') zc_l (zv_t z') s ∧ (∀ q, s.heap.size ≤ q → zv_A z' q) ∧ meth.locks = false ∧ R = rm ∧ meth.sig.returnType = ret ∧ nL' = nL ∧ z' = z ∧ vx_Zq Bundle.tN "UNASSIGNED_STACK" Bundle.steD (zv_A z') s s.heap ∧ vx_Zq Bundle.tN "SUPPRESSED_SENTINEL" Bundle.listD (zv_A z') s s.heap ∧ l.stackTraces = false ∧ zb_N s
theorem zj_iconst {X : zj_T} {z : zv_T} {cc : ByteArray} {nL : Nat} {own : String} {rm : Room} {ret : Option FieldType} (C : zj_C X z cc nL own rm ret) {cells slots : Nat} {Q : State → Prop} {ad : Nat → Nat} {N : Nat} {g : Nat → va_E} {pc : Nat} {L : List (Nat × Value)} {st : List Value} {n : Int} {v : Int32} (d : decode cc pc = .ok (.iconst n, 1)) (hv : Int32.ofInt n = v)
    (kk : zj_J X cells slots Q ad N g (pc + 1) L (.int v :: st)) : zj_J X cells slots Q ad N g pc L st := by
  obtain ⟨p, l, e, R, s, m, args, below, meth, c, nL', z'⟩ := X
  obtain ⟨⟨hx, hb, hml, hown, hts⟩, hK, hA, hlk, rfl, hr, rfl, rfl, hU, hN, htr, hNb⟩ := C
  intro H locs ls hl hP hD hS
  exact lv_iconst hx hb d hv (kk H locs ls hl hP hD hS)
theorem zj_bipush {X : zj_T} {z : zv_T} {cc : ByteArray} {nL : Nat} {own : String} {rm : Room} {ret : Option FieldType} (C : zj_C X z cc nL own rm ret) {cells slots : Nat} {Q : State → Prop} {ad : Nat → Nat} {N : Nat} {g : Nat → va_E} {pc : Nat} {L : List (Nat × Value)} {st : List Value} {n : Int} {v : Int32} (d : decode cc pc = .ok (.bipush n, 2)) (hv : (Int8.ofInt n).toInt32 = v)
    (kk : zj_J X cells slots Q ad N g (pc + 2) L (.int v :: st)) : zj_J X cells slots Q ad N g pc L st := by
  obtain ⟨p, l, e, R, s, m, args, below, meth, c, nL', z'⟩ := X
  obtain ⟨⟨hx, hb, hml, hown, hts⟩, hK, hA, hlk, rfl, hr, rfl, rfl, hU, hN, htr, hNb⟩ := C
  intro H locs ls hl hP hD hS
  exact lv_bipush hx hb d hv (kk H locs ls hl hP hD hS)
theorem zj_sipush {X : zj_T} {z : zv_T} {cc : ByteArray} {nL : Nat} {own : String} {rm : Room} {ret : Option FieldType} (C : zj_C X z cc nL own rm ret) {cells slots : Nat} {Q : State → Prop} {ad : Nat → Nat} {N : Nat} {g : Nat → va_E} {pc : Nat} {L : List (Nat × Value)} {st : List Value} {n : Int} {v : Int32} (d : decode cc pc = .ok (.sipush n, 3)) (hv : (Int16.ofInt n).toInt32 = v)
    (kk : zj_J X cells slots Q ad N g (pc + 3) L (.int v :: st)) : zj_J X cells slots Q ad N g pc L st := by
  obtain ⟨p, l, e, R, s, m, args, below, meth, c, nL', z'⟩ := X
  obtain ⟨⟨hx, hb, hml, hown, hts⟩, hK, hA, hlk, rfl, hr, rfl, rfl, hU, hN, htr, hNb⟩ := C
  intro H locs ls hl hP hD hS
  exact lv_sipush hx hb d hv (kk H locs ls hl hP hD hS)
theorem zj_iload_n {X : zj_T} {z : zv_T} {cc : ByteArray} {nL : Nat} {own : String} {rm : Room} {ret : Option FieldType} (C : zj_C X z cc nL own rm ret) {cells slots : Nat} {Q : State → Prop} {ad : Nat → Nat} {N : Nat} {g : Nat → va_E} {pc : Nat} {L : List (Nat × Value)} {st : List Value} {k : Fin 4} {i : Nat} {x : Int32} (d : decode cc pc = .ok (.iload_n k, 1)) (hi : (k : Nat) = i) (j : Nat) (hj : L[j]? = some (i, .int x))
    (kk : zj_J X cells slots Q ad N g (pc + 1) L (.int x :: st)) : zj_J X cells slots Q ad N g pc L st := by
  obtain ⟨p, l, e, R, s, m, args, below, meth, c, nL', z'⟩ := X
  obtain ⟨⟨hx, hb, hml, hown, hts⟩, hK, hA, hlk, rfl, hr, rfl, rfl, hU, hN, htr, hNb⟩ := C
  intro H locs ls hl hP hD hS
  exact lv_iload_n hx hb d hi (lv_at hl j hj) (kk H locs ls hl hP hD hS)
theorem zj_iload {X : zj_T} {z : zv_T} {cc : ByteArray} {nL : Nat} {own : String} {rm : Room} {ret : Option FieldType} (C : zj_C X z cc nL own rm ret) {cells slots : Nat} {Q : State → Prop} {ad : Nat → Nat} {N : Nat} {g : Nat → va_E} {pc : Nat} {L : List (Nat × Value)} {st : List Value} {i : Nat} {x : Int32} (d : decode cc pc = .ok (.iload i, 2)) (j : Nat) (hj : L[j]? = some (i, .int x))
    (kk : zj_J X cells slots Q ad N g (pc + 2) L (.int x :: st)) : zj_J X cells slots Q ad N g pc L st := by
  obtain ⟨p, l, e, R, s, m, args, below, meth, c, nL', z'⟩ := X
  obtain ⟨⟨hx, hb, hml, hown, hts⟩, hK, hA, hlk, rfl, hr, rfl, rfl, hU, hN, htr, hNb⟩ := C
  intro H locs ls hl hP hD hS
  exact lv_iload hx hb d (lv_at hl j hj) (kk H locs ls hl hP hD hS)
theorem zj_aload_n {X : zj_T} {z : zv_T} {cc : ByteArray} {nL : Nat} {own : String} {rm : Room} {ret : Option FieldType} (C : zj_C X z cc nL own rm ret) {cells slots : Nat} {Q : State → Prop} {ad : Nat → Nat} {N : Nat} {g : Nat → va_E} {pc : Nat} {L : List (Nat × Value)} {st : List Value} {k : Fin 4} {i : Nat} {x : Nat} (d : decode cc pc = .ok (.aload_n k, 1)) (hi : (k : Nat) = i) (j : Nat) (hj : L[j]? = some (i, .ref x))
    (kk : zj_J X cells slots Q ad N g (pc + 1) L (.ref x :: st)) : zj_J X cells slots Q ad N g pc L st := by
  obtain ⟨p, l, e, R, s, m, args, below, meth, c, nL', z'⟩ := X
  obtain ⟨⟨hx, hb, hml, hown, hts⟩, hK, hA, hlk, rfl, hr, rfl, rfl, hU, hN, htr, hNb⟩ := C
  intro H locs ls hl hP hD hS
  exact lv_aload_n hx hb d hi (lv_at hl j hj) (kk H locs ls hl hP hD hS)
theorem zj_aload {X : zj_T} {z : zv_T} {cc : ByteArray} {nL : Nat} {own : String} {rm : Room} {ret : Option FieldType} (C : zj_C X z cc nL own rm ret) {cells slots : Nat} {Q : State → Prop} {ad : Nat → Nat} {N : Nat} {g : Nat → va_E} {pc : Nat} {L : List (Nat × Value)} {st : List Value} {i : Nat} {x : Nat} (d : decode cc pc = .ok (.aload i, 2)) (j : Nat) (hj : L[j]? = some (i, .ref x))
    (kk : zj_J X cells slots Q ad N g (pc + 2) L (.ref x :: st)) : zj_J X cells slots Q ad N g pc L st := by
  obtain ⟨p, l, e, R, s, m, args, below, meth, c, nL', z'⟩ := X
  obtain ⟨⟨hx, hb, hml, hown, hts⟩, hK, hA, hlk, rfl, hr, rfl, rfl, hU, hN, htr, hNb⟩ := C
  intro H locs ls hl hP hD hS
  exact lv_aload hx hb d (lv_at hl j hj) (kk H locs ls hl hP hD hS)
theorem zj_lload_n {X : zj_T} {z : zv_T} {cc : ByteArray} {nL : Nat} {own : String} {rm : Room} {ret : Option FieldType} (C : zj_C X z cc nL own rm ret) {cells slots : Nat} {Q : State → Prop} {ad : Nat → Nat} {N : Nat} {g : Nat → va_E} {pc : Nat} {L : List (Nat × Value)} {st : List Value} {k : Fin 4} {i : Nat} {x : Int64} (d : decode cc pc = .ok (.lload_n k, 1)) (hi : (k : Nat) = i) (j : Nat) (hj : L[j]? = some (i, .long x))
    (kk : zj_J X cells slots Q ad N g (pc + 1) L (.long x :: st)) : zj_J X cells slots Q ad N g pc L st := by
  obtain ⟨p, l, e, R, s, m, args, below, meth, c, nL', z'⟩ := X
  obtain ⟨⟨hx, hb, hml, hown, hts⟩, hK, hA, hlk, rfl, hr, rfl, rfl, hU, hN, htr, hNb⟩ := C
  intro H locs ls hl hP hD hS
  exact lv_lload_n hx hb d hi (lv_at hl j hj) (kk H locs ls hl hP hD hS)
theorem zj_lload {X : zj_T} {z : zv_T} {cc : ByteArray} {nL : Nat} {own : String} {rm : Room} {ret : Option FieldType} (C : zj_C X z cc nL own rm ret) {cells slots : Nat} {Q : State → Prop} {ad : Nat → Nat} {N : Nat} {g : Nat → va_E} {pc : Nat} {L : List (Nat × Value)} {st : List Value} {i : Nat} {x : Int64} (d : decode cc pc = .ok (.lload i, 2)) (j : Nat) (hj : L[j]? = some (i, .long x))
    (kk : zj_J X cells slots Q ad N g (pc + 2) L (.long x :: st)) : zj_J X cells slots Q ad N g pc L st := by
  obtain ⟨p, l, e, R, s, m, args, below, meth, c, nL', z'⟩ := X
  obtain ⟨⟨hx, hb, hml, hown, hts⟩, hK, hA, hlk, rfl, hr, rfl, rfl, hU, hN, htr, hNb⟩ := C
  intro H locs ls hl hP hD hS
  exact lv_lload hx hb d (lv_at hl j hj) (kk H locs ls hl hP hD hS)
theorem zj_istore_n {X : zj_T} {z : zv_T} {cc : ByteArray} {nL : Nat} {own : String} {rm : Room} {ret : Option FieldType} (C : zj_C X z cc nL own rm ret) {cells slots : Nat} {Q : State → Prop} {ad : Nat → Nat} {N : Nat} {g : Nat → va_E} {pc : Nat} {L : List (Nat × Value)} {st : List Value} {k : Fin 4} {i : Nat} {x : Int32} {L' : List (Nat × Value)} (d : decode cc pc = .ok (.istore_n k, 1)) (hi : (k : Nat) = i) (hn : i < nL) (hL : (i, Value.int x) :: L.filter (fun q => !(q.1 == i) && !(q.1 + 1 == i && q.2.category == 2)) = L')
    (kk : zj_J X cells slots Q ad N g (pc + 1) L' st) : zj_J X cells slots Q ad N g pc L (.int x :: st) := by
  obtain ⟨p, l, e, R, s, m, args, below, meth, c, nL', z'⟩ := X
  obtain ⟨⟨hx, hb, hml, hown, hts⟩, hK, hA, hlk, rfl, hr, rfl, rfl, hU, hN, htr, hNb⟩ := C
  intro H locs ls hl hP hD hS
  exact lv_istore_n hx hb d hi hl hn hL (fun ls' hl' => kk H locs ls' hl' hP hD hS)
theorem zj_istore {X : zj_T} {z : zv_T} {cc : ByteArray} {nL : Nat} {own : String} {rm : Room} {ret : Option FieldType} (C : zj_C X z cc nL own rm ret) {cells slots : Nat} {Q : State → Prop} {ad : Nat → Nat} {N : Nat} {g : Nat → va_E} {pc : Nat} {L : List (Nat × Value)} {st : List Value} {i : Nat} {x : Int32} {L' : List (Nat × Value)} (d : decode cc pc = .ok (.istore i, 2)) (hn : i < nL) (hL : (i, Value.int x) :: L.filter (fun q => !(q.1 == i) && !(q.1 + 1 == i && q.2.category == 2)) = L')
    (kk : zj_J X cells slots Q ad N g (pc + 2) L' st) : zj_J X cells slots Q ad N g pc L (.int x :: st) := by
  obtain ⟨p, l, e, R, s, m, args, below, meth, c, nL', z'⟩ := X
  obtain ⟨⟨hx, hb, hml, hown, hts⟩, hK, hA, hlk, rfl, hr, rfl, rfl, hU, hN, htr, hNb⟩ := C
  intro H locs ls hl hP hD hS
  exact lv_istore hx hb d hl hn hL (fun ls' hl' => kk H locs ls' hl' hP hD hS)
theorem zj_astore_n {X : zj_T} {z : zv_T} {cc : ByteArray} {nL : Nat} {own : String} {rm : Room} {ret : Option FieldType} (C : zj_C X z cc nL own rm ret) {cells slots : Nat} {Q : State → Prop} {ad : Nat → Nat} {N : Nat} {g : Nat → va_E} {pc : Nat} {L : List (Nat × Value)} {st : List Value} {k : Fin 4} {i : Nat} {x : Nat} {L' : List (Nat × Value)} (d : decode cc pc = .ok (.astore_n k, 1)) (hi : (k : Nat) = i) (hn : i < nL) (hL : (i, Value.ref x) :: L.filter (fun q => !(q.1 == i) && !(q.1 + 1 == i && q.2.category == 2)) = L')
    (kk : zj_J X cells slots Q ad N g (pc + 1) L' st) : zj_J X cells slots Q ad N g pc L (.ref x :: st) := by
  obtain ⟨p, l, e, R, s, m, args, below, meth, c, nL', z'⟩ := X
  obtain ⟨⟨hx, hb, hml, hown, hts⟩, hK, hA, hlk, rfl, hr, rfl, rfl, hU, hN, htr, hNb⟩ := C
  intro H locs ls hl hP hD hS
  exact lv_astore_n hx hb d hi hl hn hL (fun ls' hl' => kk H locs ls' hl' hP hD hS)
theorem zj_astore {X : zj_T} {z : zv_T} {cc : ByteArray} {nL : Nat} {own : String} {rm : Room} {ret : Option FieldType} (C : zj_C X z cc nL own rm ret) {cells slots : Nat} {Q : State → Prop} {ad : Nat → Nat} {N : Nat} {g : Nat → va_E} {pc : Nat} {L : List (Nat × Value)} {st : List Value} {i : Nat} {x : Nat} {L' : List (Nat × Value)} (d : decode cc pc = .ok (.astore i, 2)) (hn : i < nL) (hL : (i, Value.ref x) :: L.filter (fun q => !(q.1 == i) && !(q.1 + 1 == i && q.2.category == 2)) = L')
    (kk : zj_J X cells slots Q ad N g (pc + 2) L' st) : zj_J X cells slots Q ad N g pc L (.ref x :: st) := by
  obtain ⟨p, l, e, R, s, m, args, below, meth, c, nL', z'⟩ := X
  obtain ⟨⟨hx, hb, hml, hown, hts⟩, hK, hA, hlk, rfl, hr, rfl, rfl, hU, hN, htr, hNb⟩ := C
  intro H locs ls hl hP hD hS
  exact lv_astore hx hb d hl hn hL (fun ls' hl' => kk H locs ls' hl' hP hD hS)
theorem zj_iinc {X : zj_T} {z : zv_T} {cc : ByteArray} {nL : Nat} {own : String} {rm : Room} {ret : Option FieldType} (C : zj_C X z cc nL own rm ret) {cells slots : Nat} {Q : State → Prop} {ad : Nat → Nat} {N : Nat} {g : Nat → va_E} {pc : Nat} {L : List (Nat × Value)} {st : List Value} {i : Nat} {n : Int} {x v : Int32} {L' : List (Nat × Value)} (d : decode cc pc = .ok (.iinc i n, 3)) (j : Nat) (hj : L[j]? = some (i, .int x)) (hv : x + Int32.ofInt n = v) (hn : i < nL) (hL : (i, Value.int v) :: L.filter (fun q => !(q.1 == i) && !(q.1 + 1 == i && q.2.category == 2)) = L')
    (kk : zj_J X cells slots Q ad N g (pc + 3) L' st) : zj_J X cells slots Q ad N g pc L st := by
  obtain ⟨p, l, e, R, s, m, args, below, meth, c, nL', z'⟩ := X
  obtain ⟨⟨hx, hb, hml, hown, hts⟩, hK, hA, hlk, rfl, hr, rfl, rfl, hU, hN, htr, hNb⟩ := C
  intro H locs ls hl hP hD hS
  exact lv_iinc hx hb d hl hj hv hn hL (fun ls' hl' => kk H locs ls' hl' hP hD hS)
theorem zj_loc {X : zj_T} {cells slots : Nat} {Q : State → Prop} {ad : Nat → Nat} {N : Nat} {g : Nat → va_E} {pc : Nat} {L L' : List (Nat × Value)} {st : List Value} (ks : List Nat) (hL : lv_pick L ks = L') (kk : zj_J X cells slots Q ad N g pc L' st) : zj_J X cells slots Q ad N g pc L st := by
  obtain ⟨p, l, e, R, s, m, args, below, meth, c, nL', z'⟩ := X
  exact fun H locs ls hl hP hD hS => kk H locs ls (lv_sub hl ks hL) hP hD hS
theorem zj_iadd {X : zj_T} {z : zv_T} {cc : ByteArray} {nL : Nat} {own : String} {rm : Room} {ret : Option FieldType} (C : zj_C X z cc nL own rm ret) {cells slots : Nat} {Q : State → Prop} {ad : Nat → Nat} {N : Nat} {g : Nat → va_E} {pc : Nat} {L : List (Nat × Value)} {st : List Value} {x y : Int32} (d : decode cc pc = .ok (.iadd, 1))
    (kk : zj_J X cells slots Q ad N g (pc + 1) L (.int (x + y) :: st)) : zj_J X cells slots Q ad N g pc L (.int y :: .int x :: st) := by
  obtain ⟨p, l, e, R, s, m, args, below, meth, c, nL', z'⟩ := X
  obtain ⟨⟨hx, hb, hml, hown, hts⟩, hK, hA, hlk, rfl, hr, rfl, rfl, hU, hN, htr, hNb⟩ := C
  intro H locs ls hl hP hD hS
  exact lv_iadd hx hb d (kk H locs ls hl hP hD hS)
theorem zj_isub {X : zj_T} {z : zv_T} {cc : ByteArray} {nL : Nat} {own : String} {rm : Room} {ret : Option FieldType} (C : zj_C X z cc nL own rm ret) {cells slots : Nat} {Q : State → Prop} {ad : Nat → Nat} {N : Nat} {g : Nat → va_E} {pc : Nat} {L : List (Nat × Value)} {st : List Value} {x y : Int32} (d : decode cc pc = .ok (.isub, 1))
    (kk : zj_J X cells slots Q ad N g (pc + 1) L (.int (x - y) :: st)) : zj_J X cells slots Q ad N g pc L (.int y :: .int x :: st) := by
  obtain ⟨p, l, e, R, s, m, args, below, meth, c, nL', z'⟩ := X
  obtain ⟨⟨hx, hb, hml, hown, hts⟩, hK, hA, hlk, rfl, hr, rfl, rfl, hU, hN, htr, hNb⟩ := C
  intro H locs ls hl hP hD hS
  exact lv_isub hx hb d (kk H locs ls hl hP hD hS)
theorem zj_imul {X : zj_T} {z : zv_T} {cc : ByteArray} {nL : Nat} {own : String} {rm : Room} {ret : Option FieldType} (C : zj_C X z cc nL own rm ret) {cells slots : Nat} {Q : State → Prop} {ad : Nat → Nat} {N : Nat} {g : Nat → va_E} {pc : Nat} {L : List (Nat × Value)} {st : List Value} {x y : Int32} (d : decode cc pc = .ok (.imul, 1))
    (kk : zj_J X cells slots Q ad N g (pc + 1) L (.int (x * y) :: st)) : zj_J X cells slots Q ad N g pc L (.int y :: .int x :: st) := by
  obtain ⟨p, l, e, R, s, m, args, below, meth, c, nL', z'⟩ := X
  obtain ⟨⟨hx, hb, hml, hown, hts⟩, hK, hA, hlk, rfl, hr, rfl, rfl, hU, hN, htr, hNb⟩ := C
  intro H locs ls hl hP hD hS
  exact lv_imul hx hb d (kk H locs ls hl hP hD hS)
theorem zj_iand {X : zj_T} {z : zv_T} {cc : ByteArray} {nL : Nat} {own : String} {rm : Room} {ret : Option FieldType} (C : zj_C X z cc nL own rm ret) {cells slots : Nat} {Q : State → Prop} {ad : Nat → Nat} {N : Nat} {g : Nat → va_E} {pc : Nat} {L : List (Nat × Value)} {st : List Value} {x y : Int32} (d : decode cc pc = .ok (.iand, 1))
    (kk : zj_J X cells slots Q ad N g (pc + 1) L (.int (x &&& y) :: st)) : zj_J X cells slots Q ad N g pc L (.int y :: .int x :: st) := by
  obtain ⟨p, l, e, R, s, m, args, below, meth, c, nL', z'⟩ := X
  obtain ⟨⟨hx, hb, hml, hown, hts⟩, hK, hA, hlk, rfl, hr, rfl, rfl, hU, hN, htr, hNb⟩ := C
  intro H locs ls hl hP hD hS
  exact lv_iand hx hb d (kk H locs ls hl hP hD hS)
theorem zj_ior {X : zj_T} {z : zv_T} {cc : ByteArray} {nL : Nat} {own : String} {rm : Room} {ret : Option FieldType} (C : zj_C X z cc nL own rm ret) {cells slots : Nat} {Q : State → Prop} {ad : Nat → Nat} {N : Nat} {g : Nat → va_E} {pc : Nat} {L : List (Nat × Value)} {st : List Value} {x y : Int32} (d : decode cc pc = .ok (.ior, 1))
    (kk : zj_J X cells slots Q ad N g (pc + 1) L (.int (x ||| y) :: st)) : zj_J X cells slots Q ad N g pc L (.int y :: .int x :: st) := by
  obtain ⟨p, l, e, R, s, m, args, below, meth, c, nL', z'⟩ := X
  obtain ⟨⟨hx, hb, hml, hown, hts⟩, hK, hA, hlk, rfl, hr, rfl, rfl, hU, hN, htr, hNb⟩ := C
  intro H locs ls hl hP hD hS
  exact lv_ior hx hb d (kk H locs ls hl hP hD hS)
theorem zj_ishl {X : zj_T} {z : zv_T} {cc : ByteArray} {nL : Nat} {own : String} {rm : Room} {ret : Option FieldType} (C : zj_C X z cc nL own rm ret) {cells slots : Nat} {Q : State → Prop} {ad : Nat → Nat} {N : Nat} {g : Nat → va_E} {pc : Nat} {L : List (Nat × Value)} {st : List Value} {x y : Int32} (d : decode cc pc = .ok (.ishl, 1))
    (kk : zj_J X cells slots Q ad N g (pc + 1) L (.int (x <<< (y &&& 31)) :: st)) : zj_J X cells slots Q ad N g pc L (.int y :: .int x :: st) := by
  obtain ⟨p, l, e, R, s, m, args, below, meth, c, nL', z'⟩ := X
  obtain ⟨⟨hx, hb, hml, hown, hts⟩, hK, hA, hlk, rfl, hr, rfl, rfl, hU, hN, htr, hNb⟩ := C
  intro H locs ls hl hP hD hS
  exact lv_ishl hx hb d (kk H locs ls hl hP hD hS)
theorem zj_ishr {X : zj_T} {z : zv_T} {cc : ByteArray} {nL : Nat} {own : String} {rm : Room} {ret : Option FieldType} (C : zj_C X z cc nL own rm ret) {cells slots : Nat} {Q : State → Prop} {ad : Nat → Nat} {N : Nat} {g : Nat → va_E} {pc : Nat} {L : List (Nat × Value)} {st : List Value} {x y : Int32} (d : decode cc pc = .ok (.ishr, 1))
    (kk : zj_J X cells slots Q ad N g (pc + 1) L (.int (x >>> (y &&& 31)) :: st)) : zj_J X cells slots Q ad N g pc L (.int y :: .int x :: st) := by
  obtain ⟨p, l, e, R, s, m, args, below, meth, c, nL', z'⟩ := X
  obtain ⟨⟨hx, hb, hml, hown, hts⟩, hK, hA, hlk, rfl, hr, rfl, rfl, hU, hN, htr, hNb⟩ := C
  intro H locs ls hl hP hD hS
  exact lv_ishr hx hb d (kk H locs ls hl hP hD hS)
theorem zj_idiv {X : zj_T} {z : zv_T} {cc : ByteArray} {nL : Nat} {own : String} {rm : Room} {ret : Option FieldType} (C : zj_C X z cc nL own rm ret) {cells slots : Nat} {Q : State → Prop} {ad : Nat → Nat} {N : Nat} {g : Nat → va_E} {pc : Nat} {L : List (Nat × Value)} {st : List Value} {x y : Int32} (d : decode cc pc = .ok (.idiv, 1)) (hne : ¬ y = 0)
    (kk : zj_J X cells slots Q ad N g (pc + 1) L (.int (x / y) :: st)) : zj_J X cells slots Q ad N g pc L (.int y :: .int x :: st) := by
  obtain ⟨p, l, e, R, s, m, args, below, meth, c, nL', z'⟩ := X
  obtain ⟨⟨hx, hb, hml, hown, hts⟩, hK, hA, hlk, rfl, hr, rfl, rfl, hU, hN, htr, hNb⟩ := C
  intro H locs ls hl hP hD hS
  exact lv_idiv hx hb d hne (kk H locs ls hl hP hD hS)
theorem zj_irem {X : zj_T} {z : zv_T} {cc : ByteArray} {nL : Nat} {own : String} {rm : Room} {ret : Option FieldType} (C : zj_C X z cc nL own rm ret) {cells slots : Nat} {Q : State → Prop} {ad : Nat → Nat} {N : Nat} {g : Nat → va_E} {pc : Nat} {L : List (Nat × Value)} {st : List Value} {x y : Int32} (d : decode cc pc = .ok (.irem, 1)) (hne : ¬ y = 0)
    (kk : zj_J X cells slots Q ad N g (pc + 1) L (.int (x - x / y * y) :: st)) : zj_J X cells slots Q ad N g pc L (.int y :: .int x :: st) := by
  obtain ⟨p, l, e, R, s, m, args, below, meth, c, nL', z'⟩ := X
  obtain ⟨⟨hx, hb, hml, hown, hts⟩, hK, hA, hlk, rfl, hr, rfl, rfl, hU, hN, htr, hNb⟩ := C
  intro H locs ls hl hP hD hS
  exact lv_irem hx hb d hne (kk H locs ls hl hP hD hS)
theorem zj_ineg {X : zj_T} {z : zv_T} {cc : ByteArray} {nL : Nat} {own : String} {rm : Room} {ret : Option FieldType} (C : zj_C X z cc nL own rm ret) {cells slots : Nat} {Q : State → Prop} {ad : Nat → Nat} {N : Nat} {g : Nat → va_E} {pc : Nat} {L : List (Nat × Value)} {st : List Value} {x : Int32} (d : decode cc pc = .ok (.ineg, 1))
    (kk : zj_J X cells slots Q ad N g (pc + 1) L (.int (-x) :: st)) : zj_J X cells slots Q ad N g pc L (.int x :: st) := by
  obtain ⟨p, l, e, R, s, m, args, below, meth, c, nL', z'⟩ := X
  obtain ⟨⟨hx, hb, hml, hown, hts⟩, hK, hA, hlk, rfl, hr, rfl, rfl, hU, hN, htr, hNb⟩ := C
  intro H locs ls hl hP hD hS
  exact lv_ineg hx hb d (kk H locs ls hl hP hD hS)
theorem zj_i2l {X : zj_T} {z : zv_T} {cc : ByteArray} {nL : Nat} {own : String} {rm : Room} {ret : Option FieldType} (C : zj_C X z cc nL own rm ret) {cells slots : Nat} {Q : State → Prop} {ad : Nat → Nat} {N : Nat} {g : Nat → va_E} {pc : Nat} {L : List (Nat × Value)} {st : List Value} {x : Int32} (d : decode cc pc = .ok (.i2l, 1))
    (kk : zj_J X cells slots Q ad N g (pc + 1) L (.long x.toInt64 :: st)) : zj_J X cells slots Q ad N g pc L (.int x :: st) := by
  obtain ⟨p, l, e, R, s, m, args, below, meth, c, nL', z'⟩ := X
  obtain ⟨⟨hx, hb, hml, hown, hts⟩, hK, hA, hlk, rfl, hr, rfl, rfl, hU, hN, htr, hNb⟩ := C
  intro H locs ls hl hP hD hS
  exact lv_i2l hx hb d rfl (kk H locs ls hl hP hD hS)
theorem zj_lcmp {X : zj_T} {z : zv_T} {cc : ByteArray} {nL : Nat} {own : String} {rm : Room} {ret : Option FieldType} (C : zj_C X z cc nL own rm ret) {cells slots : Nat} {Q : State → Prop} {ad : Nat → Nat} {N : Nat} {g : Nat → va_E} {pc : Nat} {L : List (Nat × Value)} {st : List Value} {x y : Int64} (d : decode cc pc = .ok (.lcmp, 1))
    (kk : zj_J X cells slots Q ad N g (pc + 1) L (.int (lg_cmp x y) :: st)) : zj_J X cells slots Q ad N g pc L (.long y :: .long x :: st) := by
  obtain ⟨p, l, e, R, s, m, args, below, meth, c, nL', z'⟩ := X
  obtain ⟨⟨hx, hb, hml, hown, hts⟩, hK, hA, hlk, rfl, hr, rfl, rfl, hU, hN, htr, hNb⟩ := C
  intro H locs ls hl hP hD hS
  exact W.lcmp hx hb d (kk H locs ls hl hP hD hS)
theorem zj_topi {X : zj_T} {cells slots : Nat} {Q : State → Prop} {ad : Nat → Nat} {N : Nat} {g : Nat → va_E} {pc : Nat} {L : List (Nat × Value)} {st : List Value} {x y : Int32} (h : x = y) (kk : zj_J X cells slots Q ad N g pc L (.int y :: st)) : zj_J X cells slots Q ad N g pc L (.int x :: st) := h ▸ kk
theorem zj_topl {X : zj_T} {cells slots : Nat} {Q : State → Prop} {ad : Nat → Nat} {N : Nat} {g : Nat → va_E} {pc : Nat} {L : List (Nat × Value)} {st : List Value} {x y : Int64} (h : x = y) (kk : zj_J X cells slots Q ad N g pc L (.long y :: st)) : zj_J X cells slots Q ad N g pc L (.long x :: st) := h ▸ kk
theorem zj_dup {X : zj_T} {z : zv_T} {cc : ByteArray} {nL : Nat} {own : String} {rm : Room} {ret : Option FieldType} (C : zj_C X z cc nL own rm ret) {cells slots : Nat} {Q : State → Prop} {ad : Nat → Nat} {N : Nat} {g : Nat → va_E} {pc : Nat} {L : List (Nat × Value)} {st : List Value} {va : Value} (d : decode cc pc = .ok (.dup, 1)) (ha : va.category = 1)
    (kk : zj_J X cells slots Q ad N g (pc + 1) L (va :: va :: st)) : zj_J X cells slots Q ad N g pc L (va :: st) := by
  obtain ⟨p, l, e, R, s, m, args, below, meth, c, nL', z'⟩ := X
  obtain ⟨⟨hx, hb, hml, hown, hts⟩, hK, hA, hlk, rfl, hr, rfl, rfl, hU, hN, htr, hNb⟩ := C
  intro H locs ls hl hP hD hS
  exact lv_dup hx hb d ha (kk H locs ls hl hP hD hS)
theorem zj_pop {X : zj_T} {z : zv_T} {cc : ByteArray} {nL : Nat} {own : String} {rm : Room} {ret : Option FieldType} (C : zj_C X z cc nL own rm ret) {cells slots : Nat} {Q : State → Prop} {ad : Nat → Nat} {N : Nat} {g : Nat → va_E} {pc : Nat} {L : List (Nat × Value)} {st : List Value} {va : Value} (d : decode cc pc = .ok (.pop, 1)) (ha : va.category = 1)
    (kk : zj_J X cells slots Q ad N g (pc + 1) L st) : zj_J X cells slots Q ad N g pc L (va :: st) := by
  obtain ⟨p, l, e, R, s, m, args, below, meth, c, nL', z'⟩ := X
  obtain ⟨⟨hx, hb, hml, hown, hts⟩, hK, hA, hlk, rfl, hr, rfl, rfl, hU, hN, htr, hNb⟩ := C
  intro H locs ls hl hP hD hS
  exact lv_pop hx hb d ha (kk H locs ls hl hP hD hS)
theorem zj_dup_x1 {X : zj_T} {z : zv_T} {cc : ByteArray} {nL : Nat} {own : String} {rm : Room} {ret : Option FieldType} (C : zj_C X z cc nL own rm ret) {cells slots : Nat} {Q : State → Prop} {ad : Nat → Nat} {N : Nat} {g : Nat → va_E} {pc : Nat} {L : List (Nat × Value)} {st : List Value} {va vb : Value} (d : decode cc pc = .ok (.dup_x1, 1)) (ha : va.category = 1) (hb' : vb.category = 1)
    (kk : zj_J X cells slots Q ad N g (pc + 1) L (va :: vb :: va :: st)) : zj_J X cells slots Q ad N g pc L (va :: vb :: st) := by
  obtain ⟨p, l, e, R, s, m, args, below, meth, c, nL', z'⟩ := X
  obtain ⟨⟨hx, hb, hml, hown, hts⟩, hK, hA, hlk, rfl, hr, rfl, rfl, hU, hN, htr, hNb⟩ := C
  intro H locs ls hl hP hD hS
  exact lv_dup_x1 hx hb d ha hb' (kk H locs ls hl hP hD hS)
theorem zj_dup2 {X : zj_T} {z : zv_T} {cc : ByteArray} {nL : Nat} {own : String} {rm : Room} {ret : Option FieldType} (C : zj_C X z cc nL own rm ret) {cells slots : Nat} {Q : State → Prop} {ad : Nat → Nat} {N : Nat} {g : Nat → va_E} {pc : Nat} {L : List (Nat × Value)} {st : List Value} {va vb : Value} (d : decode cc pc = .ok (.dup2, 1)) (ha : va.category = 1) (hb' : vb.category = 1)
    (kk : zj_J X cells slots Q ad N g (pc + 1) L (va :: vb :: va :: vb :: st)) : zj_J X cells slots Q ad N g pc L (va :: vb :: st) := by
  obtain ⟨p, l, e, R, s, m, args, below, meth, c, nL', z'⟩ := X
  obtain ⟨⟨hx, hb, hml, hown, hts⟩, hK, hA, hlk, rfl, hr, rfl, rfl, hU, hN, htr, hNb⟩ := C
  intro H locs ls hl hP hD hS
  exact lv_dup2_11 hx hb d ha hb' (kk H locs ls hl hP hD hS)
theorem zj_if_eq {X : zj_T} {z : zv_T} {cc : ByteArray} {nL : Nat} {own : String} {rm : Room} {ret : Option FieldType} (C : zj_C X z cc nL own rm ret) {cells slots : Nat} {Q : State → Prop} {ad : Nat → Nat} {N : Nat} {g : Nat → va_E} {pc : Nat} {L : List (Nat × Value)} {st : List Value} {x : Int32} {off : Int} {tgt : Nat} (d : decode cc pc = .ok (.ifCond .eq off, 3)) (ht : (pc : Int) + off = (tgt : Int))
    (h1 : x = 0 → zj_J X cells slots Q ad N g tgt L st) (h2 : ¬ x = 0 → zj_J X cells slots Q ad N g (pc + 3) L st) : zj_J X cells slots Q ad N g pc L (.int x :: st) := by
  obtain ⟨p, l, e, R, s, m, args, below, meth, c, nL', z'⟩ := X
  obtain ⟨⟨hx, hb, hml, hown, hts⟩, hK, hA, hlk, rfl, hr, rfl, rfl, hU, hN, htr, hNb⟩ := C
  intro H locs ls hl hP hD hS
  exact lv_if_eq hx hb d ht (fun h => h1 h H locs ls hl hP hD hS) (fun h => h2 h H locs ls hl hP hD hS)
theorem zj_icmp_eq {X : zj_T} {z : zv_T} {cc : ByteArray} {nL : Nat} {own : String} {rm : Room} {ret : Option FieldType} (C : zj_C X z cc nL own rm ret) {cells slots : Nat} {Q : State → Prop} {ad : Nat → Nat} {N : Nat} {g : Nat → va_E} {pc : Nat} {L : List (Nat × Value)} {st : List Value} {x y : Int32} {off : Int} {tgt : Nat} (d : decode cc pc = .ok (.if_icmp .eq off, 3)) (ht : (pc : Int) + off = (tgt : Int))
    (h1 : x = y → zj_J X cells slots Q ad N g tgt L st) (h2 : ¬ x = y → zj_J X cells slots Q ad N g (pc + 3) L st) : zj_J X cells slots Q ad N g pc L (.int y :: .int x :: st) := by
  obtain ⟨p, l, e, R, s, m, args, below, meth, c, nL', z'⟩ := X
  obtain ⟨⟨hx, hb, hml, hown, hts⟩, hK, hA, hlk, rfl, hr, rfl, rfl, hU, hN, htr, hNb⟩ := C
  intro H locs ls hl hP hD hS
  exact lv_icmp_eq hx hb d ht (fun h => h1 h H locs ls hl hP hD hS) (fun h => h2 h H locs ls hl hP hD hS)
theorem zj_if_ne {X : zj_T} {z : zv_T} {cc : ByteArray} {nL : Nat} {own : String} {rm : Room} {ret : Option FieldType} (C : zj_C X z cc nL own rm ret) {cells slots : Nat} {Q : State → Prop} {ad : Nat → Nat} {N : Nat} {g : Nat → va_E} {pc : Nat} {L : List (Nat × Value)} {st : List Value} {x : Int32} {off : Int} {tgt : Nat} (d : decode cc pc = .ok (.ifCond .ne off, 3)) (ht : (pc : Int) + off = (tgt : Int))
    (h1 : ¬ x = 0 → zj_J X cells slots Q ad N g tgt L st) (h2 : x = 0 → zj_J X cells slots Q ad N g (pc + 3) L st) : zj_J X cells slots Q ad N g pc L (.int x :: st) := by
  obtain ⟨p, l, e, R, s, m, args, below, meth, c, nL', z'⟩ := X
  obtain ⟨⟨hx, hb, hml, hown, hts⟩, hK, hA, hlk, rfl, hr, rfl, rfl, hU, hN, htr, hNb⟩ := C
  intro H locs ls hl hP hD hS
  exact lv_if_ne hx hb d ht (fun h => h1 h H locs ls hl hP hD hS) (fun h => h2 h H locs ls hl hP hD hS)
theorem zj_icmp_ne {X : zj_T} {z : zv_T} {cc : ByteArray} {nL : Nat} {own : String} {rm : Room} {ret : Option FieldType} (C : zj_C X z cc nL own rm ret) {cells slots : Nat} {Q : State → Prop} {ad : Nat → Nat} {N : Nat} {g : Nat → va_E} {pc : Nat} {L : List (Nat × Value)} {st : List Value} {x y : Int32} {off : Int} {tgt : Nat} (d : decode cc pc = .ok (.if_icmp .ne off, 3)) (ht : (pc : Int) + off = (tgt : Int))
    (h1 : ¬ x = y → zj_J X cells slots Q ad N g tgt L st) (h2 : x = y → zj_J X cells slots Q ad N g (pc + 3) L st) : zj_J X cells slots Q ad N g pc L (.int y :: .int x :: st) := by
  obtain ⟨p, l, e, R, s, m, args, below, meth, c, nL', z'⟩ := X
  obtain ⟨⟨hx, hb, hml, hown, hts⟩, hK, hA, hlk, rfl, hr, rfl, rfl, hU, hN, htr, hNb⟩ := C
  intro H locs ls hl hP hD hS
  exact lv_icmp_ne hx hb d ht (fun h => h1 h H locs ls hl hP hD hS) (fun h => h2 h H locs ls hl hP hD hS)
theorem zj_if_lt {X : zj_T} {z : zv_T} {cc : ByteArray} {nL : Nat} {own : String} {rm : Room} {ret : Option FieldType} (C : zj_C X z cc nL own rm ret) {cells slots : Nat} {Q : State → Prop} {ad : Nat → Nat} {N : Nat} {g : Nat → va_E} {pc : Nat} {L : List (Nat × Value)} {st : List Value} {x : Int32} {off : Int} {tgt : Nat} (d : decode cc pc = .ok (.ifCond .lt off, 3)) (ht : (pc : Int) + off = (tgt : Int))
    (h1 : x < 0 → zj_J X cells slots Q ad N g tgt L st) (h2 : ¬ x < 0 → zj_J X cells slots Q ad N g (pc + 3) L st) : zj_J X cells slots Q ad N g pc L (.int x :: st) := by
  obtain ⟨p, l, e, R, s, m, args, below, meth, c, nL', z'⟩ := X
  obtain ⟨⟨hx, hb, hml, hown, hts⟩, hK, hA, hlk, rfl, hr, rfl, rfl, hU, hN, htr, hNb⟩ := C
  intro H locs ls hl hP hD hS
  exact lv_if_lt hx hb d ht (fun h => h1 h H locs ls hl hP hD hS) (fun h => h2 h H locs ls hl hP hD hS)
theorem zj_icmp_lt {X : zj_T} {z : zv_T} {cc : ByteArray} {nL : Nat} {own : String} {rm : Room} {ret : Option FieldType} (C : zj_C X z cc nL own rm ret) {cells slots : Nat} {Q : State → Prop} {ad : Nat → Nat} {N : Nat} {g : Nat → va_E} {pc : Nat} {L : List (Nat × Value)} {st : List Value} {x y : Int32} {off : Int} {tgt : Nat} (d : decode cc pc = .ok (.if_icmp .lt off, 3)) (ht : (pc : Int) + off = (tgt : Int))
    (h1 : x < y → zj_J X cells slots Q ad N g tgt L st) (h2 : ¬ x < y → zj_J X cells slots Q ad N g (pc + 3) L st) : zj_J X cells slots Q ad N g pc L (.int y :: .int x :: st) := by
  obtain ⟨p, l, e, R, s, m, args, below, meth, c, nL', z'⟩ := X
  obtain ⟨⟨hx, hb, hml, hown, hts⟩, hK, hA, hlk, rfl, hr, rfl, rfl, hU, hN, htr, hNb⟩ := C
  intro H locs ls hl hP hD hS
  exact lv_icmp_lt hx hb d ht (fun h => h1 h H locs ls hl hP hD hS) (fun h => h2 h H locs ls hl hP hD hS)
theorem zj_if_ge {X : zj_T} {z : zv_T} {cc : ByteArray} {nL : Nat} {own : String} {rm : Room} {ret : Option FieldType} (C : zj_C X z cc nL own rm ret) {cells slots : Nat} {Q : State → Prop} {ad : Nat → Nat} {N : Nat} {g : Nat → va_E} {pc : Nat} {L : List (Nat × Value)} {st : List Value} {x : Int32} {off : Int} {tgt : Nat} (d : decode cc pc = .ok (.ifCond .ge off, 3)) (ht : (pc : Int) + off = (tgt : Int))
    (h1 : 0 ≤ x → zj_J X cells slots Q ad N g tgt L st) (h2 : ¬ 0 ≤ x → zj_J X cells slots Q ad N g (pc + 3) L st) : zj_J X cells slots Q ad N g pc L (.int x :: st) := by
  obtain ⟨p, l, e, R, s, m, args, below, meth, c, nL', z'⟩ := X
  obtain ⟨⟨hx, hb, hml, hown, hts⟩, hK, hA, hlk, rfl, hr, rfl, rfl, hU, hN, htr, hNb⟩ := C
  intro H locs ls hl hP hD hS
  exact lv_if_ge hx hb d ht (fun h => h1 h H locs ls hl hP hD hS) (fun h => h2 h H locs ls hl hP hD hS)
theorem zj_icmp_ge {X : zj_T} {z : zv_T} {cc : ByteArray} {nL : Nat} {own : String} {rm : Room} {ret : Option FieldType} (C : zj_C X z cc nL own rm ret) {cells slots : Nat} {Q : State → Prop} {ad : Nat → Nat} {N : Nat} {g : Nat → va_E} {pc : Nat} {L : List (Nat × Value)} {st : List Value} {x y : Int32} {off : Int} {tgt : Nat} (d : decode cc pc = .ok (.if_icmp .ge off, 3)) (ht : (pc : Int) + off = (tgt : Int))
    (h1 : y ≤ x → zj_J X cells slots Q ad N g tgt L st) (h2 : ¬ y ≤ x → zj_J X cells slots Q ad N g (pc + 3) L st) : zj_J X cells slots Q ad N g pc L (.int y :: .int x :: st) := by
  obtain ⟨p, l, e, R, s, m, args, below, meth, c, nL', z'⟩ := X
  obtain ⟨⟨hx, hb, hml, hown, hts⟩, hK, hA, hlk, rfl, hr, rfl, rfl, hU, hN, htr, hNb⟩ := C
  intro H locs ls hl hP hD hS
  exact lv_icmp_ge hx hb d ht (fun h => h1 h H locs ls hl hP hD hS) (fun h => h2 h H locs ls hl hP hD hS)
theorem zj_if_gt {X : zj_T} {z : zv_T} {cc : ByteArray} {nL : Nat} {own : String} {rm : Room} {ret : Option FieldType} (C : zj_C X z cc nL own rm ret) {cells slots : Nat} {Q : State → Prop} {ad : Nat → Nat} {N : Nat} {g : Nat → va_E} {pc : Nat} {L : List (Nat × Value)} {st : List Value} {x : Int32} {off : Int} {tgt : Nat} (d : decode cc pc = .ok (.ifCond .gt off, 3)) (ht : (pc : Int) + off = (tgt : Int))
    (h1 : 0 < x → zj_J X cells slots Q ad N g tgt L st) (h2 : ¬ 0 < x → zj_J X cells slots Q ad N g (pc + 3) L st) : zj_J X cells slots Q ad N g pc L (.int x :: st) := by
  obtain ⟨p, l, e, R, s, m, args, below, meth, c, nL', z'⟩ := X
  obtain ⟨⟨hx, hb, hml, hown, hts⟩, hK, hA, hlk, rfl, hr, rfl, rfl, hU, hN, htr, hNb⟩ := C
  intro H locs ls hl hP hD hS
  exact lv_if_gt hx hb d ht (fun h => h1 h H locs ls hl hP hD hS) (fun h => h2 h H locs ls hl hP hD hS)
theorem zj_icmp_gt {X : zj_T} {z : zv_T} {cc : ByteArray} {nL : Nat} {own : String} {rm : Room} {ret : Option FieldType} (C : zj_C X z cc nL own rm ret) {cells slots : Nat} {Q : State → Prop} {ad : Nat → Nat} {N : Nat} {g : Nat → va_E} {pc : Nat} {L : List (Nat × Value)} {st : List Value} {x y : Int32} {off : Int} {tgt : Nat} (d : decode cc pc = .ok (.if_icmp .gt off, 3)) (ht : (pc : Int) + off = (tgt : Int))
    (h1 : y < x → zj_J X cells slots Q ad N g tgt L st) (h2 : ¬ y < x → zj_J X cells slots Q ad N g (pc + 3) L st) : zj_J X cells slots Q ad N g pc L (.int y :: .int x :: st) := by
  obtain ⟨p, l, e, R, s, m, args, below, meth, c, nL', z'⟩ := X
  obtain ⟨⟨hx, hb, hml, hown, hts⟩, hK, hA, hlk, rfl, hr, rfl, rfl, hU, hN, htr, hNb⟩ := C
  intro H locs ls hl hP hD hS
  exact lv_icmp_gt hx hb d ht (fun h => h1 h H locs ls hl hP hD hS) (fun h => h2 h H locs ls hl hP hD hS)
theorem zj_if_le {X : zj_T} {z : zv_T} {cc : ByteArray} {nL : Nat} {own : String} {rm : Room} {ret : Option FieldType} (C : zj_C X z cc nL own rm ret) {cells slots : Nat} {Q : State → Prop} {ad : Nat → Nat} {N : Nat} {g : Nat → va_E} {pc : Nat} {L : List (Nat × Value)} {st : List Value} {x : Int32} {off : Int} {tgt : Nat} (d : decode cc pc = .ok (.ifCond .le off, 3)) (ht : (pc : Int) + off = (tgt : Int))
    (h1 : x ≤ 0 → zj_J X cells slots Q ad N g tgt L st) (h2 : ¬ x ≤ 0 → zj_J X cells slots Q ad N g (pc + 3) L st) : zj_J X cells slots Q ad N g pc L (.int x :: st) := by
  obtain ⟨p, l, e, R, s, m, args, below, meth, c, nL', z'⟩ := X
  obtain ⟨⟨hx, hb, hml, hown, hts⟩, hK, hA, hlk, rfl, hr, rfl, rfl, hU, hN, htr, hNb⟩ := C
  intro H locs ls hl hP hD hS
  exact lv_if_le hx hb d ht (fun h => h1 h H locs ls hl hP hD hS) (fun h => h2 h H locs ls hl hP hD hS)
theorem zj_icmp_le {X : zj_T} {z : zv_T} {cc : ByteArray} {nL : Nat} {own : String} {rm : Room} {ret : Option FieldType} (C : zj_C X z cc nL own rm ret) {cells slots : Nat} {Q : State → Prop} {ad : Nat → Nat} {N : Nat} {g : Nat → va_E} {pc : Nat} {L : List (Nat × Value)} {st : List Value} {x y : Int32} {off : Int} {tgt : Nat} (d : decode cc pc = .ok (.if_icmp .le off, 3)) (ht : (pc : Int) + off = (tgt : Int))
    (h1 : x ≤ y → zj_J X cells slots Q ad N g tgt L st) (h2 : ¬ x ≤ y → zj_J X cells slots Q ad N g (pc + 3) L st) : zj_J X cells slots Q ad N g pc L (.int y :: .int x :: st) := by
  obtain ⟨p, l, e, R, s, m, args, below, meth, c, nL', z'⟩ := X
  obtain ⟨⟨hx, hb, hml, hown, hts⟩, hK, hA, hlk, rfl, hr, rfl, rfl, hU, hN, htr, hNb⟩ := C
  intro H locs ls hl hP hD hS
  exact lv_icmp_le hx hb d ht (fun h => h1 h H locs ls hl hP hD hS) (fun h => h2 h H locs ls hl hP hD hS)
theorem zj_goto {X : zj_T} {z : zv_T} {cc : ByteArray} {nL : Nat} {own : String} {rm : Room} {ret : Option FieldType} (C : zj_C X z cc nL own rm ret) {cells slots : Nat} {Q : State → Prop} {ad : Nat → Nat} {N : Nat} {g : Nat → va_E} {pc : Nat} {L : List (Nat × Value)} {st : List Value} {off : Int} {tgt : Nat} (d : decode cc pc = .ok (.goto off, 3)) (ht : (pc : Int) + off = (tgt : Int))
    (kk : zj_J X cells slots Q ad N g tgt L st) : zj_J X cells slots Q ad N g pc L st := by
  obtain ⟨p, l, e, R, s, m, args, below, meth, c, nL', z'⟩ := X
  obtain ⟨⟨hx, hb, hml, hown, hts⟩, hK, hA, hlk, rfl, hr, rfl, rfl, hU, hN, htr, hNb⟩ := C
  intro H locs ls hl hP hD hS
  exact lv_goto hx hb d ht (kk H locs ls hl hP hD hS)
theorem zj_tableOut {X : zj_T} {z : zv_T} {cc : ByteArray} {nL : Nat} {own : String} {rm : Room} {ret : Option FieldType} (C : zj_C X z cc nL own rm ret) {cells slots : Nat} {Q : State → Prop} {ad : Nat → Nat} {N : Nat} {g : Nat → va_E} {pc : Nat} {L : List (Nat × Value)} {st : List Value} {dflt lo hi : Int} {offs : Array Int} {len : Nat} {x : Int32} {tgt : Nat} (d : decode cc pc = .ok (.tableswitch dflt lo hi offs, len)) (h : x.toInt < lo ∨ hi < x.toInt) (ht : (pc : Int) + dflt = (tgt : Int))
    (kk : zj_J X cells slots Q ad N g tgt L st) : zj_J X cells slots Q ad N g pc L (.int x :: st) := by
  obtain ⟨p, l, e, R, s, m, args, below, meth, c, nL', z'⟩ := X
  obtain ⟨⟨hx, hb, hml, hown, hts⟩, hK, hA, hlk, rfl, hr, rfl, rfl, hU, hN, htr, hNb⟩ := C
  intro H locs ls hl hP hD hS
  exact lv_tableOut hx hb d h ht (kk H locs ls hl hP hD hS)
theorem zj_tableIn {X : zj_T} {z : zv_T} {cc : ByteArray} {nL : Nat} {own : String} {rm : Room} {ret : Option FieldType} (C : zj_C X z cc nL own rm ret) {cells slots : Nat} {Q : State → Prop} {ad : Nat → Nat} {N : Nat} {g : Nat → va_E} {pc : Nat} {L : List (Nat × Value)} {st : List Value} {dflt lo hi : Int} {offs : Array Int} {len : Nat} {x : Int32} {off : Int} {tgt : Nat} (d : decode cc pc = .ok (.tableswitch dflt lo hi offs, len)) (h1 : ¬ x.toInt < lo) (h2 : ¬ hi < x.toInt) (ho : offs[(x.toInt - lo).toNat]? = some off) (ht : (pc : Int) + off = (tgt : Int))
    (kk : zj_J X cells slots Q ad N g tgt L st) : zj_J X cells slots Q ad N g pc L (.int x :: st) := by
  obtain ⟨p, l, e, R, s, m, args, below, meth, c, nL', z'⟩ := X
  obtain ⟨⟨hx, hb, hml, hown, hts⟩, hK, hA, hlk, rfl, hr, rfl, rfl, hU, hN, htr, hNb⟩ := C
  intro H locs ls hl hP hD hS
  exact lv_tableIn hx hb d h1 h2 ho ht (kk H locs ls hl hP hD hS)
theorem zj_lookup {X : zj_T} {z : zv_T} {cc : ByteArray} {nL : Nat} {own : String} {rm : Room} {ret : Option FieldType} (C : zj_C X z cc nL own rm ret) {cells slots : Nat} {Q : State → Prop} {ad : Nat → Nat} {N : Nat} {g : Nat → va_E} {pc : Nat} {L : List (Nat × Value)} {st : List Value} {dflt : Int} {ps : Array (Int × Int)} {len : Nat} {x : Int32} {off : Int} {tgt : Nat} (d : decode cc pc = .ok (.lookupswitch dflt ps, len)) (hp : (ps.toList.zip (ps.toList.drop 1)).all (fun (a, next) => a.1 < next.1) = true) (ho : Op.lookupswitch.offset ps.toList dflt x.toInt = off) (ht : (pc : Int) + off = (tgt : Int))
    (kk : zj_J X cells slots Q ad N g tgt L st) : zj_J X cells slots Q ad N g pc L (.int x :: st) := by
  obtain ⟨p, l, e, R, s, m, args, below, meth, c, nL', z'⟩ := X
  obtain ⟨⟨hx, hb, hml, hown, hts⟩, hK, hA, hlk, rfl, hr, rfl, rfl, hU, hN, htr, hNb⟩ := C
  intro H locs ls hl hP hD hS
  exact lv_lookup hx hb d hp ho ht (kk H locs ls hl hP hD hS)
theorem zj_iald {X : zj_T} {z : zv_T} {cc : ByteArray} {nL : Nat} {own : String} {rm : Room} {ret : Option FieldType} (C : zj_C X z cc nL own rm ret) {cells slots : Nat} {Q : State → Prop} {ad : Nat → Nat} {N : Nat} {g : Nat → va_E} {pc : Nat} {L : List (Nat × Value)} {st : List Value} {i n k : Nat} {f : Nat → Int32} {j : Int32} (hi : i < N) (he : g i = ze_i z n f) (hj : j = nI k) (hk : k < n) (hn : n < 2 ^ 31) (d : decode cc pc = .ok (.iaload, 1))
    (kk : zj_J X cells slots Q ad N g (pc + 1) L (.int (f k) :: st)) : zj_J X cells slots Q ad N g pc L (.int j :: .ref (ad i) :: st) := by
  obtain ⟨p, l, e, R, s, m, args, below, meth, c, nL', z'⟩ := X
  obtain ⟨⟨hx, hb, hml, hown, hts⟩, hK, hA, hlk, rfl, hr, rfl, rfl, hU, hN, htr, hNb⟩ := C
  intro H locs ls hl hP hD hS
  subst hj
  have e1 : (nI k).toNatClampNeg = k := nI_clamp (by omega)
  refine va_iald hx hb hK hP i 0 (zw_ate hi he) rfl (vp_in_nI hk hn) d ?_
  rw [e1]
  exact kk H locs ls hl hP hD hS
theorem zj_zald {X : zj_T} {z : zv_T} {cc : ByteArray} {nL : Nat} {own : String} {rm : Room} {ret : Option FieldType} (C : zj_C X z cc nL own rm ret) {cells slots : Nat} {Q : State → Prop} {ad : Nat → Nat} {N : Nat} {g : Nat → va_E} {pc : Nat} {L : List (Nat × Value)} {st : List Value} {i n k : Nat} {f : Nat → Int32} {j : Int32} (hi : i < N) (he : g i = ze_z z n f) (hj : j = nI k) (hk : k < n) (hn : n < 2 ^ 31) (d : decode cc pc = .ok (.baload, 1))
    (kk : zj_J X cells slots Q ad N g (pc + 1) L (.int (f k) :: st)) : zj_J X cells slots Q ad N g pc L (.int j :: .ref (ad i) :: st) := by
  obtain ⟨p, l, e, R, s, m, args, below, meth, c, nL', z'⟩ := X
  obtain ⟨⟨hx, hb, hml, hown, hts⟩, hK, hA, hlk, rfl, hr, rfl, rfl, hU, hN, htr, hNb⟩ := C
  intro H locs ls hl hP hD hS
  subst hj
  have e1 : (nI k).toNatClampNeg = k := nI_clamp (by omega)
  refine va_zald hx hb hK hP i 1 (zw_ate hi he) rfl (vp_in_nI hk hn) d ?_
  rw [e1]
  exact kk H locs ls hl hP hD hS
theorem zj_lald {X : zj_T} {z : zv_T} {cc : ByteArray} {nL : Nat} {own : String} {rm : Room} {ret : Option FieldType} (C : zj_C X z cc nL own rm ret) {cells slots : Nat} {Q : State → Prop} {ad : Nat → Nat} {N : Nat} {g : Nat → va_E} {pc : Nat} {L : List (Nat × Value)} {st : List Value} {i n k : Nat} {f : Nat → Int64} {j : Int32} (hi : i < N) (he : g i = ze_l z n f) (hj : j = nI k) (hk : k < n) (hn : n < 2 ^ 31) (d : decode cc pc = .ok (.laload, 1))
    (kk : zj_J X cells slots Q ad N g (pc + 1) L (.long (f k) :: st)) : zj_J X cells slots Q ad N g pc L (.int j :: .ref (ad i) :: st) := by
  obtain ⟨p, l, e, R, s, m, args, below, meth, c, nL', z'⟩ := X
  obtain ⟨⟨hx, hb, hml, hown, hts⟩, hK, hA, hlk, rfl, hr, rfl, rfl, hU, hN, htr, hNb⟩ := C
  intro H locs ls hl hP hD hS
  subst hj
  have e1 : (nI k).toNatClampNeg = k := nI_clamp (by omega)
  refine va_lald hx hb hK hP i 2 (zw_ate hi he) rfl (vp_in_nI hk hn) d ?_
  rw [e1]
  exact kk H locs ls hl hP hD hS
theorem zj_uald {X : zj_T} {z : zv_T} {cc : ByteArray} {nL : Nat} {own : String} {rm : Room} {ret : Option FieldType} (C : zj_C X z cc nL own rm ret) {cells slots : Nat} {Q : State → Prop} {ad : Nat → Nat} {N : Nat} {g : Nat → va_E} {pc : Nat} {L : List (Nat × Value)} {st : List Value} {i n k : Nat} {f : Nat → Option Nat} {j : Int32} (hi : i < N) (he : g i = ze_u z n f) (hj : j = nI k) (hk : k < n) (hn : n < 2 ^ 31) (d : decode cc pc = .ok (.aaload, 1))
    (kk : zj_J X cells slots Q ad N g (pc + 1) L (va_rf (f k) :: st)) : zj_J X cells slots Q ad N g pc L (.int j :: .ref (ad i) :: st) := by
  obtain ⟨p, l, e, R, s, m, args, below, meth, c, nL', z'⟩ := X
  obtain ⟨⟨hx, hb, hml, hown, hts⟩, hK, hA, hlk, rfl, hr, rfl, rfl, hU, hN, htr, hNb⟩ := C
  intro H locs ls hl hP hD hS
  subst hj
  have e1 : (nI k).toNatClampNeg = k := nI_clamp (by omega)
  refine va_aldq hx hb hK hP i 3 (zw_ate hi he) rfl (vp_in_nI hk hn) d ?_
  rw [e1]
  exact kk H locs ls hl hP hD hS
theorem zj_pald {X : zj_T} {z : zv_T} {cc : ByteArray} {nL : Nat} {own : String} {rm : Room} {ret : Option FieldType} (C : zj_C X z cc nL own rm ret) {cells slots : Nat} {Q : State → Prop} {ad : Nat → Nat} {N : Nat} {g : Nat → va_E} {pc : Nat} {L : List (Nat × Value)} {st : List Value} {i n k : Nat} {f : Nat → Option Nat} {j : Int32} (hi : i < N) (he : g i = ze_p z n f) (hj : j = nI k) (hk : k < n) (hn : n < 2 ^ 31) (d : decode cc pc = .ok (.aaload, 1))
    (kk : zj_J X cells slots Q ad N g (pc + 1) L (va_rf (f k) :: st)) : zj_J X cells slots Q ad N g pc L (.int j :: .ref (ad i) :: st) := by
  obtain ⟨p, l, e, R, s, m, args, below, meth, c, nL', z'⟩ := X
  obtain ⟨⟨hx, hb, hml, hown, hts⟩, hK, hA, hlk, rfl, hr, rfl, rfl, hU, hN, htr, hNb⟩ := C
  intro H locs ls hl hP hD hS
  subst hj
  have e1 : (nI k).toNatClampNeg = k := nI_clamp (by omega)
  refine va_aldq hx hb hK hP i 4 (zw_ate hi he) rfl (vp_in_nI hk hn) d ?_
  rw [e1]
  exact kk H locs ls hl hP hD hS
theorem zj_iast {X : zj_T} {z : zv_T} {cc : ByteArray} {nL : Nat} {own : String} {rm : Room} {ret : Option FieldType} (C : zj_C X z cc nL own rm ret) {cells slots : Nat} {Q : State → Prop} {ad : Nat → Nat} {N : Nat} {g : Nat → va_E} {pc : Nat} {L : List (Nat × Value)} {st : List Value} {i n k : Nat} {f : Nat → Int32} {j : Int32} {x : Int32} (hi : i < N) (he : g i = ze_i z n f) (hj : j = nI k) (hk : k < n) (hn : n < 2 ^ 31) (d : decode cc pc = .ok (.iastore, 1))
    (kk : zj_J X cells slots Q ad N (va_up g i (ze_i z n (upd f k x))) (pc + 1) L st) : zj_J X cells slots Q ad N g pc L (.int x :: .int j :: .ref (ad i) :: st) := by
  obtain ⟨p, l, e, R, s, m, args, below, meth, c, nL', z'⟩ := X
  obtain ⟨⟨hx, hb, hml, hown, hts⟩, hK, hA, hlk, rfl, hr, rfl, rfl, hU, hN, htr, hNb⟩ := C
  intro H locs ls hl hP hD hS
  subst hj
  have e1 : (nI k).toNatClampNeg = k := nI_clamp (by omega)
  refine va_iast hx hb hK hP hD hS i 0 (zw_ate hi he) rfl (vp_in_nI hk hn) d (fun H1 locs1 hP1 hD1 hS1 => ?_)
  rw [e1, zw_set hi] at hP1 hD1
  exact kk H1 locs1 ls hl hP1 hD1 hS1
theorem zj_zast {X : zj_T} {z : zv_T} {cc : ByteArray} {nL : Nat} {own : String} {rm : Room} {ret : Option FieldType} (C : zj_C X z cc nL own rm ret) {cells slots : Nat} {Q : State → Prop} {ad : Nat → Nat} {N : Nat} {g : Nat → va_E} {pc : Nat} {L : List (Nat × Value)} {st : List Value} {i n k : Nat} {f : Nat → Int32} {j : Int32} {x : Int32} (hi : i < N) (he : g i = ze_z z n f) (hj : j = nI k) (hk : k < n) (hn : n < 2 ^ 31) (d : decode cc pc = .ok (.bastore, 1))
    (kk : zj_J X cells slots Q ad N (va_up g i (ze_z z n (upd f k (vp_nar .boolean x)))) (pc + 1) L st) : zj_J X cells slots Q ad N g pc L (.int x :: .int j :: .ref (ad i) :: st) := by
  obtain ⟨p, l, e, R, s, m, args, below, meth, c, nL', z'⟩ := X
  obtain ⟨⟨hx, hb, hml, hown, hts⟩, hK, hA, hlk, rfl, hr, rfl, rfl, hU, hN, htr, hNb⟩ := C
  intro H locs ls hl hP hD hS
  subst hj
  have e1 : (nI k).toNatClampNeg = k := nI_clamp (by omega)
  refine va_zast hx hb hK hP hD hS i 1 (zw_ate hi he) rfl (vp_in_nI hk hn) d (fun H1 locs1 hP1 hD1 hS1 => ?_)
  rw [e1, zw_set hi] at hP1 hD1
  exact kk H1 locs1 ls hl hP1 hD1 hS1
theorem zj_last {X : zj_T} {z : zv_T} {cc : ByteArray} {nL : Nat} {own : String} {rm : Room} {ret : Option FieldType} (C : zj_C X z cc nL own rm ret) {cells slots : Nat} {Q : State → Prop} {ad : Nat → Nat} {N : Nat} {g : Nat → va_E} {pc : Nat} {L : List (Nat × Value)} {st : List Value} {i n k : Nat} {f : Nat → Int64} {j : Int32} {x : Int64} (hi : i < N) (he : g i = ze_l z n f) (hj : j = nI k) (hk : k < n) (hn : n < 2 ^ 31) (d : decode cc pc = .ok (.lastore, 1))
    (kk : zj_J X cells slots Q ad N (va_up g i (ze_l z n (vp_updL f k x))) (pc + 1) L st) : zj_J X cells slots Q ad N g pc L (.long x :: .int j :: .ref (ad i) :: st) := by
  obtain ⟨p, l, e, R, s, m, args, below, meth, c, nL', z'⟩ := X
  obtain ⟨⟨hx, hb, hml, hown, hts⟩, hK, hA, hlk, rfl, hr, rfl, rfl, hU, hN, htr, hNb⟩ := C
  intro H locs ls hl hP hD hS
  subst hj
  have e1 : (nI k).toNatClampNeg = k := nI_clamp (by omega)
  refine va_last hx hb hK hP hD hS i 2 (zw_ate hi he) rfl (vp_in_nI hk hn) d (fun H1 locs1 hP1 hD1 hS1 => ?_)
  rw [e1, zw_set hi] at hP1 hD1
  exact kk H1 locs1 ls hl hP1 hD1 hS1
theorem zj_uast {X : zj_T} {z : zv_T} {cc : ByteArray} {nL : Nat} {own : String} {rm : Room} {ret : Option FieldType} (C : zj_C X z cc nL own rm ret) {cells slots : Nat} {Q : State → Prop} {ad : Nat → Nat} {N : Nat} {g : Nat → va_E} {pc : Nat} {L : List (Nat × Value)} {st : List Value} {i n k v : Nat} {f : Nat → Option Nat} {j : Int32} {vs : List Value} (hi : i < N) (he : g i = ze_u z n f) (hj : j = nI k) (hk : k < n) (hn : n < 2 ^ 31) (hv : v < N) (hve : g v = ze_o 5 vs) (d : decode cc pc = .ok (.aastore, 1))
    (kk : zj_J X cells slots Q ad N (va_up g i (ze_u z n (va_up f k (some (ad v))))) (pc + 1) L st) : zj_J X cells slots Q ad N g pc L (.ref (ad v) :: .int j :: .ref (ad i) :: st) := by
  obtain ⟨p, l, e, R, s, m, args, below, meth, c, nL', z'⟩ := X
  obtain ⟨⟨hx, hb, hml, hown, hts⟩, hK, hA, hlk, rfl, hr, rfl, rfl, hU, hN, htr, hNb⟩ := C
  intro H locs ls hl hP hD hS
  subst hj
  have e1 : (nI k).toNatClampNeg = k := nI_clamp (by omega)
  refine va_astq hx hb hK hP hD hS i 3 v 5 (zw_ate hi he) rfl (zw_ate hv hve) rfl (vp_in_nI hk hn) d (fun H1 locs1 hP1 hD1 hS1 => ?_)
  rw [e1, zw_set hi] at hP1 hD1
  exact kk H1 locs1 ls hl hP1 hD1 hS1
theorem zj_past {X : zj_T} {z : zv_T} {cc : ByteArray} {nL : Nat} {own : String} {rm : Room} {ret : Option FieldType} (C : zj_C X z cc nL own rm ret) {cells slots : Nat} {Q : State → Prop} {ad : Nat → Nat} {N : Nat} {g : Nat → va_E} {pc : Nat} {L : List (Nat × Value)} {st : List Value} {i n k v : Nat} {f : Nat → Option Nat} {j : Int32} {vs : List Value} (hi : i < N) (he : g i = ze_p z n f) (hj : j = nI k) (hk : k < n) (hn : n < 2 ^ 31) (hv : v < N) (hve : g v = ze_o 3 vs) (d : decode cc pc = .ok (.aastore, 1))
    (kk : zj_J X cells slots Q ad N (va_up g i (ze_p z n (va_up f k (some (ad v))))) (pc + 1) L st) : zj_J X cells slots Q ad N g pc L (.ref (ad v) :: .int j :: .ref (ad i) :: st) := by
  obtain ⟨p, l, e, R, s, m, args, below, meth, c, nL', z'⟩ := X
  obtain ⟨⟨hx, hb, hml, hown, hts⟩, hK, hA, hlk, rfl, hr, rfl, rfl, hU, hN, htr, hNb⟩ := C
  intro H locs ls hl hP hD hS
  subst hj
  have e1 : (nI k).toNatClampNeg = k := nI_clamp (by omega)
  refine va_astq hx hb hK hP hD hS i 4 v 3 (zw_ate hi he) rfl (zw_ate hv hve) rfl (vp_in_nI hk hn) d (fun H1 locs1 hP1 hD1 hS1 => ?_)
  rw [e1, zw_set hi] at hP1 hD1
  exact kk H1 locs1 ls hl hP1 hD1 hS1
theorem zj_get {X : zj_T} {z : zv_T} {cc : ByteArray} {nL : Nat} {own : String} {rm : Room} {ret : Option FieldType} (C : zj_C X z cc nL own rm ret) {cells slots : Nat} {Q : State → Prop} {ad : Nat → Nat} {N : Nat} {g : Nat → va_E} {pc : Nat} {L : List (Nat × Value)} {st : List Value} {i ci k index M : Nat} {fs : List Value} {v : Value} {CC ref : String} {T : u_T} (hi : i < N) (he : g i = ze_o ci fs) (hc : zc_l[ci]? = some (CC, T, M)) (hk : k < M) (hin : ∀ w ∈ u_ws CC T M, w ∈ zt_tbl) (hlink : Cond.fieldLink own index ref (T k).2.1 (T k).2.2.1 ∈ zt_tbl) (href : (T k).1 = ref) (hv : fs[k]? = some v) (d : decode cc pc = .ok (.getfield index, 3))
    (kk : zj_J X cells slots Q ad N g (pc + 3) L (v :: st)) : zj_J X cells slots Q ad N g pc L (.ref (ad i) :: st) := by
  obtain ⟨p, l, e, R, s, m, args, below, meth, c, nL', z'⟩ := X
  obtain ⟨⟨hx, hb, hml, hown, hts⟩, hK, hA, hlk, rfl, hr, rfl, rfl, hU, hN, htr, hNb⟩ := C
  intro H locs ls hl hP hD hS
  exact va_get hx hb hts hin hown hK hP i (zw_ate hi he) hc k hk (hts _ hlink) (fun x h => by rw [← href]; exact h) hv d (kk H locs ls hl hP hD hS)
theorem zj_put {X : zj_T} {z : zv_T} {cc : ByteArray} {nL : Nat} {own : String} {rm : Room} {ret : Option FieldType} (C : zj_C X z cc nL own rm ret) {cells slots : Nat} {Q : State → Prop} {ad : Nat → Nat} {N : Nat} {g : Nat → va_E} {pc : Nat} {L : List (Nat × Value)} {st : List Value} {i ci k index M : Nat} {fs : List Value} {v : Value} {CC ref : String} {T : u_T} {ty : FieldType} (hi : i < N) (he : g i = ze_o ci fs) (hc : zc_l[ci]? = some (CC, T, M)) (hk : k < M) (hin : ∀ w ∈ u_ws CC T M, w ∈ zt_tbl) (hlink : Cond.fieldLink own index ref (T k).2.1 (T k).2.2.1 ∈ zt_tbl) (href : (T k).1 = ref) (ty0 : Nat → FieldType) (hty : ∀ k, k < M → parseFieldDescriptor (T k).2.2.1 = some (ty0 k)) (hnm : ∀ a, a < M → ∀ b, b < M → a ≠ b → (T a).2.1 ≠ (T b).2.1) (hd : ty0 k = ty) (hn : narrow ty v = v) (hfit : fits ty v = true) (hlf : k < fs.length) (hfin : (T k).2.2.2 = false) (d : decode cc pc = .ok (.putfield index, 3))
    (kk : zj_J X cells slots Q ad N (va_up g i (ze_o ci (fs.set k v))) (pc + 3) L st) : zj_J X cells slots Q ad N g pc L (v :: .ref (ad i) :: st) := by
  obtain ⟨p, l, e, R, s, m, args, below, meth, c, nL', z'⟩ := X
  obtain ⟨⟨hx, hb, hml, hown, hts⟩, hK, hA, hlk, rfl, hr, rfl, rfl, hU, hN, htr, hNb⟩ := C
  intro H locs ls hl hP hD hS
  refine va_put hx hb hts hin ty0 hty hnm hown hK hP hD hS i (zw_ate hi he) hc k hk (hts _ hlink) (fun x h => by rw [← href]; exact h) hfin (by rw [hty k hk, hd]) hn hfit hlf d (fun H1 locs1 hP1 hD1 hS1 => ?_)
  rw [zw_set hi] at hP1 hD1
  exact kk H1 locs1 ls hl hP1 hD1 hS1
theorem zj_mmax {X : zj_T} {z : zv_T} {cc : ByteArray} {nL : Nat} {own : String} {rm : Room} {ret : Option FieldType} (C : zj_C X z cc nL own rm ret) {cells slots : Nat} {Q : State → Prop} {ad : Nat → Nat} {N : Nat} {g : Nat → va_E} {pc : Nat} {L : List (Nat × Value)} {st : List Value} {index : Nat} {x y : Int32} (h1 : Cond.methodLink own index Lib.Math.max.name ∈ zt_tbl) (h2 : Cond.static Lib.Math.max.name ∈ zt_tbl) (h3 : Cond.initialized "java/lang/Math" ∈ zt_tbl) (h4 : Cond.code Lib.Math.max.name Lib.Math.max.code 2 (some .int) ∈ zt_tbl) (hR : 1 ≤ rm.frames ∧ (st.map fun v => v.category).sum + 13 ≤ rm.locals) (hcs : cells ≤ rm.cells ∧ slots ≤ rm.slots) (d : decode cc pc = .ok (.invokestatic index, 3))
    (kk : zj_J X cells slots Q ad N g (pc + 3) L (.int (if x < y then y else x) :: st)) : zj_J X cells slots Q ad N g pc L (.int y :: .int x :: st) := by
  obtain ⟨p, l, e, R, s, m, args, below, meth, c, nL', z'⟩ := X
  obtain ⟨⟨hx, hb, hml, hown, hts⟩, hK, hA, hlk, rfl, hr, rfl, rfl, hU, hN, htr, hNb⟩ := C
  intro H locs ls hl hP hD hS
  exact va_mmax hx hb (hml.trans hl.1.symm) hown (hts _ h1) (hts _ h2) (hts _ h3) (hts _ h4) hR.1 hR.2 hcs.1 hcs.2 d (kk H locs ls hl hP hD hS)
theorem zj_mmin {X : zj_T} {z : zv_T} {cc : ByteArray} {nL : Nat} {own : String} {rm : Room} {ret : Option FieldType} (C : zj_C X z cc nL own rm ret) {cells slots : Nat} {Q : State → Prop} {ad : Nat → Nat} {N : Nat} {g : Nat → va_E} {pc : Nat} {L : List (Nat × Value)} {st : List Value} {index : Nat} {x y : Int32} (h1 : Cond.methodLink own index Lib.Math.min.name ∈ zt_tbl) (h2 : Cond.static Lib.Math.min.name ∈ zt_tbl) (h3 : Cond.initialized "java/lang/Math" ∈ zt_tbl) (h4 : Cond.code Lib.Math.min.name Lib.Math.min.code 2 (some .int) ∈ zt_tbl) (hR : 1 ≤ rm.frames ∧ (st.map fun v => v.category).sum + 13 ≤ rm.locals) (hcs : cells ≤ rm.cells ∧ slots ≤ rm.slots) (d : decode cc pc = .ok (.invokestatic index, 3))
    (kk : zj_J X cells slots Q ad N g (pc + 3) L (.int (if y < x then y else x) :: st)) : zj_J X cells slots Q ad N g pc L (.int y :: .int x :: st) := by
  obtain ⟨p, l, e, R, s, m, args, below, meth, c, nL', z'⟩ := X
  obtain ⟨⟨hx, hb, hml, hown, hts⟩, hK, hA, hlk, rfl, hr, rfl, rfl, hU, hN, htr, hNb⟩ := C
  intro H locs ls hl hP hD hS
  exact va_mmin hx hb (hml.trans hl.1.symm) hown (hts _ h1) (hts _ h2) (hts _ h3) (hts _ h4) hR.1 hR.2 hcs.1 hcs.2 d (kk H locs ls hl hP hD hS)
theorem zj_new {X : zj_T} {z : zv_T} {cc : ByteArray} {nL : Nat} {own : String} {rm : Room} {ret : Option FieldType} (C : zj_C X z cc nL own rm ret) {cells slots : Nat} {Q : State → Prop} {ad : Nat → Nat} {N : Nat} {g : Nat → va_E} {pc : Nat} {L : List (Nat × Value)} {st : List Value} {ci index M : Nat} {CC : String} {T : u_T} (fs : List Value) (hc : zc_l[ci]? = some (CC, T, M)) (hin : ∀ w ∈ u_ws CC T M, w ∈ zt_tbl) (ty0 : Nat → FieldType) (hty : ∀ k, k < M → parseFieldDescriptor (T k).2.2.1 = some (ty0 k)) (h1 : Cond.classLink own index CC ∈ zt_tbl) (h2 : Cond.instantiable CC M ∈ zt_tbl) (h3 : Cond.initialized CC ∈ zt_tbl) (hfs : ∀ j, j < M → defaultValue (ty0 j) = vp_V fs j) (hcs : cells + 1 ≤ rm.cells ∧ slots + M ≤ rm.slots) (d : decode cc pc = .ok (.new index, 3))
    (kk : ∀ ad1 : Nat → Nat, (∀ j, j < N → ad j = ad1 j) → zj_J X (cells + 1) (slots + M) Q ad1 (N + 1) (va_up g N (ze_o ci fs)) (pc + 3) L (.ref (ad1 N) :: st)) : zj_J X cells slots Q ad N g pc L st := by
  obtain ⟨p, l, e, R, s, m, args, below, meth, c, nL', z'⟩ := X
  obtain ⟨⟨hx, hb, hml, hown, hts⟩, hK, hA, hlk, rfl, hr, rfl, rfl, hU, hN, htr, hNb⟩ := C
  intro H locs ls hl hP hD hS
  refine va_new (ci := ci) (fs := fs) hx hb hts hin ty0 hty hown (hts _ h1) (hts _ h2) (hts _ h3) hK hP hD hS hA hc hfs hcs.1 hcs.2 d (fun q H1 hP1 hD1 hS1 => ?_)
  rw [zw_push] at hP1 hD1
  have h := kk (va_up ad N q) (fun j hj => (va_up_ne _ _ (by omega)).symm) H1 locs ls hl hP1 hD1 hS1
  rw [va_up_self] at h
  exact h
theorem zj_newi {X : zj_T} {z : zv_T} {cc : ByteArray} {nL : Nat} {own : String} {rm : Room} {ret : Option FieldType} (C : zj_C X z cc nL own rm ret) {cells slots : Nat} {Q : State → Prop} {ad : Nat → Nat} {N : Nat} {g : Nat → va_E} {pc : Nat} {L : List (Nat × Value)} {st : List Value} {n : Int32} {k : Nat} {at9 : ArrayType} (hat : newarray.typeOf at9 = .int) (h1 : Cond.arrayClass .int ∈ zt_tbl) (hn : n = nI k) (hk : k < 65536) (hcs : cells + 1 ≤ rm.cells ∧ slots + k ≤ rm.slots) (d : decode cc pc = .ok (.newarray at9, 2))
    (kk : ∀ ad1 : Nat → Nat, (∀ j, j < N → ad j = ad1 j) → zj_J X (cells + 1) (slots + k) Q ad1 (N + 1) (va_up g N (ze_i z k (fun _ => 0))) (pc + 2) L (.ref (ad1 N) :: st)) : zj_J X cells slots Q ad N g pc L (.int n :: st) := by
  obtain ⟨p, l, e, R, s, m, args, below, meth, c, nL', z'⟩ := X
  obtain ⟨⟨hx, hb, hml, hown, hts⟩, hK, hA, hlk, rfl, hr, rfl, rfl, hU, hN, htr, hNb⟩ := C
  intro H locs ls hl hP hD hS
  subst hn
  refine va_newa (ty := .int) (N' := k) (a0 := (k, .inl (fun _ => 0))) hx hb (by rw [hat]; exact hts _ h1) hat hK hP hD hS hA (fun cA => rfl) (nI_pos (by omega)) (nI_clamp (by omega)) (by show k * _ ≤ _; simp [componentBytes]; omega) hcs.1 hcs.2 d (fun q cA H1 hK1 hP1 hD1 hS1 => ?_)
  have e1 := (hK1.2 5 (cA, .int) rfl).2
  have e2 := (hK.2 0 _ rfl).2
  have e3 : cA = zv_I _ := Option.some.inj (e1.symm.trans e2)
  subst e3
  rw [zw_push] at hP1 hD1
  have h := kk (va_up ad N q) (fun j hj => (va_up_ne _ _ (by omega)).symm) H1 locs ls hl hP1 hD1 hS1
  rw [va_up_self] at h
  exact h
theorem zj_newz {X : zj_T} {z : zv_T} {cc : ByteArray} {nL : Nat} {own : String} {rm : Room} {ret : Option FieldType} (C : zj_C X z cc nL own rm ret) {cells slots : Nat} {Q : State → Prop} {ad : Nat → Nat} {N : Nat} {g : Nat → va_E} {pc : Nat} {L : List (Nat × Value)} {st : List Value} {n : Int32} {k : Nat} {at9 : ArrayType} (hat : newarray.typeOf at9 = .boolean) (h1 : Cond.arrayClass .boolean ∈ zt_tbl) (hn : n = nI k) (hk : k < 65536) (hcs : cells + 1 ≤ rm.cells ∧ slots + k ≤ rm.slots) (d : decode cc pc = .ok (.newarray at9, 2))
    (kk : ∀ ad1 : Nat → Nat, (∀ j, j < N → ad j = ad1 j) → zj_J X (cells + 1) (slots + k) Q ad1 (N + 1) (va_up g N (ze_z z k (fun _ => 0))) (pc + 2) L (.ref (ad1 N) :: st)) : zj_J X cells slots Q ad N g pc L (.int n :: st) := by
  obtain ⟨p, l, e, R, s, m, args, below, meth, c, nL', z'⟩ := X
  obtain ⟨⟨hx, hb, hml, hown, hts⟩, hK, hA, hlk, rfl, hr, rfl, rfl, hU, hN, htr, hNb⟩ := C
  intro H locs ls hl hP hD hS
  subst hn
  refine va_newa (ty := .boolean) (N' := k) (a0 := (k, .inl (fun _ => 0))) hx hb (by rw [hat]; exact hts _ h1) hat hK hP hD hS hA (fun cA => rfl) (nI_pos (by omega)) (nI_clamp (by omega)) (by show k * _ ≤ _; simp [componentBytes]; omega) hcs.1 hcs.2 d (fun q cA H1 hK1 hP1 hD1 hS1 => ?_)
  have e1 := (hK1.2 5 (cA, .boolean) rfl).2
  have e2 := (hK.2 1 _ rfl).2
  have e3 : cA = zv_Z _ := Option.some.inj (e1.symm.trans e2)
  subst e3
  rw [zw_push] at hP1 hD1
  have h := kk (va_up ad N q) (fun j hj => (va_up_ne _ _ (by omega)).symm) H1 locs ls hl hP1 hD1 hS1
  rw [va_up_self] at h
  exact h
theorem zj_newl {X : zj_T} {z : zv_T} {cc : ByteArray} {nL : Nat} {own : String} {rm : Room} {ret : Option FieldType} (C : zj_C X z cc nL own rm ret) {cells slots : Nat} {Q : State → Prop} {ad : Nat → Nat} {N : Nat} {g : Nat → va_E} {pc : Nat} {L : List (Nat × Value)} {st : List Value} {n : Int32} {k : Nat} {at9 : ArrayType} (hat : newarray.typeOf at9 = .long) (h1 : Cond.arrayClass .long ∈ zt_tbl) (hn : n = nI k) (hk : k < 65536) (hcs : cells + 1 ≤ rm.cells ∧ slots + k ≤ rm.slots) (d : decode cc pc = .ok (.newarray at9, 2))
    (kk : ∀ ad1 : Nat → Nat, (∀ j, j < N → ad j = ad1 j) → zj_J X (cells + 1) (slots + k) Q ad1 (N + 1) (va_up g N (ze_l z k (fun _ => 0))) (pc + 2) L (.ref (ad1 N) :: st)) : zj_J X cells slots Q ad N g pc L (.int n :: st) := by
  obtain ⟨p, l, e, R, s, m, args, below, meth, c, nL', z'⟩ := X
  obtain ⟨⟨hx, hb, hml, hown, hts⟩, hK, hA, hlk, rfl, hr, rfl, rfl, hU, hN, htr, hNb⟩ := C
  intro H locs ls hl hP hD hS
  subst hn
  refine va_newa (ty := .long) (N' := k) (a0 := (k, .inr (.inl (fun _ => 0)))) hx hb (by rw [hat]; exact hts _ h1) hat hK hP hD hS hA (fun cA => rfl) (nI_pos (by omega)) (nI_clamp (by omega)) (by show k * _ ≤ _; simp [componentBytes]; omega) hcs.1 hcs.2 d (fun q cA H1 hK1 hP1 hD1 hS1 => ?_)
  have e1 := (hK1.2 5 (cA, .long) rfl).2
  have e2 := (hK.2 2 _ rfl).2
  have e3 : cA = zv_L _ := Option.some.inj (e1.symm.trans e2)
  subst e3
  rw [zw_push] at hP1 hD1
  have h := kk (va_up ad N q) (fun j hj => (va_up_ne _ _ (by omega)).symm) H1 locs ls hl hP1 hD1 hS1
  rw [va_up_self] at h
  exact h
end ZJ
end
section
section ZM
/-- the world as a state has it -/
def zj_B (z : zv_T) (ad : Nat → Nat) (N : Nat) (g : Nat → va_E) (U : State) : Prop :=
  va_P (zv_D z) zc_l (zw_W ad N g) U.heap ∧ va_K (zv_D z) zc_l (zv_t z) U ∧ va_D (zv_A z) (zw_W ad N g) ∧ (∀ q, U.heap.size ≤ q → zv_A z q) ∧ vx_Zq Bundle.tN "UNASSIGNED_STACK" Bundle.steD (zv_A z) U U.heap ∧ vx_Zq Bundle.tN "SUPPRESSED_SENTINEL" Bundle.listD (zv_A z) U U.heap ∧ zb_N U
theorem zb_end {z : zv_T} {ad : Nat → Nat} {N : Nat} {g : Nat → va_E} {s t : State} {H : Heap} {locs : List Loc} (hK : va_K (zv_D z) zc_l (zv_t z) s) (hA : ∀ q, s.heap.size ≤ q → zv_A z q) (hU : vx_Zq Bundle.tN "UNASSIGNED_STACK" Bundle.steD (zv_A z) s s.heap) (hN : vx_Zq Bundle.tN "SUPPRESSED_SENTINEL" Bundle.listD (zv_A z) s s.heap) (hNb : zb_N s)
    (hP : va_P (zv_D z) zc_l (zw_W ad N g) H) (hD : va_D (zv_A z) (zw_W ad N g)) (hS : va_S (zv_A z) s.heap H locs) (ht : t.heap = H) (hvm : s.vm.Alike t.vm) : zj_B z ad N g t := by
  subst ht
  exact ⟨hP, va_K.moved hvm hK, hD, fun q h => hA q (Nat.le_trans hS.1 h), vx_Zq.moved hvm (hU.kept hS.2.1), vx_Zq.moved hvm (hN.kept hS.2.1), zb_N.moved hvm hNb⟩
theorem zb_blind {z : zv_T} {ad : Nat → Nat} {N : Nat} {g : Nat → va_E} {av : List Value} : FrameBlind (va_Pc av (zj_B z ad N g)) := by
  intro a U g' mk h
  obtain ⟨h0, hP, hK, hD, hA, hU, hN, hNb⟩ := h
  exact ⟨h0, hP, va_K.moved (u := U) (U := U.calling g' mk a) (Vm.Alike.refl U.vm) hK, hD, hA, vx_Zq.moved (u := U) (U := U.calling g' mk a) (Vm.Alike.refl U.vm) hU, vx_Zq.moved (u := U) (U := U.calling g' mk a) (Vm.Alike.refl U.vm) hN, zb_N.moved (u := U) (U := U.calling g' mk a) (Vm.Alike.refl U.vm) hNb⟩
/-- contracts: an int, nothing, a cell of the world; none is made -/
def zm_i (l : Launch) (y : MethodName) (ws : List Cond) (rm : Room) (z : zv_T) (ad : Nat → Nat) (N : Nat) (g : Nat → va_E) (av : List Value) (post : Int32 → (Nat → va_E) → Prop) : Prop :=
  Met l y ws rm (va_Pc av (zj_B z ad N g)) (va_Qi post (fun g' t => zj_B z ad N g' t) (zv_A z)) 0 0 (zv_A z)
def zm_v (l : Launch) (y : MethodName) (ws : List Cond) (rm : Room) (z : zv_T) (ad : Nat → Nat) (N : Nat) (g : Nat → va_E) (av : List Value) (post : (Nat → va_E) → Prop) : Prop :=
  Met l y ws rm (va_Pc av (zj_B z ad N g)) (va_Qv post (fun g' t => zj_B z ad N g' t) (zv_A z)) 0 0 (zv_A z)
def zm_r (l : Launch) (y : MethodName) (ws : List Cond) (rm : Room) (z : zv_T) (ad : Nat → Nat) (N : Nat) (g : Nat → va_E) (av : List Value) (post : Nat → (Nat → va_E) → Prop) : Prop :=
  Met l y ws rm (va_Pc av (zj_B z ad N g)) (va_Qr (fun u : Nat × (Nat → va_E) => post u.1 u.2) (fun u a t => a = ad u.1 ∧ zj_B z ad N u.2 t) (zv_A z)) 0 0 (zv_A z)
/-- a constructor: cells come -/
def zm_c (l : Launch) (y : MethodName) (ws : List Cond) (rm : Room) (z : zv_T) (ad : Nat → Nat) (N : Nat) (g : Nat → va_E) (av : List Value) (mc ms : Nat) (post : (Nat → Nat) → Nat → (Nat → va_E) → Prop) : Prop :=
  Met l y ws rm (va_Pc av (zj_B z ad N g)) (va_Qv (fun u : (Nat → Nat) × Nat × (Nat → va_E) => post u.1 u.2.1 u.2.2) (fun u t => zj_B z u.1 u.2.1 u.2.2 t) (zv_A z)) mc ms (zv_A z)
def zj_Qi (X : zj_T) (mc ms : Nat) (ad : Nat → Nat) (N : Nat) (post : Int32 → (Nat → va_E) → Prop) : State → Prop := match X with
  | (_, _, _, _, s, _, args, below, _, _, _, z) => MQ below (va_Qi post (fun g' t => zj_B z ad N g' t) (zv_A z)) args s mc ms (zv_A z)
def zj_Qv (X : zj_T) (mc ms : Nat) (ad : Nat → Nat) (N : Nat) (post : (Nat → va_E) → Prop) : State → Prop := match X with
  | (_, _, _, _, s, _, args, below, _, _, _, z) => MQ below (va_Qv post (fun g' t => zj_B z ad N g' t) (zv_A z)) args s mc ms (zv_A z)
def zj_Qr (X : zj_T) (mc ms : Nat) (ad : Nat → Nat) (N : Nat) (post : Nat → (Nat → va_E) → Prop) : State → Prop := match X with
  | (_, _, _, _, s, _, args, below, _, _, _, z) => MQ below (va_Qr (fun u : Nat × (Nat → va_E) => post u.1 u.2) (fun u a t => a = ad u.1 ∧ zj_B z ad N u.2 t) (zv_A z)) args s mc ms (zv_A z)
def zj_Qc (X : zj_T) (mc ms : Nat) (post : (Nat → Nat) → Nat → (Nat → va_E) → Prop) : State → Prop := match X with
  | (_, _, _, _, s, _, args, below, _, _, _, z) => MQ below (va_Qv (fun u : (Nat → Nat) × Nat × (Nat → va_E) => post u.1 u.2.1 u.2.2) (fun u t => zj_B z u.1 u.2.1 u.2.2 t) (zv_A z)) args s mc ms (zv_A z)
theorem zj_iret {X : zj_T} {z : zv_T} {cc : ByteArray} {nL : Nat} {own : String} {rm : Room} (C : zj_C X z cc nL own rm (some .int)) {mc ms : Nat} {ad : Nat → Nat} {N : Nat} {g : Nat → va_E} {pc : Nat} {L : List (Nat × Value)} {x : Int32} {post : Int32 → (Nat → va_E) → Prop} (d : decode cc pc = .ok (.ireturn, 1)) (h : post x g) : zj_J X mc ms (zj_Qi X mc ms ad N post) ad N g pc L [.int x] := by
  obtain ⟨p, l, e, R, s, m, args, below, meth, c, nL', z'⟩ := X
  obtain ⟨⟨hx, hb, hml, hown, hts⟩, hK, hA, hlk, rfl, hr, rfl, rfl, hU, hN, htr, hNb⟩ := C
  intro H locs ls hl hP hD hS
  exact W.iret hx hb hr (fun t ht hW => ⟨⟨x, g, rfl, h, zb_end hK hA hU hN hNb hP hD hS ht hW.alike⟩, hS.F ht⟩) hS.2.2 d hlk
theorem zj_zret {X : zj_T} {z : zv_T} {cc : ByteArray} {nL : Nat} {own : String} {rm : Room} (C : zj_C X z cc nL own rm (some .boolean)) {mc ms : Nat} {ad : Nat → Nat} {N : Nat} {g : Nat → va_E} {pc : Nat} {L : List (Nat × Value)} {x : Int32} {post : Int32 → (Nat → va_E) → Prop} (d : decode cc pc = .ok (.ireturn, 1)) (hn : narrow .boolean (.int x) = .int x) (h : post x g) : zj_J X mc ms (zj_Qi X mc ms ad N post) ad N g pc L [.int x] := by
  obtain ⟨p, l, e, R, s, m, args, below, meth, c, nL', z'⟩ := X
  obtain ⟨⟨hx, hb, hml, hown, hts⟩, hK, hA, hlk, rfl, hr, rfl, rfl, hU, hN, htr, hNb⟩ := C
  intro H locs ls hl hP hD hS
  exact W.zret hx hb hr hn (fun t ht hW => ⟨⟨x, g, rfl, h, zb_end hK hA hU hN hNb hP hD hS ht hW.alike⟩, hS.F ht⟩) hS.2.2 d hlk
theorem zj_vret {X : zj_T} {z : zv_T} {cc : ByteArray} {nL : Nat} {own : String} {rm : Room} (C : zj_C X z cc nL own rm none) {mc ms : Nat} {ad : Nat → Nat} {N : Nat} {g : Nat → va_E} {pc : Nat} {L : List (Nat × Value)} {post : (Nat → va_E) → Prop} (d : decode cc pc = .ok (.return_, 1)) (h : post g) : zj_J X mc ms (zj_Qv X mc ms ad N post) ad N g pc L [] := by
  obtain ⟨p, l, e, R, s, m, args, below, meth, c, nL', z'⟩ := X
  obtain ⟨⟨hx, hb, hml, hown, hts⟩, hK, hA, hlk, rfl, hr, rfl, rfl, hU, hN, htr, hNb⟩ := C
  intro H locs ls hl hP hD hS
  exact W.vret hx hb hr (fun t ht hW => ⟨⟨g, rfl, h, zb_end hK hA hU hN hNb hP hD hS ht hW.alike⟩, hS.F ht⟩) hS.2.2 d hlk
theorem zj_cret {X : zj_T} {z : zv_T} {cc : ByteArray} {nL : Nat} {own : String} {rm : Room} (C : zj_C X z cc nL own rm none) {mc ms : Nat} {ad : Nat → Nat} {N : Nat} {g : Nat → va_E} {pc : Nat} {L : List (Nat × Value)} {post : (Nat → Nat) → Nat → (Nat → va_E) → Prop} (d : decode cc pc = .ok (.return_, 1)) (h : post ad N g) : zj_J X mc ms (zj_Qc X mc ms post) ad N g pc L [] := by
  obtain ⟨p, l, e, R, s, m, args, below, meth, c, nL', z'⟩ := X
  obtain ⟨⟨hx, hb, hml, hown, hts⟩, hK, hA, hlk, rfl, hr, rfl, rfl, hU, hN, htr, hNb⟩ := C
  intro H locs ls hl hP hD hS
  exact W.vret hx hb hr (fun t ht hW => ⟨⟨(ad, N, g), rfl, h, zb_end hK hA hU hN hNb hP hD hS ht hW.alike⟩, hS.F ht⟩) hS.2.2 d hlk
theorem zj_aret {rt : String} {X : zj_T} {z : zv_T} {cc : ByteArray} {nL : Nat} {own : String} {rm : Room} (C : zj_C X z cc nL own rm (some (.object rt))) {mc ms : Nat} {ad : Nat → Nat} {N : Nat} {g : Nat → va_E} {pc : Nat} {L : List (Nat × Value)} {k : Nat} {post : Nat → (Nat → va_E) → Prop} (d : decode cc pc = .ok (.areturn, 1)) (h : post k g) : zj_J X mc ms (zj_Qr X mc ms ad N post) ad N g pc L [.ref (ad k)] := by
  obtain ⟨p, l, e, R, s, m, args, below, meth, c, nL', z'⟩ := X
  obtain ⟨⟨hx, hb, hml, hown, hts⟩, hK, hA, hlk, rfl, hr, rfl, rfl, hU, hN, htr, hNb⟩ := C
  intro H locs ls hl hP hD hS
  exact W.aret hx hb hr (Or.inl ⟨_, rfl⟩) (Or.inr ⟨_, rfl⟩) (fun t ht hW => ⟨⟨(k, g), ad k, rfl, h, rfl, zb_end hK hA hU hN hNb hP hD hS ht hW.alike⟩, hS.F ht⟩) hS.2.2 d hlk
theorem zm_ofi {l : Launch} {y : MethodName} {ws : List Cond} {rm : Room} {z : zv_T} {ad : Nat → Nat} {N : Nat} {g : Nat → va_E} {av : List Value} {post : Int32 → (Nat → va_E) → Prop} {cc : ByteArray} {nL : Nat} (hst : l.stackTraces = false) (hy : plainName y.cls = true) (hw' : ws = Cond.code y cc nL (some .int) :: zt_tbl) (hlen : (lg_sl av).length ≤ nL)
    (body : ∀ X : zj_T, X.2.1 = l → zj_C X z cc nL y.cls rm (some .int) → zj_J X 0 0 (zj_Qi X 0 0 ad N post) ad N g 0 (lv_args 0 av) []) : zm_i l y ws rm z ad N g av  post := by
  refine Met.ofW (cc := cc) (maxL := nL) (ret := (some .int)) hy hw' ?_
  intro p e s m args below meth c s₁ B hml hv
  obtain ⟨rfl, hP, hK, hD, hA, hU, hN, hNb⟩ := hv
  have hown : s.vm.findClass y.cls = some m.cls := findClass_of_methodNamed B.named
  have h := body (p, l, e, (headSpec ws rm).room, s, m, av.toArray, below, meth, c, nL, z) rfl ⟨⟨B.exec, B.bytes, hml, hown, fun w hw => atoms_spec (ws := ws) B.pre w (by rw [hw']; exact List.mem_cons_of_mem _ hw)⟩, hK, hA, B.notSynchronized, rfl, B.returns, rfl, rfl, hU, hN, hst, hNb⟩
  rw [lg_entry_eq]
  exact h s.heap [] _ (lv_entry av hlen) hP hD va_S.rf
theorem zm_ofz {l : Launch} {y : MethodName} {ws : List Cond} {rm : Room} {z : zv_T} {ad : Nat → Nat} {N : Nat} {g : Nat → va_E} {av : List Value} {post : Int32 → (Nat → va_E) → Prop} {cc : ByteArray} {nL : Nat} (hst : l.stackTraces = false) (hy : plainName y.cls = true) (hw' : ws = Cond.code y cc nL (some .boolean) :: zt_tbl) (hlen : (lg_sl av).length ≤ nL)
    (body : ∀ X : zj_T, X.2.1 = l → zj_C X z cc nL y.cls rm (some .boolean) → zj_J X 0 0 (zj_Qi X 0 0 ad N post) ad N g 0 (lv_args 0 av) []) : zm_i l y ws rm z ad N g av  post := by
  refine Met.ofW (cc := cc) (maxL := nL) (ret := (some .boolean)) hy hw' ?_
  intro p e s m args below meth c s₁ B hml hv
  obtain ⟨rfl, hP, hK, hD, hA, hU, hN, hNb⟩ := hv
  have hown : s.vm.findClass y.cls = some m.cls := findClass_of_methodNamed B.named
  have h := body (p, l, e, (headSpec ws rm).room, s, m, av.toArray, below, meth, c, nL, z) rfl ⟨⟨B.exec, B.bytes, hml, hown, fun w hw => atoms_spec (ws := ws) B.pre w (by rw [hw']; exact List.mem_cons_of_mem _ hw)⟩, hK, hA, B.notSynchronized, rfl, B.returns, rfl, rfl, hU, hN, hst, hNb⟩
  rw [lg_entry_eq]
  exact h s.heap [] _ (lv_entry av hlen) hP hD va_S.rf
theorem zm_ofv {l : Launch} {y : MethodName} {ws : List Cond} {rm : Room} {z : zv_T} {ad : Nat → Nat} {N : Nat} {g : Nat → va_E} {av : List Value} {post : (Nat → va_E) → Prop} {cc : ByteArray} {nL : Nat} (hst : l.stackTraces = false) (hy : plainName y.cls = true) (hw' : ws = Cond.code y cc nL none :: zt_tbl) (hlen : (lg_sl av).length ≤ nL)
    (body : ∀ X : zj_T, X.2.1 = l → zj_C X z cc nL y.cls rm none → zj_J X 0 0 (zj_Qv X 0 0 ad N post) ad N g 0 (lv_args 0 av) []) : zm_v l y ws rm z ad N g av  post := by
  refine Met.ofW (cc := cc) (maxL := nL) (ret := none) hy hw' ?_
  intro p e s m args below meth c s₁ B hml hv
  obtain ⟨rfl, hP, hK, hD, hA, hU, hN, hNb⟩ := hv
  have hown : s.vm.findClass y.cls = some m.cls := findClass_of_methodNamed B.named
  have h := body (p, l, e, (headSpec ws rm).room, s, m, av.toArray, below, meth, c, nL, z) rfl ⟨⟨B.exec, B.bytes, hml, hown, fun w hw => atoms_spec (ws := ws) B.pre w (by rw [hw']; exact List.mem_cons_of_mem _ hw)⟩, hK, hA, B.notSynchronized, rfl, B.returns, rfl, rfl, hU, hN, hst, hNb⟩
  rw [lg_entry_eq]
  exact h s.heap [] _ (lv_entry av hlen) hP hD va_S.rf
theorem zm_ofr {l : Launch} {y : MethodName} {ws : List Cond} {rm : Room} {z : zv_T} {ad : Nat → Nat} {N : Nat} {g : Nat → va_E} {av : List Value} {rt : String} {post : Nat → (Nat → va_E) → Prop} {cc : ByteArray} {nL : Nat} (hst : l.stackTraces = false) (hy : plainName y.cls = true) (hw' : ws = Cond.code y cc nL (some (.object rt)) :: zt_tbl) (hlen : (lg_sl av).length ≤ nL)
    (body : ∀ X : zj_T, X.2.1 = l → zj_C X z cc nL y.cls rm (some (.object rt)) → zj_J X 0 0 (zj_Qr X 0 0 ad N post) ad N g 0 (lv_args 0 av) []) : zm_r l y ws rm z ad N g av  post := by
  refine Met.ofW (cc := cc) (maxL := nL) (ret := (some (.object rt))) hy hw' ?_
  intro p e s m args below meth c s₁ B hml hv
  obtain ⟨rfl, hP, hK, hD, hA, hU, hN, hNb⟩ := hv
  have hown : s.vm.findClass y.cls = some m.cls := findClass_of_methodNamed B.named
  have h := body (p, l, e, (headSpec ws rm).room, s, m, av.toArray, below, meth, c, nL, z) rfl ⟨⟨B.exec, B.bytes, hml, hown, fun w hw => atoms_spec (ws := ws) B.pre w (by rw [hw']; exact List.mem_cons_of_mem _ hw)⟩, hK, hA, B.notSynchronized, rfl, B.returns, rfl, rfl, hU, hN, hst, hNb⟩
  rw [lg_entry_eq]
  exact h s.heap [] _ (lv_entry av hlen) hP hD va_S.rf
/-- the method is a constructor -/
def zj_N (X : zj_T) : Prop := match X with
  | (_, _, _, _, _, _, _, _, meth, _, _, _) => meth.name = "<init>"
theorem zm_ofc {l : Launch} {y : MethodName} {ws : List Cond} {rm : Room} {z : zv_T} {ad : Nat → Nat} {N : Nat} {g : Nat → va_E} {av : List Value} {mc ms : Nat} {post : (Nat → Nat) → Nat → (Nat → va_E) → Prop} {cc : ByteArray} {nL : Nat} (hst : l.stackTraces = false) (hyn : y.name = "<init>") (hy : plainName y.cls = true) (hw' : ws = Cond.code y cc nL none :: zt_tbl) (hlen : (lg_sl av).length ≤ nL)
    (body : ∀ X : zj_T, X.2.1 = l → zj_C X z cc nL y.cls rm none → zj_N X → zj_J X 0 0 (zj_Qc X mc ms post) ad N g 0 (lv_args 0 av) []) : zm_c l y ws rm z ad N g av mc ms post := by
  refine Met.ofW (cc := cc) (maxL := nL) (ret := none) hy hw' ?_
  intro p e s m args below meth c s₁ B hml hv
  obtain ⟨rfl, hP, hK, hD, hA, hU, hN, hNb⟩ := hv
  have hown : s.vm.findClass y.cls = some m.cls := findClass_of_methodNamed B.named
  have h := body (p, l, e, (headSpec ws rm).room, s, m, av.toArray, below, meth, c, nL, z) rfl ⟨⟨B.exec, B.bytes, hml, hown, fun w hw => atoms_spec (ws := ws) B.pre w (by rw [hw']; exact List.mem_cons_of_mem _ hw)⟩, hK, hA, B.notSynchronized, rfl, B.returns, rfl, rfl, hU, hN, hst, hNb⟩ ((name_of_methodNamed B.named B.method).1.trans hyn)
  rw [lg_entry_eq]
  exact h s.heap [] _ (lv_entry av hlen) hP hD va_S.rf
theorem zj_Vi {X : zj_T} {z : zv_T} {cc : ByteArray} {nL : Nat} {own : String} {rm : Room} {ret : Option FieldType} (C : zj_C X z cc nL own rm ret) {cells slots : Nat} {Q : State → Prop} {ad : Nat → Nat} {N : Nat} {g : Nat → va_E} {pc : Nat} {L : List (Nat × Value)} {st st0 : List Value} {rt : FieldType} {y : MethodName} {ws ws' : List Cond} {rc : Room} {bytes : ByteArray} {maxL index n i ci : Nat} {CC : String} {T : u_T} {M : Nat} {As fs : List Value} {post : Int32 → (Nat → va_E) → Prop} (hM : zm_i X.2.1 y ws rc z ad N g (.ref (ad i) :: As) post)
    (hG : GoodIn zt_tbl (wsV own index CC y ws)) (hw : ws = Cond.code y bytes maxL (some rt) :: ws') (hrc : rc.cells = 0) (hrs : rc.slots = 0) (hd : y.cls = CC ∧ y.cls ≠ "java/lang/invoke/MethodHandle" ∧ y.cls ≠ "java/lang/invoke/VarHandle" ∧ (parseMethodDescriptor y.desc).map (fun d => d.parameters.length) = some n) (hR : rc.frames + 1 ≤ rm.frames ∧ 8 + (maxL + 11) + rc.locals ≤ rm.locals)
    (hi : i < N) (he : g i = ze_o ci fs) (hc : zc_l[ci]? = some (CC, T, M)) (hn : As.length = n) (hst : st0 = As.reverse ++ .ref (ad i) :: st) (hW : (st.map fun v => v.category).sum ≤ 8) (hcs : cells ≤ rm.cells ∧ slots ≤ rm.slots) (d : decode cc pc = .ok (.invokevirtual index, 3))
    (kk : ∀ (r : Int32) (g1 : Nat → va_E), post r g1 → zj_J X cells slots Q ad N g1 (pc + 3) L (.int r :: st)) : zj_J X cells slots Q ad N g pc L st0 := by
  obtain ⟨p, l, e, R, s, m, args, below, meth, c, nL', z'⟩ := X
  obtain ⟨⟨hx, hb, hml, hown, hts⟩, hK, hA, hlk, rfl, hr, rfl, rfl, hU, hN, htr, hNb⟩ := C
  intro H locs ls hl hP hD hS
  refine va_calli (va_runV (As := As) (rest := st) ⟨hx, hb, hml, hown, hts⟩ hM (cwV n hts hG hw hrc hrs hd hR) ⟨zb_blind, va_recv hK hP hc (zw_ate hi he), fun U h1 h2 => ⟨rfl, zb_end hK hA hU hN hNb hP hD hS h1 h2.alike⟩⟩ rfl hn hl.1 hst (lv_room hW) d hcs) hS (fun q _ h => h) (fun q h => h) (fun r g1 t H1 locs1 ht hvm hq hB hz1 hk1 hS1 => ?_)
  obtain ⟨hP1, hK1, hD1, -⟩ := hB
  rw [ht] at hP1
  exact kk r g1 hq H1 locs1 ls hl hP1 hD1 hS1
theorem zj_Si {X : zj_T} {z : zv_T} {cc : ByteArray} {nL : Nat} {own : String} {rm : Room} {ret : Option FieldType} (C : zj_C X z cc nL own rm ret) {cells slots : Nat} {Q : State → Prop} {ad : Nat → Nat} {N : Nat} {g : Nat → va_E} {pc : Nat} {L : List (Nat × Value)} {st st0 : List Value} {rt : FieldType} {y : MethodName} {ws ws' : List Cond} {rc : Room} {bytes : ByteArray} {maxL index n : Nat} {As : List Value} {post : Int32 → (Nat → va_E) → Prop} (hM : zm_i X.2.1 y ws rc z ad N g As post)
    (hG : GoodIn zt_tbl (wsS own index y ws)) (hw : ws = Cond.code y bytes maxL (some rt) :: ws') (hrc : rc.cells = 0) (hrs : rc.slots = 0) (hd : y.cls = own ∧ y.cls ≠ "java/lang/invoke/MethodHandle" ∧ y.cls ≠ "java/lang/invoke/VarHandle" ∧ (parseMethodDescriptor y.desc).map (fun d => d.parameters.length) = some n) (hR : rc.frames + 1 ≤ rm.frames ∧ 8 + (maxL + 11) + rc.locals ≤ rm.locals)
    (hn : As.length = n) (hst : st0 = As.reverse ++ st) (hW : (st.map fun v => v.category).sum ≤ 8) (hcs : cells ≤ rm.cells ∧ slots ≤ rm.slots) (d : decode cc pc = .ok (.invokestatic index, 3))
    (kk : ∀ (r : Int32) (g1 : Nat → va_E), post r g1 → zj_J X cells slots Q ad N g1 (pc + 3) L (.int r :: st)) : zj_J X cells slots Q ad N g pc L st0 := by
  obtain ⟨p, l, e, R, s, m, args, below, meth, c, nL', z'⟩ := X
  obtain ⟨⟨hx, hb, hml, hown, hts⟩, hK, hA, hlk, rfl, hr, rfl, rfl, hU, hN, htr, hNb⟩ := C
  intro H locs ls hl hP hD hS
  refine va_calli (va_runS (As := As) (rest := st) ⟨hx, hb, hml, hown, hts⟩ hM (cwS n hts hG hw hrc hrs hd hR) ⟨zb_blind, fun U h1 h2 => ⟨rfl, zb_end hK hA hU hN hNb hP hD hS h1 h2.alike⟩⟩ rfl hn hl.1 hst (lv_room hW) d hcs) hS (fun q _ h => h) (fun q h => h) (fun r g1 t H1 locs1 ht hvm hq hB hz1 hk1 hS1 => ?_)
  obtain ⟨hP1, hK1, hD1, -⟩ := hB
  rw [ht] at hP1
  exact kk r g1 hq H1 locs1 ls hl hP1 hD1 hS1
theorem zj_Vv {X : zj_T} {z : zv_T} {cc : ByteArray} {nL : Nat} {own : String} {rm : Room} {ret : Option FieldType} (C : zj_C X z cc nL own rm ret) {cells slots : Nat} {Q : State → Prop} {ad : Nat → Nat} {N : Nat} {g : Nat → va_E} {pc : Nat} {L : List (Nat × Value)} {st st0 : List Value} {y : MethodName} {ws ws' : List Cond} {rc : Room} {bytes : ByteArray} {maxL index n i ci : Nat} {CC : String} {T : u_T} {M : Nat} {As fs : List Value} {post : (Nat → va_E) → Prop} (hM : zm_v X.2.1 y ws rc z ad N g (.ref (ad i) :: As) post)
    (hG : GoodIn zt_tbl (wsV own index CC y ws)) (hw : ws = Cond.code y bytes maxL none :: ws') (hrc : rc.cells = 0) (hrs : rc.slots = 0) (hd : y.cls = CC ∧ y.cls ≠ "java/lang/invoke/MethodHandle" ∧ y.cls ≠ "java/lang/invoke/VarHandle" ∧ (parseMethodDescriptor y.desc).map (fun d => d.parameters.length) = some n) (hR : rc.frames + 1 ≤ rm.frames ∧ 8 + (maxL + 11) + rc.locals ≤ rm.locals)
    (hi : i < N) (he : g i = ze_o ci fs) (hc : zc_l[ci]? = some (CC, T, M)) (hn : As.length = n) (hst : st0 = As.reverse ++ .ref (ad i) :: st) (hW : (st.map fun v => v.category).sum ≤ 8) (hcs : cells ≤ rm.cells ∧ slots ≤ rm.slots) (d : decode cc pc = .ok (.invokevirtual index, 3))
    (kk : ∀ (g1 : Nat → va_E), post g1 → zj_J X cells slots Q ad N g1 (pc + 3) L st) : zj_J X cells slots Q ad N g pc L st0 := by
  obtain ⟨p, l, e, R, s, m, args, below, meth, c, nL', z'⟩ := X
  obtain ⟨⟨hx, hb, hml, hown, hts⟩, hK, hA, hlk, rfl, hr, rfl, rfl, hU, hN, htr, hNb⟩ := C
  intro H locs ls hl hP hD hS
  refine va_callv (va_runV (As := As) (rest := st) ⟨hx, hb, hml, hown, hts⟩ hM (cwV n hts hG hw hrc hrs hd hR) ⟨zb_blind, va_recv hK hP hc (zw_ate hi he), fun U h1 h2 => ⟨rfl, zb_end hK hA hU hN hNb hP hD hS h1 h2.alike⟩⟩ rfl hn hl.1 hst (lv_room hW) d hcs) hS (fun q _ h => h) (fun q h => h) (fun g1 t H1 locs1 ht hvm hq hB hz1 hk1 hS1 => ?_)
  obtain ⟨hP1, hK1, hD1, -⟩ := hB
  rw [ht] at hP1
  exact kk g1 hq H1 locs1 ls hl hP1 hD1 hS1
theorem zj_Sv {X : zj_T} {z : zv_T} {cc : ByteArray} {nL : Nat} {own : String} {rm : Room} {ret : Option FieldType} (C : zj_C X z cc nL own rm ret) {cells slots : Nat} {Q : State → Prop} {ad : Nat → Nat} {N : Nat} {g : Nat → va_E} {pc : Nat} {L : List (Nat × Value)} {st st0 : List Value} {y : MethodName} {ws ws' : List Cond} {rc : Room} {bytes : ByteArray} {maxL index n : Nat} {As : List Value} {post : (Nat → va_E) → Prop} (hM : zm_v X.2.1 y ws rc z ad N g As post)
    (hG : GoodIn zt_tbl (wsS own index y ws)) (hw : ws = Cond.code y bytes maxL none :: ws') (hrc : rc.cells = 0) (hrs : rc.slots = 0) (hd : y.cls = own ∧ y.cls ≠ "java/lang/invoke/MethodHandle" ∧ y.cls ≠ "java/lang/invoke/VarHandle" ∧ (parseMethodDescriptor y.desc).map (fun d => d.parameters.length) = some n) (hR : rc.frames + 1 ≤ rm.frames ∧ 8 + (maxL + 11) + rc.locals ≤ rm.locals)
    (hn : As.length = n) (hst : st0 = As.reverse ++ st) (hW : (st.map fun v => v.category).sum ≤ 8) (hcs : cells ≤ rm.cells ∧ slots ≤ rm.slots) (d : decode cc pc = .ok (.invokestatic index, 3))
    (kk : ∀ (g1 : Nat → va_E), post g1 → zj_J X cells slots Q ad N g1 (pc + 3) L st) : zj_J X cells slots Q ad N g pc L st0 := by
  obtain ⟨p, l, e, R, s, m, args, below, meth, c, nL', z'⟩ := X
  obtain ⟨⟨hx, hb, hml, hown, hts⟩, hK, hA, hlk, rfl, hr, rfl, rfl, hU, hN, htr, hNb⟩ := C
  intro H locs ls hl hP hD hS
  refine va_callv (va_runS (As := As) (rest := st) ⟨hx, hb, hml, hown, hts⟩ hM (cwS n hts hG hw hrc hrs hd hR) ⟨zb_blind, fun U h1 h2 => ⟨rfl, zb_end hK hA hU hN hNb hP hD hS h1 h2.alike⟩⟩ rfl hn hl.1 hst (lv_room hW) d hcs) hS (fun q _ h => h) (fun q h => h) (fun g1 t H1 locs1 ht hvm hq hB hz1 hk1 hS1 => ?_)
  obtain ⟨hP1, hK1, hD1, -⟩ := hB
  rw [ht] at hP1
  exact kk g1 hq H1 locs1 ls hl hP1 hD1 hS1
theorem zj_Vr {X : zj_T} {z : zv_T} {cc : ByteArray} {nL : Nat} {own : String} {rm : Room} {ret : Option FieldType} (C : zj_C X z cc nL own rm ret) {cells slots : Nat} {Q : State → Prop} {ad : Nat → Nat} {N : Nat} {g : Nat → va_E} {pc : Nat} {L : List (Nat × Value)} {st st0 : List Value} {rt : FieldType} {y : MethodName} {ws ws' : List Cond} {rc : Room} {bytes : ByteArray} {maxL index n i ci : Nat} {CC : String} {T : u_T} {M : Nat} {As fs : List Value} {post : Nat → (Nat → va_E) → Prop} (hM : zm_r X.2.1 y ws rc z ad N g (.ref (ad i) :: As) post)
    (hG : GoodIn zt_tbl (wsV own index CC y ws)) (hw : ws = Cond.code y bytes maxL (some rt) :: ws') (hrc : rc.cells = 0) (hrs : rc.slots = 0) (hd : y.cls = CC ∧ y.cls ≠ "java/lang/invoke/MethodHandle" ∧ y.cls ≠ "java/lang/invoke/VarHandle" ∧ (parseMethodDescriptor y.desc).map (fun d => d.parameters.length) = some n) (hR : rc.frames + 1 ≤ rm.frames ∧ 8 + (maxL + 11) + rc.locals ≤ rm.locals)
    (hi : i < N) (he : g i = ze_o ci fs) (hc : zc_l[ci]? = some (CC, T, M)) (hn : As.length = n) (hst : st0 = As.reverse ++ .ref (ad i) :: st) (hW : (st.map fun v => v.category).sum ≤ 8) (hcs : cells ≤ rm.cells ∧ slots ≤ rm.slots) (d : decode cc pc = .ok (.invokevirtual index, 3))
    (kk : ∀ (k : Nat) (g1 : Nat → va_E), post k g1 → zj_J X cells slots Q ad N g1 (pc + 3) L (.ref (ad k) :: st)) : zj_J X cells slots Q ad N g pc L st0 := by
  obtain ⟨p, l, e, R, s, m, args, below, meth, c, nL', z'⟩ := X
  obtain ⟨⟨hx, hb, hml, hown, hts⟩, hK, hA, hlk, rfl, hr, rfl, rfl, hU, hN, htr, hNb⟩ := C
  intro H locs ls hl hP hD hS
  refine va_callr (va_runV (As := As) (rest := st) ⟨hx, hb, hml, hown, hts⟩ hM (cwV n hts hG hw hrc hrs hd hR) ⟨zb_blind, va_recv hK hP hc (zw_ate hi he), fun U h1 h2 => ⟨rfl, zb_end hK hA hU hN hNb hP hD hS h1 h2.alike⟩⟩ rfl hn hl.1 hst (lv_room hW) d hcs) hS (fun q _ h => h) (fun q h => h) (fun u a t H1 locs1 ht hvm hq hB0 hz1 hk1 hS1 => ?_)
  obtain ⟨rfl, hB⟩ := hB0
  obtain ⟨hP1, hK1, hD1, -⟩ := hB
  rw [ht] at hP1
  exact kk u.1 u.2 hq H1 locs1 ls hl hP1 hD1 hS1
theorem zj_Sr {X : zj_T} {z : zv_T} {cc : ByteArray} {nL : Nat} {own : String} {rm : Room} {ret : Option FieldType} (C : zj_C X z cc nL own rm ret) {cells slots : Nat} {Q : State → Prop} {ad : Nat → Nat} {N : Nat} {g : Nat → va_E} {pc : Nat} {L : List (Nat × Value)} {st st0 : List Value} {rt : FieldType} {y : MethodName} {ws ws' : List Cond} {rc : Room} {bytes : ByteArray} {maxL index n : Nat} {As : List Value} {post : Nat → (Nat → va_E) → Prop} (hM : zm_r X.2.1 y ws rc z ad N g As post)
    (hG : GoodIn zt_tbl (wsS own index y ws)) (hw : ws = Cond.code y bytes maxL (some rt) :: ws') (hrc : rc.cells = 0) (hrs : rc.slots = 0) (hd : y.cls = own ∧ y.cls ≠ "java/lang/invoke/MethodHandle" ∧ y.cls ≠ "java/lang/invoke/VarHandle" ∧ (parseMethodDescriptor y.desc).map (fun d => d.parameters.length) = some n) (hR : rc.frames + 1 ≤ rm.frames ∧ 8 + (maxL + 11) + rc.locals ≤ rm.locals)
    (hn : As.length = n) (hst : st0 = As.reverse ++ st) (hW : (st.map fun v => v.category).sum ≤ 8) (hcs : cells ≤ rm.cells ∧ slots ≤ rm.slots) (d : decode cc pc = .ok (.invokestatic index, 3))
    (kk : ∀ (k : Nat) (g1 : Nat → va_E), post k g1 → zj_J X cells slots Q ad N g1 (pc + 3) L (.ref (ad k) :: st)) : zj_J X cells slots Q ad N g pc L st0 := by
  obtain ⟨p, l, e, R, s, m, args, below, meth, c, nL', z'⟩ := X
  obtain ⟨⟨hx, hb, hml, hown, hts⟩, hK, hA, hlk, rfl, hr, rfl, rfl, hU, hN, htr, hNb⟩ := C
  intro H locs ls hl hP hD hS
  refine va_callr (va_runS (As := As) (rest := st) ⟨hx, hb, hml, hown, hts⟩ hM (cwS n hts hG hw hrc hrs hd hR) ⟨zb_blind, fun U h1 h2 => ⟨rfl, zb_end hK hA hU hN hNb hP hD hS h1 h2.alike⟩⟩ rfl hn hl.1 hst (lv_room hW) d hcs) hS (fun q _ h => h) (fun q h => h) (fun u a t H1 locs1 ht hvm hq hB0 hz1 hk1 hS1 => ?_)
  obtain ⟨rfl, hB⟩ := hB0
  obtain ⟨hP1, hK1, hD1, -⟩ := hB
  rw [ht] at hP1
  exact kk u.1 u.2 hq H1 locs1 ls hl hP1 hD1 hS1
theorem zj_Ic {X : zj_T} {z : zv_T} {cc : ByteArray} {nL : Nat} {own : String} {rm : Room} {ret : Option FieldType} (C : zj_C X z cc nL own rm ret) {cells slots : Nat} {Q : State → Prop} {ad : Nat → Nat} {N : Nat} {g : Nat → va_E} {pc : Nat} {L : List (Nat × Value)} {st st0 : List Value} {y : MethodName} {ws ws' : List Cond} {rc : Room} {bytes : ByteArray} {maxL index n i mc ms : Nat} {As : List Value} {post : (Nat → Nat) → Nat → (Nat → va_E) → Prop} (hM : zm_c X.2.1 y ws rc z ad N g (.ref (ad i) :: As) mc ms post)
    (hG : GoodIn zt_tbl ws) (hw : ws = Cond.code y bytes maxL none :: ws') (hrc : rc.cells = mc) (hrs : rc.slots = ms) (hini : Cond.initialized y.cls ∈ zt_tbl) (hlk' : Cond.methodLink own index y ∈ zt_tbl) (hin : Cond.instanceMethod y ∈ zt_tbl) (hy1 : y.name = "<init>") (hd : y.cls ≠ "java/lang/invoke/MethodHandle" ∧ y.cls ≠ "java/lang/invoke/VarHandle" ∧ (parseMethodDescriptor y.desc).map (fun d => d.parameters.length) = some n) (hR : rc.frames + 1 ≤ rm.frames ∧ 8 + (maxL + 11) + rc.locals ≤ rm.locals)
    (hn : As.length = n) (hst : st0 = As.reverse ++ .ref (ad i) :: st) (hW : (st.map fun v => v.category).sum ≤ 8) (hcs : cells + mc ≤ rm.cells ∧ slots + ms ≤ rm.slots) (d : decode cc pc = .ok (.invokespecial index, 3))
    (kk : ∀ (ad1 : Nat → Nat) (N1 : Nat) (g1 : Nat → va_E), post ad1 N1 g1 → zj_J X (cells + mc) (slots + ms) Q ad1 N1 g1 (pc + 3) L st) : zj_J X cells slots Q ad N g pc L st0 := by
  obtain ⟨p, l, e, R, s, m, args, below, meth, c, nL', z'⟩ := X
  obtain ⟨⟨hx, hb, hml, hown, hts⟩, hK, hA, hlk, rfl, hr, rfl, rfl, hU, hN, htr, hNb⟩ := C
  intro H locs ls hl hP hD hS
  refine va_callv (va_runI (As := As) (rest := st) ⟨hx, hb, hml, hown, hts⟩ hM (cwI n hts hG hw hrc hrs (hts _ hini) (hts _ hlk') (hts _ hin) hy1 hd hR) ⟨zb_blind, fun U h1 h2 => ⟨rfl, zb_end hK hA hU hN hNb hP hD hS h1 h2.alike⟩⟩ rfl hn hl.1 hst (lv_room hW) d hcs) hS (fun q _ h => h) (fun q h => h) (fun u t H1 locs1 ht hvm hq hB hz1 hk1 hS1 => ?_)
  obtain ⟨hP1, hK1, hD1, -⟩ := hB
  rw [ht] at hP1
  exact kk u.1 u.2.1 u.2.2 hq H1 locs1 ls hl hP1 hD1 hS1
theorem zj_obj {X : zj_T} {z : zv_T} {cc : ByteArray} {nL : Nat} {own : String} {rm : Room} {ret : Option FieldType} (C : zj_C X z cc nL own rm ret) {cells slots : Nat} {Q : State → Prop} {ad : Nat → Nat} {N : Nat} {g : Nat → va_E} {pc : Nat} {L : List (Nat × Value)} {st st0 : List Value} {index : Nat} {a : Nat} (h1 : Cond.methodLink own index Lib.objectInit ∈ zt_tbl) (h2 : Cond.instanceMethod Lib.objectInit ∈ zt_tbl) (h3 : Cond.code Lib.objectInit ⟨#[0xb1]⟩ 1 none ∈ zt_tbl) (hR : 1 ≤ rm.frames ∧ (st.map fun v => v.category).sum + 12 ≤ rm.locals) (d : decode cc pc = .ok (.invokespecial index, 3))
    (kk : zj_J X cells slots Q ad N g (pc + 3) L st) : zj_J X cells slots Q ad N g pc L (.ref a :: st) := by
  obtain ⟨p, l, e, R, s, m, args, below, meth, c, nL', z'⟩ := X
  obtain ⟨⟨hx, hb, hml, hown, hts⟩, hK, hA, hlk, rfl, hr, rfl, rfl, hU, hN, htr, hNb⟩ := C
  intro H locs ls hl hP hD hS
  refine W.objInit hx hb hown (hts _ h1) (hts _ h2) (hts _ h3) rfl (by rw [hml]; exact hl.1) rfl d hR.1 (by show 2 * 0 + _ + 12 ≤ _; omega) ?_
  exact kk H locs ls hl hP hD hS
end ZM
end
section
section ZX
theorem zt_cast {args : Array Value} {s : State} {E : String} {n : Nat} (h : (Cond.instantiable E n).before args s = true) : (Cond.castable E E).before args s = true := by
  obtain ⟨cC, kC, hfc, hk, hkind, -⟩ := Cond.instantiable_spec h
  have ha : s.vm.assignable cC cC = true := va_assign ⟨hfc, kC, hk, hkind⟩
  simp [Cond.before, Cond.holds, Cond.value, hfc, ha]
def zx_X (z : zv_T) (ad : Nat → Nat) (N : Nat) (px : String → (Nat → va_E) → Prop) : String → State → State → Prop := vx_X (fun _ : Nat → va_E => True) (fun E g1 t => px E g1 ∧ zj_B z ad N g1 t) (zv_A z)
def zx_i (l : Launch) (y : MethodName) (ws : List Cond) (rm : Room) (z : zv_T) (ad : Nat → Nat) (N : Nat) (g : Nat → va_E) (av : List Value) (mc ms : Nat) (post : Int32 → (Nat → va_E) → Prop) (px : String → (Nat → va_E) → Prop) : Prop :=
  vx_Met l y ws rm (va_Pc av (zj_B z ad N g)) (va_Qi post (fun g' t => zj_B z ad N g' t) (zv_A z)) (zx_X z ad N px) mc ms (zv_A z)
def zx_v (l : Launch) (y : MethodName) (ws : List Cond) (rm : Room) (z : zv_T) (ad : Nat → Nat) (N : Nat) (g : Nat → va_E) (av : List Value) (mc ms : Nat) (post : (Nat → va_E) → Prop) (px : String → (Nat → va_E) → Prop) : Prop :=
  vx_Met l y ws rm (va_Pc av (zj_B z ad N g)) (va_Qv post (fun g' t => zj_B z ad N g' t) (zv_A z)) (zx_X z ad N px) mc ms (zv_A z)
def zx_r (l : Launch) (y : MethodName) (ws : List Cond) (rm : Room) (z : zv_T) (ad : Nat → Nat) (N : Nat) (g : Nat → va_E) (av : List Value) (mc ms : Nat) (post : Nat → (Nat → va_E) → Prop) (px : String → (Nat → va_E) → Prop) : Prop :=
  vx_Met l y ws rm (va_Pc av (zj_B z ad N g)) (va_Qr (fun u : Nat × (Nat → va_E) => post u.1 u.2) (fun u a t => a = ad u.1 ∧ zj_B z ad N u.2 t) (zv_A z)) (zx_X z ad N px) mc ms (zv_A z)
def zx_Qi (X : zj_T) (mc ms : Nat) (ad : Nat → Nat) (N : Nat) (post : Int32 → (Nat → va_E) → Prop) (px : String → (Nat → va_E) → Prop) : State → Prop := match X with
  | (_, _, _, _, s, _, args, below, _, _, _, z) => vx_MQ below (va_Qi post (fun g' t => zj_B z ad N g' t) (zv_A z)) (zx_X z ad N px) args s mc ms (zv_A z)
def zx_Qv (X : zj_T) (mc ms : Nat) (ad : Nat → Nat) (N : Nat) (post : (Nat → va_E) → Prop) (px : String → (Nat → va_E) → Prop) : State → Prop := match X with
  | (_, _, _, _, s, _, args, below, _, _, _, z) => vx_MQ below (va_Qv post (fun g' t => zj_B z ad N g' t) (zv_A z)) (zx_X z ad N px) args s mc ms (zv_A z)
def zx_Qr (X : zj_T) (mc ms : Nat) (ad : Nat → Nat) (N : Nat) (post : Nat → (Nat → va_E) → Prop) (px : String → (Nat → va_E) → Prop) : State → Prop := match X with
  | (_, _, _, _, s, _, args, below, _, _, _, z) => vx_MQ below (va_Qr (fun u : Nat × (Nat → va_E) => post u.1 u.2) (fun u a t => a = ad u.1 ∧ zj_B z ad N u.2 t) (zv_A z)) (zx_X z ad N px) args s mc ms (zv_A z)
/-- an exception of class E is over the frame -/
def zj_X (X : zj_T) (cells slots : Nat) (Q : State → Prop) (ad : Nat → Nat) (N : Nat) (g : Nat → va_E) (pc : Nat) (L : List (Nat × Value)) (st : List Value) (E : String) : Prop :=
  match X with
  | (p, l, e, R, s, m, args, below, meth, c, nL, z) => ∀ (H : Heap) (locs : List Loc) (ls : Array Slot) (ce : Cell) (q : Addr), lv_has ls nL L → va_P (zv_D z) zc_l (zw_W ad N g) H → va_D (zv_A z) (zw_W ad N g) → va_S (zv_A z) s.heap H locs → H[q]? = some ce → ce.vm = .none → s.vm.findClass E = some ce.cls → vx_W p l e R s m args below meth c H locs cells slots Q (F0 m pc ls st) q
/-- the method has no handlers -/
def zx_T (X : zj_T) : Prop := match X with
  | (_, _, _, _, _, _, _, _, _, c, _, _) => ∀ x ∈ c.exceptionTable.toList, False
theorem zx_iret {X : zj_T} {z : zv_T} {cc : ByteArray} {nL : Nat} {own : String} {rm : Room} (C : zj_C X z cc nL own rm (some .int)) {cells slots mc ms : Nat} {ad : Nat → Nat} {N : Nat} {g : Nat → va_E} {pc : Nat} {L : List (Nat × Value)} {px : String → (Nat → va_E) → Prop} {x : Int32} {post : Int32 → (Nat → va_E) → Prop} (hcs : cells ≤ mc ∧ slots ≤ ms) (d : decode cc pc = .ok (.ireturn, 1)) (h : post x g) : zj_J X cells slots (zx_Qi X mc ms ad N post px) ad N g pc L [.int x] := by
  obtain ⟨p, l, e, R, s, m, args, below, meth, c, nL', z'⟩ := X
  obtain ⟨⟨hx, hb, hml, hown, hts⟩, hK, hA, hlk, rfl, hr, rfl, rfl, hU, hN, htr, hNb⟩ := C
  intro H locs ls hl hP hD hS
  exact W.widen hcs.1 hcs.2 (vx_ret (W.iret hx hb hr (fun t ht hW => ⟨⟨x, g, rfl, h, zb_end hK hA hU hN hNb hP hD hS ht hW.alike⟩, hS.F ht⟩) hS.2.2 d hlk))
theorem zx_zret {X : zj_T} {z : zv_T} {cc : ByteArray} {nL : Nat} {own : String} {rm : Room} (C : zj_C X z cc nL own rm (some .boolean)) {cells slots mc ms : Nat} {ad : Nat → Nat} {N : Nat} {g : Nat → va_E} {pc : Nat} {L : List (Nat × Value)} {px : String → (Nat → va_E) → Prop} {x : Int32} {post : Int32 → (Nat → va_E) → Prop} (hcs : cells ≤ mc ∧ slots ≤ ms) (d : decode cc pc = .ok (.ireturn, 1)) (hn : narrow .boolean (.int x) = .int x) (h : post x g) : zj_J X cells slots (zx_Qi X mc ms ad N post px) ad N g pc L [.int x] := by
  obtain ⟨p, l, e, R, s, m, args, below, meth, c, nL', z'⟩ := X
  obtain ⟨⟨hx, hb, hml, hown, hts⟩, hK, hA, hlk, rfl, hr, rfl, rfl, hU, hN, htr, hNb⟩ := C
  intro H locs ls hl hP hD hS
  exact W.widen hcs.1 hcs.2 (vx_ret (W.zret hx hb hr hn (fun t ht hW => ⟨⟨x, g, rfl, h, zb_end hK hA hU hN hNb hP hD hS ht hW.alike⟩, hS.F ht⟩) hS.2.2 d hlk))
theorem zx_vret {X : zj_T} {z : zv_T} {cc : ByteArray} {nL : Nat} {own : String} {rm : Room} (C : zj_C X z cc nL own rm none) {cells slots mc ms : Nat} {ad : Nat → Nat} {N : Nat} {g : Nat → va_E} {pc : Nat} {L : List (Nat × Value)} {px : String → (Nat → va_E) → Prop} {post : (Nat → va_E) → Prop} (hcs : cells ≤ mc ∧ slots ≤ ms) (d : decode cc pc = .ok (.return_, 1)) (h : post g) : zj_J X cells slots (zx_Qv X mc ms ad N post px) ad N g pc L [] := by
  obtain ⟨p, l, e, R, s, m, args, below, meth, c, nL', z'⟩ := X
  obtain ⟨⟨hx, hb, hml, hown, hts⟩, hK, hA, hlk, rfl, hr, rfl, rfl, hU, hN, htr, hNb⟩ := C
  intro H locs ls hl hP hD hS
  exact W.widen hcs.1 hcs.2 (vx_ret (W.vret hx hb hr (fun t ht hW => ⟨⟨g, rfl, h, zb_end hK hA hU hN hNb hP hD hS ht hW.alike⟩, hS.F ht⟩) hS.2.2 d hlk))
theorem zx_aret {rt : String} {X : zj_T} {z : zv_T} {cc : ByteArray} {nL : Nat} {own : String} {rm : Room} (C : zj_C X z cc nL own rm (some (.object rt))) {cells slots mc ms : Nat} {ad : Nat → Nat} {N : Nat} {g : Nat → va_E} {pc : Nat} {L : List (Nat × Value)} {px : String → (Nat → va_E) → Prop} {k : Nat} {post : Nat → (Nat → va_E) → Prop} (hcs : cells ≤ mc ∧ slots ≤ ms) (d : decode cc pc = .ok (.areturn, 1)) (h : post k g) : zj_J X cells slots (zx_Qr X mc ms ad N post px) ad N g pc L [.ref (ad k)] := by
  obtain ⟨p, l, e, R, s, m, args, below, meth, c, nL', z'⟩ := X
  obtain ⟨⟨hx, hb, hml, hown, hts⟩, hK, hA, hlk, rfl, hr, rfl, rfl, hU, hN, htr, hNb⟩ := C
  intro H locs ls hl hP hD hS
  exact W.widen hcs.1 hcs.2 (vx_ret (W.aret hx hb hr (Or.inl ⟨_, rfl⟩) (Or.inr ⟨_, rfl⟩) (fun t ht hW => ⟨⟨(k, g), ad k, rfl, h, rfl, zb_end hK hA hU hN hNb hP hD hS ht hW.alike⟩, hS.F ht⟩) hS.2.2 d hlk))
theorem zx_end {z : zv_T} {ad : Nat → Nat} {N : Nat} {g : Nat → va_E} {px : String → (Nat → va_E) → Prop} {E : String} {s t : State} {H : Heap} {locs : List Loc} (hK : va_K (zv_D z) zc_l (zv_t z) s) (hA : ∀ q, s.heap.size ≤ q → zv_A z q) (hU : vx_Zq Bundle.tN "UNASSIGNED_STACK" Bundle.steD (zv_A z) s s.heap) (hN : vx_Zq Bundle.tN "SUPPRESSED_SENTINEL" Bundle.listD (zv_A z) s s.heap) (hNb : zb_N s)
    (hP : va_P (zv_D z) zc_l (zw_W ad N g) H) (hD : va_D (zv_A z) (zw_W ad N g)) (hS : va_S (zv_A z) s.heap H locs) (h : px E g) (hvm : s.vm.Alike t.vm) (hz : H.size ≤ t.heap.size) (hq : ∀ q : Nat, q < H.size → t.heap[q]? = H[q]?) : zx_X z ad N px E s t := by
  have hS' : va_S (zv_A z) s.heap t.heap locs := ⟨Nat.le_trans hS.1 hz, fun q h1 h2 => (hq q (Nat.lt_of_lt_of_le h1 hS.1)).trans (hS.2.1 q h1 h2), hS.2.2⟩
  exact ⟨g, trivial, ⟨h, zb_end hK hA hU hN hNb (hP.kept (fun k x hx => hq x.1 ((hP k x hx).lt))) hD hS' rfl hvm⟩, hS'.F rfl⟩
theorem zx_throwi {X : zj_T} {z : zv_T} {cc : ByteArray} {nL : Nat} {own : String} {rm : Room} {ret : Option FieldType} (C : zj_C X z cc nL own rm ret) {cells slots : Nat} {ad : Nat → Nat} {N : Nat} {g : Nat → va_E} {pc : Nat} {L : List (Nat × Value)} {st : List Value} {post : Int32 → (Nat → va_E) → Prop} {px : String → (Nat → va_E) → Prop} {cls : String} {names : List String} {ik ic mc ms : Nat} (ht : zx_T X) (hcls : Bundle.fit cls = true) (hnames : ∀ n ∈ names, Bundle.fit n = true)
    (hk : Cond.classLink own ik cls ∈ zt_tbl) (hini : Cond.initialized cls ∈ zt_tbl) (hat : ∀ w ∈ (vx_at0 own ic cls names).filter goodWord, w ∈ zt_tbl) (hbd : ∀ w ∈ (vx_at0 own ic cls names).filter (fun w => !goodWord w), w ∈ Cond.castable cls cls :: zb_ds.map Cond.declares) (hin : Cond.instantiable cls 6 ∈ zt_tbl) (hgood : ∀ w ∈ Cond.classLink own ik cls :: Cond.initialized cls :: vx_at0 own ic cls names, vx_ot w = true)
    (d0 : decode cc pc = .ok (.new ik, 3)) (d3 : decode cc (pc + 3) = .ok (.dup, 1)) (d4 : decode cc (pc + 4) = .ok (.invokespecial ic, 3)) (d7 : decode cc (pc + 7) = .ok (.athrow, 1))
    (hR : names.length + 3 < rm.frames ∧ (st.map fun v => v.category).sum + (13 * (names.length + 1) + 42) ≤ rm.locals ∧ cells + 1 ≤ rm.cells ∧ slots + 6 ≤ rm.slots) (hcs : cells + 1 ≤ mc ∧ slots + 6 ≤ ms) (h : px cls g) : zj_J X cells slots (zx_Qi X mc ms ad N post px) ad N g pc L st := by
  obtain ⟨p, l, e, R, s, m, args, below, meth, c, nL', z'⟩ := X
  obtain ⟨⟨hx, hb, hml, hown, hts⟩, hK, hA, hlk, rfl, hr, rfl, rfl, hU, hN, htr, hNb⟩ := C
  intro H locs ls hl hP hD hS
  exact vx_throw0 hx hb htr hown hcls hnames (hts _ hk) (hts _ hini) (vx_hat (fun w hw => hts w (hat w hw)) hbd (vx_c (zt_cast (hts _ hin)) (fun w hw => by obtain ⟨x, hx, rfl⟩ := List.mem_map.mp hw; exact va_Nw.use rfl (hNb.2.2.2.2.2 x hx)))) hgood hU hN hS (hl.1.trans hml.symm) d0 d3 d4 d7 (fun x hx' => (ht x hx').elim) hR.1 hR.2.1 hR.2.2.1 hR.2.2.2 hlk (fun t h1 h2 h3 => zx_end hK hA hU hN hNb hP hD hS h h1 h2 h3) hS.2.2 hcs.1 hcs.2
theorem zx_passi {X : zj_T} {z : zv_T} {cc : ByteArray} {nL : Nat} {own : String} {rm : Room} {ret : Option FieldType} (C : zj_C X z cc nL own rm ret) {cells slots : Nat} {ad : Nat → Nat} {N : Nat} {g : Nat → va_E} {pc : Nat} {L : List (Nat × Value)} {st : List Value} {post : Int32 → (Nat → va_E) → Prop} {px : String → (Nat → va_E) → Prop} {E : String} {mc ms : Nat} (ht : zx_T X) (hcs : cells ≤ mc ∧ slots ≤ ms) (h : px E g) : zj_X X cells slots (zx_Qi X mc ms ad N post px) ad N g pc L st E := by
  obtain ⟨p, l, e, R, s, m, args, below, meth, c, nL', z'⟩ := X
  obtain ⟨⟨hx, hb, hml, hown, hts⟩, hK, hA, hlk, rfl, hr, rfl, rfl, hU, hN, htr, hNb⟩ := C
  intro H locs ls ce q hl hP hD hS hce hcv hcl
  exact vx_out (fun x hx' => (ht x hx').elim) hlk hce hcv hcl (fun t h1 h2 => zx_end hK hA hU hN hNb hP hD hS h h2 (by rw [h1]; exact Nat.le_refl _) (fun q' _ => by rw [h1])) hS.2.2 hcs.1 hcs.2
theorem zx_throwv {X : zj_T} {z : zv_T} {cc : ByteArray} {nL : Nat} {own : String} {rm : Room} {ret : Option FieldType} (C : zj_C X z cc nL own rm ret) {cells slots : Nat} {ad : Nat → Nat} {N : Nat} {g : Nat → va_E} {pc : Nat} {L : List (Nat × Value)} {st : List Value} {post : (Nat → va_E) → Prop} {px : String → (Nat → va_E) → Prop} {cls : String} {names : List String} {ik ic mc ms : Nat} (ht : zx_T X) (hcls : Bundle.fit cls = true) (hnames : ∀ n ∈ names, Bundle.fit n = true)
    (hk : Cond.classLink own ik cls ∈ zt_tbl) (hini : Cond.initialized cls ∈ zt_tbl) (hat : ∀ w ∈ (vx_at0 own ic cls names).filter goodWord, w ∈ zt_tbl) (hbd : ∀ w ∈ (vx_at0 own ic cls names).filter (fun w => !goodWord w), w ∈ Cond.castable cls cls :: zb_ds.map Cond.declares) (hin : Cond.instantiable cls 6 ∈ zt_tbl) (hgood : ∀ w ∈ Cond.classLink own ik cls :: Cond.initialized cls :: vx_at0 own ic cls names, vx_ot w = true)
    (d0 : decode cc pc = .ok (.new ik, 3)) (d3 : decode cc (pc + 3) = .ok (.dup, 1)) (d4 : decode cc (pc + 4) = .ok (.invokespecial ic, 3)) (d7 : decode cc (pc + 7) = .ok (.athrow, 1))
    (hR : names.length + 3 < rm.frames ∧ (st.map fun v => v.category).sum + (13 * (names.length + 1) + 42) ≤ rm.locals ∧ cells + 1 ≤ rm.cells ∧ slots + 6 ≤ rm.slots) (hcs : cells + 1 ≤ mc ∧ slots + 6 ≤ ms) (h : px cls g) : zj_J X cells slots (zx_Qv X mc ms ad N post px) ad N g pc L st := by
  obtain ⟨p, l, e, R, s, m, args, below, meth, c, nL', z'⟩ := X
  obtain ⟨⟨hx, hb, hml, hown, hts⟩, hK, hA, hlk, rfl, hr, rfl, rfl, hU, hN, htr, hNb⟩ := C
  intro H locs ls hl hP hD hS
  exact vx_throw0 hx hb htr hown hcls hnames (hts _ hk) (hts _ hini) (vx_hat (fun w hw => hts w (hat w hw)) hbd (vx_c (zt_cast (hts _ hin)) (fun w hw => by obtain ⟨x, hx, rfl⟩ := List.mem_map.mp hw; exact va_Nw.use rfl (hNb.2.2.2.2.2 x hx)))) hgood hU hN hS (hl.1.trans hml.symm) d0 d3 d4 d7 (fun x hx' => (ht x hx').elim) hR.1 hR.2.1 hR.2.2.1 hR.2.2.2 hlk (fun t h1 h2 h3 => zx_end hK hA hU hN hNb hP hD hS h h1 h2 h3) hS.2.2 hcs.1 hcs.2
theorem zx_passv {X : zj_T} {z : zv_T} {cc : ByteArray} {nL : Nat} {own : String} {rm : Room} {ret : Option FieldType} (C : zj_C X z cc nL own rm ret) {cells slots : Nat} {ad : Nat → Nat} {N : Nat} {g : Nat → va_E} {pc : Nat} {L : List (Nat × Value)} {st : List Value} {post : (Nat → va_E) → Prop} {px : String → (Nat → va_E) → Prop} {E : String} {mc ms : Nat} (ht : zx_T X) (hcs : cells ≤ mc ∧ slots ≤ ms) (h : px E g) : zj_X X cells slots (zx_Qv X mc ms ad N post px) ad N g pc L st E := by
  obtain ⟨p, l, e, R, s, m, args, below, meth, c, nL', z'⟩ := X
  obtain ⟨⟨hx, hb, hml, hown, hts⟩, hK, hA, hlk, rfl, hr, rfl, rfl, hU, hN, htr, hNb⟩ := C
  intro H locs ls ce q hl hP hD hS hce hcv hcl
  exact vx_out (fun x hx' => (ht x hx').elim) hlk hce hcv hcl (fun t h1 h2 => zx_end hK hA hU hN hNb hP hD hS h h2 (by rw [h1]; exact Nat.le_refl _) (fun q' _ => by rw [h1])) hS.2.2 hcs.1 hcs.2
theorem zx_throwr {X : zj_T} {z : zv_T} {cc : ByteArray} {nL : Nat} {own : String} {rm : Room} {ret : Option FieldType} (C : zj_C X z cc nL own rm ret) {cells slots : Nat} {ad : Nat → Nat} {N : Nat} {g : Nat → va_E} {pc : Nat} {L : List (Nat × Value)} {st : List Value} {post : Nat → (Nat → va_E) → Prop} {px : String → (Nat → va_E) → Prop} {cls : String} {names : List String} {ik ic mc ms : Nat} (ht : zx_T X) (hcls : Bundle.fit cls = true) (hnames : ∀ n ∈ names, Bundle.fit n = true)
    (hk : Cond.classLink own ik cls ∈ zt_tbl) (hini : Cond.initialized cls ∈ zt_tbl) (hat : ∀ w ∈ (vx_at0 own ic cls names).filter goodWord, w ∈ zt_tbl) (hbd : ∀ w ∈ (vx_at0 own ic cls names).filter (fun w => !goodWord w), w ∈ Cond.castable cls cls :: zb_ds.map Cond.declares) (hin : Cond.instantiable cls 6 ∈ zt_tbl) (hgood : ∀ w ∈ Cond.classLink own ik cls :: Cond.initialized cls :: vx_at0 own ic cls names, vx_ot w = true)
    (d0 : decode cc pc = .ok (.new ik, 3)) (d3 : decode cc (pc + 3) = .ok (.dup, 1)) (d4 : decode cc (pc + 4) = .ok (.invokespecial ic, 3)) (d7 : decode cc (pc + 7) = .ok (.athrow, 1))
    (hR : names.length + 3 < rm.frames ∧ (st.map fun v => v.category).sum + (13 * (names.length + 1) + 42) ≤ rm.locals ∧ cells + 1 ≤ rm.cells ∧ slots + 6 ≤ rm.slots) (hcs : cells + 1 ≤ mc ∧ slots + 6 ≤ ms) (h : px cls g) : zj_J X cells slots (zx_Qr X mc ms ad N post px) ad N g pc L st := by
  obtain ⟨p, l, e, R, s, m, args, below, meth, c, nL', z'⟩ := X
  obtain ⟨⟨hx, hb, hml, hown, hts⟩, hK, hA, hlk, rfl, hr, rfl, rfl, hU, hN, htr, hNb⟩ := C
  intro H locs ls hl hP hD hS
  exact vx_throw0 hx hb htr hown hcls hnames (hts _ hk) (hts _ hini) (vx_hat (fun w hw => hts w (hat w hw)) hbd (vx_c (zt_cast (hts _ hin)) (fun w hw => by obtain ⟨x, hx, rfl⟩ := List.mem_map.mp hw; exact va_Nw.use rfl (hNb.2.2.2.2.2 x hx)))) hgood hU hN hS (hl.1.trans hml.symm) d0 d3 d4 d7 (fun x hx' => (ht x hx').elim) hR.1 hR.2.1 hR.2.2.1 hR.2.2.2 hlk (fun t h1 h2 h3 => zx_end hK hA hU hN hNb hP hD hS h h1 h2 h3) hS.2.2 hcs.1 hcs.2
theorem zx_passr {X : zj_T} {z : zv_T} {cc : ByteArray} {nL : Nat} {own : String} {rm : Room} {ret : Option FieldType} (C : zj_C X z cc nL own rm ret) {cells slots : Nat} {ad : Nat → Nat} {N : Nat} {g : Nat → va_E} {pc : Nat} {L : List (Nat × Value)} {st : List Value} {post : Nat → (Nat → va_E) → Prop} {px : String → (Nat → va_E) → Prop} {E : String} {mc ms : Nat} (ht : zx_T X) (hcs : cells ≤ mc ∧ slots ≤ ms) (h : px E g) : zj_X X cells slots (zx_Qr X mc ms ad N post px) ad N g pc L st E := by
  obtain ⟨p, l, e, R, s, m, args, below, meth, c, nL', z'⟩ := X
  obtain ⟨⟨hx, hb, hml, hown, hts⟩, hK, hA, hlk, rfl, hr, rfl, rfl, hU, hN, htr, hNb⟩ := C
  intro H locs ls ce q hl hP hD hS hce hcv hcl
  exact vx_out (fun x hx' => (ht x hx').elim) hlk hce hcv hcl (fun t h1 h2 => zx_end hK hA hU hN hNb hP hD hS h h2 (by rw [h1]; exact Nat.le_refl _) (fun q' _ => by rw [h1])) hS.2.2 hcs.1 hcs.2
theorem zx_ofi {l : Launch} {y : MethodName} {ws : List Cond} {rm : Room} {z : zv_T} {ad : Nat → Nat} {N : Nat} {g : Nat → va_E} {av : List Value} {post : Int32 → (Nat → va_E) → Prop} {px : String → (Nat → va_E) → Prop} {mc ms : Nat} {cc : ByteArray} {nL : Nat} (hst : l.stackTraces = false) (hy : plainName y.cls = true) (hw' : ws = Cond.code y cc nL (some .int) :: zt_tbl) (hlen : (lg_sl av).length ≤ nL)
    (body : ∀ X : zj_T, X.2.1 = l → zj_C X z cc nL y.cls rm (some .int) → zx_T X → zj_J X 0 0 (zx_Qi X mc ms ad N post px) ad N g 0 (lv_args 0 av) []) : zx_i l y ws rm z ad N g av mc ms post px := by
  refine vx_ofW (cc := cc) (maxL := nL) (ret := (some .int)) hy hw' ?_
  intro p e s m args below meth c s₁ B hml ht hv
  obtain ⟨rfl, hP, hK, hD, hA, hU, hN, hNb⟩ := hv
  have hown : s.vm.findClass y.cls = some m.cls := findClass_of_methodNamed B.named
  have h := body (p, l, e, (headSpec ws rm).room, s, m, av.toArray, below, meth, c, nL, z) rfl ⟨⟨B.exec, B.bytes, hml, hown, fun w hw => atoms_spec (ws := ws) B.pre w (by rw [hw']; exact List.mem_cons_of_mem _ hw)⟩, hK, hA, B.notSynchronized, rfl, B.returns, rfl, rfl, hU, hN, hst, hNb⟩ ht
  rw [lg_entry_eq]
  exact h s.heap [] _ (lv_entry av hlen) hP hD va_S.rf
theorem zx_ofv {l : Launch} {y : MethodName} {ws : List Cond} {rm : Room} {z : zv_T} {ad : Nat → Nat} {N : Nat} {g : Nat → va_E} {av : List Value} {post : (Nat → va_E) → Prop} {px : String → (Nat → va_E) → Prop} {mc ms : Nat} {cc : ByteArray} {nL : Nat} (hst : l.stackTraces = false) (hy : plainName y.cls = true) (hw' : ws = Cond.code y cc nL none :: zt_tbl) (hlen : (lg_sl av).length ≤ nL)
    (body : ∀ X : zj_T, X.2.1 = l → zj_C X z cc nL y.cls rm none → zx_T X → zj_J X 0 0 (zx_Qv X mc ms ad N post px) ad N g 0 (lv_args 0 av) []) : zx_v l y ws rm z ad N g av mc ms post px := by
  refine vx_ofW (cc := cc) (maxL := nL) (ret := none) hy hw' ?_
  intro p e s m args below meth c s₁ B hml ht hv
  obtain ⟨rfl, hP, hK, hD, hA, hU, hN, hNb⟩ := hv
  have hown : s.vm.findClass y.cls = some m.cls := findClass_of_methodNamed B.named
  have h := body (p, l, e, (headSpec ws rm).room, s, m, av.toArray, below, meth, c, nL, z) rfl ⟨⟨B.exec, B.bytes, hml, hown, fun w hw => atoms_spec (ws := ws) B.pre w (by rw [hw']; exact List.mem_cons_of_mem _ hw)⟩, hK, hA, B.notSynchronized, rfl, B.returns, rfl, rfl, hU, hN, hst, hNb⟩ ht
  rw [lg_entry_eq]
  exact h s.heap [] _ (lv_entry av hlen) hP hD va_S.rf
theorem zx_ofr {l : Launch} {y : MethodName} {ws : List Cond} {rm : Room} {z : zv_T} {ad : Nat → Nat} {N : Nat} {g : Nat → va_E} {av : List Value} {rt : String} {post : Nat → (Nat → va_E) → Prop} {px : String → (Nat → va_E) → Prop} {mc ms : Nat} {cc : ByteArray} {nL : Nat} (hst : l.stackTraces = false) (hy : plainName y.cls = true) (hw' : ws = Cond.code y cc nL (some (.object rt)) :: zt_tbl) (hlen : (lg_sl av).length ≤ nL)
    (body : ∀ X : zj_T, X.2.1 = l → zj_C X z cc nL y.cls rm (some (.object rt)) → zx_T X → zj_J X 0 0 (zx_Qr X mc ms ad N post px) ad N g 0 (lv_args 0 av) []) : zx_r l y ws rm z ad N g av mc ms post px := by
  refine vx_ofW (cc := cc) (maxL := nL) (ret := (some (.object rt))) hy hw' ?_
  intro p e s m args below meth c s₁ B hml ht hv
  obtain ⟨rfl, hP, hK, hD, hA, hU, hN, hNb⟩ := hv
  have hown : s.vm.findClass y.cls = some m.cls := findClass_of_methodNamed B.named
  have h := body (p, l, e, (headSpec ws rm).room, s, m, av.toArray, below, meth, c, nL, z) rfl ⟨⟨B.exec, B.bytes, hml, hown, fun w hw => atoms_spec (ws := ws) B.pre w (by rw [hw']; exact List.mem_cons_of_mem _ hw)⟩, hK, hA, B.notSynchronized, rfl, B.returns, rfl, rfl, hU, hN, hst, hNb⟩ ht
  rw [lg_entry_eq]
  exact h s.heap [] _ (lv_entry av hlen) hP hD va_S.rf
theorem zx_callr {p : Program} {l : Launch} {e : Env} {R : Room} {s : State} {m : MethodId} {args : Array Value} {below : List Frame} {meth : Method} {c : Code} {H : Heap} {locs : List Loc} {cells slots mc ms : Nat} {Q : State → Prop} {free : Addr → Prop} {A0 A1 : Nat → Prop} {H0 : Heap} {a : Array Value} {pc : Nat} {ls : Array Slot} {st0 rest : List Value} {S SX : Type} {post : S → Prop} {px : SX → Prop} {B : S → Nat → State → Prop} {BX : String → SX → State → Prop} {AX : Nat → Prop} (hr : vx_Run p l e R s m args below meth c H locs cells slots mc ms (F0 m pc ls st0) rest (va_Qr post B A1 a) (vx_X px BX AX) free) (hS : va_S A0 H0 H locs) (hA : ∀ q, q < H.size → A1 q → A0 q) (hf : ∀ q, free q → A0 q) (hAX : ∀ q, q < H.size → AX q → A0 q)
    (kx : ∀ (E : String) (ce : Cell) (q9 : Addr) (u : SX) (t : State) (H1 : Heap) (locs1 : List Loc), t.heap = H1 → s.vm.Alike t.vm → px u → BX E u t → H.size ≤ H1.size → (∀ q : Nat, q < H.size → ¬ AX q → H1[q]? = H[q]?) → va_S A0 H0 H1 locs1 → H1[q9]? = some ce → ce.vm = .none → s.vm.findClass E = some ce.cls → vx_W p l e R s m args below meth c H1 locs1 (cells + mc) (slots + ms) Q (F0 m pc ls rest) q9)
    (kk : ∀ (u : S) (ra : Nat) (t : State) (H1 : Heap) (locs1 : List Loc), t.heap = H1 → s.vm.Alike t.vm → post u → B u ra t → H.size ≤ H1.size → (∀ q : Nat, q < H.size → ¬ A1 q → H1[q]? = H[q]?) → va_S A0 H0 H1 locs1 → W p l e R s m args below meth c H1 locs1 (cells + mc) (slots + ms) Q (F0 m (pc + 3) ls (.ref ra :: rest))) : W p l e R s m args below meth c H locs cells slots Q (F0 m pc ls st0) := by
  intro T hT X
  rcases hr T hT X with ⟨v, st₀, t, T', L, h0, X', hL, e1, e2, ⟨⟨u, ra, hv, hp, hb⟩, hF⟩, st⟩ | ⟨q, st₀, t, T', L, E, ce, h0, X', hL, e1, e2, ⟨u, hp, hb, hF⟩, hce, hcv, hcl, st⟩
  · cases hv
    obtain ⟨k1, k2, k3⟩ := vx_keep h0 e1 hS hA hf hL hF
    obtain ⟨t2, a1, b1⟩ := kk u ra t T'.heap (locs ++ L) e1.symm (by rw [← e2]; exact X'.warmed.alike) hp hb k1 k2 k3 T' rfl X'
    exact ⟨t2, st t2 a1, b1⟩
  · obtain ⟨k1, k2, k3⟩ := vx_keep h0 e1 hS hAX hf hL hF
    obtain ⟨t2, a1, b1⟩ := kx E ce q u t T'.heap (locs ++ L) e1.symm (by rw [← e2]; exact X'.warmed.alike) hp hb k1 k2 k3 (by rw [e1]; exact hce) hcv hcl T' rfl X'
    exact ⟨t2, st.trans a1, b1⟩
theorem zx_Vi {X : zj_T} {z : zv_T} {cc : ByteArray} {nL : Nat} {own : String} {rm : Room} {ret : Option FieldType} (C : zj_C X z cc nL own rm ret) {cells slots : Nat} {Q : State → Prop} {ad : Nat → Nat} {N : Nat} {g : Nat → va_E} {pc : Nat} {L : List (Nat × Value)} {st st0 : List Value} {rt : FieldType} {y : MethodName} {ws ws' : List Cond} {rc : Room} {bytes : ByteArray} {maxL index n mc ms : Nat} {CC : String} {T : u_T} {M i ci : Nat} {fs : List Value} {As : List Value} {post : Int32 → (Nat → va_E) → Prop} {px : String → (Nat → va_E) → Prop} (hM : zx_i X.2.1 y ws rc z ad N g (.ref (ad i) :: As) mc ms post px)
    (hG : GoodIn zt_tbl (wsV own index CC y ws)) (hw : ws = Cond.code y bytes maxL (some rt) :: ws') (hrc : rc.cells = mc) (hrs : rc.slots = ms) (hd : y.cls = CC ∧ y.cls ≠ "java/lang/invoke/MethodHandle" ∧ y.cls ≠ "java/lang/invoke/VarHandle" ∧ (parseMethodDescriptor y.desc).map (fun d => d.parameters.length) = some n) (hR : rc.frames + 1 ≤ rm.frames ∧ 8 + (maxL + 11) + rc.locals ≤ rm.locals)
    (hi : i < N) (he : g i = ze_o ci fs) (hc : zc_l[ci]? = some (CC, T, M)) (hn : As.length = n) (hst : st0 = As.reverse ++ .ref (ad i) :: st) (hW : (st.map fun v => v.category).sum ≤ 8) (hcs : cells + mc ≤ rm.cells ∧ slots + ms ≤ rm.slots) (d : decode cc pc = .ok (.invokevirtual index, 3))
    (kx : ∀ (E : String) (g1 : Nat → va_E), px E g1 → zj_X X (cells + mc) (slots + ms) Q ad N g1 pc L st E)
    (kk : ∀ (r : Int32) (g1 : Nat → va_E), post r g1 → zj_J X (cells + mc) (slots + ms) Q ad N g1 (pc + 3) L (.int r :: st)) : zj_J X cells slots Q ad N g pc L st0 := by
  obtain ⟨p, l, e, R, s, m, args, below, meth, c, nL', z'⟩ := X
  obtain ⟨⟨hx, hb, hml, hown, hts⟩, hK, hA, hlk, rfl, hr, rfl, rfl, hU, hN, htr, hNb⟩ := C
  intro H locs ls hl hP hD hS
  refine vx_calli (vx_runV (As := As) (rest := st) ⟨hx, hb, hml, hown, hts⟩ hM (cwV n hts hG hw hrc hrs hd hR) ⟨zb_blind, va_recv hK hP hc (zw_ate hi he), fun U h1 h2 => ⟨rfl, zb_end hK hA hU hN hNb hP hD hS h1 h2.alike⟩⟩ rfl hn hl.1 hst (lv_room hW) d hcs) hS (fun q _ h => h) (fun q h => h) (fun q _ h => h) (fun E ce q9 g1 t H1 locs1 ht hvm _ hB hz1 hk1 hS1 hce hcv hcl => ?_) (fun r g1 t H1 locs1 ht hvm hq hB hz1 hk1 hS1 => ?_)
  · obtain ⟨hpx, hP1, hK1, hD1, -⟩ := hB
    rw [ht] at hP1
    exact kx E g1 hpx H1 locs1 ls ce q9 hl hP1 hD1 hS1 hce hcv hcl
  · obtain ⟨hP1, hK1, hD1, -⟩ := hB
    rw [ht] at hP1
    exact kk r g1 hq H1 locs1 ls hl hP1 hD1 hS1
theorem zx_Si {X : zj_T} {z : zv_T} {cc : ByteArray} {nL : Nat} {own : String} {rm : Room} {ret : Option FieldType} (C : zj_C X z cc nL own rm ret) {cells slots : Nat} {Q : State → Prop} {ad : Nat → Nat} {N : Nat} {g : Nat → va_E} {pc : Nat} {L : List (Nat × Value)} {st st0 : List Value} {rt : FieldType} {y : MethodName} {ws ws' : List Cond} {rc : Room} {bytes : ByteArray} {maxL index n mc ms : Nat}  {As : List Value} {post : Int32 → (Nat → va_E) → Prop} {px : String → (Nat → va_E) → Prop} (hM : zx_i X.2.1 y ws rc z ad N g As mc ms post px)
    (hG : GoodIn zt_tbl (wsS own index y ws)) (hw : ws = Cond.code y bytes maxL (some rt) :: ws') (hrc : rc.cells = mc) (hrs : rc.slots = ms) (hd : y.cls = own ∧ y.cls ≠ "java/lang/invoke/MethodHandle" ∧ y.cls ≠ "java/lang/invoke/VarHandle" ∧ (parseMethodDescriptor y.desc).map (fun d => d.parameters.length) = some n) (hR : rc.frames + 1 ≤ rm.frames ∧ 8 + (maxL + 11) + rc.locals ≤ rm.locals)
     (hn : As.length = n) (hst : st0 = As.reverse ++ st) (hW : (st.map fun v => v.category).sum ≤ 8) (hcs : cells + mc ≤ rm.cells ∧ slots + ms ≤ rm.slots) (d : decode cc pc = .ok (.invokestatic index, 3))
    (kx : ∀ (E : String) (g1 : Nat → va_E), px E g1 → zj_X X (cells + mc) (slots + ms) Q ad N g1 pc L st E)
    (kk : ∀ (r : Int32) (g1 : Nat → va_E), post r g1 → zj_J X (cells + mc) (slots + ms) Q ad N g1 (pc + 3) L (.int r :: st)) : zj_J X cells slots Q ad N g pc L st0 := by
  obtain ⟨p, l, e, R, s, m, args, below, meth, c, nL', z'⟩ := X
  obtain ⟨⟨hx, hb, hml, hown, hts⟩, hK, hA, hlk, rfl, hr, rfl, rfl, hU, hN, htr, hNb⟩ := C
  intro H locs ls hl hP hD hS
  refine vx_calli (vx_runS (As := As) (rest := st) ⟨hx, hb, hml, hown, hts⟩ hM (cwS n hts hG hw hrc hrs hd hR) ⟨zb_blind, fun U h1 h2 => ⟨rfl, zb_end hK hA hU hN hNb hP hD hS h1 h2.alike⟩⟩ rfl hn hl.1 hst (lv_room hW) d hcs) hS (fun q _ h => h) (fun q h => h) (fun q _ h => h) (fun E ce q9 g1 t H1 locs1 ht hvm _ hB hz1 hk1 hS1 hce hcv hcl => ?_) (fun r g1 t H1 locs1 ht hvm hq hB hz1 hk1 hS1 => ?_)
  · obtain ⟨hpx, hP1, hK1, hD1, -⟩ := hB
    rw [ht] at hP1
    exact kx E g1 hpx H1 locs1 ls ce q9 hl hP1 hD1 hS1 hce hcv hcl
  · obtain ⟨hP1, hK1, hD1, -⟩ := hB
    rw [ht] at hP1
    exact kk r g1 hq H1 locs1 ls hl hP1 hD1 hS1
theorem zx_Vv {X : zj_T} {z : zv_T} {cc : ByteArray} {nL : Nat} {own : String} {rm : Room} {ret : Option FieldType} (C : zj_C X z cc nL own rm ret) {cells slots : Nat} {Q : State → Prop} {ad : Nat → Nat} {N : Nat} {g : Nat → va_E} {pc : Nat} {L : List (Nat × Value)} {st st0 : List Value} {y : MethodName} {ws ws' : List Cond} {rc : Room} {bytes : ByteArray} {maxL index n mc ms : Nat} {CC : String} {T : u_T} {M i ci : Nat} {fs : List Value} {As : List Value} {post : (Nat → va_E) → Prop} {px : String → (Nat → va_E) → Prop} (hM : zx_v X.2.1 y ws rc z ad N g (.ref (ad i) :: As) mc ms post px)
    (hG : GoodIn zt_tbl (wsV own index CC y ws)) (hw : ws = Cond.code y bytes maxL none :: ws') (hrc : rc.cells = mc) (hrs : rc.slots = ms) (hd : y.cls = CC ∧ y.cls ≠ "java/lang/invoke/MethodHandle" ∧ y.cls ≠ "java/lang/invoke/VarHandle" ∧ (parseMethodDescriptor y.desc).map (fun d => d.parameters.length) = some n) (hR : rc.frames + 1 ≤ rm.frames ∧ 8 + (maxL + 11) + rc.locals ≤ rm.locals)
    (hi : i < N) (he : g i = ze_o ci fs) (hc : zc_l[ci]? = some (CC, T, M)) (hn : As.length = n) (hst : st0 = As.reverse ++ .ref (ad i) :: st) (hW : (st.map fun v => v.category).sum ≤ 8) (hcs : cells + mc ≤ rm.cells ∧ slots + ms ≤ rm.slots) (d : decode cc pc = .ok (.invokevirtual index, 3))
    (kx : ∀ (E : String) (g1 : Nat → va_E), px E g1 → zj_X X (cells + mc) (slots + ms) Q ad N g1 pc L st E)
    (kk : ∀ (g1 : Nat → va_E), post g1 → zj_J X (cells + mc) (slots + ms) Q ad N g1 (pc + 3) L st) : zj_J X cells slots Q ad N g pc L st0 := by
  obtain ⟨p, l, e, R, s, m, args, below, meth, c, nL', z'⟩ := X
  obtain ⟨⟨hx, hb, hml, hown, hts⟩, hK, hA, hlk, rfl, hr, rfl, rfl, hU, hN, htr, hNb⟩ := C
  intro H locs ls hl hP hD hS
  refine vx_callv (vx_runV (As := As) (rest := st) ⟨hx, hb, hml, hown, hts⟩ hM (cwV n hts hG hw hrc hrs hd hR) ⟨zb_blind, va_recv hK hP hc (zw_ate hi he), fun U h1 h2 => ⟨rfl, zb_end hK hA hU hN hNb hP hD hS h1 h2.alike⟩⟩ rfl hn hl.1 hst (lv_room hW) d hcs) hS (fun q _ h => h) (fun q h => h) (fun q _ h => h) (fun E ce q9 g1 t H1 locs1 ht hvm _ hB hz1 hk1 hS1 hce hcv hcl => ?_) (fun g1 t H1 locs1 ht hvm hq hB hz1 hk1 hS1 => ?_)
  · obtain ⟨hpx, hP1, hK1, hD1, -⟩ := hB
    rw [ht] at hP1
    exact kx E g1 hpx H1 locs1 ls ce q9 hl hP1 hD1 hS1 hce hcv hcl
  · obtain ⟨hP1, hK1, hD1, -⟩ := hB
    rw [ht] at hP1
    exact kk g1 hq H1 locs1 ls hl hP1 hD1 hS1
theorem zx_Sv {X : zj_T} {z : zv_T} {cc : ByteArray} {nL : Nat} {own : String} {rm : Room} {ret : Option FieldType} (C : zj_C X z cc nL own rm ret) {cells slots : Nat} {Q : State → Prop} {ad : Nat → Nat} {N : Nat} {g : Nat → va_E} {pc : Nat} {L : List (Nat × Value)} {st st0 : List Value} {y : MethodName} {ws ws' : List Cond} {rc : Room} {bytes : ByteArray} {maxL index n mc ms : Nat}  {As : List Value} {post : (Nat → va_E) → Prop} {px : String → (Nat → va_E) → Prop} (hM : zx_v X.2.1 y ws rc z ad N g As mc ms post px)
    (hG : GoodIn zt_tbl (wsS own index y ws)) (hw : ws = Cond.code y bytes maxL none :: ws') (hrc : rc.cells = mc) (hrs : rc.slots = ms) (hd : y.cls = own ∧ y.cls ≠ "java/lang/invoke/MethodHandle" ∧ y.cls ≠ "java/lang/invoke/VarHandle" ∧ (parseMethodDescriptor y.desc).map (fun d => d.parameters.length) = some n) (hR : rc.frames + 1 ≤ rm.frames ∧ 8 + (maxL + 11) + rc.locals ≤ rm.locals)
     (hn : As.length = n) (hst : st0 = As.reverse ++ st) (hW : (st.map fun v => v.category).sum ≤ 8) (hcs : cells + mc ≤ rm.cells ∧ slots + ms ≤ rm.slots) (d : decode cc pc = .ok (.invokestatic index, 3))
    (kx : ∀ (E : String) (g1 : Nat → va_E), px E g1 → zj_X X (cells + mc) (slots + ms) Q ad N g1 pc L st E)
    (kk : ∀ (g1 : Nat → va_E), post g1 → zj_J X (cells + mc) (slots + ms) Q ad N g1 (pc + 3) L st) : zj_J X cells slots Q ad N g pc L st0 := by
  obtain ⟨p, l, e, R, s, m, args, below, meth, c, nL', z'⟩ := X
  obtain ⟨⟨hx, hb, hml, hown, hts⟩, hK, hA, hlk, rfl, hr, rfl, rfl, hU, hN, htr, hNb⟩ := C
  intro H locs ls hl hP hD hS
  refine vx_callv (vx_runS (As := As) (rest := st) ⟨hx, hb, hml, hown, hts⟩ hM (cwS n hts hG hw hrc hrs hd hR) ⟨zb_blind, fun U h1 h2 => ⟨rfl, zb_end hK hA hU hN hNb hP hD hS h1 h2.alike⟩⟩ rfl hn hl.1 hst (lv_room hW) d hcs) hS (fun q _ h => h) (fun q h => h) (fun q _ h => h) (fun E ce q9 g1 t H1 locs1 ht hvm _ hB hz1 hk1 hS1 hce hcv hcl => ?_) (fun g1 t H1 locs1 ht hvm hq hB hz1 hk1 hS1 => ?_)
  · obtain ⟨hpx, hP1, hK1, hD1, -⟩ := hB
    rw [ht] at hP1
    exact kx E g1 hpx H1 locs1 ls ce q9 hl hP1 hD1 hS1 hce hcv hcl
  · obtain ⟨hP1, hK1, hD1, -⟩ := hB
    rw [ht] at hP1
    exact kk g1 hq H1 locs1 ls hl hP1 hD1 hS1
theorem zx_Vr {X : zj_T} {z : zv_T} {cc : ByteArray} {nL : Nat} {own : String} {rm : Room} {ret : Option FieldType} (C : zj_C X z cc nL own rm ret) {cells slots : Nat} {Q : State → Prop} {ad : Nat → Nat} {N : Nat} {g : Nat → va_E} {pc : Nat} {L : List (Nat × Value)} {st st0 : List Value} {rt : FieldType} {y : MethodName} {ws ws' : List Cond} {rc : Room} {bytes : ByteArray} {maxL index n mc ms : Nat} {CC : String} {T : u_T} {M i ci : Nat} {fs : List Value} {As : List Value} {post : Nat → (Nat → va_E) → Prop} {px : String → (Nat → va_E) → Prop} (hM : zx_r X.2.1 y ws rc z ad N g (.ref (ad i) :: As) mc ms post px)
    (hG : GoodIn zt_tbl (wsV own index CC y ws)) (hw : ws = Cond.code y bytes maxL (some rt) :: ws') (hrc : rc.cells = mc) (hrs : rc.slots = ms) (hd : y.cls = CC ∧ y.cls ≠ "java/lang/invoke/MethodHandle" ∧ y.cls ≠ "java/lang/invoke/VarHandle" ∧ (parseMethodDescriptor y.desc).map (fun d => d.parameters.length) = some n) (hR : rc.frames + 1 ≤ rm.frames ∧ 8 + (maxL + 11) + rc.locals ≤ rm.locals)
    (hi : i < N) (he : g i = ze_o ci fs) (hc : zc_l[ci]? = some (CC, T, M)) (hn : As.length = n) (hst : st0 = As.reverse ++ .ref (ad i) :: st) (hW : (st.map fun v => v.category).sum ≤ 8) (hcs : cells + mc ≤ rm.cells ∧ slots + ms ≤ rm.slots) (d : decode cc pc = .ok (.invokevirtual index, 3))
    (kx : ∀ (E : String) (g1 : Nat → va_E), px E g1 → zj_X X (cells + mc) (slots + ms) Q ad N g1 pc L st E)
    (kk : ∀ (k : Nat) (g1 : Nat → va_E), post k g1 → zj_J X (cells + mc) (slots + ms) Q ad N g1 (pc + 3) L (.ref (ad k) :: st)) : zj_J X cells slots Q ad N g pc L st0 := by
  obtain ⟨p, l, e, R, s, m, args, below, meth, c, nL', z'⟩ := X
  obtain ⟨⟨hx, hb, hml, hown, hts⟩, hK, hA, hlk, rfl, hr, rfl, rfl, hU, hN, htr, hNb⟩ := C
  intro H locs ls hl hP hD hS
  refine zx_callr (vx_runV (As := As) (rest := st) ⟨hx, hb, hml, hown, hts⟩ hM (cwV n hts hG hw hrc hrs hd hR) ⟨zb_blind, va_recv hK hP hc (zw_ate hi he), fun U h1 h2 => ⟨rfl, zb_end hK hA hU hN hNb hP hD hS h1 h2.alike⟩⟩ rfl hn hl.1 hst (lv_room hW) d hcs) hS (fun q _ h => h) (fun q h => h) (fun q _ h => h) (fun E ce q9 g1 t H1 locs1 ht hvm _ hB hz1 hk1 hS1 hce hcv hcl => ?_) (fun u a t H1 locs1 ht hvm hq hB0 hz1 hk1 hS1 => ?_)
  · obtain ⟨hpx, hP1, hK1, hD1, -⟩ := hB
    rw [ht] at hP1
    exact kx E g1 hpx H1 locs1 ls ce q9 hl hP1 hD1 hS1 hce hcv hcl
  · obtain ⟨rfl, hB⟩ := hB0
    obtain ⟨hP1, hK1, hD1, -⟩ := hB
    rw [ht] at hP1
    exact kk u.1 u.2 hq H1 locs1 ls hl hP1 hD1 hS1
theorem zx_Sr {X : zj_T} {z : zv_T} {cc : ByteArray} {nL : Nat} {own : String} {rm : Room} {ret : Option FieldType} (C : zj_C X z cc nL own rm ret) {cells slots : Nat} {Q : State → Prop} {ad : Nat → Nat} {N : Nat} {g : Nat → va_E} {pc : Nat} {L : List (Nat × Value)} {st st0 : List Value} {rt : FieldType} {y : MethodName} {ws ws' : List Cond} {rc : Room} {bytes : ByteArray} {maxL index n mc ms : Nat}  {As : List Value} {post : Nat → (Nat → va_E) → Prop} {px : String → (Nat → va_E) → Prop} (hM : zx_r X.2.1 y ws rc z ad N g As mc ms post px)
    (hG : GoodIn zt_tbl (wsS own index y ws)) (hw : ws = Cond.code y bytes maxL (some rt) :: ws') (hrc : rc.cells = mc) (hrs : rc.slots = ms) (hd : y.cls = own ∧ y.cls ≠ "java/lang/invoke/MethodHandle" ∧ y.cls ≠ "java/lang/invoke/VarHandle" ∧ (parseMethodDescriptor y.desc).map (fun d => d.parameters.length) = some n) (hR : rc.frames + 1 ≤ rm.frames ∧ 8 + (maxL + 11) + rc.locals ≤ rm.locals)
     (hn : As.length = n) (hst : st0 = As.reverse ++ st) (hW : (st.map fun v => v.category).sum ≤ 8) (hcs : cells + mc ≤ rm.cells ∧ slots + ms ≤ rm.slots) (d : decode cc pc = .ok (.invokestatic index, 3))
    (kx : ∀ (E : String) (g1 : Nat → va_E), px E g1 → zj_X X (cells + mc) (slots + ms) Q ad N g1 pc L st E)
    (kk : ∀ (k : Nat) (g1 : Nat → va_E), post k g1 → zj_J X (cells + mc) (slots + ms) Q ad N g1 (pc + 3) L (.ref (ad k) :: st)) : zj_J X cells slots Q ad N g pc L st0 := by
  obtain ⟨p, l, e, R, s, m, args, below, meth, c, nL', z'⟩ := X
  obtain ⟨⟨hx, hb, hml, hown, hts⟩, hK, hA, hlk, rfl, hr, rfl, rfl, hU, hN, htr, hNb⟩ := C
  intro H locs ls hl hP hD hS
  refine zx_callr (vx_runS (As := As) (rest := st) ⟨hx, hb, hml, hown, hts⟩ hM (cwS n hts hG hw hrc hrs hd hR) ⟨zb_blind, fun U h1 h2 => ⟨rfl, zb_end hK hA hU hN hNb hP hD hS h1 h2.alike⟩⟩ rfl hn hl.1 hst (lv_room hW) d hcs) hS (fun q _ h => h) (fun q h => h) (fun q _ h => h) (fun E ce q9 g1 t H1 locs1 ht hvm _ hB hz1 hk1 hS1 hce hcv hcl => ?_) (fun u a t H1 locs1 ht hvm hq hB0 hz1 hk1 hS1 => ?_)
  · obtain ⟨hpx, hP1, hK1, hD1, -⟩ := hB
    rw [ht] at hP1
    exact kx E g1 hpx H1 locs1 ls ce q9 hl hP1 hD1 hS1 hce hcv hcl
  · obtain ⟨rfl, hB⟩ := hB0
    obtain ⟨hP1, hK1, hD1, -⟩ := hB
    rw [ht] at hP1
    exact kk u.1 u.2 hq H1 locs1 ls hl hP1 hD1 hS1
end ZX
end
section
theorem zt_good {w : Cond} (h : w ∈ zt_tbl) : (w.onTables && w.keeps) = true ∨ ∃ ty, w = .arrayClass ty := good_of_word (List.mem_filter.mp h).2
theorem zt_V {own C : String} {idx : Nat} {y : MethodName} {c : Cond} (h1 : Cond.methodLink own idx y ∈ zt_tbl) (h2 : Cond.instanceMethod y ∈ zt_tbl) (h3 : Cond.selects C y y ∈ zt_tbl) (h4 : Cond.initialized C ∈ zt_tbl) (h5 : c ∈ zt_tbl) : GoodIn zt_tbl (wsV own idx C y (c :: zt_tbl)) := by
  intro w hw
  have hm : w ∈ zt_tbl := by
    simp only [wsV, List.mem_append, List.mem_cons, List.not_mem_nil, or_false] at hw
    rcases hw with (rfl | rfl | rfl | rfl) | rfl | hw <;> assumption
  exact ⟨hm, zt_good hm⟩
theorem zt_S {own : String} {idx : Nat} {y : MethodName} {c : Cond} (h1 : Cond.methodLink own idx y ∈ zt_tbl) (h2 : Cond.static y ∈ zt_tbl) (h4 : Cond.initialized own ∈ zt_tbl) (h5 : c ∈ zt_tbl) : GoodIn zt_tbl (wsS own idx y (c :: zt_tbl)) := by
  intro w hw
  have hm : w ∈ zt_tbl := by
    simp only [wsS, List.mem_append, List.mem_cons, List.not_mem_nil, or_false] at hw
    rcases hw with (rfl | rfl | rfl) | rfl | hw <;> assumption
  exact ⟨hm, zt_good hm⟩
theorem zt_C {c : Cond} (h5 : c ∈ zt_tbl) : GoodIn zt_tbl (c :: zt_tbl) := by
  intro w hw
  have hm : w ∈ zt_tbl := by
    rcases List.mem_cons.mp hw with rfl | hw <;> assumption
  exact ⟨hm, zt_good hm⟩
def ws_T_init : List Cond := Cond.code mn_T_init bc_T_init 2 none :: zt_tbl
theorem hd_T_init : mn_T_init.cls ≠ "java/lang/invoke/MethodHandle" ∧ mn_T_init.cls ≠ "java/lang/invoke/VarHandle" ∧ (parseMethodDescriptor mn_T_init.desc).map (fun d => d.parameters.length) = some 0 := by decide +kernel
theorem pn_T_init : plainName mn_T_init.cls = true := by decide +kernel
def ws_U_init : List Cond := Cond.code mn_U_init bc_U_init 1 none :: zt_tbl
theorem hd_U_init : mn_U_init.cls ≠ "java/lang/invoke/MethodHandle" ∧ mn_U_init.cls ≠ "java/lang/invoke/VarHandle" ∧ (parseMethodDescriptor mn_U_init.desc).map (fun d => d.parameters.length) = some 0 := by decide +kernel
theorem pn_U_init : plainName mn_U_init.cls = true := by decide +kernel
def ws_N_init : List Cond := Cond.code mn_N_init bc_N_init 2 none :: zt_tbl
theorem hd_N_init : mn_N_init.cls ≠ "java/lang/invoke/MethodHandle" ∧ mn_N_init.cls ≠ "java/lang/invoke/VarHandle" ∧ (parseMethodDescriptor mn_N_init.desc).map (fun d => d.parameters.length) = some 1 := by decide +kernel
theorem pn_N_init : plainName mn_N_init.cls = true := by decide +kernel
def ws_F_init : List Cond := Cond.code mn_F_init bc_F_init 2 none :: zt_tbl
theorem hd_F_init : mn_F_init.cls ≠ "java/lang/invoke/MethodHandle" ∧ mn_F_init.cls ≠ "java/lang/invoke/VarHandle" ∧ (parseMethodDescriptor mn_F_init.desc).map (fun d => d.parameters.length) = some 0 := by decide +kernel
theorem pn_F_init : plainName mn_F_init.cls = true := by decide +kernel
def ws_P_init : List Cond := Cond.code mn_P_init bc_P_init 1 none :: zt_tbl
theorem hd_P_init : mn_P_init.cls ≠ "java/lang/invoke/MethodHandle" ∧ mn_P_init.cls ≠ "java/lang/invoke/VarHandle" ∧ (parseMethodDescriptor mn_P_init.desc).map (fun d => d.parameters.length) = some 0 := by decide +kernel
theorem pn_P_init : plainName mn_P_init.cls = true := by decide +kernel
def ws_R_init : List Cond := Cond.code mn_R_init bc_R_init 1 none :: zt_tbl
theorem hd_R_init : mn_R_init.cls ≠ "java/lang/invoke/MethodHandle" ∧ mn_R_init.cls ≠ "java/lang/invoke/VarHandle" ∧ (parseMethodDescriptor mn_R_init.desc).map (fun d => d.parameters.length) = some 0 := by decide +kernel
theorem pn_R_init : plainName mn_R_init.cls = true := by decide +kernel
def ws_W_init : List Cond := Cond.code mn_W_init bc_W_init 1 none :: zt_tbl
theorem hd_W_init : mn_W_init.cls ≠ "java/lang/invoke/MethodHandle" ∧ mn_W_init.cls ≠ "java/lang/invoke/VarHandle" ∧ (parseMethodDescriptor mn_W_init.desc).map (fun d => d.parameters.length) = some 0 := by decide +kernel
theorem pn_W_init : plainName mn_W_init.cls = true := by decide +kernel
def ws_T_forget : List Cond := Cond.code mn_T_forget bc_T_forget 1 none :: zt_tbl
def rm_T_forget : Room := { frames := 1, cells := 0, slots := 0, locals := 20 }
theorem hd_T_forget : mn_T_forget.cls = cn_T ∧ mn_T_forget.cls ≠ "java/lang/invoke/MethodHandle" ∧ mn_T_forget.cls ≠ "java/lang/invoke/VarHandle" ∧ (parseMethodDescriptor mn_T_forget.desc).map (fun d => d.parameters.length) = some 0 := by decide +kernel
theorem pn_T_forget : plainName mn_T_forget.cls = true := by decide +kernel
def ws_N_clear : List Cond := Cond.code mn_N_clear bc_N_clear 1 none :: zt_tbl
def rm_N_clear : Room := { frames := 0, cells := 0, slots := 0, locals := 0 }
theorem hd_N_clear : mn_N_clear.cls = cn_N ∧ mn_N_clear.cls ≠ "java/lang/invoke/MethodHandle" ∧ mn_N_clear.cls ≠ "java/lang/invoke/VarHandle" ∧ (parseMethodDescriptor mn_N_clear.desc).map (fun d => d.parameters.length) = some 0 := by decide +kernel
theorem pn_N_clear : plainName mn_N_clear.cls = true := by decide +kernel
def ws_T_tune : List Cond := Cond.code mn_T_tune bc_T_tune 2 none :: zt_tbl
def rm_T_tune : Room := { frames := 6, cells := 1, slots := 6, locals := 89 }
theorem hd_T_tune : mn_T_tune.cls = cn_T ∧ mn_T_tune.cls ≠ "java/lang/invoke/MethodHandle" ∧ mn_T_tune.cls ≠ "java/lang/invoke/VarHandle" ∧ (parseMethodDescriptor mn_T_tune.desc).map (fun d => d.parameters.length) = some 1 := by decide +kernel
theorem pn_T_tune : plainName mn_T_tune.cls = true := by decide +kernel
def ws_U_begin : List Cond := Cond.code mn_U_begin bc_U_begin 1 none :: zt_tbl
def rm_U_begin : Room := { frames := 1, cells := 0, slots := 0, locals := 20 }
theorem hd_U_begin : mn_U_begin.cls = cn_U ∧ mn_U_begin.cls ≠ "java/lang/invoke/MethodHandle" ∧ mn_U_begin.cls ≠ "java/lang/invoke/VarHandle" ∧ (parseMethodDescriptor mn_U_begin.desc).map (fun d => d.parameters.length) = some 0 := by decide +kernel
theorem pn_U_begin : plainName mn_U_begin.cls = true := by decide +kernel
def ws_T_drop : List Cond := Cond.code mn_T_drop bc_T_drop 2 none :: zt_tbl
def rm_T_drop : Room := { frames := 7, cells := 1, slots := 6, locals := 110 }
theorem hd_T_drop : mn_T_drop.cls = cn_T ∧ mn_T_drop.cls ≠ "java/lang/invoke/MethodHandle" ∧ mn_T_drop.cls ≠ "java/lang/invoke/VarHandle" ∧ (parseMethodDescriptor mn_T_drop.desc).map (fun d => d.parameters.length) = some 1 := by decide +kernel
theorem pn_T_drop : plainName mn_T_drop.cls = true := by decide +kernel
def ws_T_existing : List Cond := Cond.code mn_T_existing bc_T_existing 2 ((some (.object "TuneFinder$Tune"))) :: zt_tbl
def rm_T_existing : Room := { frames := 6, cells := 1, slots := 6, locals := 89 }
theorem hd_T_existing : mn_T_existing.cls = cn_T ∧ mn_T_existing.cls ≠ "java/lang/invoke/MethodHandle" ∧ mn_T_existing.cls ≠ "java/lang/invoke/VarHandle" ∧ (parseMethodDescriptor mn_T_existing.desc).map (fun d => d.parameters.length) = some 1 := by decide +kernel
theorem pn_T_existing : plainName mn_T_existing.cls = true := by decide +kernel
def ws_U_end : List Cond := Cond.code mn_U_end bc_U_end 1 none :: zt_tbl
def rm_U_end : Room := { frames := 0, cells := 0, slots := 0, locals := 0 }
theorem hd_U_end : mn_U_end.cls = cn_U ∧ mn_U_end.cls ≠ "java/lang/invoke/MethodHandle" ∧ mn_U_end.cls ≠ "java/lang/invoke/VarHandle" ∧ (parseMethodDescriptor mn_U_end.desc).map (fun d => d.parameters.length) = some 0 := by decide +kernel
theorem pn_U_end : plainName mn_U_end.cls = true := by decide +kernel
def ws_T_note : List Cond := Cond.code mn_T_note bc_T_note 5 ((some .int)) :: zt_tbl
def rm_T_note : Room := { frames := 7, cells := 3, slots := 18, locals := 110 }
theorem hd_T_note : mn_T_note.cls = cn_T ∧ mn_T_note.cls ≠ "java/lang/invoke/MethodHandle" ∧ mn_T_note.cls ≠ "java/lang/invoke/VarHandle" ∧ (parseMethodDescriptor mn_T_note.desc).map (fun d => d.parameters.length) = some 3 := by decide +kernel
theorem pn_T_note : plainName mn_T_note.cls = true := by decide +kernel
def ws_T_refuseUnlessNote : List Cond := Cond.code mn_T_refuseUnlessNote bc_T_refuseUnlessNote 2 none :: zt_tbl
def rm_T_refuseUnlessNote : Room := { frames := 6, cells := 1, slots := 6, locals := 89 }
theorem hd_T_refuseUnlessNote : mn_T_refuseUnlessNote.cls = cn_T ∧ mn_T_refuseUnlessNote.cls ≠ "java/lang/invoke/MethodHandle" ∧ mn_T_refuseUnlessNote.cls ≠ "java/lang/invoke/VarHandle" ∧ (parseMethodDescriptor mn_T_refuseUnlessNote.desc).map (fun d => d.parameters.length) = some 2 := by decide +kernel
theorem pn_T_refuseUnlessNote : plainName mn_T_refuseUnlessNote.cls = true := by decide +kernel
def ws_N_append : List Cond := Cond.code mn_N_append bc_N_append 3 ((some .int)) :: zt_tbl
def rm_N_append : Room := { frames := 1, cells := 0, slots := 0, locals := 23 }
theorem hd_N_append : mn_N_append.cls = cn_N ∧ mn_N_append.cls ≠ "java/lang/invoke/MethodHandle" ∧ mn_N_append.cls ≠ "java/lang/invoke/VarHandle" ∧ (parseMethodDescriptor mn_N_append.desc).map (fun d => d.parameters.length) = some 2 := by decide +kernel
theorem pn_N_append : plainName mn_N_append.cls = true := by decide +kernel
def ws_N_put : List Cond := Cond.code mn_N_put bc_N_put 4 none :: zt_tbl
def rm_N_put : Room := { frames := 0, cells := 0, slots := 0, locals := 0 }
theorem hd_N_put : mn_N_put.cls = cn_N ∧ mn_N_put.cls ≠ "java/lang/invoke/MethodHandle" ∧ mn_N_put.cls ≠ "java/lang/invoke/VarHandle" ∧ (parseMethodDescriptor mn_N_put.desc).map (fun d => d.parameters.length) = some 3 := by decide +kernel
theorem pn_N_put : plainName mn_N_put.cls = true := by decide +kernel
def ws_T_show : List Cond := Cond.code mn_T_show bc_T_show 4 none :: zt_tbl
def rm_T_show : Room := { frames := 7, cells := 2, slots := 12, locals := 110 }
theorem hd_T_show : mn_T_show.cls = cn_T ∧ mn_T_show.cls ≠ "java/lang/invoke/MethodHandle" ∧ mn_T_show.cls ≠ "java/lang/invoke/VarHandle" ∧ (parseMethodDescriptor mn_T_show.desc).map (fun d => d.parameters.length) = some 2 := by decide +kernel
theorem pn_T_show : plainName mn_T_show.cls = true := by decide +kernel
def ws_T_correct : List Cond := Cond.code mn_T_correct bc_T_correct 6 ((some .int)) :: zt_tbl
def rm_T_correct : Room := { frames := 7, cells := 4, slots := 24, locals := 110 }
theorem hd_T_correct : mn_T_correct.cls = cn_T ∧ mn_T_correct.cls ≠ "java/lang/invoke/MethodHandle" ∧ mn_T_correct.cls ≠ "java/lang/invoke/VarHandle" ∧ (parseMethodDescriptor mn_T_correct.desc).map (fun d => d.parameters.length) = some 4 := by decide +kernel
theorem pn_T_correct : plainName mn_T_correct.cls = true := by decide +kernel
def ws_T_refuseUnlessPlace : List Cond := Cond.code mn_T_refuseUnlessPlace bc_T_refuseUnlessPlace 2 none :: zt_tbl
def rm_T_refuseUnlessPlace : Room := { frames := 6, cells := 1, slots := 6, locals := 89 }
theorem hd_T_refuseUnlessPlace : mn_T_refuseUnlessPlace.cls = cn_T ∧ mn_T_refuseUnlessPlace.cls ≠ "java/lang/invoke/MethodHandle" ∧ mn_T_refuseUnlessPlace.cls ≠ "java/lang/invoke/VarHandle" ∧ (parseMethodDescriptor mn_T_refuseUnlessPlace.desc).map (fun d => d.parameters.length) = some 2 := by decide +kernel
theorem pn_T_refuseUnlessPlace : plainName mn_T_refuseUnlessPlace.cls = true := by decide +kernel
def ws_U_replace : List Cond := Cond.code mn_U_replace bc_U_replace 4 ((some .int)) :: zt_tbl
def rm_U_replace : Room := { frames := 1, cells := 0, slots := 0, locals := 23 }
theorem hd_U_replace : mn_U_replace.cls = cn_U ∧ mn_U_replace.cls ≠ "java/lang/invoke/MethodHandle" ∧ mn_U_replace.cls ≠ "java/lang/invoke/VarHandle" ∧ (parseMethodDescriptor mn_U_replace.desc).map (fun d => d.parameters.length) = some 3 := by decide +kernel
theorem pn_U_replace : plainName mn_U_replace.cls = true := by decide +kernel
def ws_T_restore : List Cond := Cond.code mn_T_restore bc_T_restore 4 none :: zt_tbl
def rm_T_restore : Room := { frames := 7, cells := 2, slots := 12, locals := 110 }
theorem hd_T_restore : mn_T_restore.cls = cn_T ∧ mn_T_restore.cls ≠ "java/lang/invoke/MethodHandle" ∧ mn_T_restore.cls ≠ "java/lang/invoke/VarHandle" ∧ (parseMethodDescriptor mn_T_restore.desc).map (fun d => d.parameters.length) = some 2 := by decide +kernel
theorem pn_T_restore : plainName mn_T_restore.cls = true := by decide +kernel
def ws_T_refuseUnlessReading : List Cond := Cond.code mn_T_refuseUnlessReading bc_T_refuseUnlessReading 2 none :: zt_tbl
def rm_T_refuseUnlessReading : Room := { frames := 6, cells := 1, slots := 6, locals := 89 }
theorem hd_T_refuseUnlessReading : mn_T_refuseUnlessReading.cls = cn_T ∧ mn_T_refuseUnlessReading.cls ≠ "java/lang/invoke/MethodHandle" ∧ mn_T_refuseUnlessReading.cls ≠ "java/lang/invoke/VarHandle" ∧ (parseMethodDescriptor mn_T_refuseUnlessReading.desc).map (fun d => d.parameters.length) = some 2 := by decide +kernel
theorem pn_T_refuseUnlessReading : plainName mn_T_refuseUnlessReading.cls = true := by decide +kernel
def ws_U_goBack : List Cond := Cond.code mn_U_goBack bc_U_goBack 3 none :: zt_tbl
def rm_U_goBack : Room := { frames := 1, cells := 0, slots := 0, locals := 23 }
theorem hd_U_goBack : mn_U_goBack.cls = cn_U ∧ mn_U_goBack.cls ≠ "java/lang/invoke/MethodHandle" ∧ mn_U_goBack.cls ≠ "java/lang/invoke/VarHandle" ∧ (parseMethodDescriptor mn_U_goBack.desc).map (fun d => d.parameters.length) = some 1 := by decide +kernel
theorem pn_U_goBack : plainName mn_U_goBack.cls = true := by decide +kernel
def ws_T_at : List Cond := Cond.code mn_T_at bc_T_at 7 ((some .int)) :: zt_tbl
def rm_T_at : Room := { frames := 7, cells := 4, slots := 24, locals := 110 }
theorem hd_T_at : mn_T_at.cls = cn_T ∧ mn_T_at.cls ≠ "java/lang/invoke/MethodHandle" ∧ mn_T_at.cls ≠ "java/lang/invoke/VarHandle" ∧ (parseMethodDescriptor mn_T_at.desc).map (fun d => d.parameters.length) = some 4 := by decide +kernel
theorem pn_T_at : plainName mn_T_at.cls = true := by decide +kernel
def ws_U_pitchIn : List Cond := Cond.code mn_U_pitchIn bc_U_pitchIn 4 ((some .int)) :: zt_tbl
def rm_U_pitchIn : Room := { frames := 1, cells := 0, slots := 0, locals := 23 }
theorem hd_U_pitchIn : mn_U_pitchIn.cls = cn_U ∧ mn_U_pitchIn.cls ≠ "java/lang/invoke/MethodHandle" ∧ mn_U_pitchIn.cls ≠ "java/lang/invoke/VarHandle" ∧ (parseMethodDescriptor mn_U_pitchIn.desc).map (fun d => d.parameters.length) = some 2 := by decide +kernel
theorem pn_U_pitchIn : plainName mn_U_pitchIn.cls = true := by decide +kernel
def ws_U_replacedAfter : List Cond := Cond.code mn_U_replacedAfter bc_U_replacedAfter 4 ((some .int)) :: zt_tbl
def rm_U_replacedAfter : Room := { frames := 0, cells := 0, slots := 0, locals := 0 }
theorem hd_U_replacedAfter : mn_U_replacedAfter.cls = cn_U ∧ mn_U_replacedAfter.cls ≠ "java/lang/invoke/MethodHandle" ∧ mn_U_replacedAfter.cls ≠ "java/lang/invoke/VarHandle" ∧ (parseMethodDescriptor mn_U_replacedAfter.desc).map (fun d => d.parameters.length) = some 2 := by decide +kernel
theorem pn_U_replacedAfter : plainName mn_U_replacedAfter.cls = true := by decide +kernel
def ws_U_lengthIn : List Cond := Cond.code mn_U_lengthIn bc_U_lengthIn 4 ((some .int)) :: zt_tbl
def rm_U_lengthIn : Room := { frames := 1, cells := 0, slots := 0, locals := 23 }
theorem hd_U_lengthIn : mn_U_lengthIn.cls = cn_U ∧ mn_U_lengthIn.cls ≠ "java/lang/invoke/MethodHandle" ∧ mn_U_lengthIn.cls ≠ "java/lang/invoke/VarHandle" ∧ (parseMethodDescriptor mn_U_lengthIn.desc).map (fun d => d.parameters.length) = some 2 := by decide +kernel
theorem pn_U_lengthIn : plainName mn_U_lengthIn.cls = true := by decide +kernel
def ws_U_stepIn : List Cond := Cond.code mn_U_stepIn bc_U_stepIn 3 ((some .int)) :: zt_tbl
def rm_U_stepIn : Room := { frames := 2, cells := 0, slots := 0, locals := 46 }
theorem hd_U_stepIn : mn_U_stepIn.cls = cn_U ∧ mn_U_stepIn.cls ≠ "java/lang/invoke/MethodHandle" ∧ mn_U_stepIn.cls ≠ "java/lang/invoke/VarHandle" ∧ (parseMethodDescriptor mn_U_stepIn.desc).map (fun d => d.parameters.length) = some 2 := by decide +kernel
theorem pn_U_stepIn : plainName mn_U_stepIn.cls = true := by decide +kernel
def ws_T_about : List Cond := Cond.code mn_T_about bc_T_about 4 ((some .int)) :: zt_tbl
def rm_T_about : Room := { frames := 7, cells := 2, slots := 12, locals := 110 }
theorem hd_T_about : mn_T_about.cls = cn_T ∧ mn_T_about.cls ≠ "java/lang/invoke/MethodHandle" ∧ mn_T_about.cls ≠ "java/lang/invoke/VarHandle" ∧ (parseMethodDescriptor mn_T_about.desc).map (fun d => d.parameters.length) = some 2 := by decide +kernel
theorem pn_T_about : plainName mn_T_about.cls = true := by decide +kernel
def ws_T_contour : List Cond := Cond.code mn_T_contour bc_T_contour 5 ((some .int)) :: zt_tbl
def rm_T_contour : Room := { frames := 7, cells := 1, slots := 6, locals := 110 }
theorem hd_T_contour : mn_T_contour.cls = cn_T ∧ mn_T_contour.cls ≠ "java/lang/invoke/MethodHandle" ∧ mn_T_contour.cls ≠ "java/lang/invoke/VarHandle" ∧ (parseMethodDescriptor mn_T_contour.desc).map (fun d => d.parameters.length) = some 2 := by decide +kernel
theorem pn_T_contour : plainName mn_T_contour.cls = true := by decide +kernel
def ws_N_steps : List Cond := Cond.code mn_N_steps bc_N_steps 1 ((some .int)) :: zt_tbl
def rm_N_steps : Room := { frames := 1, cells := 0, slots := 0, locals := 21 }
theorem hd_N_steps : mn_N_steps.cls = cn_N ∧ mn_N_steps.cls ≠ "java/lang/invoke/MethodHandle" ∧ mn_N_steps.cls ≠ "java/lang/invoke/VarHandle" ∧ (parseMethodDescriptor mn_N_steps.desc).map (fun d => d.parameters.length) = some 0 := by decide +kernel
theorem pn_N_steps : plainName mn_N_steps.cls = true := by decide +kernel
def ws_N_stepBehind : List Cond := Cond.code mn_N_stepBehind bc_N_stepBehind 2 ((some .int)) :: zt_tbl
def rm_N_stepBehind : Room := { frames := 0, cells := 0, slots := 0, locals := 0 }
theorem hd_N_stepBehind : mn_N_stepBehind.cls = cn_N ∧ mn_N_stepBehind.cls ≠ "java/lang/invoke/MethodHandle" ∧ mn_N_stepBehind.cls ≠ "java/lang/invoke/VarHandle" ∧ (parseMethodDescriptor mn_N_stepBehind.desc).map (fun d => d.parameters.length) = some 1 := by decide +kernel
theorem pn_N_stepBehind : plainName mn_N_stepBehind.cls = true := by decide +kernel
def ws_T_ask : List Cond := Cond.code mn_T_ask bc_T_ask 3 ((some .int)) :: zt_tbl
def rm_T_ask : Room := { frames := 7, cells := 2, slots := 12, locals := 110 }
theorem hd_T_ask : mn_T_ask.cls = cn_T ∧ mn_T_ask.cls ≠ "java/lang/invoke/MethodHandle" ∧ mn_T_ask.cls ≠ "java/lang/invoke/VarHandle" ∧ (parseMethodDescriptor mn_T_ask.desc).map (fun d => d.parameters.length) = some 2 := by decide +kernel
theorem pn_T_ask : plainName mn_T_ask.cls = true := by decide +kernel
def ws_T_search : List Cond := Cond.code mn_T_search bc_T_search 4 ((some .int)) :: zt_tbl
def rm_T_search : Room := { frames := 7, cells := 1, slots := 6, locals := 164 }
theorem hd_T_search : mn_T_search.cls = cn_T ∧ mn_T_search.cls ≠ "java/lang/invoke/MethodHandle" ∧ mn_T_search.cls ≠ "java/lang/invoke/VarHandle" ∧ (parseMethodDescriptor mn_T_search.desc).map (fun d => d.parameters.length) = some 2 := by decide +kernel
theorem pn_T_search : plainName mn_T_search.cls = true := by decide +kernel
def ws_F_begin : List Cond := Cond.code mn_F_begin bc_F_begin 2 none :: zt_tbl
def rm_F_begin : Room := { frames := 0, cells := 0, slots := 0, locals := 0 }
theorem hd_F_begin : mn_F_begin.cls = cn_F ∧ mn_F_begin.cls ≠ "java/lang/invoke/MethodHandle" ∧ mn_F_begin.cls ≠ "java/lang/invoke/VarHandle" ∧ (parseMethodDescriptor mn_F_begin.desc).map (fun d => d.parameters.length) = some 1 := by decide +kernel
theorem pn_F_begin : plainName mn_F_begin.cls = true := by decide +kernel
def ws_T_searchTune : List Cond := Cond.code mn_T_searchTune bc_T_searchTune 4 none :: zt_tbl
def rm_T_searchTune : Room := { frames := 6, cells := 0, slots := 0, locals := 141 }
theorem hd_T_searchTune : mn_T_searchTune.cls = cn_T ∧ mn_T_searchTune.cls ≠ "java/lang/invoke/MethodHandle" ∧ mn_T_searchTune.cls ≠ "java/lang/invoke/VarHandle" ∧ (parseMethodDescriptor mn_T_searchTune.desc).map (fun d => d.parameters.length) = some 3 := by decide +kernel
theorem pn_T_searchTune : plainName mn_T_searchTune.cls = true := by decide +kernel
def ws_T_searchOutline : List Cond := Cond.code mn_T_searchOutline bc_T_searchOutline 7 none :: zt_tbl
def rm_T_searchOutline : Room := { frames := 4, cells := 0, slots := 0, locals := 97 }
theorem hd_T_searchOutline : mn_T_searchOutline.cls = cn_T ∧ mn_T_searchOutline.cls ≠ "java/lang/invoke/MethodHandle" ∧ mn_T_searchOutline.cls ≠ "java/lang/invoke/VarHandle" ∧ (parseMethodDescriptor mn_T_searchOutline.desc).map (fun d => d.parameters.length) = some 2 := by decide +kernel
theorem pn_T_searchOutline : plainName mn_T_searchOutline.cls = true := by decide +kernel
def ws_T_outlineEnds : List Cond := Cond.code mn_T_outlineEnds bc_T_outlineEnds 9 ((some .int)) :: zt_tbl
def rm_T_outlineEnds : Room := { frames := 1, cells := 0, slots := 0, locals := 23 }
theorem hd_T_outlineEnds : mn_T_outlineEnds.cls = cn_T ∧ mn_T_outlineEnds.cls ≠ "java/lang/invoke/MethodHandle" ∧ mn_T_outlineEnds.cls ≠ "java/lang/invoke/VarHandle" ∧ (parseMethodDescriptor mn_T_outlineEnds.desc).map (fun d => d.parameters.length) = some 3 := by decide +kernel
theorem pn_T_outlineEnds : plainName mn_T_outlineEnds.cls = true := by decide +kernel
def ws_N_placesOfPitch : List Cond := Cond.code mn_N_placesOfPitch bc_N_placesOfPitch 4 ((some .int)) :: zt_tbl
def rm_N_placesOfPitch : Room := { frames := 0, cells := 0, slots := 0, locals := 0 }
theorem hd_N_placesOfPitch : mn_N_placesOfPitch.cls = cn_N ∧ mn_N_placesOfPitch.cls ≠ "java/lang/invoke/MethodHandle" ∧ mn_N_placesOfPitch.cls ≠ "java/lang/invoke/VarHandle" ∧ (parseMethodDescriptor mn_N_placesOfPitch.desc).map (fun d => d.parameters.length) = some 1 := by decide +kernel
theorem pn_N_placesOfPitch : plainName mn_N_placesOfPitch.cls = true := by decide +kernel
def ws_T_offer : List Cond := Cond.code mn_T_offer bc_T_offer 6 none :: zt_tbl
def rm_T_offer : Room := { frames := 3, cells := 0, slots := 0, locals := 72 }
theorem hd_T_offer : mn_T_offer.cls = cn_T ∧ mn_T_offer.cls ≠ "java/lang/invoke/MethodHandle" ∧ mn_T_offer.cls ≠ "java/lang/invoke/VarHandle" ∧ (parseMethodDescriptor mn_T_offer.desc).map (fun d => d.parameters.length) = some 4 := by decide +kernel
theorem pn_T_offer : plainName mn_T_offer.cls = true := by decide +kernel
def ws_F_add : List Cond := Cond.code mn_F_add bc_F_add 8 none :: zt_tbl
def rm_F_add : Room := { frames := 2, cells := 0, slots := 0, locals := 45 }
theorem hd_F_add : mn_F_add.cls = cn_F ∧ mn_F_add.cls ≠ "java/lang/invoke/MethodHandle" ∧ mn_F_add.cls ≠ "java/lang/invoke/VarHandle" ∧ (parseMethodDescriptor mn_F_add.desc).map (fun d => d.parameters.length) = some 5 := by decide +kernel
theorem pn_F_add : plainName mn_F_add.cls = true := by decide +kernel
def ws_F_rankOf : List Cond := Cond.code mn_F_rankOf bc_F_rankOf 5 ((some .int)) :: zt_tbl
def rm_F_rankOf : Room := { frames := 0, cells := 0, slots := 0, locals := 0 }
theorem hd_F_rankOf : mn_F_rankOf.cls = cn_F ∧ mn_F_rankOf.cls ≠ "java/lang/invoke/MethodHandle" ∧ mn_F_rankOf.cls ≠ "java/lang/invoke/VarHandle" ∧ (parseMethodDescriptor mn_F_rankOf.desc).map (fun d => d.parameters.length) = some 2 := by decide +kernel
theorem pn_F_rankOf : plainName mn_F_rankOf.cls = true := by decide +kernel
def ws_F_makeRoom : List Cond := Cond.code mn_F_makeRoom bc_F_makeRoom 5 ((some (.object "TuneFinder$Passage"))) :: zt_tbl
def rm_F_makeRoom : Room := { frames := 1, cells := 0, slots := 0, locals := 21 }
theorem hd_F_makeRoom : mn_F_makeRoom.cls = cn_F ∧ mn_F_makeRoom.cls ≠ "java/lang/invoke/MethodHandle" ∧ mn_F_makeRoom.cls ≠ "java/lang/invoke/VarHandle" ∧ (parseMethodDescriptor mn_F_makeRoom.desc).map (fun d => d.parameters.length) = some 1 := by decide +kernel
theorem pn_F_makeRoom : plainName mn_F_makeRoom.cls = true := by decide +kernel
def ws_T_searchNear : List Cond := Cond.code mn_T_searchNear bc_T_searchNear 6 none :: zt_tbl
def rm_T_searchNear : Room := { frames := 5, cells := 0, slots := 0, locals := 116 }
theorem hd_T_searchNear : mn_T_searchNear.cls = cn_T ∧ mn_T_searchNear.cls ≠ "java/lang/invoke/MethodHandle" ∧ mn_T_searchNear.cls ≠ "java/lang/invoke/VarHandle" ∧ (parseMethodDescriptor mn_T_searchNear.desc).map (fun d => d.parameters.length) = some 2 := by decide +kernel
theorem pn_T_searchNear : plainName mn_T_searchNear.cls = true := by decide +kernel
def ws_R_begin : List Cond := Cond.code mn_R_begin bc_R_begin 4 none :: zt_tbl
def rm_R_begin : Room := { frames := 4, cells := 0, slots := 0, locals := 92 }
theorem hd_R_begin : mn_R_begin.cls = cn_R ∧ mn_R_begin.cls ≠ "java/lang/invoke/MethodHandle" ∧ mn_R_begin.cls ≠ "java/lang/invoke/VarHandle" ∧ (parseMethodDescriptor mn_R_begin.desc).map (fun d => d.parameters.length) = some 3 := by decide +kernel
theorem pn_R_begin : plainName mn_R_begin.cls = true := by decide +kernel
def ws_R_measure : List Cond := Cond.code mn_R_measure bc_R_measure 5 none :: zt_tbl
def rm_R_measure : Room := { frames := 3, cells := 0, slots := 0, locals := 68 }
theorem hd_R_measure : mn_R_measure.cls = cn_R ∧ mn_R_measure.cls ≠ "java/lang/invoke/MethodHandle" ∧ mn_R_measure.cls ≠ "java/lang/invoke/VarHandle" ∧ (parseMethodDescriptor mn_R_measure.desc).map (fun d => d.parameters.length) = some 3 := by decide +kernel
theorem pn_R_measure : plainName mn_R_measure.cls = true := by decide +kernel
def ws_R_takeIn : List Cond := Cond.code mn_R_takeIn bc_R_takeIn 8 none :: zt_tbl
def rm_R_takeIn : Room := { frames := 2, cells := 0, slots := 0, locals := 41 }
theorem hd_R_takeIn : mn_R_takeIn.cls = cn_R ∧ mn_R_takeIn.cls ≠ "java/lang/invoke/MethodHandle" ∧ mn_R_takeIn.cls ≠ "java/lang/invoke/VarHandle" ∧ (parseMethodDescriptor mn_R_takeIn.desc).map (fun d => d.parameters.length) = some 2 := by decide +kernel
theorem pn_R_takeIn : plainName mn_R_takeIn.cls = true := by decide +kernel
def ws_R_goOn : List Cond := Cond.code mn_R_goOn bc_R_goOn 5 none :: zt_tbl
def rm_R_goOn : Room := { frames := 4, cells := 0, slots := 0, locals := 92 }
theorem hd_R_goOn : mn_R_goOn.cls = cn_R ∧ mn_R_goOn.cls ≠ "java/lang/invoke/MethodHandle" ∧ mn_R_goOn.cls ≠ "java/lang/invoke/VarHandle" ∧ (parseMethodDescriptor mn_R_goOn.desc).map (fun d => d.parameters.length) = some 3 := by decide +kernel
theorem pn_R_goOn : plainName mn_R_goOn.cls = true := by decide +kernel
def ws_R_holds : List Cond := Cond.code mn_R_holds bc_R_holds 2 ((some .boolean)) :: zt_tbl
def rm_R_holds : Room := { frames := 0, cells := 0, slots := 0, locals := 0 }
theorem hd_R_holds : mn_R_holds.cls = cn_R ∧ mn_R_holds.cls ≠ "java/lang/invoke/MethodHandle" ∧ mn_R_holds.cls ≠ "java/lang/invoke/VarHandle" ∧ (parseMethodDescriptor mn_R_holds.desc).map (fun d => d.parameters.length) = some 1 := by decide +kernel
theorem pn_R_holds : plainName mn_R_holds.cls = true := by decide +kernel
def ws_R_staying : List Cond := Cond.code mn_R_staying bc_R_staying 3 ((some .int)) :: zt_tbl
def rm_R_staying : Room := { frames := 0, cells := 0, slots := 0, locals := 0 }
theorem hd_R_staying : mn_R_staying.cls = cn_R ∧ mn_R_staying.cls ≠ "java/lang/invoke/MethodHandle" ∧ mn_R_staying.cls ≠ "java/lang/invoke/VarHandle" ∧ (parseMethodDescriptor mn_R_staying.desc).map (fun d => d.parameters.length) = some 1 := by decide +kernel
theorem pn_R_staying : plainName mn_R_staying.cls = true := by decide +kernel
def ws_T_searchNoteByNote : List Cond := Cond.code mn_T_searchNoteByNote bc_T_searchNoteByNote 5 none :: zt_tbl
def rm_T_searchNoteByNote : Room := { frames := 4, cells := 0, slots := 0, locals := 97 }
theorem hd_T_searchNoteByNote : mn_T_searchNoteByNote.cls = cn_T ∧ mn_T_searchNoteByNote.cls ≠ "java/lang/invoke/MethodHandle" ∧ mn_T_searchNoteByNote.cls ≠ "java/lang/invoke/VarHandle" ∧ (parseMethodDescriptor mn_T_searchNoteByNote.desc).map (fun d => d.parameters.length) = some 2 := by decide +kernel
theorem pn_T_searchNoteByNote : plainName mn_T_searchNoteByNote.cls = true := by decide +kernel
def ws_T_fits : List Cond := Cond.code mn_T_fits bc_T_fits 4 ((some .boolean)) :: zt_tbl
def rm_T_fits : Room := { frames := 3, cells := 0, slots := 0, locals := 64 }
theorem hd_T_fits : mn_T_fits.cls = cn_T ∧ mn_T_fits.cls ≠ "java/lang/invoke/MethodHandle" ∧ mn_T_fits.cls ≠ "java/lang/invoke/VarHandle" ∧ (parseMethodDescriptor mn_T_fits.desc).map (fun d => d.parameters.length) = some 3 := by decide +kernel
theorem pn_T_fits : plainName mn_T_fits.cls = true := by decide +kernel
def ws_T_sameSteps : List Cond := Cond.code mn_T_sameSteps bc_T_sameSteps 5 ((some .boolean)) :: zt_tbl
def rm_T_sameSteps : Room := { frames := 1, cells := 0, slots := 0, locals := 21 }
theorem hd_T_sameSteps : mn_T_sameSteps.cls = cn_T ∧ mn_T_sameSteps.cls ≠ "java/lang/invoke/MethodHandle" ∧ mn_T_sameSteps.cls ≠ "java/lang/invoke/VarHandle" ∧ (parseMethodDescriptor mn_T_sameSteps.desc).map (fun d => d.parameters.length) = some 4 := by decide +kernel
theorem pn_T_sameSteps : plainName mn_T_sameSteps.cls = true := by decide +kernel
def ws_T_sameRatio : List Cond := Cond.code mn_T_sameRatio bc_T_sameRatio 4 ((some .boolean)) :: zt_tbl
def rm_T_sameRatio : Room := { frames := 0, cells := 0, slots := 0, locals := 0 }
theorem hd_T_sameRatio : mn_T_sameRatio.cls = cn_T ∧ mn_T_sameRatio.cls ≠ "java/lang/invoke/MethodHandle" ∧ mn_T_sameRatio.cls ≠ "java/lang/invoke/VarHandle" ∧ (parseMethodDescriptor mn_T_sameRatio.desc).map (fun d => d.parameters.length) = some 3 := by decide +kernel
theorem pn_T_sameRatio : plainName mn_T_sameRatio.cls = true := by decide +kernel
def ws_T_sameContour : List Cond := Cond.code mn_T_sameContour bc_T_sameContour 4 ((some .boolean)) :: zt_tbl
def rm_T_sameContour : Room := { frames := 2, cells := 0, slots := 0, locals := 41 }
theorem hd_T_sameContour : mn_T_sameContour.cls = cn_T ∧ mn_T_sameContour.cls ≠ "java/lang/invoke/MethodHandle" ∧ mn_T_sameContour.cls ≠ "java/lang/invoke/VarHandle" ∧ (parseMethodDescriptor mn_T_sameContour.desc).map (fun d => d.parameters.length) = some 3 := by decide +kernel
theorem pn_T_sameContour : plainName mn_T_sameContour.cls = true := by decide +kernel
def ws_G_signum : List Cond := Cond.code mn_G_signum bc_G_signum 1 ((some .int)) :: zt_tbl
def rm_G_signum : Room := { frames := 0, cells := 0, slots := 0, locals := 0 }
theorem hd_G_signum : mn_G_signum.cls = cn_G ∧ mn_G_signum.cls ≠ "java/lang/invoke/MethodHandle" ∧ mn_G_signum.cls ≠ "java/lang/invoke/VarHandle" ∧ (parseMethodDescriptor mn_G_signum.desc).map (fun d => d.parameters.length) = some 1 := by decide +kernel
theorem pn_G_signum : plainName mn_G_signum.cls = true := by decide +kernel
def ws_T_match : List Cond := Cond.code mn_T_match bc_T_match 4 ((some .int)) :: zt_tbl
def rm_T_match : Room := { frames := 6, cells := 1, slots := 6, locals := 89 }
theorem hd_T_match : mn_T_match.cls = cn_T ∧ mn_T_match.cls ≠ "java/lang/invoke/MethodHandle" ∧ mn_T_match.cls ≠ "java/lang/invoke/VarHandle" ∧ (parseMethodDescriptor mn_T_match.desc).map (fun d => d.parameters.length) = some 2 := by decide +kernel
theorem pn_T_match : plainName mn_T_match.cls = true := by decide +kernel
def ws_F_upperOfScore : List Cond := Cond.code mn_F_upperOfScore bc_F_upperOfScore 2 ((some .int)) :: zt_tbl
def rm_F_upperOfScore : Room := { frames := 1, cells := 0, slots := 0, locals := 22 }
theorem hd_F_upperOfScore : mn_F_upperOfScore.cls = cn_F ∧ mn_F_upperOfScore.cls ≠ "java/lang/invoke/MethodHandle" ∧ mn_F_upperOfScore.cls ≠ "java/lang/invoke/VarHandle" ∧ (parseMethodDescriptor mn_F_upperOfScore.desc).map (fun d => d.parameters.length) = some 1 := by decide +kernel
theorem pn_F_upperOfScore : plainName mn_F_upperOfScore.cls = true := by decide +kernel
def ws_F_leastTerm : List Cond := Cond.code mn_F_leastTerm bc_F_leastTerm 3 ((some .int)) :: zt_tbl
def rm_F_leastTerm : Room := { frames := 0, cells := 0, slots := 0, locals := 0 }
theorem hd_F_leastTerm : mn_F_leastTerm.cls = cn_F ∧ mn_F_leastTerm.cls ≠ "java/lang/invoke/MethodHandle" ∧ mn_F_leastTerm.cls ≠ "java/lang/invoke/VarHandle" ∧ (parseMethodDescriptor mn_F_leastTerm.desc).map (fun d => d.parameters.length) = some 2 := by decide +kernel
theorem pn_F_leastTerm : plainName mn_F_leastTerm.cls = true := by decide +kernel
def ws_F_lowerOfScore : List Cond := Cond.code mn_F_lowerOfScore bc_F_lowerOfScore 2 ((some .int)) :: zt_tbl
def rm_F_lowerOfScore : Room := { frames := 1, cells := 0, slots := 0, locals := 22 }
theorem hd_F_lowerOfScore : mn_F_lowerOfScore.cls = cn_F ∧ mn_F_lowerOfScore.cls ≠ "java/lang/invoke/MethodHandle" ∧ mn_F_lowerOfScore.cls ≠ "java/lang/invoke/VarHandle" ∧ (parseMethodDescriptor mn_F_lowerOfScore.desc).map (fun d => d.parameters.length) = some 1 := by decide +kernel
theorem pn_F_lowerOfScore : plainName mn_F_lowerOfScore.cls = true := by decide +kernel
def ws_T_repeats : List Cond := Cond.code mn_T_repeats bc_T_repeats 4 ((some .int)) :: zt_tbl
def rm_T_repeats : Room := { frames := 7, cells := 2, slots := 12, locals := 110 }
theorem hd_T_repeats : mn_T_repeats.cls = cn_T ∧ mn_T_repeats.cls ≠ "java/lang/invoke/MethodHandle" ∧ mn_T_repeats.cls ≠ "java/lang/invoke/VarHandle" ∧ (parseMethodDescriptor mn_T_repeats.desc).map (fun d => d.parameters.length) = some 2 := by decide +kernel
theorem pn_T_repeats : plainName mn_T_repeats.cls = true := by decide +kernel
def ws_T_refuseUnlessLeast : List Cond := Cond.code mn_T_refuseUnlessLeast bc_T_refuseUnlessLeast 1 none :: zt_tbl
def rm_T_refuseUnlessLeast : Room := { frames := 6, cells := 1, slots := 6, locals := 89 }
theorem hd_T_refuseUnlessLeast : mn_T_refuseUnlessLeast.cls = cn_T ∧ mn_T_refuseUnlessLeast.cls ≠ "java/lang/invoke/MethodHandle" ∧ mn_T_refuseUnlessLeast.cls ≠ "java/lang/invoke/VarHandle" ∧ (parseMethodDescriptor mn_T_refuseUnlessLeast.desc).map (fun d => d.parameters.length) = some 1 := by decide +kernel
theorem pn_T_refuseUnlessLeast : plainName mn_T_refuseUnlessLeast.cls = true := by decide +kernel
def ws_W_walk : List Cond := Cond.code mn_W_walk bc_W_walk 8 ((some .int)) :: zt_tbl
def rm_W_walk : Room := { frames := 3, cells := 0, slots := 0, locals := 68 }
theorem hd_W_walk : mn_W_walk.cls = cn_W ∧ mn_W_walk.cls ≠ "java/lang/invoke/MethodHandle" ∧ mn_W_walk.cls ≠ "java/lang/invoke/VarHandle" ∧ (parseMethodDescriptor mn_W_walk.desc).map (fun d => d.parameters.length) = some 3 := by decide +kernel
theorem pn_W_walk : plainName mn_W_walk.cls = true := by decide +kernel
def ws_W_compare : List Cond := Cond.code mn_W_compare bc_W_compare 6 none :: zt_tbl
def rm_W_compare : Room := { frames := 2, cells := 0, slots := 0, locals := 41 }
theorem hd_W_compare : mn_W_compare.cls = cn_W ∧ mn_W_compare.cls ≠ "java/lang/invoke/MethodHandle" ∧ mn_W_compare.cls ≠ "java/lang/invoke/VarHandle" ∧ (parseMethodDescriptor mn_W_compare.desc).map (fun d => d.parameters.length) = some 2 := by decide +kernel
theorem pn_W_compare : plainName mn_W_compare.cls = true := by decide +kernel
def ws_W_placesOfRepeat : List Cond := Cond.code mn_W_placesOfRepeat bc_W_placesOfRepeat 8 ((some .int)) :: zt_tbl
def rm_W_placesOfRepeat : Room := { frames := 2, cells := 0, slots := 0, locals := 41 }
theorem hd_W_placesOfRepeat : mn_W_placesOfRepeat.cls = cn_W ∧ mn_W_placesOfRepeat.cls ≠ "java/lang/invoke/MethodHandle" ∧ mn_W_placesOfRepeat.cls ≠ "java/lang/invoke/VarHandle" ∧ (parseMethodDescriptor mn_W_placesOfRepeat.desc).map (fun d => d.parameters.length) = some 3 := by decide +kernel
theorem pn_W_placesOfRepeat : plainName mn_W_placesOfRepeat.cls = true := by decide +kernel
def ws_T_repeat : List Cond := Cond.code mn_T_repeat bc_T_repeat 6 ((some .int)) :: zt_tbl
def rm_T_repeat : Room := { frames := 7, cells := 3, slots := 18, locals := 110 }
theorem hd_T_repeat : mn_T_repeat.cls = cn_T ∧ mn_T_repeat.cls ≠ "java/lang/invoke/MethodHandle" ∧ mn_T_repeat.cls ≠ "java/lang/invoke/VarHandle" ∧ (parseMethodDescriptor mn_T_repeat.desc).map (fun d => d.parameters.length) = some 4 := by decide +kernel
theorem pn_T_repeat : plainName mn_T_repeat.cls = true := by decide +kernel
def ws_T_canon : List Cond := Cond.code mn_T_canon bc_T_canon 7 ((some .int)) :: zt_tbl
def rm_T_canon : Room := { frames := 7, cells := 3, slots := 18, locals := 110 }
theorem hd_T_canon : mn_T_canon.cls = cn_T ∧ mn_T_canon.cls ≠ "java/lang/invoke/MethodHandle" ∧ mn_T_canon.cls ≠ "java/lang/invoke/VarHandle" ∧ (parseMethodDescriptor mn_T_canon.desc).map (fun d => d.parameters.length) = some 3 := by decide +kernel
theorem pn_T_canon : plainName mn_T_canon.cls = true := by decide +kernel
def ws_T_sameLengths : List Cond := Cond.code mn_T_sameLengths bc_T_sameLengths 5 ((some .boolean)) :: zt_tbl
def rm_T_sameLengths : Room := { frames := 0, cells := 0, slots := 0, locals := 0 }
theorem hd_T_sameLengths : mn_T_sameLengths.cls = cn_T ∧ mn_T_sameLengths.cls ≠ "java/lang/invoke/MethodHandle" ∧ mn_T_sameLengths.cls ≠ "java/lang/invoke/VarHandle" ∧ (parseMethodDescriptor mn_T_sameLengths.desc).map (fun d => d.parameters.length) = some 4 := by decide +kernel
theorem pn_T_sameLengths : plainName mn_T_sameLengths.cls = true := by decide +kernel
def ws_T_opening : List Cond := Cond.code mn_T_opening bc_T_opening 7 ((some .int)) :: zt_tbl
def rm_T_opening : Room := { frames := 7, cells := 1, slots := 6, locals := 110 }
theorem hd_T_opening : mn_T_opening.cls = cn_T ∧ mn_T_opening.cls ≠ "java/lang/invoke/MethodHandle" ∧ mn_T_opening.cls ≠ "java/lang/invoke/VarHandle" ∧ (parseMethodDescriptor mn_T_opening.desc).map (fun d => d.parameters.length) = some 2 := by decide +kernel
theorem pn_T_opening : plainName mn_T_opening.cls = true := by decide +kernel
def ws_T_stepsSharedAtFirst : List Cond := Cond.code mn_T_stepsSharedAtFirst bc_T_stepsSharedAtFirst 4 ((some .int)) :: zt_tbl
def rm_T_stepsSharedAtFirst : Room := { frames := 2, cells := 0, slots := 0, locals := 41 }
theorem hd_T_stepsSharedAtFirst : mn_T_stepsSharedAtFirst.cls = cn_T ∧ mn_T_stepsSharedAtFirst.cls ≠ "java/lang/invoke/MethodHandle" ∧ mn_T_stepsSharedAtFirst.cls ≠ "java/lang/invoke/VarHandle" ∧ (parseMethodDescriptor mn_T_stepsSharedAtFirst.desc).map (fun d => d.parameters.length) = some 2 := by decide +kernel
theorem pn_T_stepsSharedAtFirst : plainName mn_T_stepsSharedAtFirst.cls = true := by decide +kernel
def ws_M_init : List Cond := Cond.code mn_M_init bc_M_init 1 none :: zt_tbl
theorem hd_M_init : mn_M_init.cls ≠ "java/lang/invoke/MethodHandle" ∧ mn_M_init.cls ≠ "java/lang/invoke/VarHandle" ∧ (parseMethodDescriptor mn_M_init.desc).map (fun d => d.parameters.length) = some 0 := by decide +kernel
theorem pn_M_init : plainName mn_M_init.cls = true := by decide +kernel
def ws_M_thrown : List Cond := Cond.code mn_M_thrown bc_M_thrown 1 ((some .int)) :: zt_tbl
def rm_M_thrown : Room := { frames := 0, cells := 0, slots := 0, locals := 0 }
theorem hd_M_thrown : mn_M_thrown.cls = cn_M ∧ mn_M_thrown.cls ≠ "java/lang/invoke/MethodHandle" ∧ mn_M_thrown.cls ≠ "java/lang/invoke/VarHandle" ∧ (parseMethodDescriptor mn_M_thrown.desc).map (fun d => d.parameters.length) = some 0 := by decide +kernel
theorem pn_M_thrown : plainName mn_M_thrown.cls = true := by decide +kernel
def ws_M_tune : List Cond := Cond.code mn_M_tune bc_M_tune 2 none :: zt_tbl
def rm_M_tune : Room := { frames := 0, cells := 0, slots := 0, locals := 0 }
theorem hd_M_tune : mn_M_tune.cls = cn_M ∧ mn_M_tune.cls ≠ "java/lang/invoke/MethodHandle" ∧ mn_M_tune.cls ≠ "java/lang/invoke/VarHandle" ∧ (parseMethodDescriptor mn_M_tune.desc).map (fun d => d.parameters.length) = some 1 := by decide +kernel
theorem pn_M_tune : plainName mn_M_tune.cls = true := by decide +kernel
def ws_M_drop : List Cond := Cond.code mn_M_drop bc_M_drop 2 none :: zt_tbl
def rm_M_drop : Room := { frames := 1, cells := 0, slots := 0, locals := 21 }
theorem hd_M_drop : mn_M_drop.cls = cn_M ∧ mn_M_drop.cls ≠ "java/lang/invoke/MethodHandle" ∧ mn_M_drop.cls ≠ "java/lang/invoke/VarHandle" ∧ (parseMethodDescriptor mn_M_drop.desc).map (fun d => d.parameters.length) = some 1 := by decide +kernel
theorem pn_M_drop : plainName mn_M_drop.cls = true := by decide +kernel
def ws_M_noTune : List Cond := Cond.code mn_M_noTune bc_M_noTune 2 ((some .boolean)) :: zt_tbl
def rm_M_noTune : Room := { frames := 0, cells := 0, slots := 0, locals := 0 }
theorem hd_M_noTune : mn_M_noTune.cls = cn_M ∧ mn_M_noTune.cls ≠ "java/lang/invoke/MethodHandle" ∧ mn_M_noTune.cls ≠ "java/lang/invoke/VarHandle" ∧ (parseMethodDescriptor mn_M_noTune.desc).map (fun d => d.parameters.length) = some 1 := by decide +kernel
theorem pn_M_noTune : plainName mn_M_noTune.cls = true := by decide +kernel
def ws_M_note : List Cond := Cond.code mn_M_note bc_M_note 4 ((some .int)) :: zt_tbl
def rm_M_note : Room := { frames := 1, cells := 0, slots := 0, locals := 23 }
theorem hd_M_note : mn_M_note.cls = cn_M ∧ mn_M_note.cls ≠ "java/lang/invoke/MethodHandle" ∧ mn_M_note.cls ≠ "java/lang/invoke/VarHandle" ∧ (parseMethodDescriptor mn_M_note.desc).map (fun d => d.parameters.length) = some 3 := by decide +kernel
theorem pn_M_note : plainName mn_M_note.cls = true := by decide +kernel
def ws_M_noNote : List Cond := Cond.code mn_M_noNote bc_M_noNote 2 ((some .boolean)) :: zt_tbl
def rm_M_noNote : Room := { frames := 0, cells := 0, slots := 0, locals := 0 }
theorem hd_M_noNote : mn_M_noNote.cls = cn_M ∧ mn_M_noNote.cls ≠ "java/lang/invoke/MethodHandle" ∧ mn_M_noNote.cls ≠ "java/lang/invoke/VarHandle" ∧ (parseMethodDescriptor mn_M_noNote.desc).map (fun d => d.parameters.length) = some 2 := by decide +kernel
theorem pn_M_noNote : plainName mn_M_noNote.cls = true := by decide +kernel
def ws_M_spot : List Cond := Cond.code mn_M_spot bc_M_spot 4 ((some .int)) :: zt_tbl
def rm_M_spot : Room := { frames := 0, cells := 0, slots := 0, locals := 0 }
theorem hd_M_spot : mn_M_spot.cls = cn_M ∧ mn_M_spot.cls ≠ "java/lang/invoke/MethodHandle" ∧ mn_M_spot.cls ≠ "java/lang/invoke/VarHandle" ∧ (parseMethodDescriptor mn_M_spot.desc).map (fun d => d.parameters.length) = some 3 := by decide +kernel
theorem pn_M_spot : plainName mn_M_spot.cls = true := by decide +kernel
def ws_M_show : List Cond := Cond.code mn_M_show bc_M_show 3 none :: zt_tbl
def rm_M_show : Room := { frames := 1, cells := 0, slots := 0, locals := 21 }
theorem hd_M_show : mn_M_show.cls = cn_M ∧ mn_M_show.cls ≠ "java/lang/invoke/MethodHandle" ∧ mn_M_show.cls ≠ "java/lang/invoke/VarHandle" ∧ (parseMethodDescriptor mn_M_show.desc).map (fun d => d.parameters.length) = some 2 := by decide +kernel
theorem pn_M_show : plainName mn_M_show.cls = true := by decide +kernel
def ws_M_correct : List Cond := Cond.code mn_M_correct bc_M_correct 7 ((some .int)) :: zt_tbl
def rm_M_correct : Room := { frames := 1, cells := 0, slots := 0, locals := 23 }
theorem hd_M_correct : mn_M_correct.cls = cn_M ∧ mn_M_correct.cls ≠ "java/lang/invoke/MethodHandle" ∧ mn_M_correct.cls ≠ "java/lang/invoke/VarHandle" ∧ (parseMethodDescriptor mn_M_correct.desc).map (fun d => d.parameters.length) = some 4 := by decide +kernel
theorem pn_M_correct : plainName mn_M_correct.cls = true := by decide +kernel
def ws_M_restore : List Cond := Cond.code mn_M_restore bc_M_restore 3 none :: zt_tbl
def rm_M_restore : Room := { frames := 1, cells := 0, slots := 0, locals := 21 }
theorem hd_M_restore : mn_M_restore.cls = cn_M ∧ mn_M_restore.cls ≠ "java/lang/invoke/MethodHandle" ∧ mn_M_restore.cls ≠ "java/lang/invoke/VarHandle" ∧ (parseMethodDescriptor mn_M_restore.desc).map (fun d => d.parameters.length) = some 2 := by decide +kernel
theorem pn_M_restore : plainName mn_M_restore.cls = true := by decide +kernel
def ws_M_at : List Cond := Cond.code mn_M_at bc_M_at 7 ((some .int)) :: zt_tbl
def rm_M_at : Room := { frames := 1, cells := 0, slots := 0, locals := 23 }
theorem hd_M_at : mn_M_at.cls = cn_M ∧ mn_M_at.cls ≠ "java/lang/invoke/MethodHandle" ∧ mn_M_at.cls ≠ "java/lang/invoke/VarHandle" ∧ (parseMethodDescriptor mn_M_at.desc).map (fun d => d.parameters.length) = some 4 := by decide +kernel
theorem pn_M_at : plainName mn_M_at.cls = true := by decide +kernel
def ws_M_about : List Cond := Cond.code mn_M_about bc_M_about 3 ((some .int)) :: zt_tbl
def rm_M_about : Room := { frames := 1, cells := 0, slots := 0, locals := 21 }
theorem hd_M_about : mn_M_about.cls = cn_M ∧ mn_M_about.cls ≠ "java/lang/invoke/MethodHandle" ∧ mn_M_about.cls ≠ "java/lang/invoke/VarHandle" ∧ (parseMethodDescriptor mn_M_about.desc).map (fun d => d.parameters.length) = some 2 := by decide +kernel
theorem pn_M_about : plainName mn_M_about.cls = true := by decide +kernel
def ws_M_contour : List Cond := Cond.code mn_M_contour bc_M_contour 4 ((some .int)) :: zt_tbl
def rm_M_contour : Room := { frames := 3, cells := 0, slots := 0, locals := 67 }
theorem hd_M_contour : mn_M_contour.cls = cn_M ∧ mn_M_contour.cls ≠ "java/lang/invoke/MethodHandle" ∧ mn_M_contour.cls ≠ "java/lang/invoke/VarHandle" ∧ (parseMethodDescriptor mn_M_contour.desc).map (fun d => d.parameters.length) = some 2 := by decide +kernel
theorem pn_M_contour : plainName mn_M_contour.cls = true := by decide +kernel
def ws_M_step : List Cond := Cond.code mn_M_step bc_M_step 3 ((some .int)) :: zt_tbl
def rm_M_step : Room := { frames := 2, cells := 0, slots := 0, locals := 45 }
theorem hd_M_step : mn_M_step.cls = cn_M ∧ mn_M_step.cls ≠ "java/lang/invoke/MethodHandle" ∧ mn_M_step.cls ≠ "java/lang/invoke/VarHandle" ∧ (parseMethodDescriptor mn_M_step.desc).map (fun d => d.parameters.length) = some 2 := by decide +kernel
theorem pn_M_step : plainName mn_M_step.cls = true := by decide +kernel
def ws_M_pitch : List Cond := Cond.code mn_M_pitch bc_M_pitch 3 ((some .int)) :: zt_tbl
def rm_M_pitch : Room := { frames := 1, cells := 0, slots := 0, locals := 23 }
theorem hd_M_pitch : mn_M_pitch.cls = cn_M ∧ mn_M_pitch.cls ≠ "java/lang/invoke/MethodHandle" ∧ mn_M_pitch.cls ≠ "java/lang/invoke/VarHandle" ∧ (parseMethodDescriptor mn_M_pitch.desc).map (fun d => d.parameters.length) = some 2 := by decide +kernel
theorem pn_M_pitch : plainName mn_M_pitch.cls = true := by decide +kernel
def ws_M_sign : List Cond := Cond.code mn_M_sign bc_M_sign 1 ((some .int)) :: zt_tbl
def rm_M_sign : Room := { frames := 0, cells := 0, slots := 0, locals := 0 }
theorem hd_M_sign : mn_M_sign.cls = cn_M ∧ mn_M_sign.cls ≠ "java/lang/invoke/MethodHandle" ∧ mn_M_sign.cls ≠ "java/lang/invoke/VarHandle" ∧ (parseMethodDescriptor mn_M_sign.desc).map (fun d => d.parameters.length) = some 1 := by decide +kernel
theorem pn_M_sign : plainName mn_M_sign.cls = true := by decide +kernel
def ws_M_ask : List Cond := Cond.code mn_M_ask bc_M_ask 3 ((some .int)) :: zt_tbl
def rm_M_ask : Room := { frames := 1, cells := 0, slots := 0, locals := 21 }
theorem hd_M_ask : mn_M_ask.cls = cn_M ∧ mn_M_ask.cls ≠ "java/lang/invoke/MethodHandle" ∧ mn_M_ask.cls ≠ "java/lang/invoke/VarHandle" ∧ (parseMethodDescriptor mn_M_ask.desc).map (fun d => d.parameters.length) = some 2 := by decide +kernel
theorem pn_M_ask : plainName mn_M_ask.cls = true := by decide +kernel
def ws_M_forget : List Cond := Cond.code mn_M_forget bc_M_forget 1 none :: zt_tbl
def rm_M_forget : Room := { frames := 0, cells := 0, slots := 0, locals := 0 }
theorem hd_M_forget : mn_M_forget.cls = cn_M ∧ mn_M_forget.cls ≠ "java/lang/invoke/MethodHandle" ∧ mn_M_forget.cls ≠ "java/lang/invoke/VarHandle" ∧ (parseMethodDescriptor mn_M_forget.desc).map (fun d => d.parameters.length) = some 0 := by decide +kernel
theorem pn_M_forget : plainName mn_M_forget.cls = true := by decide +kernel
def ws_M_search : List Cond := Cond.code mn_M_search bc_M_search 7 ((some .int)) :: zt_tbl
def rm_M_search : Room := { frames := 6, cells := 0, slots := 0, locals := 148 }
theorem hd_M_search : mn_M_search.cls = cn_M ∧ mn_M_search.cls ≠ "java/lang/invoke/MethodHandle" ∧ mn_M_search.cls ≠ "java/lang/invoke/VarHandle" ∧ (parseMethodDescriptor mn_M_search.desc).map (fun d => d.parameters.length) = some 2 := by decide +kernel
theorem pn_M_search : plainName mn_M_search.cls = true := by decide +kernel
def ws_M_part : List Cond := Cond.code mn_M_part bc_M_part 7 ((some .int)) :: zt_tbl
def rm_M_part : Room := { frames := 5, cells := 0, slots := 0, locals := 122 }
theorem hd_M_part : mn_M_part.cls = cn_M ∧ mn_M_part.cls ≠ "java/lang/invoke/MethodHandle" ∧ mn_M_part.cls ≠ "java/lang/invoke/VarHandle" ∧ (parseMethodDescriptor mn_M_part.desc).map (fun d => d.parameters.length) = some 5 := by decide +kernel
theorem pn_M_part : plainName mn_M_part.cls = true := by decide +kernel
def ws_M_plain : List Cond := Cond.code mn_M_plain bc_M_plain 10 ((some .boolean)) :: zt_tbl
def rm_M_plain : Room := { frames := 3, cells := 0, slots := 0, locals := 67 }
theorem hd_M_plain : mn_M_plain.cls = cn_M ∧ mn_M_plain.cls ≠ "java/lang/invoke/MethodHandle" ∧ mn_M_plain.cls ≠ "java/lang/invoke/VarHandle" ∧ (parseMethodDescriptor mn_M_plain.desc).map (fun d => d.parameters.length) = some 3 := by decide +kernel
theorem pn_M_plain : plainName mn_M_plain.cls = true := by decide +kernel
def ws_M_askedStep : List Cond := Cond.code mn_M_askedStep bc_M_askedStep 2 ((some .int)) :: zt_tbl
def rm_M_askedStep : Room := { frames := 0, cells := 0, slots := 0, locals := 0 }
theorem hd_M_askedStep : mn_M_askedStep.cls = cn_M ∧ mn_M_askedStep.cls ≠ "java/lang/invoke/MethodHandle" ∧ mn_M_askedStep.cls ≠ "java/lang/invoke/VarHandle" ∧ (parseMethodDescriptor mn_M_askedStep.desc).map (fun d => d.parameters.length) = some 1 := by decide +kernel
theorem pn_M_askedStep : plainName mn_M_askedStep.cls = true := by decide +kernel
def ws_M_lengthOf : List Cond := Cond.code mn_M_lengthOf bc_M_lengthOf 3 ((some .int)) :: zt_tbl
def rm_M_lengthOf : Room := { frames := 1, cells := 0, slots := 0, locals := 23 }
theorem hd_M_lengthOf : mn_M_lengthOf.cls = cn_M ∧ mn_M_lengthOf.cls ≠ "java/lang/invoke/MethodHandle" ∧ mn_M_lengthOf.cls ≠ "java/lang/invoke/VarHandle" ∧ (parseMethodDescriptor mn_M_lengthOf.desc).map (fun d => d.parameters.length) = some 2 := by decide +kernel
theorem pn_M_lengthOf : plainName mn_M_lengthOf.cls = true := by decide +kernel
def ws_M_outlines : List Cond := Cond.code mn_M_outlines bc_M_outlines 10 ((some .boolean)) :: zt_tbl
def rm_M_outlines : Room := { frames := 2, cells := 0, slots := 0, locals := 45 }
theorem hd_M_outlines : mn_M_outlines.cls = cn_M ∧ mn_M_outlines.cls ≠ "java/lang/invoke/MethodHandle" ∧ mn_M_outlines.cls ≠ "java/lang/invoke/VarHandle" ∧ (parseMethodDescriptor mn_M_outlines.desc).map (fun d => d.parameters.length) = some 4 := by decide +kernel
theorem pn_M_outlines : plainName mn_M_outlines.cls = true := by decide +kernel
def ws_M_near : List Cond := Cond.code mn_M_near bc_M_near 5 ((some .boolean)) :: zt_tbl
def rm_M_near : Room := { frames := 4, cells := 0, slots := 0, locals := 98 }
theorem hd_M_near : mn_M_near.cls = cn_M ∧ mn_M_near.cls ≠ "java/lang/invoke/MethodHandle" ∧ mn_M_near.cls ≠ "java/lang/invoke/VarHandle" ∧ (parseMethodDescriptor mn_M_near.desc).map (fun d => d.parameters.length) = some 4 := by decide +kernel
theorem pn_M_near : plainName mn_M_near.cls = true := by decide +kernel
def ws_M_distance : List Cond := Cond.code mn_M_distance bc_M_distance 12 ((some .int)) :: zt_tbl
def rm_M_distance : Room := { frames := 3, cells := 0, slots := 0, locals := 67 }
theorem hd_M_distance : mn_M_distance.cls = cn_M ∧ mn_M_distance.cls ≠ "java/lang/invoke/MethodHandle" ∧ mn_M_distance.cls ≠ "java/lang/invoke/VarHandle" ∧ (parseMethodDescriptor mn_M_distance.desc).map (fun d => d.parameters.length) = some 3 := by decide +kernel
theorem pn_M_distance : plainName mn_M_distance.cls = true := by decide +kernel
def ws_M_leads : List Cond := Cond.code mn_M_leads bc_M_leads 5 ((some .boolean)) :: zt_tbl
def rm_M_leads : Room := { frames := 0, cells := 0, slots := 0, locals := 0 }
theorem hd_M_leads : mn_M_leads.cls = cn_M ∧ mn_M_leads.cls ≠ "java/lang/invoke/MethodHandle" ∧ mn_M_leads.cls ≠ "java/lang/invoke/VarHandle" ∧ (parseMethodDescriptor mn_M_leads.desc).map (fun d => d.parameters.length) = some 2 := by decide +kernel
theorem pn_M_leads : plainName mn_M_leads.cls = true := by decide +kernel
def ws_M_divisor : List Cond := Cond.code mn_M_divisor bc_M_divisor 3 ((some .int)) :: zt_tbl
def rm_M_divisor : Room := { frames := 0, cells := 0, slots := 0, locals := 0 }
theorem hd_M_divisor : mn_M_divisor.cls = cn_M ∧ mn_M_divisor.cls ≠ "java/lang/invoke/MethodHandle" ∧ mn_M_divisor.cls ≠ "java/lang/invoke/VarHandle" ∧ (parseMethodDescriptor mn_M_divisor.desc).map (fun d => d.parameters.length) = some 2 := by decide +kernel
theorem pn_M_divisor : plainName mn_M_divisor.cls = true := by decide +kernel
def ws_M_match : List Cond := Cond.code mn_M_match bc_M_match 3 ((some .int)) :: zt_tbl
def rm_M_match : Room := { frames := 0, cells := 0, slots := 0, locals := 0 }
theorem hd_M_match : mn_M_match.cls = cn_M ∧ mn_M_match.cls ≠ "java/lang/invoke/MethodHandle" ∧ mn_M_match.cls ≠ "java/lang/invoke/VarHandle" ∧ (parseMethodDescriptor mn_M_match.desc).map (fun d => d.parameters.length) = some 2 := by decide +kernel
theorem pn_M_match : plainName mn_M_match.cls = true := by decide +kernel
def ws_M_repeats : List Cond := Cond.code mn_M_repeats bc_M_repeats 6 ((some .int)) :: zt_tbl
def rm_M_repeats : Room := { frames := 5, cells := 0, slots := 0, locals := 120 }
theorem hd_M_repeats : mn_M_repeats.cls = cn_M ∧ mn_M_repeats.cls ≠ "java/lang/invoke/MethodHandle" ∧ mn_M_repeats.cls ≠ "java/lang/invoke/VarHandle" ∧ (parseMethodDescriptor mn_M_repeats.desc).map (fun d => d.parameters.length) = some 2 := by decide +kernel
theorem pn_M_repeats : plainName mn_M_repeats.cls = true := by decide +kernel
def ws_M_places : List Cond := Cond.code mn_M_places bc_M_places 8 ((some .int)) :: zt_tbl
def rm_M_places : Room := { frames := 4, cells := 0, slots := 0, locals := 93 }
theorem hd_M_places : mn_M_places.cls = cn_M ∧ mn_M_places.cls ≠ "java/lang/invoke/MethodHandle" ∧ mn_M_places.cls ≠ "java/lang/invoke/VarHandle" ∧ (parseMethodDescriptor mn_M_places.desc).map (fun d => d.parameters.length) = some 3 := by decide +kernel
theorem pn_M_places : plainName mn_M_places.cls = true := by decide +kernel
def ws_M_sameSteps : List Cond := Cond.code mn_M_sameSteps bc_M_sameSteps 7 ((some .boolean)) :: zt_tbl
def rm_M_sameSteps : Room := { frames := 3, cells := 0, slots := 0, locals := 67 }
theorem hd_M_sameSteps : mn_M_sameSteps.cls = cn_M ∧ mn_M_sameSteps.cls ≠ "java/lang/invoke/MethodHandle" ∧ mn_M_sameSteps.cls ≠ "java/lang/invoke/VarHandle" ∧ (parseMethodDescriptor mn_M_sameSteps.desc).map (fun d => d.parameters.length) = some 4 := by decide +kernel
theorem pn_M_sameSteps : plainName mn_M_sameSteps.cls = true := by decide +kernel
def ws_M_hasStep : List Cond := Cond.code mn_M_hasStep bc_M_hasStep 3 ((some .boolean)) :: zt_tbl
def rm_M_hasStep : Room := { frames := 0, cells := 0, slots := 0, locals := 0 }
theorem hd_M_hasStep : mn_M_hasStep.cls = cn_M ∧ mn_M_hasStep.cls ≠ "java/lang/invoke/MethodHandle" ∧ mn_M_hasStep.cls ≠ "java/lang/invoke/VarHandle" ∧ (parseMethodDescriptor mn_M_hasStep.desc).map (fun d => d.parameters.length) = some 2 := by decide +kernel
theorem pn_M_hasStep : plainName mn_M_hasStep.cls = true := by decide +kernel
def ws_M_repeat : List Cond := Cond.code mn_M_repeat bc_M_repeat 9 ((some .int)) :: zt_tbl
def rm_M_repeat : Room := { frames := 5, cells := 0, slots := 0, locals := 120 }
theorem hd_M_repeat : mn_M_repeat.cls = cn_M ∧ mn_M_repeat.cls ≠ "java/lang/invoke/MethodHandle" ∧ mn_M_repeat.cls ≠ "java/lang/invoke/VarHandle" ∧ (parseMethodDescriptor mn_M_repeat.desc).map (fun d => d.parameters.length) = some 4 := by decide +kernel
theorem pn_M_repeat : plainName mn_M_repeat.cls = true := by decide +kernel
def ws_M_canon : List Cond := Cond.code mn_M_canon bc_M_canon 7 ((some .int)) :: zt_tbl
def rm_M_canon : Room := { frames := 2, cells := 0, slots := 0, locals := 45 }
theorem hd_M_canon : mn_M_canon.cls = cn_M ∧ mn_M_canon.cls ≠ "java/lang/invoke/MethodHandle" ∧ mn_M_canon.cls ≠ "java/lang/invoke/VarHandle" ∧ (parseMethodDescriptor mn_M_canon.desc).map (fun d => d.parameters.length) = some 3 := by decide +kernel
theorem pn_M_canon : plainName mn_M_canon.cls = true := by decide +kernel
def ws_M_opening : List Cond := Cond.code mn_M_opening bc_M_opening 9 ((some .int)) :: zt_tbl
def rm_M_opening : Room := { frames := 4, cells := 0, slots := 0, locals := 90 }
theorem hd_M_opening : mn_M_opening.cls = cn_M ∧ mn_M_opening.cls ≠ "java/lang/invoke/MethodHandle" ∧ mn_M_opening.cls ≠ "java/lang/invoke/VarHandle" ∧ (parseMethodDescriptor mn_M_opening.desc).map (fun d => d.parameters.length) = some 2 := by decide +kernel
theorem pn_M_opening : plainName mn_M_opening.cls = true := by decide +kernel
def ws_M_sharing : List Cond := Cond.code mn_M_sharing bc_M_sharing 4 ((some .int)) :: zt_tbl
def rm_M_sharing : Room := { frames := 3, cells := 0, slots := 0, locals := 67 }
theorem hd_M_sharing : mn_M_sharing.cls = cn_M ∧ mn_M_sharing.cls ≠ "java/lang/invoke/MethodHandle" ∧ mn_M_sharing.cls ≠ "java/lang/invoke/VarHandle" ∧ (parseMethodDescriptor mn_M_sharing.desc).map (fun d => d.parameters.length) = some 2 := by decide +kernel
theorem pn_M_sharing : plainName mn_M_sharing.cls = true := by decide +kernel
theorem gv_T_125 : GoodIn zt_tbl (wsV cn_T 125 cn_N mn_N_clear ws_N_clear) := zt_V ml_T_125 im_N_clear se_N_clear ini_N wk_N_clear
theorem gv_L_7 : GoodIn zt_tbl (wsV cn_L 7 cn_T mn_T_tune ws_T_tune) := zt_V ml_L_7 im_T_tune se_T_tune ini_T wk_T_tune
theorem gv_T_60 : GoodIn zt_tbl (wsV cn_T 60 cn_U mn_U_begin ws_U_begin) := zt_V ml_T_60 im_U_begin se_U_begin ini_U wk_U_begin
theorem gv_U_27 : GoodIn zt_tbl (wsV cn_U 27 cn_N mn_N_clear ws_N_clear) := zt_V ml_U_27 im_N_clear se_N_clear ini_N wk_N_clear
theorem gv_L_17 : GoodIn zt_tbl (wsV cn_L 17 cn_T mn_T_drop ws_T_drop) := zt_V ml_L_17 im_T_drop se_T_drop ini_T wk_T_drop
theorem gv_T_63 : GoodIn zt_tbl (wsV cn_T 63 cn_T mn_T_existing ws_T_existing) := zt_V ml_T_63 im_T_existing se_T_existing ini_T wk_T_existing
theorem gv_T_67 : GoodIn zt_tbl (wsV cn_T 67 cn_U mn_U_end ws_U_end) := zt_V ml_T_67 im_U_end se_U_end ini_U wk_U_end
theorem gv_L_20 : GoodIn zt_tbl (wsV cn_L 20 cn_T mn_T_note ws_T_note) := zt_V ml_L_20 im_T_note se_T_note ini_T wk_T_note
theorem gv_T_70 : GoodIn zt_tbl (wsS cn_T 70 mn_T_refuseUnlessNote ws_T_refuseUnlessNote) := zt_S ml_T_70 sm_T_refuseUnlessNote ini_T wk_T_refuseUnlessNote
theorem gv_T_87 : GoodIn zt_tbl (wsV cn_T 87 cn_N mn_N_append ws_N_append) := zt_V ml_T_87 im_N_append se_N_append ini_N wk_N_append
theorem gv_N_20 : GoodIn zt_tbl (wsV cn_N 20 cn_N mn_N_put ws_N_put) := zt_V ml_N_20 im_N_put se_N_put ini_N wk_N_put
theorem gv_L_26 : GoodIn zt_tbl (wsV cn_L 26 cn_T mn_T_show ws_T_show) := zt_V ml_L_26 im_T_show se_T_show ini_T wk_T_show
theorem gv_L_30 : GoodIn zt_tbl (wsV cn_L 30 cn_T mn_T_correct ws_T_correct) := zt_V ml_L_30 im_T_correct se_T_correct ini_T wk_T_correct
theorem gv_T_91 : GoodIn zt_tbl (wsS cn_T 91 mn_T_refuseUnlessPlace ws_T_refuseUnlessPlace) := zt_S ml_T_91 sm_T_refuseUnlessPlace ini_T wk_T_refuseUnlessPlace
theorem gv_T_95 : GoodIn zt_tbl (wsV cn_T 95 cn_U mn_U_replace ws_U_replace) := zt_V ml_T_95 im_U_replace se_U_replace ini_U wk_U_replace
theorem gv_U_47 : GoodIn zt_tbl (wsV cn_U 47 cn_N mn_N_put ws_N_put) := zt_V ml_U_47 im_N_put se_N_put ini_N wk_N_put
theorem gv_L_34 : GoodIn zt_tbl (wsV cn_L 34 cn_T mn_T_restore ws_T_restore) := zt_V ml_L_34 im_T_restore se_T_restore ini_T wk_T_restore
theorem gv_T_99 : GoodIn zt_tbl (wsS cn_T 99 mn_T_refuseUnlessReading ws_T_refuseUnlessReading) := zt_S ml_T_99 sm_T_refuseUnlessReading ini_T wk_T_refuseUnlessReading
theorem gv_T_102 : GoodIn zt_tbl (wsV cn_T 102 cn_U mn_U_goBack ws_U_goBack) := zt_V ml_T_102 im_U_goBack se_U_goBack ini_U wk_U_goBack
theorem gv_L_38 : GoodIn zt_tbl (wsV cn_L 38 cn_T mn_T_at ws_T_at) := zt_V ml_L_38 im_T_at se_T_at ini_T wk_T_at
theorem gv_T_105 : GoodIn zt_tbl (wsV cn_T 105 cn_U mn_U_pitchIn ws_U_pitchIn) := zt_V ml_T_105 im_U_pitchIn se_U_pitchIn ini_U wk_U_pitchIn
theorem gv_T_108 : GoodIn zt_tbl (wsV cn_T 108 cn_U mn_U_lengthIn ws_U_lengthIn) := zt_V ml_T_108 im_U_lengthIn se_U_lengthIn ini_U wk_U_lengthIn
theorem gv_T_111 : GoodIn zt_tbl (wsV cn_T 111 cn_U mn_U_stepIn ws_U_stepIn) := zt_V ml_T_111 im_U_stepIn se_U_stepIn ini_U wk_U_stepIn
theorem gv_U_51 : GoodIn zt_tbl (wsV cn_U 51 cn_U mn_U_replacedAfter ws_U_replacedAfter) := zt_V ml_U_51 im_U_replacedAfter se_U_replacedAfter ini_U wk_U_replacedAfter
theorem gv_U_58 : GoodIn zt_tbl (wsV cn_U 58 cn_U mn_U_pitchIn ws_U_pitchIn) := zt_V ml_U_58 im_U_pitchIn se_U_pitchIn ini_U wk_U_pitchIn
theorem gv_L_41 : GoodIn zt_tbl (wsV cn_L 41 cn_T mn_T_about ws_T_about) := zt_V ml_L_41 im_T_about se_T_about ini_T wk_T_about
theorem gv_L_45 : GoodIn zt_tbl (wsV cn_L 45 cn_T mn_T_contour ws_T_contour) := zt_V ml_L_45 im_T_contour se_T_contour ini_T wk_T_contour
theorem gv_T_117 : GoodIn zt_tbl (wsV cn_T 117 cn_N mn_N_steps ws_N_steps) := zt_V ml_T_117 im_N_steps se_N_steps ini_N wk_N_steps
theorem gv_T_121 : GoodIn zt_tbl (wsV cn_T 121 cn_N mn_N_stepBehind ws_N_stepBehind) := zt_V ml_T_121 im_N_stepBehind se_N_stepBehind ini_N wk_N_stepBehind
theorem gv_L_48 : GoodIn zt_tbl (wsV cn_L 48 cn_T mn_T_ask ws_T_ask) := zt_V ml_L_48 im_T_ask se_T_ask ini_T wk_T_ask
theorem gv_L_51 : GoodIn zt_tbl (wsV cn_L 51 cn_T mn_T_search ws_T_search) := zt_V ml_L_51 im_T_search se_T_search ini_T wk_T_search
theorem gv_T_128 : GoodIn zt_tbl (wsV cn_T 128 cn_F mn_F_begin ws_F_begin) := zt_V ml_T_128 im_F_begin se_F_begin ini_F wk_F_begin
theorem gv_T_130 : GoodIn zt_tbl (wsV cn_T 130 cn_T mn_T_searchTune ws_T_searchTune) := zt_V ml_T_130 im_T_searchTune se_T_searchTune ini_T wk_T_searchTune
theorem gv_T_192 : GoodIn zt_tbl (wsV cn_T 192 cn_T mn_T_searchOutline ws_T_searchOutline) := zt_V ml_T_192 im_T_searchOutline se_T_searchOutline ini_T wk_T_searchOutline
theorem gv_T_195 : GoodIn zt_tbl (wsV cn_T 195 cn_T mn_T_searchNear ws_T_searchNear) := zt_V ml_T_195 im_T_searchNear se_T_searchNear ini_T wk_T_searchNear
theorem gv_T_198 : GoodIn zt_tbl (wsV cn_T 198 cn_T mn_T_searchNoteByNote ws_T_searchNoteByNote) := zt_V ml_T_198 im_T_searchNoteByNote se_T_searchNoteByNote ini_T wk_T_searchNoteByNote
theorem gv_T_216 : GoodIn zt_tbl (wsV cn_T 216 cn_T mn_T_outlineEnds ws_T_outlineEnds) := zt_V ml_T_216 im_T_outlineEnds se_T_outlineEnds ini_T wk_T_outlineEnds
theorem gv_T_205 : GoodIn zt_tbl (wsV cn_T 205 cn_T mn_T_offer ws_T_offer) := zt_V ml_T_205 im_T_offer se_T_offer ini_T wk_T_offer
theorem gv_T_222 : GoodIn zt_tbl (wsV cn_T 222 cn_N mn_N_placesOfPitch ws_N_placesOfPitch) := zt_V ml_T_222 im_N_placesOfPitch se_N_placesOfPitch ini_N wk_N_placesOfPitch
theorem gv_T_241 : GoodIn zt_tbl (wsV cn_T 241 cn_F mn_F_add ws_F_add) := zt_V ml_T_241 im_F_add se_F_add ini_F wk_F_add
theorem gv_F_28 : GoodIn zt_tbl (wsV cn_F 28 cn_F mn_F_rankOf ws_F_rankOf) := zt_V ml_F_28 im_F_rankOf se_F_rankOf ini_F wk_F_rankOf
theorem gv_F_32 : GoodIn zt_tbl (wsV cn_F 32 cn_F mn_F_makeRoom ws_F_makeRoom) := zt_V ml_F_32 im_F_makeRoom se_F_makeRoom ini_F wk_F_makeRoom
theorem gv_T_225 : GoodIn zt_tbl (wsV cn_T 225 cn_R mn_R_begin ws_R_begin) := zt_V ml_T_225 im_R_begin se_R_begin ini_R wk_R_begin
theorem gv_T_228 : GoodIn zt_tbl (wsV cn_T 228 cn_R mn_R_goOn ws_R_goOn) := zt_V ml_T_228 im_R_goOn se_R_goOn ini_R wk_R_goOn
theorem gv_T_234 : GoodIn zt_tbl (wsV cn_T 234 cn_R mn_R_holds ws_R_holds) := zt_V ml_T_234 im_R_holds se_R_holds ini_R wk_R_holds
theorem gv_T_238 : GoodIn zt_tbl (wsV cn_T 238 cn_R mn_R_staying ws_R_staying) := zt_V ml_T_238 im_R_staying se_R_staying ini_R wk_R_staying
theorem gv_R_33 : GoodIn zt_tbl (wsV cn_R 33 cn_R mn_R_measure ws_R_measure) := zt_V ml_R_33 im_R_measure se_R_measure ini_R wk_R_measure
theorem gv_R_37 : GoodIn zt_tbl (wsV cn_R 37 cn_N mn_N_steps ws_N_steps) := zt_V ml_R_37 im_N_steps se_N_steps ini_N wk_N_steps
theorem gv_R_41 : GoodIn zt_tbl (wsV cn_R 41 cn_N mn_N_stepBehind ws_N_stepBehind) := zt_V ml_R_41 im_N_stepBehind se_N_stepBehind ini_N wk_N_stepBehind
theorem gv_R_45 : GoodIn zt_tbl (wsV cn_R 45 cn_R mn_R_takeIn ws_R_takeIn) := zt_V ml_R_45 im_R_takeIn se_R_takeIn ini_R wk_R_takeIn
theorem gv_T_201 : GoodIn zt_tbl (wsV cn_T 201 cn_T mn_T_fits ws_T_fits) := zt_V ml_T_201 im_T_fits se_T_fits ini_T wk_T_fits
theorem gv_T_181 : GoodIn zt_tbl (wsS cn_T 181 mn_T_sameSteps ws_T_sameSteps) := zt_S ml_T_181 sm_T_sameSteps ini_T wk_T_sameSteps
theorem gv_T_209 : GoodIn zt_tbl (wsS cn_T 209 mn_T_sameRatio ws_T_sameRatio) := zt_S ml_T_209 sm_T_sameRatio ini_T wk_T_sameRatio
theorem gv_T_213 : GoodIn zt_tbl (wsS cn_T 213 mn_T_sameContour ws_T_sameContour) := zt_S ml_T_213 sm_T_sameContour ini_T wk_T_sameContour
theorem gv_L_54 : GoodIn zt_tbl (wsV cn_L 54 cn_T mn_T_match ws_T_match) := zt_V ml_L_54 im_T_match se_T_match ini_T wk_T_match
theorem gv_T_158 : GoodIn zt_tbl (wsV cn_T 158 cn_F mn_F_upperOfScore ws_F_upperOfScore) := zt_V ml_T_158 im_F_upperOfScore se_F_upperOfScore ini_F wk_F_upperOfScore
theorem gv_T_162 : GoodIn zt_tbl (wsV cn_T 162 cn_F mn_F_lowerOfScore ws_F_lowerOfScore) := zt_V ml_T_162 im_F_lowerOfScore se_F_lowerOfScore ini_F wk_F_lowerOfScore
theorem gv_F_56 : GoodIn zt_tbl (wsS cn_F 56 mn_F_leastTerm ws_F_leastTerm) := zt_S ml_F_56 sm_F_leastTerm ini_F wk_F_leastTerm
theorem gv_L_57 : GoodIn zt_tbl (wsV cn_L 57 cn_T mn_T_repeats ws_T_repeats) := zt_V ml_L_57 im_T_repeats se_T_repeats ini_T wk_T_repeats
theorem gv_T_165 : GoodIn zt_tbl (wsS cn_T 165 mn_T_refuseUnlessLeast ws_T_refuseUnlessLeast) := zt_S ml_T_165 sm_T_refuseUnlessLeast ini_T wk_T_refuseUnlessLeast
theorem gv_T_168 : GoodIn zt_tbl (wsV cn_T 168 cn_W mn_W_walk ws_W_walk) := zt_V ml_T_168 im_W_walk se_W_walk ini_W wk_W_walk
theorem gv_W_15 : GoodIn zt_tbl (wsV cn_W 15 cn_N mn_N_steps ws_N_steps) := zt_V ml_W_15 im_N_steps se_N_steps ini_N wk_N_steps
theorem gv_W_21 : GoodIn zt_tbl (wsV cn_W 21 cn_W mn_W_compare ws_W_compare) := zt_V ml_W_21 im_W_compare se_W_compare ini_W wk_W_compare
theorem gv_W_25 : GoodIn zt_tbl (wsV cn_W 25 cn_W mn_W_placesOfRepeat ws_W_placesOfRepeat) := zt_V ml_W_25 im_W_placesOfRepeat se_W_placesOfRepeat ini_W wk_W_placesOfRepeat
theorem gv_W_45 : GoodIn zt_tbl (wsV cn_W 45 cn_N mn_N_stepBehind ws_N_stepBehind) := zt_V ml_W_45 im_N_stepBehind se_N_stepBehind ini_N wk_N_stepBehind
theorem gv_L_60 : GoodIn zt_tbl (wsV cn_L 60 cn_T mn_T_repeat ws_T_repeat) := zt_V ml_L_60 im_T_repeat se_T_repeat ini_T wk_T_repeat
theorem gv_L_63 : GoodIn zt_tbl (wsV cn_L 63 cn_T mn_T_canon ws_T_canon) := zt_V ml_L_63 im_T_canon se_T_canon ini_T wk_T_canon
theorem gv_T_185 : GoodIn zt_tbl (wsS cn_T 185 mn_T_sameLengths ws_T_sameLengths) := zt_S ml_T_185 sm_T_sameLengths ini_T wk_T_sameLengths
theorem gv_L_66 : GoodIn zt_tbl (wsV cn_L 66 cn_T mn_T_opening ws_T_opening) := zt_V ml_L_66 im_T_opening se_T_opening ini_T wk_T_opening
theorem gv_T_188 : GoodIn zt_tbl (wsS cn_T 188 mn_T_stepsSharedAtFirst ws_T_stepsSharedAtFirst) := zt_S ml_T_188 sm_T_stepsSharedAtFirst ini_T wk_T_stepsSharedAtFirst
theorem gv_M_74 : GoodIn zt_tbl (wsV cn_M 74 cn_M mn_M_noTune ws_M_noTune) := zt_V ml_M_74 im_M_noTune se_M_noTune ini_M wk_M_noTune
theorem gv_M_78 : GoodIn zt_tbl (wsS cn_M 78 mn_M_noNote ws_M_noNote) := zt_S ml_M_78 sm_M_noNote ini_M wk_M_noNote
theorem gv_M_66 : GoodIn zt_tbl (wsV cn_M 66 cn_M mn_M_spot ws_M_spot) := zt_V ml_M_66 im_M_spot se_M_spot ini_M wk_M_spot
theorem gv_M_82 : GoodIn zt_tbl (wsV cn_M 82 cn_M mn_M_step ws_M_step) := zt_V ml_M_82 im_M_step se_M_step ini_M wk_M_step
theorem gv_M_85 : GoodIn zt_tbl (wsS cn_M 85 mn_M_sign ws_M_sign) := zt_S ml_M_85 sm_M_sign ini_M wk_M_sign
theorem gv_M_70 : GoodIn zt_tbl (wsV cn_M 70 cn_M mn_M_pitch ws_M_pitch) := zt_V ml_M_70 im_M_pitch se_M_pitch ini_M wk_M_pitch
theorem gv_M_115 : GoodIn zt_tbl (wsV cn_M 115 cn_M mn_M_part ws_M_part) := zt_V ml_M_115 im_M_part se_M_part ini_M wk_M_part
theorem gv_M_122 : GoodIn zt_tbl (wsV cn_M 122 cn_M mn_M_leads ws_M_leads) := zt_V ml_M_122 im_M_leads se_M_leads ini_M wk_M_leads
theorem gv_M_125 : GoodIn zt_tbl (wsS cn_M 125 mn_M_divisor ws_M_divisor) := zt_S ml_M_125 sm_M_divisor ini_M wk_M_divisor
theorem gv_M_101 : GoodIn zt_tbl (wsV cn_M 101 cn_M mn_M_plain ws_M_plain) := zt_V ml_M_101 im_M_plain se_M_plain ini_M wk_M_plain
theorem gv_M_105 : GoodIn zt_tbl (wsV cn_M 105 cn_M mn_M_outlines ws_M_outlines) := zt_V ml_M_105 im_M_outlines se_M_outlines ini_M wk_M_outlines
theorem gv_M_109 : GoodIn zt_tbl (wsV cn_M 109 cn_M mn_M_near ws_M_near) := zt_V ml_M_109 im_M_near se_M_near ini_M wk_M_near
theorem gv_M_98 : GoodIn zt_tbl (wsV cn_M 98 cn_M mn_M_distance ws_M_distance) := zt_V ml_M_98 im_M_distance se_M_distance ini_M wk_M_distance
theorem gv_M_92 : GoodIn zt_tbl (wsV cn_M 92 cn_M mn_M_askedStep ws_M_askedStep) := zt_V ml_M_92 im_M_askedStep se_M_askedStep ini_M wk_M_askedStep
theorem gv_M_95 : GoodIn zt_tbl (wsV cn_M 95 cn_M mn_M_lengthOf ws_M_lengthOf) := zt_V ml_M_95 im_M_lengthOf se_M_lengthOf ini_M wk_M_lengthOf
theorem gv_M_134 : GoodIn zt_tbl (wsV cn_M 134 cn_M mn_M_places ws_M_places) := zt_V ml_M_134 im_M_places se_M_places ini_M wk_M_places
theorem gv_M_128 : GoodIn zt_tbl (wsV cn_M 128 cn_M mn_M_sameSteps ws_M_sameSteps) := zt_V ml_M_128 im_M_sameSteps se_M_sameSteps ini_M wk_M_sameSteps
theorem gv_M_131 : GoodIn zt_tbl (wsV cn_M 131 cn_M mn_M_hasStep ws_M_hasStep) := zt_V ml_M_131 im_M_hasStep se_M_hasStep ini_M wk_M_hasStep
theorem gv_M_137 : GoodIn zt_tbl (wsV cn_M 137 cn_M mn_M_sharing ws_M_sharing) := zt_V ml_M_137 im_M_sharing se_M_sharing ini_M wk_M_sharing
end
section
section ZJ2
theorem zj_topv {X : zj_T} {cells slots : Nat} {Q : State → Prop} {ad : Nat → Nat} {N : Nat} {g : Nat → va_E} {pc : Nat} {L : List (Nat × Value)} {st : List Value} {v w : Value} (h : v = w) (kk : zj_J X cells slots Q ad N g pc L (w :: st)) : zj_J X cells slots Q ad N g pc L (v :: st) := h ▸ kk
theorem zj_g {X : zj_T} {cells slots : Nat} {Q : State → Prop} {ad : Nat → Nat} {N : Nat} {g g1 : Nat → va_E} {pc : Nat} {L : List (Nat × Value)} {st : List Value} (h : g = g1) (kk : zj_J X cells slots Q ad N g1 pc L st) : zj_J X cells slots Q ad N g pc L st := h ▸ kk
end ZJ2
end
section
section ZPD
/-! the least number of changes, and among these ways the greatest number of steps that stay -/
def zp_mn (a b : Nat × Nat) : Nat × Nat := if b.1 < a.1 ∨ (b.1 = a.1 ∧ a.2 < b.2) then b else a
def zp_inc (a : Nat × Nat) : Nat × Nat := (a.1 + 1, a.2)
def zp_dg (s : Bool) (a : Nat × Nat) : Nat × Nat := if s then (a.1, a.2 + 1) else (a.1 + 1, a.2)
def zp_row (same : Nat → Bool) (prev : Nat → Nat × Nat) (i : Nat) : Nat → Nat × Nat
  | 0 => (i + 1, 0)
  | j + 1 => zp_mn (zp_mn (zp_dg (same j) (prev j)) (zp_inc (prev (j + 1)))) (zp_inc (zp_row same prev i j))
def zp_dp (same : Nat → Nat → Bool) : Nat → Nat → Nat × Nat
  | 0 => fun j => (j, 0)
  | i + 1 => zp_row (same i) (zp_dp same i) i
theorem zp_dp0 (same : Nat → Nat → Bool) (j : Nat) : zp_dp same 0 j = (j, 0) := rfl
theorem zp_dpi (same : Nat → Nat → Bool) (i : Nat) : zp_dp same i 0 = (i, 0) := by cases i <;> rfl
theorem zp_dpS (same : Nat → Nat → Bool) (i j : Nat) : zp_dp same (i + 1) (j + 1) = zp_mn (zp_mn (zp_dg (same i j) (zp_dp same i j)) (zp_inc (zp_dp same i (j + 1)))) (zp_inc (zp_dp same (i + 1) j)) := rfl
theorem zp_mn_c (a b : Nat × Nat) : zp_mn a b = a ∨ zp_mn a b = b := by unfold zp_mn; split <;> simp
theorem zp_dp_le (same : Nat → Nat → Bool) (i : Nat) : ∀ j, (zp_dp same i j).2 ≤ i := by
  induction i with
  | zero => intro j; exact Nat.le_refl _
  | succ i ih =>
    intro j
    induction j with
    | zero => rw [zp_dpi]; exact Nat.zero_le _
    | succ j jh =>
      rw [zp_dpS]
      have h1 := ih j
      have h2 := ih (j + 1)
      have h3 : (zp_dg (same i j) (zp_dp same i j)).2 ≤ i + 1 := by unfold zp_dg; split <;> simp <;> omega
      have h4 : (zp_inc (zp_dp same i (j + 1))).2 ≤ i + 1 := by simp [zp_inc]; omega
      have h5 : (zp_inc (zp_dp same (i + 1) j)).2 ≤ i + 1 := by simpa [zp_inc] using jh
      rcases zp_mn_c (zp_mn (zp_dg (same i j) (zp_dp same i j)) (zp_inc (zp_dp same i (j + 1)))) (zp_inc (zp_dp same (i + 1) j)) with e | e <;> rw [e]
      · rcases zp_mn_c (zp_dg (same i j) (zp_dp same i j)) (zp_inc (zp_dp same i (j + 1))) with e | e <;> rw [e] <;> assumption
      · exact h5
/-- a longer row needs that many changes more -/
theorem zp_dp_ge (same : Nat → Nat → Bool) (i : Nat) : ∀ j, j ≤ (zp_dp same i j).1 + i := by
  induction i with
  | zero => intro j; exact Nat.le_refl _
  | succ i ih =>
    intro j
    induction j with
    | zero => exact Nat.zero_le _
    | succ j jh =>
      rw [zp_dpS]
      have h1 := ih j
      have h2 := ih (j + 1)
      have h3 : j ≤ (zp_dg (same i j) (zp_dp same i j)).1 + i := by unfold zp_dg; split <;> simp <;> omega
      have h4 : j + 1 ≤ (zp_inc (zp_dp same i (j + 1))).1 + i := by simp [zp_inc]; omega
      have h5 : j + 1 ≤ (zp_inc (zp_dp same (i + 1) j)).1 + (i + 1) := by simp [zp_inc]; omega
      rcases zp_mn_c (zp_mn (zp_dg (same i j) (zp_dp same i j)) (zp_inc (zp_dp same i (j + 1)))) (zp_inc (zp_dp same (i + 1) j)) with e | e <;> rw [e]
      · rcases zp_mn_c (zp_dg (same i j) (zp_dp same i j)) (zp_inc (zp_dp same i (j + 1))) with e | e <;> rw [e] <;> omega
      · exact h5
/-- both numbers in one: 16 for a change, -1 for a step that stays -/
def zp_w (a : Nat × Nat) : Int := 16 * (a.1 : Int) - (a.2 : Int)
theorem zp_w_mn {a b : Nat × Nat} (ha : a.2 ≤ 15) (hb : b.2 ≤ 15) : zp_w (zp_mn a b) = if zp_w b < zp_w a then zp_w b else zp_w a := by
  unfold zp_mn
  by_cases h : b.1 < a.1 ∨ (b.1 = a.1 ∧ a.2 < b.2)
  · rw [if_pos h, if_pos]
    unfold zp_w
    omega
  · rw [if_neg h, if_neg]
    unfold zp_w
    omega
theorem zp_w_inc (a : Nat × Nat) : zp_w (zp_inc a) = zp_w a + 16 := by
  unfold zp_w zp_inc
  simp
  omega
theorem zp_w_dg (s : Bool) (a : Nat × Nat) : zp_w (zp_dg s a) = zp_w a + (if s then -1 else 16) := by
  unfold zp_w zp_dg
  cases s <;> simp <;> omega
/-- the step of the class: paired against the lesser of the two unpaired ones -/
theorem zp_wS (same : Nat → Nat → Bool) (i j : Nat) (hi : i < 14) :
    zp_w (zp_dp same (i + 1) (j + 1)) = (let pr := zp_w (zp_dp same i j) + (if same i j then -1 else 16); let un := (if zp_w (zp_dp same (i + 1) j) < zp_w (zp_dp same i (j + 1)) then zp_w (zp_dp same (i + 1) j) else zp_w (zp_dp same i (j + 1))) + 16; if un < pr then un else pr) := by
  have h1 := zp_dp_le same i j
  have h2 := zp_dp_le same i (j + 1)
  have h3 := zp_dp_le same (i + 1) j
  have h4 : (zp_dg (same i j) (zp_dp same i j)).2 ≤ 15 := by unfold zp_dg; split <;> simp <;> omega
  have h5 : (zp_inc (zp_dp same i (j + 1))).2 ≤ 15 := by simp [zp_inc]; omega
  have h6 : (zp_inc (zp_dp same (i + 1) j)).2 ≤ 15 := by simp [zp_inc]; omega
  have h7 : (zp_mn (zp_dg (same i j) (zp_dp same i j)) (zp_inc (zp_dp same i (j + 1)))).2 ≤ 15 := by
    rcases zp_mn_c (zp_dg (same i j) (zp_dp same i j)) (zp_inc (zp_dp same i (j + 1))) with e | e <;> rw [e] <;> assumption
  rw [zp_dpS, zp_w_mn h7 h6, zp_w_mn h4 h5, zp_w_dg, zp_w_inc, zp_w_inc]
  generalize zp_w (zp_dp same i j) + (if same i j then -1 else 16) = A
  generalize zp_w (zp_dp same i (j + 1)) = B
  generalize zp_w (zp_dp same (i + 1) j) = D
  dsimp only
  split <;> split <;> split <;> (try split) <;> omega
theorem zp_w_lo (same : Nat → Nat → Bool) (i j : Nat) (hi : i ≤ 7) : -7 ≤ zp_w (zp_dp same i j) := by
  have := zp_dp_le same i j
  unfold zp_w
  omega
theorem zp_dp_up (same : Nat → Nat → Bool) (i : Nat) : ∀ j, (zp_dp same i j).1 ≤ i + j := by
  induction i with
  | zero => intro j; simp [zp_dp0]
  | succ i ih =>
    intro j
    induction j with
    | zero => rw [zp_dpi]; exact Nat.le_refl _
    | succ j jh =>
      rw [zp_dpS]
      have h5 : (zp_inc (zp_dp same (i + 1) j)).1 ≤ i + 1 + (j + 1) := by simp [zp_inc]; omega
      have h4 : (zp_inc (zp_dp same i (j + 1))).1 ≤ i + 1 + (j + 1) := by have := ih (j + 1); simp [zp_inc]; omega
      have h3 : (zp_dg (same i j) (zp_dp same i j)).1 ≤ i + 1 + (j + 1) := by have := ih j; unfold zp_dg; split <;> simp <;> omega
      rcases zp_mn_c (zp_mn (zp_dg (same i j) (zp_dp same i j)) (zp_inc (zp_dp same i (j + 1)))) (zp_inc (zp_dp same (i + 1) j)) with e | e <;> rw [e]
      · rcases zp_mn_c (zp_dg (same i j) (zp_dp same i j)) (zp_inc (zp_dp same i (j + 1))) with e | e <;> rw [e] <;> assumption
      · exact h5
theorem zp_w_near (same : Nat → Nat → Bool) (i j k : Nat) (hi : i ≤ 15) : zp_w (zp_dp same i j) ≤ 16 * (k : Int) ↔ (zp_dp same i j).1 ≤ k := by
  have := zp_dp_le same i j
  unfold zp_w
  omega
theorem zp_w_stay (same : Nat → Nat → Bool) (i j : Nat) (hi : i ≤ 7) : (zp_w (zp_dp same i j) + 15) / 16 * 16 - zp_w (zp_dp same i j) = ((zp_dp same i j).2 : Int) := by
  have := zp_dp_le same i j
  unfold zp_w
  omega
end ZPD
end
section
section ZRK
/-! the order of what was found: by score, then by the order in which it was found -/
def zr_bf (ld : Nat → Nat → Prop) (a b : Nat) : Prop := ld a b ∨ (¬ ld b a ∧ a < b)
/-- a strict order by a score -/
def zr_so (ld : Nat → Nat → Prop) : Prop := (∀ a b, ld a b → ¬ ld b a) ∧ ∀ a b c, ld a c → ld a b ∨ ld b c
theorem zr_asym {ld : Nat → Nat → Prop} (h : zr_so ld) {a b : Nat} (h1 : zr_bf ld a b) (h2 : zr_bf ld b a) : False := by
  rcases h1 with h1 | ⟨h1, l1⟩
  · rcases h2 with h2 | ⟨h2, -⟩
    · exact h.1 a b h1 h2
    · exact h2 h1
  · rcases h2 with h2 | ⟨-, l2⟩
    · exact h1 h2
    · omega
theorem zr_trans {ld : Nat → Nat → Prop} (h : zr_so ld) {a b c : Nat} (h1 : zr_bf ld a b) (h2 : zr_bf ld b c) : zr_bf ld a c := by
  rcases h1 with h1 | ⟨h1, l1⟩
  · rcases h.2 a c b h1 with h3 | h3
    · exact Or.inl h3
    · rcases h2 with h2 | ⟨h2, -⟩
      · exact absurd h3 (h.1 b c h2)
      · exact absurd h3 h2
  · rcases h2 with h2 | ⟨h2, l2⟩
    · rcases h.2 b a c h2 with h3 | h3
      · exact absurd h3 h1
      · exact Or.inl h3
    · refine Or.inr ⟨fun h3 => ?_, by omega⟩
      rcases h.2 c b a h3 with h4 | h4
      · exact h2 h4
      · exact h1 h4
theorem zr_irr {ld : Nat → Nat → Prop} (h : zr_so ld) {a : Nat} (h1 : zr_bf ld a a) : False := zr_asym h h1 h1
theorem zr_tot {ld : Nat → Nat → Prop} (h : zr_so ld) {a b : Nat} (hn : a ≠ b) : zr_bf ld a b ∨ zr_bf ld b a := by
  by_cases h1 : ld a b
  · exact Or.inl (Or.inl h1)
  · by_cases h2 : ld b a
    · exact Or.inr (Or.inl h2)
    · rcases Nat.lt_or_gt_of_ne hn with h3 | h3
      · exact Or.inl (Or.inr ⟨h2, h3⟩)
      · exact Or.inr (Or.inr ⟨h1, h3⟩)
/-- s 0 .. s (m - 1) are the first m of 0 .. n - 1 in that order -/
def zr_ok (ld : Nat → Nat → Prop) (n m : Nat) (s : Nat → Nat) : Prop :=
  (∀ j, j < m → s j < n) ∧ (∀ i j, i < j → j < m → zr_bf ld (s i) (s j)) ∧ ∀ a, a < n → (∀ j, j < m → s j ≠ a) → ∀ j, j < m → zr_bf ld (s j) a
theorem zr_0 (ld : Nat → Nat → Prop) (n : Nat) (s : Nat → Nat) : zr_ok ld n 0 s := ⟨fun j h => by omega, fun i j _ h => by omega, fun a _ _ j h => by omega⟩
theorem zr_inj {ld : Nat → Nat → Prop} (h : zr_so ld) {n m : Nat} {s : Nat → Nat} (h1 : zr_ok ld n m s) {i j : Nat} (hi : i < m) (hj : j < m) (e : s i = s j) : i = j := by
  rcases Nat.lt_trichotomy i j with h2 | h2 | h2
  · exact absurd (e ▸ h1.2.1 i j h2 hj) (zr_irr h)
  · exact h2
  · exact absurd (e ▸ h1.2.1 j i h2 hi) (zr_irr h)
theorem zr_one {ld : Nat → Nat → Prop} (h : zr_so ld) {n m : Nat} {s t : Nat → Nat} (h1 : zr_ok ld n m s) (h2 : zr_ok ld n m t) : ∀ j, j < m → s j = t j := by
  intro j
  induction j using Nat.strongRecOn with
  | ind j ih =>
    intro hj
    by_cases e : s j = t j
    · exact e
    · have key : ∀ {s t : Nat → Nat}, zr_ok ld n m s → zr_ok ld n m t → (∀ k, k < j → s k = t k) → s j ≠ t j → zr_bf ld (t j) (s j) := by
        intro s t h1 h2 ih e
        by_cases hx : ∃ k, k < m ∧ t k = s j
        · obtain ⟨k, hk, ek⟩ := hx
          rcases Nat.lt_trichotomy k j with h3 | h3 | h3
          · have h4 := ih k h3
            have h5 := zr_inj h h1 hk hj (h4.trans ek)
            omega
          · subst h3
            exact absurd ek.symm e
          · rw [← ek]
            exact h2.2.1 j k h3 hk
        · exact h2.2.2 (s j) (h1.1 j hj) (fun k hk hq => hx ⟨k, hk, hq⟩) j hj
      exact (zr_asym h (key h1 h2 (fun k hk => ih k hk (by omega)) e) (key h2 h1 (fun k hk => (ih k hk (by omega)).symm) (Ne.symm e))).elim
/-- one more is taken: the first of those that are left -/
theorem zr_sel {ld : Nat → Nat → Prop} (h : zr_so ld) {n m : Nat} {s : Nat → Nat} {a : Nat} (h1 : zr_ok ld n m s) (ha : a < n) (hn : ∀ j, j < m → s j ≠ a) (hb : ∀ b, b < n → b ≠ a → (∀ j, j < m → s j ≠ b) → zr_bf ld a b) : zr_ok ld n (m + 1) (fun j => if j = m then a else s j) := by
  refine ⟨fun j hj => ?_, fun i j hij hj => ?_, fun b hbn hbs j hj => ?_⟩
  · by_cases e : j = m
    · simp only [if_pos e]; exact ha
    · simp only [if_neg e]; exact h1.1 j (by omega)
  · have ei : ¬ i = m := by omega
    simp only [if_neg ei]
    by_cases e : j = m
    · simp only [if_pos e]; exact h1.2.2 a ha hn i (by omega)
    · simp only [if_neg e]; exact h1.2.1 i j hij (by omega)
  · have hba : b ≠ a := fun e => hbs m (by omega) (by simp [e])
    have hbs' : ∀ j, j < m → s j ≠ b := fun k hk => by
      have h9 := hbs k (by omega)
      have e9 : ¬ k = m := by omega
      simp only [if_neg e9] at h9
      exact h9
    by_cases e : j = m
    · simp only [if_pos e]; exact hb b hbn hba hbs'
    · simp only [if_neg e]; exact h1.2.2 b hbn hbs' j (by omega)
/-- a row with one put in at place r -/
def zr_put (s : Nat → Nat) (r a : Nat) : Nat → Nat := fun j => if j < r then s j else if j = r then a else s (j - 1)
/-- all of 0 .. n - 1 are among them -/
def zr_full (n m : Nat) (s : Nat → Nat) : Prop := ∀ a, a < n → ∃ j, j < m ∧ s j = a
theorem zr_put_lo {s : Nat → Nat} {r a j : Nat} (h : j < r) : zr_put s r a j = s j := by unfold zr_put; rw [if_pos h]
theorem zr_put_at (s : Nat → Nat) (r a : Nat) : zr_put s r a r = a := by unfold zr_put; rw [if_neg (Nat.lt_irrefl r), if_pos rfl]
theorem zr_put_hi {s : Nat → Nat} {r a j : Nat} (h : r < j) : zr_put s r a j = s (j - 1) := by unfold zr_put; rw [if_neg (by omega), if_neg (by omega)]
theorem zr_put_c {s : Nat → Nat} {r a : Nat} (j : Nat) : (j < r ∧ zr_put s r a j = s j) ∨ (j = r ∧ zr_put s r a j = a) ∨ (r < j ∧ zr_put s r a j = s (j - 1)) := by
  rcases Nat.lt_trichotomy j r with h | h | h
  · exact Or.inl ⟨h, zr_put_lo h⟩
  · exact Or.inr (Or.inl ⟨h, by rw [h]; exact zr_put_at s r a⟩)
  · exact Or.inr (Or.inr ⟨h, zr_put_hi h⟩)
theorem zr_ord {ld : Nat → Nat → Prop} {n m r k : Nat} {s : Nat → Nat} (h1 : zr_ok ld n m s) (hk : k ≤ m + 1) (ha : ∀ j, j < r → ¬ ld n (s j)) (hb : ∀ j, r ≤ j → j < m → ld n (s j)) (hr : r ≤ m) : ∀ i j, i < j → j < k → zr_bf ld (zr_put s r n i) (zr_put s r n j) := by
  intro i j hij hj
  rcases zr_put_c (s := s) (r := r) (a := n) i with ⟨c1, e1⟩ | ⟨c1, e1⟩ | ⟨c1, e1⟩ <;> rcases zr_put_c (s := s) (r := r) (a := n) j with ⟨c2, e2⟩ | ⟨c2, e2⟩ | ⟨c2, e2⟩ <;> rw [e1, e2]
  · exact h1.2.1 i j hij (by omega)
  · exact Or.inr ⟨ha i c1, h1.1 i (by omega)⟩
  · exact h1.2.1 i (j - 1) (by omega) (by omega)
  · omega
  · omega
  · exact Or.inl (hb (j - 1) (by omega) (by omega))
  · omega
  · omega
  · exact h1.2.1 (i - 1) (j - 1) (by omega) (by omega)
theorem zr_dom {ld : Nat → Nat → Prop} {n m r k : Nat} {s : Nat → Nat} (h1 : zr_ok ld n m s) (hk : k ≤ m + 1) (hr : r ≤ m) : ∀ j, j < k → zr_put s r n j < n + 1 := by
  intro j hj
  rcases zr_put_c (s := s) (r := r) (a := n) j with ⟨c1, e1⟩ | ⟨c1, e1⟩ | ⟨c1, e1⟩ <;> rw [e1]
  · have := h1.1 j (by omega); omega
  · omega
  · have := h1.1 (j - 1) (by omega); omega
/-- one more is found, and there is a place left: it goes behind those that it doesn't lead -/
theorem zr_insA {ld : Nat → Nat → Prop} {n m r : Nat} {s : Nat → Nat} (h1 : zr_ok ld n m s) (hf : zr_full n m s) (hr : r ≤ m) (ha : ∀ j, j < r → ¬ ld n (s j)) (hb : ∀ j, r ≤ j → j < m → ld n (s j)) : zr_ok ld (n + 1) (m + 1) (zr_put s r n) ∧ zr_full (n + 1) (m + 1) (zr_put s r n) := by
  have hful : zr_full (n + 1) (m + 1) (zr_put s r n) := by
    intro a han
    by_cases e : a = n
    · exact ⟨r, by omega, by rw [zr_put_at, e]⟩
    · obtain ⟨j, hj, ej⟩ := hf a (by omega)
      by_cases c : j < r
      · exact ⟨j, by omega, by rw [zr_put_lo c]; exact ej⟩
      · exact ⟨j + 1, by omega, by rw [zr_put_hi (by omega), Nat.add_sub_cancel]; exact ej⟩
  refine ⟨⟨zr_dom h1 (Nat.le_refl _) hr, zr_ord h1 (Nat.le_refl _) ha hb hr, fun b hb1 hb2 => ?_⟩, hful⟩
  obtain ⟨j, hj, ej⟩ := hful b hb1
  exact absurd ej (hb2 j hj)
/-- .. no place is left: the last one falls out -/
theorem zr_insB {ld : Nat → Nat → Prop} (h : zr_so ld) {n m r : Nat} {s : Nat → Nat} (h1 : zr_ok ld n m s) (hr : r < m) (ha : ∀ j, j < r → ¬ ld n (s j)) (hb : ∀ j, r ≤ j → j < m → ld n (s j)) : zr_ok ld (n + 1) m (zr_put s r n) := by
  refine ⟨zr_dom h1 (by omega) (by omega), zr_ord h1 (by omega) ha hb (by omega), fun b hb1 hb2 j hj => ?_⟩
  have hbn : b ≠ n := fun e => hb2 r hr (by rw [zr_put_at, e])
  have hin : ∀ k, k < m - 1 → s k ≠ b := fun k hk => by
    by_cases c : k < r
    · have := hb2 k (by omega); rwa [zr_put_lo c] at this
    · have := hb2 (k + 1) (by omega); rwa [zr_put_hi (by omega), Nat.add_sub_cancel] at this
  have hs : ∀ k, k < m - 1 → zr_bf ld (s k) b := fun k hk => by
    by_cases e : s (m - 1) = b
    · rw [← e]; exact h1.2.1 k (m - 1) hk (by omega)
    · exact h1.2.2 b (by omega) (fun q hq => by
        by_cases c : q = m - 1
        · rw [c]; exact e
        · exact hin q (by omega)) k (by omega)
  have hl : zr_bf ld n b := by
    by_cases e : s (m - 1) = b
    · rw [← e]; exact Or.inl (hb (m - 1) (by omega) (by omega))
    · have h3 : zr_bf ld (s (m - 1)) b := h1.2.2 b (by omega) (fun q hq => by
        by_cases c : q = m - 1
        · rw [c]; exact e
        · exact hin q (by omega)) (m - 1) (by omega)
      exact zr_trans h (Or.inl (hb (m - 1) (by omega) (by omega))) h3
  rcases zr_put_c (s := s) (r := r) (a := n) j with ⟨c1, e1⟩ | ⟨c1, e1⟩ | ⟨c1, e1⟩ <;> rw [e1]
  · exact hs j (by omega)
  · exact hl
  · exact hs (j - 1) (by omega)
/-- .. or it is the last itself -/
theorem zr_insC {ld : Nat → Nat → Prop} {n m : Nat} {s : Nat → Nat} (h1 : zr_ok ld n m s) (ha : ∀ j, j < m → ¬ ld n (s j)) : zr_ok ld (n + 1) m s := by
  refine ⟨fun j hj => Nat.lt_succ_of_lt (h1.1 j hj), h1.2.1, fun b hb1 hb2 j hj => ?_⟩
  by_cases e : b = n
  · rw [e]; exact Or.inr ⟨ha j hj, h1.1 j hj⟩
  · exact h1.2.2 b (by omega) hb2 j hj
/-- fewer than n don't fill n places -/
theorem zr_php (n : Nat) : ∀ (m : Nat) (s : Nat → Nat), m < n → ∃ a, a < n ∧ ∀ j, j < m → s j ≠ a := by
  induction n with
  | zero => intro m s h; omega
  | succ n ih =>
    intro m s h
    cases m with
    | zero => exact ⟨0, by omega, fun j hj => by omega⟩
    | succ m =>
      by_cases hx : ∃ j, j < m + 1 ∧ s j = n
      · obtain ⟨j, hj, ej⟩ := hx
        obtain ⟨a, ha, hn⟩ := ih m (fun k => if k = j then s m else s k) (by omega)
        refine ⟨a, by omega, fun k hk => ?_⟩
        by_cases e1 : k = j
        · rw [e1, ej]; omega
        · by_cases e2 : k = m
          · have := hn j (by omega)
            rw [if_pos rfl] at this
            rw [e2]; exact this
          · have := hn k (by omega)
            rwa [if_neg e1] at this
      · exact ⟨n, by omega, fun k hk e => hx ⟨k, hk, e⟩⟩
end ZRK
end
section
section ZPA
/-! numbers -/
theorem zn_max1 {c : Nat} (h : c < 2 ^ 31) : (if nI c - 1 < 0 then (0 : Int32) else nI c - 1) = nI (c - 1) := by
  cases c with
  | zero => decide
  | succ n => rw [nI_pred, if_neg (nI_pos (by omega)), Nat.add_sub_cancel]
theorem zn_m1 {c : Nat} (h : 0 < c) : nI c - 1 = nI (c - 1) := by
  obtain ⟨n, rfl⟩ : ∃ n, c = n + 1 := ⟨c - 1, by omega⟩
  rw [nI_pred, Nat.add_sub_cancel]
theorem zn_ne {a b : Nat} (ha : a < 2 ^ 31) (hb : b < 2 ^ 31) : (¬ nI a = nI b) ↔ a ≠ b := not_congr (nI_eq ha hb)
theorem zn_nle {a b : Nat} (ha : a < 2 ^ 31) (hb : b < 2 ^ 31) : (¬ nI a ≤ nI b) ↔ b < a := by rw [nI_leI ha hb]; omega
theorem zn_nlt {a b : Nat} (ha : a < 2 ^ 31) (hb : b < 2 ^ 31) : (¬ nI a < nI b) ↔ b ≤ a := by rw [nI_ltI ha hb]; omega
theorem zn_le0 {a : Nat} (ha : a < 2 ^ 31) : nI a ≤ 0 ↔ a = 0 := by
  rw [← nI_0, nI_leI ha (by omega)]; omega
theorem zn_lt0 {a : Nat} (ha : a < 2 ^ 31) : (0 : Int32) < nI a ↔ 0 < a := by
  rw [← nI_0, nI_ltI (by omega) ha]
theorem zn_e0 {a : Nat} (ha : a < 2 ^ 31) : nI a = 0 ↔ a = 0 := by
  rw [← nI_0, nI_eq ha (by omega)]
/-! the ratios of two rows of lengths, told by the first one or by neighbours -/
theorem zp_ratio (a b : Nat → Nat) (q : Nat) (ha : ∀ i, i < q → 0 < a i) (hb : ∀ i, i < q → 0 < b i) : (∀ i, 1 ≤ i → i < q → a i * b 0 = b i * a 0) ↔ (∀ i, i + 1 < q → b i * a (i + 1) = b (i + 1) * a i) := by
  constructor
  · intro h i hi
    have h2 : a (i + 1) * b 0 = b (i + 1) * a 0 := h (i + 1) (by omega) hi
    have h1 : a i * b 0 = b i * a 0 := by
      cases i with
      | zero => exact Nat.mul_comm _ _
      | succ i => exact h (i + 1) (by omega) (by omega)
    have h0 := hb 0 (by omega)
    refine Nat.eq_of_mul_eq_mul_right h0 ?_
    calc b i * a (i + 1) * b 0 = b i * (a (i + 1) * b 0) := Nat.mul_assoc _ _ _
      _ = b i * (b (i + 1) * a 0) := by rw [h2]
      _ = b (i + 1) * (b i * a 0) := Nat.mul_left_comm _ _ _
      _ = b (i + 1) * (a i * b 0) := by rw [h1]
      _ = b (i + 1) * a i * b 0 := (Nat.mul_assoc _ _ _).symm
  · intro h i
    induction i with
    | zero => intro h1; omega
    | succ i ih =>
      intro _ hi
      have h2 := h i hi
      have h1 : a i * b 0 = b i * a 0 := by
        cases i with
        | zero => exact Nat.mul_comm _ _
        | succ i => exact ih (by omega) (by omega)
      have h0 := hb i (by omega)
      refine Nat.eq_of_mul_eq_mul_left h0 ?_
      calc b i * (a (i + 1) * b 0) = b i * a (i + 1) * b 0 := (Nat.mul_assoc _ _ _).symm
        _ = b (i + 1) * a i * b 0 := by rw [h2]
        _ = b (i + 1) * (a i * b 0) := Nat.mul_assoc _ _ _
        _ = b (i + 1) * (b i * a 0) := by rw [h1]
        _ = b i * (b (i + 1) * a 0) := Nat.mul_left_comm _ _ _
/-! differences -/
theorem zp_tele {p q : Nat → Int32} {n : Nat} : (∀ k, k + 1 < n → p (k + 1) - p k = q (k + 1) - q k) ↔ (∀ k, k < n → q k - q 0 = p k - p 0) := by
  constructor
  · intro h k
    induction k with
    | zero => intro _; simp
    | succ k ih =>
      intro hk
      have h1 := h k hk
      have h2 := ih (by omega)
      grind
  · intro h k hk
    have h1 := h k (by omega)
    have h2 := h (k + 1) hk
    grind
/-! what two numbers share -/
theorem zp_gcd1 {a b d : Nat} (ha : 0 < a) (h1 : a % d = 0) (h2 : b % d = 0) (hm : ∀ e, d < e → ¬ (a % e = 0 ∧ b % e = 0)) : d = Nat.gcd a b := by
  have hd : d ∣ Nat.gcd a b := Nat.dvd_gcd (Nat.dvd_of_mod_eq_zero h1) (Nat.dvd_of_mod_eq_zero h2)
  have hg : 0 < Nat.gcd a b := Nat.gcd_pos_of_pos_left b ha
  have hle : d ≤ Nat.gcd a b := Nat.le_of_dvd hg hd
  rcases Nat.lt_or_eq_of_le hle with h | h
  · exact absurd ⟨Nat.mod_eq_zero_of_dvd (Nat.gcd_dvd_left a b), Nat.mod_eq_zero_of_dvd (Nat.gcd_dvd_right a b)⟩ (hm _ h)
  · exact h
/-- how many of the first n have P -/
def zp_cnt (P : Nat → Bool) : Nat → Nat
  | 0 => 0
  | n + 1 => zp_cnt P n + if P n then 1 else 0
theorem zp_cnt_le (P : Nat → Bool) (n : Nat) : zp_cnt P n ≤ n := by
  induction n with
  | zero => exact Nat.le_refl _
  | succ n ih => unfold zp_cnt; split <;> omega
theorem zp_cnt_eq {P R : Nat → Bool} {n : Nat} (h : ∀ i, i < n → P i = R i) : zp_cnt P n = zp_cnt R n := by
  induction n with
  | zero => rfl
  | succ n ih => unfold zp_cnt; rw [ih (fun i hi => h i (by omega)), h n (by omega)]
theorem zp_cnt_lt {P R : Nat → Bool} {n : Nat} (h : ∀ i, i < n → P i = true → R i = true) {k : Nat} (hk : k < n) (h1 : P k = false) (h2 : R k = true) : zp_cnt P n < zp_cnt R n := by
  have mono : ∀ m, m ≤ n → zp_cnt P m ≤ zp_cnt R m := by
    intro m
    induction m with
    | zero => intro _; exact Nat.le_refl _
    | succ m ih =>
      intro hm
      have h3 := ih (by omega)
      have h4 := h m (by omega)
      unfold zp_cnt
      cases e : P m
      · simp; omega
      · rw [h4 e]; simp; omega
  have key : ∀ m, k < m → m ≤ n → zp_cnt P m < zp_cnt R m := by
    intro m
    induction m with
    | zero => intro h5; omega
    | succ m ih =>
      intro h5 h6
      by_cases e : m = k
      · subst e
        have h7 := mono m (by omega)
        unfold zp_cnt
        rw [h1, h2]
        simp
        omega
      · have h7 := ih (by omega) (by omega)
        have h8 := h m (by omega)
        unfold zp_cnt
        cases e : P m
        · simp; omega
        · rw [h8 e]; simp; omega
  exact key n hk (Nat.le_refl _)
end ZPA
end
section
section ZPO
/-! outlines: the i-th note asked can be at place j -/
def zo_any (f : Nat → Bool) (j : Nat) : Nat → Bool
  | 0 => false
  | n + 1 => zo_any f j n || (decide (n + 1 ≤ j) && f (j - (n + 1)))
def zo_M (ok : Nat → Nat → Bool) (k : Nat) : Nat → Nat → Bool
  | 0 => fun j => decide (j = 0) && ok 0 j
  | i + 1 => fun j => zo_any (zo_M ok k i) j (k + 1) && ok (i + 1) j
theorem zo_any_ex {f : Nat → Bool} {j n : Nat} (h : zo_any f j n = true) : ∃ b, b < j ∧ f b = true := by
  induction n with
  | zero => cases h
  | succ n ih =>
    simp only [zo_any, Bool.or_eq_true, Bool.and_eq_true, decide_eq_true_eq] at h
    rcases h with h | ⟨h1, h2⟩
    · exact ih h
    · exact ⟨j - (n + 1), by omega, h2⟩
theorem zo_ge {ok : Nat → Nat → Bool} {k : Nat} : ∀ {i j : Nat}, zo_M ok k i j = true → i ≤ j := by
  intro i
  induction i with
  | zero => intro j _; exact Nat.zero_le _
  | succ i ih =>
    intro j h
    simp only [zo_M, Bool.and_eq_true] at h
    obtain ⟨b, hb, hf⟩ := zo_any_ex h.1
    have := ih hf
    omega
theorem zo_okS {ok : Nat → Nat → Bool} {k i j : Nat} (h : zo_M ok k i j = true) : ok i j = true := by
  cases i with
  | zero => simp only [zo_M, Bool.and_eq_true] at h; exact h.2
  | succ i => simp only [zo_M, Bool.and_eq_true] at h; exact h.2
theorem zo_any_cut {f : Nat → Bool} {j n m : Nat} (h : j ≤ n) (hm : n ≤ m) : zo_any f j m = zo_any f j n := by
  induction m with
  | zero => rw [show n = 0 by omega]
  | succ m ih =>
    by_cases e : n = m + 1
    · rw [e]
    · have h1 := ih (by omega)
      simp only [zo_any, h1]
      rw [decide_eq_false (by omega)]
      simp
theorem zo_any_eq {f f' : Nat → Bool} {j n : Nat} (h : ∀ b, b < j → f b = f' b) : zo_any f j n = zo_any f' j n := by
  induction n with
  | zero => rfl
  | succ n ih =>
    simp only [zo_any, ih]
    by_cases c : n + 1 ≤ j
    · rw [h (j - (n + 1)) (by omega)]
    · rw [decide_eq_false c]; simp
/-- the same from a place on -/
theorem zo_any_at {f F : Nat → Bool} {a e n : Nat} (h : ∀ b, b < e → F b = (decide (a ≤ b) && f (b - a))) : zo_any F e n = (decide (a ≤ e) && zo_any f (e - a) n) := by
  induction n with
  | zero => simp [zo_any]
  | succ n ih =>
    simp only [zo_any, ih]
    by_cases c : n + 1 ≤ e
    · rw [h (e - (n + 1)) (by omega)]
      by_cases c2 : a ≤ e - (n + 1)
      · rw [decide_eq_true c, decide_eq_true c2, decide_eq_true (show a ≤ e by omega), decide_eq_true (show n + 1 ≤ e - a by omega), show e - (n + 1) - a = e - a - (n + 1) by omega]
        simp
      · rw [decide_eq_true c, decide_eq_false c2, decide_eq_false (show ¬ n + 1 ≤ e - a by omega)]
        simp
    · rw [decide_eq_false c, decide_eq_false (show ¬ n + 1 ≤ e - a by omega)]
      simp
end ZPO
end
section
/-! ===== Int32 by its bits: bt x i ===== -/
def bt (x : Int32) (i : Nat) : Bool := x.toBitVec.getLsbD i
theorem b_ext {x y : Int32} (h : ∀ i, i < 32 → bt x i = bt y i) : x = y := Int32.toBitVec_inj.mp (BitVec.eq_of_getLsbD_eq (fun i hi => h i hi))
theorem b_or (x y : Int32) (i : Nat) : bt (x ||| y) i = (bt x i || bt y i) := by unfold bt; rw [Int32.toBitVec_or, BitVec.getLsbD_or]
theorem b_and (x y : Int32) (i : Nat) : bt (x &&& y) i = (bt x i && bt y i) := by unfold bt; rw [Int32.toBitVec_and, BitVec.getLsbD_and]
theorem b_xor (x y : Int32) (i : Nat) : bt (x ^^^ y) i = (bt x i ^^ bt y i) := by unfold bt; rw [Int32.toBitVec_xor, BitVec.getLsbD_xor]
theorem b_big {x : Int32} {i : Nat} (h : 32 ≤ i) : bt x i = false := BitVec.getLsbD_of_ge _ _ h
theorem b_255 (i : Nat) : bt 255 i = decide (i < 8) := by
  rcases Nat.lt_or_ge i 32 with h | h
  · exact (by decide +kernel : ∀ i, i < 32 → bt 255 i = decide (i < 8)) i h
  · rw [b_big h, decide_eq_false (by omega)]
theorem b_65535 (i : Nat) : bt 65535 i = decide (i < 16) := by
  rcases Nat.lt_or_ge i 32 with h | h
  · exact (by decide +kernel : ∀ i, i < 32 → bt 65535 i = decide (i < 16)) i h
  · rw [b_big h, decide_eq_false (by omega)]
theorem b_m1 : ∀ i, i < 32 → bt (-1) i = true := by decide +kernel
theorem b_0 (i : Nat) : bt 0 i = false := BitVec.getLsbD_zero
theorem s_l : ∀ n, n < 32 → ((nI n &&& 31).toBitVec.smod 32).toNat = n := by decide +kernel
theorem s_u : ∀ n, n < 32 → (((nI n).toUInt32 &&& Int32.toUInt32 31).toBitVec % 32).toNat = n := by decide +kernel
theorem b_shl (n : Nat) (hn : n < 32) (x : Int32) {i : Nat} (hi : i < 32) : bt (x <<< (nI n &&& 31)) i = (decide (n ≤ i) && bt x (i - n)) := by
  unfold bt
  rw [Int32.toBitVec_shiftLeft]
  show (x.toBitVec <<< ((nI n &&& 31).toBitVec.smod 32).toNat).getLsbD i = _
  rw [s_l n hn, BitVec.getLsbD_shiftLeft]
  rcases Nat.lt_or_ge i n with h | h
  · simp [h, Nat.not_le.mpr h]
  · simp [hi, h, Nat.not_lt.mpr h]
theorem b_ushr (n : Nat) (hn : n < 32) (x : Int32) (i : Nat) : bt ((x.toUInt32 >>> ((nI n).toUInt32 &&& Int32.toUInt32 31)).toInt32) i = bt x (n + i) := by
  show (x.toUInt32 >>> ((nI n).toUInt32 &&& Int32.toUInt32 31)).toBitVec.getLsbD i = x.toUInt32.toBitVec.getLsbD (n + i)
  rw [UInt32.toBitVec_shiftRight]
  show (x.toUInt32.toBitVec >>> (((nI n).toUInt32 &&& Int32.toUInt32 31).toBitVec % 32).toNat).getLsbD i = _
  rw [s_u n hn, BitVec.getLsbD_ushiftRight]
theorem b_sshr (n : Nat) (hn : n < 32) (x : Int32) {i : Nat} (hi : i < 32) : bt (x >>> (nI n &&& 31)) i = if n + i < 32 then bt x (n + i) else bt x 31 := by
  unfold bt
  rw [Int32.toBitVec_shiftRight]
  show (x.toBitVec.sshiftRight ((nI n &&& 31).toBitVec.smod 32).toNat).getLsbD i = _
  rw [s_l n hn, BitVec.getLsbD_sshiftRight, BitVec.msb_eq_getLsbD_last]
  simp [hi]
theorem b_shl8 (x : Int32) {i : Nat} (hi : i < 32) : bt (x <<< ((8 : Int32) &&& 31)) i = (decide (8 ≤ i) && bt x (i - 8)) := b_shl 8 (by omega) x hi
theorem b_shl16 (x : Int32) {i : Nat} (hi : i < 32) : bt (x <<< ((16 : Int32) &&& 31)) i = (decide (16 ≤ i) && bt x (i - 16)) := b_shl 16 (by omega) x hi
theorem b_shl24 (x : Int32) {i : Nat} (hi : i < 32) : bt (x <<< ((24 : Int32) &&& 31)) i = (decide (24 ≤ i) && bt x (i - 24)) := b_shl 24 (by omega) x hi
theorem b_sshr8 (x : Int32) {i : Nat} (hi : i < 32) : bt (x >>> ((8 : Int32) &&& 31)) i = if 8 + i < 32 then bt x (8 + i) else bt x 31 := b_sshr 8 (by omega) x hi
end
section
section ZN
/-- a row of notes at the cells i, i + 1, i + 2 -/
def zs_N (z : zv_T) (ad : Nat → Nat) (g : Nat → va_E) (i most c : Nat) (p q : Nat → Int32) : Prop := g i = ze_o 2 [.ref (ad (i + 1)), .ref (ad (i + 2)), .int (nI c)] ∧ g (i + 1) = ze_i z most p ∧ g (i + 2) = ze_i z most q
theorem zn_inc (k : Nat) : nI k + Int32.ofInt 1 = nI (k + 1) := (nI_succ k).symm
/-- the places of a pitch, a bit each -/
def zp_bits (p : Nat → Int32) (x : Int32) : Nat → Int32
  | 0 => 0
  | k + 1 => if p k = x then zp_bits p x k ||| ((1 : Int32) <<< (nI k &&& 31)) else zp_bits p x k
set_option maxHeartbeats 4000000 in
set_option maxRecDepth 100000 in
theorem ct_N_clear (l : Launch) (hst : l.stackTraces = false) (z : zv_T) (ad : Nat → Nat) (N : Nat) (g : Nat → va_E) (i most c : Nat) (p q : Nat → Int32) (hN : i + 2 < N) (hs : zs_N z ad g i most c p q) (hm : most < 2 ^ 31) : zm_v l mn_N_clear ws_N_clear rm_N_clear z ad N g [.ref (ad i)] (fun g1 => g1 = va_up g i (ze_o 2 [.ref (ad (i + 1)), .ref (ad (i + 2)), .int 0])) := by
  obtain ⟨hs0, hs1, hs2⟩ := hs
  refine zm_ofv hst pn_N_clear rfl (Nat.le_of_ble_eq_true rfl) (fun X hX C => ?_)
  subst hX
  show zj_J X 0 0 _ ad N g 0 [(0, .ref (ad i))] []
  refine zj_aload_n C dc_N_clear_0 rfl 0 rfl ?_
  refine zj_iconst (v := 0) C dc_N_clear_1 (by decide) ?_
  refine zj_put (k := 2) C (by omega) hs0 rfl (by decide) fw_N fl_N_16 rfl fy_N fk_N fn_N rfl rfl rfl (Nat.le_of_ble_eq_true rfl) rfl dc_N_clear_2 ?_
  exact zj_vret C dc_N_clear_5 rfl
set_option maxHeartbeats 4000000 in
set_option maxRecDepth 100000 in
theorem ct_N_put (l : Launch) (hst : l.stackTraces = false) (z : zv_T) (ad : Nat → Nat) (N : Nat) (g : Nat → va_E) (i most c : Nat) (p q : Nat → Int32) (hN : i + 2 < N) (hs : zs_N z ad g i most c p q) (hm : most < 2 ^ 31) (k : Nat) (x y : Int32) (hk : k < most) : zm_v l mn_N_put ws_N_put rm_N_put z ad N g [.ref (ad i), .int (nI k), .int x, .int y] (fun g1 => g1 = va_up (va_up g (i + 1) (ze_i z most (upd p k x))) (i + 2) (ze_i z most (upd q k y))) := by
  obtain ⟨hs0, hs1, hs2⟩ := hs
  refine zm_ofv hst pn_N_put rfl (Nat.le_of_ble_eq_true rfl) (fun X hX C => ?_)
  subst hX
  show zj_J X 0 0 _ ad N g 0 [(0, .ref (ad i)), (1, .int (nI k)), (2, .int x), (3, .int y)] []
  refine zj_aload_n C dc_N_put_0 rfl 0 rfl ?_
  refine zj_get (k := 0) C (by omega) hs0 rfl (by decide) fw_N fl_N_7 rfl rfl dc_N_put_1 ?_
  refine zj_iload_n C dc_N_put_4 rfl 1 rfl ?_
  refine zj_iload_n C dc_N_put_5 rfl 2 rfl ?_
  refine zj_iast C (by omega) hs1 rfl hk hm dc_N_put_6 ?_
  refine zj_aload_n C dc_N_put_7 rfl 0 rfl ?_
  refine zj_get (k := 1) C (by omega) (by rw [va_up_ne _ _ (by omega)]; exact hs0) rfl (by decide) fw_N fl_N_13 rfl rfl dc_N_put_8 ?_
  refine zj_iload_n C dc_N_put_11 rfl 1 rfl ?_
  refine zj_iload_n C dc_N_put_12 rfl 3 rfl ?_
  refine zj_iast C (by omega) (by rw [va_up_ne _ _ (by omega)]; exact hs2) rfl hk hm dc_N_put_13 ?_
  exact zj_vret C dc_N_put_14 rfl
set_option maxHeartbeats 4000000 in
set_option maxRecDepth 100000 in
theorem ct_N_steps (l : Launch) (hst : l.stackTraces = false) (z : zv_T) (ad : Nat → Nat) (N : Nat) (g : Nat → va_E) (i most c : Nat) (p q : Nat → Int32) (hN : i + 2 < N) (hs : zs_N z ad g i most c p q) (hm : most < 2 ^ 31) (hc : c < 2 ^ 31) : zm_i l mn_N_steps ws_N_steps rm_N_steps z ad N g [.ref (ad i)] (fun r g1 => r = nI (c - 1) ∧ g1 = g) := by
  obtain ⟨hs0, hs1, hs2⟩ := hs
  refine zm_ofi hst pn_N_steps rfl (Nat.le_of_ble_eq_true rfl) (fun X hX C => ?_)
  subst hX
  show zj_J X 0 0 _ ad N g 0 [(0, .ref (ad i))] []
  refine zj_aload_n C dc_N_steps_0 rfl 0 rfl ?_
  refine zj_get (k := 2) C (by omega) hs0 rfl (by decide) fw_N fl_N_16 rfl rfl dc_N_steps_1 ?_
  refine zj_iconst (v := 1) C dc_N_steps_4 (by decide) ?_
  refine zj_isub C dc_N_steps_5 ?_
  refine zj_iconst (v := 0) C dc_N_steps_6 (by decide) ?_
  refine zj_mmax C ml_N_24 sm_Math_max ini_Math wk_Math_max ⟨(Nat.le_of_ble_eq_true rfl), (Nat.le_of_ble_eq_true rfl)⟩ ⟨(Nat.le_of_ble_eq_true rfl), (Nat.le_of_ble_eq_true rfl)⟩ dc_N_steps_7 ?_
  exact zj_iret C dc_N_steps_10 ⟨zn_max1 hc, rfl⟩
set_option maxHeartbeats 4000000 in
set_option maxRecDepth 100000 in
theorem ct_N_stepBehind (l : Launch) (hst : l.stackTraces = false) (z : zv_T) (ad : Nat → Nat) (N : Nat) (g : Nat → va_E) (i most c : Nat) (p q : Nat → Int32) (hN : i + 2 < N) (hs : zs_N z ad g i most c p q) (hm : most < 2 ^ 31) (k : Nat) (hk : k + 1 < most) : zm_i l mn_N_stepBehind ws_N_stepBehind rm_N_stepBehind z ad N g [.ref (ad i), .int (nI k)] (fun r g1 => r = p (k + 1) - p k ∧ g1 = g) := by
  obtain ⟨hs0, hs1, hs2⟩ := hs
  refine zm_ofi hst pn_N_stepBehind rfl (Nat.le_of_ble_eq_true rfl) (fun X hX C => ?_)
  subst hX
  show zj_J X 0 0 _ ad N g 0 [(0, .ref (ad i)), (1, .int (nI k))] []
  refine zj_aload_n C dc_N_stepBehind_0 rfl 0 rfl ?_
  refine zj_get (k := 0) C (by omega) hs0 rfl (by decide) fw_N fl_N_7 rfl rfl dc_N_stepBehind_1 ?_
  refine zj_iload_n C dc_N_stepBehind_4 rfl 1 rfl ?_
  refine zj_iconst (v := 1) C dc_N_stepBehind_5 (by decide) ?_
  refine zj_iadd C dc_N_stepBehind_6 ?_
  refine zj_iald C (by omega) hs1 (nI_1 k) hk hm dc_N_stepBehind_7 ?_
  refine zj_aload_n C dc_N_stepBehind_8 rfl 0 rfl ?_
  refine zj_get (k := 0) C (by omega) hs0 rfl (by decide) fw_N fl_N_7 rfl rfl dc_N_stepBehind_9 ?_
  refine zj_iload_n C dc_N_stepBehind_12 rfl 1 rfl ?_
  refine zj_iald C (by omega) hs1 rfl (by omega) hm dc_N_stepBehind_13 ?_
  refine zj_isub C dc_N_stepBehind_14 ?_
  exact zj_iret C dc_N_stepBehind_15 ⟨rfl, rfl⟩
set_option maxHeartbeats 4000000 in
set_option maxRecDepth 100000 in
theorem ct_N_append (l : Launch) (hst : l.stackTraces = false) (z : zv_T) (ad : Nat → Nat) (N : Nat) (g : Nat → va_E) (i most c : Nat) (p q : Nat → Int32) (hN : i + 2 < N) (hs : zs_N z ad g i most c p q) (hm : most < 2 ^ 31) (x y : Int32) (hc : c < most) : zm_i l mn_N_append ws_N_append rm_N_append z ad N g [.ref (ad i), .int x, .int y] (fun r g1 => r = nI (c + 1) ∧ g1 = va_up (va_up (va_up g (i + 1) (ze_i z most (upd p c x))) (i + 2) (ze_i z most (upd q c y))) i (ze_o 2 [.ref (ad (i + 1)), .ref (ad (i + 2)), .int (nI (c + 1))])) := by
  obtain ⟨hs0, hs1, hs2⟩ := hs
  refine zm_ofi hst pn_N_append rfl (Nat.le_of_ble_eq_true rfl) (fun X hX C => ?_)
  subst hX
  show zj_J X 0 0 _ ad N g 0 [(0, .ref (ad i)), (1, .int x), (2, .int y)] []
  refine zj_aload_n C dc_N_append_0 rfl 0 rfl ?_
  refine zj_aload_n C dc_N_append_1 rfl 0 rfl ?_
  refine zj_get (k := 2) C (by omega) hs0 rfl (by decide) fw_N fl_N_16 rfl rfl dc_N_append_2 ?_
  refine zj_iload_n C dc_N_append_5 rfl 1 rfl ?_
  refine zj_iload_n C dc_N_append_6 rfl 2 rfl ?_
  refine zj_Vv C (ct_N_put _ hst z ad N g i most c p q hN ⟨hs0, hs1, hs2⟩ hm c x y hc) gv_N_20 rfl rfl rfl hd_N_put ⟨(Nat.le_of_ble_eq_true rfl), (Nat.le_of_ble_eq_true rfl)⟩ (by omega) hs0 rfl rfl rfl (Nat.le_of_ble_eq_true rfl) ⟨(Nat.le_of_ble_eq_true rfl), (Nat.le_of_ble_eq_true rfl)⟩ dc_N_append_7 (fun g1 h1 => ?_)
  subst h1
  refine zj_aload_n C dc_N_append_10 rfl 0 rfl ?_
  refine zj_dup C dc_N_append_11 rfl ?_
  refine zj_get (k := 2) C (by omega) (by rw [va_up_ne _ _ (by omega), va_up_ne _ _ (by omega)]; exact hs0) rfl (by decide) fw_N fl_N_16 rfl rfl dc_N_append_12 ?_
  refine zj_iconst (v := 1) C dc_N_append_15 (by decide) ?_
  refine zj_iadd C dc_N_append_16 ?_
  refine zj_topi (nI_1 c) ?_
  refine zj_put (k := 2) C (by omega) (by rw [va_up_ne _ _ (by omega), va_up_ne _ _ (by omega)]; exact hs0) rfl (by decide) fw_N fl_N_16 rfl fy_N fk_N fn_N rfl rfl rfl (Nat.le_of_ble_eq_true rfl) rfl dc_N_append_17 ?_
  skip
  refine zj_aload_n C dc_N_append_20 rfl 0 rfl ?_
  refine zj_get (k := 2) C (by omega) (va_up_self _ _ _) rfl (by decide) fw_N fl_N_16 rfl rfl dc_N_append_21 ?_
  exact zj_iret C dc_N_append_24 ⟨rfl, rfl⟩
set_option maxHeartbeats 4000000 in
set_option maxRecDepth 100000 in
theorem ct_N_placesOfPitch (l : Launch) (hst : l.stackTraces = false) (z : zv_T) (ad : Nat → Nat) (N : Nat) (g : Nat → va_E) (i most c : Nat) (p q : Nat → Int32) (hN : i + 2 < N) (hs : zs_N z ad g i most c p q) (hm : most < 2 ^ 31) (x : Int32) (hc : c ≤ most) : zm_i l mn_N_placesOfPitch ws_N_placesOfPitch rm_N_placesOfPitch z ad N g [.ref (ad i), .int x] (fun r g1 => r = zp_bits p x c ∧ g1 = g) := by
  obtain ⟨hs0, hs1, hs2⟩ := hs
  refine zm_ofi hst pn_N_placesOfPitch rfl (Nat.le_of_ble_eq_true rfl) (fun X hX C => ?_)
  subst hX
  show zj_J X 0 0 _ ad N g 0 [(0, .ref (ad i)), (1, .int x)] []
  have loop : ∀ (n k : Nat), c - k = n → k ≤ c → zj_J X 0 0 (zj_Qi X 0 0 ad N (fun r g1 => r = zp_bits p x c ∧ g1 = g)) ad N g 4 [(3, .int (nI k)), (2, .int (zp_bits p x k)), (0, .ref (ad i)), (1, .int x)] [] := by
    intro n
    induction n with
    | zero =>
      intro k e1 e2
      refine zj_iload_n C dc_N_placesOfPitch_4 rfl 0 rfl ?_
      refine zj_aload_n C dc_N_placesOfPitch_5 rfl 2 rfl ?_
      refine zj_get (k := 2) C (by omega) hs0 rfl (by decide) fw_N fl_N_16 rfl rfl dc_N_placesOfPitch_6 ?_
      refine zj_icmp_ge C dc_N_placesOfPitch_9 rfl (fun _ => ?_) (fun h => absurd h (not_not_intro ((nI_leI (by omega) (by omega)).mpr (by omega))))
      refine zj_iload_n C dc_N_placesOfPitch_34 rfl 1 rfl ?_
      exact zj_iret C dc_N_placesOfPitch_35 ⟨by rw [show k = c by omega], rfl⟩
    | succ n ih =>
      intro k e1 e2
      refine zj_iload_n C dc_N_placesOfPitch_4 rfl 0 rfl ?_
      refine zj_aload_n C dc_N_placesOfPitch_5 rfl 2 rfl ?_
      refine zj_get (k := 2) C (by omega) hs0 rfl (by decide) fw_N fl_N_16 rfl rfl dc_N_placesOfPitch_6 ?_
      refine zj_icmp_ge C dc_N_placesOfPitch_9 rfl (fun h => absurd h ((zn_nle (by omega) (by omega)).mpr (by omega))) (fun _ => ?_)
      refine zj_aload_n C dc_N_placesOfPitch_12 rfl 2 rfl ?_
      refine zj_get (k := 0) C (by omega) hs0 rfl (by decide) fw_N fl_N_7 rfl rfl dc_N_placesOfPitch_13 ?_
      refine zj_iload_n C dc_N_placesOfPitch_16 rfl 0 rfl ?_
      refine zj_iald C (by omega) hs1 rfl (by omega) hm dc_N_placesOfPitch_17 ?_
      refine zj_iload_n C dc_N_placesOfPitch_18 rfl 3 rfl ?_
      refine zj_icmp_ne C dc_N_placesOfPitch_19 rfl (fun h19 => ?_) (fun h19 => ?_)
      · skip
        refine zj_iinc C dc_N_placesOfPitch_28 0 rfl (zn_inc k) (by decide) rfl ?_
        refine zj_goto C dc_N_placesOfPitch_31 rfl ?_
        refine zj_loc (L' := [(3, .int (nI (k + 1))), (2, .int (zp_bits p x (k + 1))), (0, .ref (ad i)), (1, .int x)]) [0, 1, 2, 3] (by show [_, _, _, _] = _; simp [zp_bits, h19]) ?_
        exact ih (k + 1) (by omega) (by omega)
      · skip
        refine zj_iload_n C dc_N_placesOfPitch_22 rfl 1 rfl ?_
        refine zj_iconst (v := 1) C dc_N_placesOfPitch_23 (by decide) ?_
        refine zj_iload_n C dc_N_placesOfPitch_24 rfl 0 rfl ?_
        refine zj_ishl C dc_N_placesOfPitch_25 ?_
        refine zj_ior C dc_N_placesOfPitch_26 ?_
        refine zj_istore_n C dc_N_placesOfPitch_27 rfl (by decide) rfl ?_
        refine zj_iinc C dc_N_placesOfPitch_28 1 rfl (zn_inc k) (by decide) rfl ?_
        refine zj_goto C dc_N_placesOfPitch_31 rfl ?_
        refine zj_loc (L' := [(3, .int (nI (k + 1))), (2, .int (zp_bits p x (k + 1))), (0, .ref (ad i)), (1, .int x)]) [0, 1, 2, 3] (by show [_, _, _, _] = _; simp [zp_bits, h19]) ?_
        exact ih (k + 1) (by omega) (by omega)
  refine zj_iconst (v := 0) C dc_N_placesOfPitch_0 (by decide) ?_
  refine zj_istore_n C dc_N_placesOfPitch_1 rfl (by decide) rfl ?_
  refine zj_iconst (v := 0) C dc_N_placesOfPitch_2 (by decide) ?_
  refine zj_istore_n C dc_N_placesOfPitch_3 rfl (by decide) rfl ?_
  refine zj_loc [0, 1, 2, 3] rfl ?_
  exact loop c 0 (by omega) (by omega)
end ZN
end
section
section ZU
/-- a tune at the cells b .. b + 7 -/
def zs_U (z : zv_T) (ad : Nat → Nat) (g : Nat → va_E) (b : Nat) (th sh : Int32) (lr c : Nat) (p q pr rp rq : Nat → Int32) : Prop := g b = ze_o 5 [.ref (ad (b + 1)), .ref (ad (b + 4)), .ref (ad (b + 5)), .int th, .int sh, .int (nI lr)] ∧ zs_N z ad g (b + 1) 20 c p q ∧ g (b + 4) = ze_i z 8 pr ∧ zs_N z ad g (b + 5) 8 0 rp rq
/-- the first correction from r on that replaced place x -/
def zp_ra (pr : Nat → Int32) (x : Int32) (r : Nat) : Nat → Option Nat
  | 0 => none
  | n + 1 => if pr r = x then some r else zp_ra pr x (r + 1) n
theorem zp_ra_lt {pr : Nat → Int32} {x : Int32} : ∀ {n r j : Nat}, zp_ra pr x r n = some j → r ≤ j ∧ j < r + n := by
  intro n
  induction n with
  | zero => intro r j h; cases h
  | succ n ih =>
    intro r j h
    unfold zp_ra at h
    split at h
    · cases h; omega
    · have := ih h; omega
def zp_rv (o : Option Nat) : Int32 := match o with
  | none => -1
  | some j => nI j
/-- what a reading holds at a place: what the first later correction there replaced, or what is there now -/
def zp_in (now rep : Nat → Int32) (o : Option Nat) (k : Nat) : Int32 := match o with
  | none => now k
  | some j => rep j
set_option maxHeartbeats 4000000 in
set_option maxRecDepth 100000 in
theorem ct_U_begin (l : Launch) (hst : l.stackTraces = false) (z : zv_T) (ad : Nat → Nat) (N : Nat) (g : Nat → va_E) (b : Nat) (th sh : Int32) (lr c : Nat) (p q pr rp rq : Nat → Int32) (hN : b + 7 < N) (hs : zs_U z ad g b th sh lr c p q pr rp rq) : zm_v l mn_U_begin ws_U_begin rm_U_begin z ad N g [.ref (ad b)] (fun g1 => zs_U z ad g1 b 1 0 0 0 p q pr rp rq ∧ ∀ j, j ≠ b → j ≠ b + 1 → g1 j = g j) := by
  obtain ⟨hs0, ⟨hn0, hn1, hn2⟩, hs4, hr0, hr1, hr2⟩ := hs
  refine zm_ofv hst pn_U_begin rfl (Nat.le_of_ble_eq_true rfl) (fun X hX C => ?_)
  subst hX
  show zj_J X 0 0 _ ad N g 0 [(0, .ref (ad b))] []
  refine zj_aload_n C dc_U_begin_0 rfl 0 rfl ?_
  refine zj_get (k := 0) C (by omega) hs0 rfl (by decide) fw_U fl_U_14 rfl rfl dc_U_begin_1 ?_
  refine zj_Vv C (ct_N_clear _ hst z ad N g (b + 1) 20 c p q (by omega) ⟨hn0, hn1, hn2⟩ (by decide)) gv_U_27 rfl rfl rfl hd_N_clear ⟨(Nat.le_of_ble_eq_true rfl), (Nat.le_of_ble_eq_true rfl)⟩ (by omega) hn0 rfl rfl rfl (Nat.le_of_ble_eq_true rfl) ⟨(Nat.le_of_ble_eq_true rfl), (Nat.le_of_ble_eq_true rfl)⟩ dc_U_begin_4 (fun g1 h1 => ?_)
  subst h1
  refine zj_aload_n C dc_U_begin_7 rfl 0 rfl ?_
  refine zj_iconst (v := 1) C dc_U_begin_8 (by decide) ?_
  refine zj_put (k := 3) C (by omega) (by (repeat rw [va_up_ne _ _ (by omega)]); exact hs0) rfl (by decide) fw_U fl_U_30 rfl fy_U fk_U fn_U rfl rfl rfl (Nat.le_of_ble_eq_true rfl) rfl dc_U_begin_9 ?_
  refine zj_aload_n C dc_U_begin_12 rfl 0 rfl ?_
  refine zj_iconst (v := 0) C dc_U_begin_13 (by decide) ?_
  refine zj_put (k := 4) C (by omega) (by (repeat rw [va_up_ne _ _ (by omega)]); exact (va_up_self _ _ _)) rfl (by decide) fw_U fl_U_34 rfl fy_U fk_U fn_U rfl rfl rfl (Nat.le_of_ble_eq_true rfl) rfl dc_U_begin_14 ?_
  refine zj_aload_n C dc_U_begin_17 rfl 0 rfl ?_
  refine zj_iconst (v := 0) C dc_U_begin_18 (by decide) ?_
  refine zj_put (k := 5) C (by omega) (by (repeat rw [va_up_ne _ _ (by omega)]); exact (va_up_self _ _ _)) rfl (by decide) fw_U fl_U_37 rfl fy_U fk_U fn_U rfl rfl rfl (Nat.le_of_ble_eq_true rfl) rfl dc_U_begin_19 ?_
  exact zj_vret C dc_U_begin_22 ⟨⟨by (repeat rw [va_up_ne _ _ (by omega)]); exact va_up_self _ _ _, ⟨by (repeat rw [va_up_ne _ _ (by omega)]); exact va_up_self _ _ _, by (repeat rw [va_up_ne _ _ (by omega)]); exact hn1, by (repeat rw [va_up_ne _ _ (by omega)]); exact hn2⟩, by (repeat rw [va_up_ne _ _ (by omega)]); exact hs4, by (repeat rw [va_up_ne _ _ (by omega)]); exact hr0, by (repeat rw [va_up_ne _ _ (by omega)]); exact hr1, by (repeat rw [va_up_ne _ _ (by omega)]); exact hr2⟩, fun j h1 h2 => by (repeat rw [va_up_ne _ _ (by omega)])⟩
set_option maxHeartbeats 4000000 in
set_option maxRecDepth 100000 in
theorem ct_U_end (l : Launch) (hst : l.stackTraces = false) (z : zv_T) (ad : Nat → Nat) (N : Nat) (g : Nat → va_E) (b : Nat) (th sh : Int32) (lr c : Nat) (p q pr rp rq : Nat → Int32) (hN : b + 7 < N) (hs : zs_U z ad g b th sh lr c p q pr rp rq) : zm_v l mn_U_end ws_U_end rm_U_end z ad N g [.ref (ad b)] (fun g1 => zs_U z ad g1 b 0 0 lr c p q pr rp rq ∧ ∀ j, j ≠ b → g1 j = g j) := by
  obtain ⟨hs0, ⟨hn0, hn1, hn2⟩, hs4, hr0, hr1, hr2⟩ := hs
  refine zm_ofv hst pn_U_end rfl (Nat.le_of_ble_eq_true rfl) (fun X hX C => ?_)
  subst hX
  show zj_J X 0 0 _ ad N g 0 [(0, .ref (ad b))] []
  refine zj_aload_n C dc_U_end_0 rfl 0 rfl ?_
  refine zj_iconst (v := 0) C dc_U_end_1 (by decide) ?_
  refine zj_put (k := 3) C (by omega) hs0 rfl (by decide) fw_U fl_U_30 rfl fy_U fk_U fn_U rfl rfl rfl (Nat.le_of_ble_eq_true rfl) rfl dc_U_end_2 ?_
  refine zj_aload_n C dc_U_end_5 rfl 0 rfl ?_
  refine zj_iconst (v := 0) C dc_U_end_6 (by decide) ?_
  refine zj_put (k := 4) C (by omega) (by (repeat rw [va_up_ne _ _ (by omega)]); exact (va_up_self _ _ _)) rfl (by decide) fw_U fl_U_34 rfl fy_U fk_U fn_U rfl rfl rfl (Nat.le_of_ble_eq_true rfl) rfl dc_U_end_7 ?_
  exact zj_vret C dc_U_end_10 ⟨⟨by (repeat rw [va_up_ne _ _ (by omega)]); exact va_up_self _ _ _, ⟨by (repeat rw [va_up_ne _ _ (by omega)]); exact hn0, by (repeat rw [va_up_ne _ _ (by omega)]); exact hn1, by (repeat rw [va_up_ne _ _ (by omega)]); exact hn2⟩, by (repeat rw [va_up_ne _ _ (by omega)]); exact hs4, by (repeat rw [va_up_ne _ _ (by omega)]); exact hr0, by (repeat rw [va_up_ne _ _ (by omega)]); exact hr1, by (repeat rw [va_up_ne _ _ (by omega)]); exact hr2⟩, fun j h1 => by (repeat rw [va_up_ne _ _ (by omega)])⟩
set_option maxHeartbeats 4000000 in
set_option maxRecDepth 100000 in
theorem ct_U_replacedAfter (l : Launch) (hst : l.stackTraces = false) (z : zv_T) (ad : Nat → Nat) (N : Nat) (g : Nat → va_E) (b : Nat) (th sh : Int32) (lr c : Nat) (p q pr rp rq : Nat → Int32) (hN : b + 7 < N) (hs : zs_U z ad g b th sh lr c p q pr rp rq) (r : Nat) (x : Int32) (hr : r ≤ lr) (hlr : lr ≤ 8) : zm_i l mn_U_replacedAfter ws_U_replacedAfter rm_U_replacedAfter z ad N g [.ref (ad b), .int (nI r), .int x] (fun v g1 => v = zp_rv (zp_ra pr x r (lr - r)) ∧ g1 = g) := by
  obtain ⟨hs0, ⟨hn0, hn1, hn2⟩, hs4, hr0, hr1, hr2⟩ := hs
  refine zm_ofi hst pn_U_replacedAfter rfl (Nat.le_of_ble_eq_true rfl) (fun X hX C => ?_)
  subst hX
  show zj_J X 0 0 _ ad N g 0 [(0, .ref (ad b)), (1, .int (nI r)), (2, .int x)] []
  have loop : ∀ (n : Nat) (k : Nat), lr - k = n → r ≤ k → k ≤ lr → zp_ra pr x r (lr - r) = zp_ra pr x k (lr - k) → zj_J X 0 0 (zj_Qi X 0 0 ad N (fun v g1 => v = zp_rv (zp_ra pr x r (lr - r)) ∧ g1 = g)) ad N g 2 [(3, .int (nI k)), (0, .ref (ad b)), (1, .int (nI r)), (2, .int x)] [] := by
    intro n
    induction n with
    | zero =>
      intro k e1 e2 e3 e4
      refine zj_iload_n C dc_U_replacedAfter_2 rfl 0 rfl ?_
      refine zj_aload_n C dc_U_replacedAfter_3 rfl 1 rfl ?_
      refine zj_get (k := 5) C (by omega) hs0 rfl (by decide) fw_U fl_U_37 rfl rfl dc_U_replacedAfter_4 ?_
      refine zj_icmp_ge C dc_U_replacedAfter_7 rfl (fun _ => ?_) (fun h => absurd h (not_not_intro ((nI_leI (by omega) (by omega)).mpr (by omega))))
      refine zj_iconst (v := -1) C dc_U_replacedAfter_28 (by decide) ?_
      exact zj_iret C dc_U_replacedAfter_29 ⟨by rw [e4, show lr - k = 0 by omega]; rfl, rfl⟩
    | succ n ih =>
      intro k e1 e2 e3 e4
      refine zj_iload_n C dc_U_replacedAfter_2 rfl 0 rfl ?_
      refine zj_aload_n C dc_U_replacedAfter_3 rfl 1 rfl ?_
      refine zj_get (k := 5) C (by omega) hs0 rfl (by decide) fw_U fl_U_37 rfl rfl dc_U_replacedAfter_4 ?_
      refine zj_icmp_ge C dc_U_replacedAfter_7 rfl (fun h => absurd h ((zn_nle (by omega) (by omega)).mpr (by omega))) (fun _ => ?_)
      refine zj_aload_n C dc_U_replacedAfter_10 rfl 1 rfl ?_
      refine zj_get (k := 1) C (by omega) hs0 rfl (by decide) fw_U fl_U_20 rfl rfl dc_U_replacedAfter_11 ?_
      refine zj_iload_n C dc_U_replacedAfter_14 rfl 0 rfl ?_
      refine zj_iald C (by omega) hs4 rfl (by omega) (by decide) dc_U_replacedAfter_15 ?_
      refine zj_iload_n C dc_U_replacedAfter_16 rfl 3 rfl ?_
      refine zj_icmp_ne C dc_U_replacedAfter_17 rfl (fun h17 => ?_) (fun h17 => ?_)
      · skip
        refine zj_iinc C dc_U_replacedAfter_22 0 rfl (zn_inc k) (by decide) rfl ?_
        refine zj_goto C dc_U_replacedAfter_25 rfl ?_
        refine zj_loc (L' := [(3, .int (nI (k + 1))), (0, .ref (ad b)), (1, .int (nI r)), (2, .int x)]) [0, 1, 2, 3] rfl ?_
        exact ih (k + 1) (by omega) (by omega) (by omega) (by rw [e4, show lr - k = (lr - (k + 1)) + 1 by omega]; conv => lhs; unfold zp_ra; rw [if_neg h17])
      · skip
        refine zj_iload_n C dc_U_replacedAfter_20 rfl 0 rfl ?_
        exact zj_iret C dc_U_replacedAfter_21 ⟨by rw [e4, show lr - k = (lr - (k + 1)) + 1 by omega]; unfold zp_ra; rw [if_pos h17]; rfl, rfl⟩
  refine zj_iload_n C dc_U_replacedAfter_0 rfl 1 rfl ?_
  refine zj_istore_n C dc_U_replacedAfter_1 rfl (by decide) rfl ?_
  refine zj_loc [0, 1, 2, 3] rfl ?_
  exact loop (lr - r) r rfl (Nat.le_refl _) hr rfl
theorem zp_rv_some {o : Option Nat} (h : ¬ zp_rv o = -1) : ∃ j, o = some j := by
  cases o with
  | none => exact absurd rfl h
  | some j => exact ⟨j, rfl⟩
theorem zn_m1n {j : Nat} (h : j < 2 ^ 31) : ¬ nI j = -1 := by
  intro e
  have h1 := congrArg Int32.toInt e
  rw [nI_toInt h] at h1
  have h2 : (-1 : Int32).toInt = -1 := by decide
  omega
theorem zp_rv_none {o : Option Nat} (hl : ∀ j, o = some j → j < 2 ^ 31) (h : zp_rv o = -1) : o = none := by
  cases o with
  | none => rfl
  | some j => exact absurd h (zn_m1n (hl j rfl))
theorem zn_m1lt {m : Nat} (h : m < 2 ^ 31) : nI m - 1 < nI m := by
  cases m with
  | zero => decide
  | succ n => rw [nI_pred]; exact nI_lt (by omega) h
theorem zn_dec {m : Nat} (h : 0 < m) : nI m - 1 + Int32.ofInt (-1) = nI (m - 1) - 1 := by
  obtain ⟨n, rfl⟩ : ∃ n, m = n + 1 := ⟨m - 1, by omega⟩
  rw [nI_pred, Nat.add_sub_cancel]
  show nI n + -1 = nI n - 1
  grind
/-- corrections taken back: n of them, the last ones first -/
def zp_bk (f pr rep : Nat → Int32) (lr : Nat) : Nat → (Nat → Int32)
  | 0 => f
  | n + 1 => upd (zp_bk f pr rep lr n) (pr (lr - 1 - n)).toNatClampNeg (rep (lr - 1 - n))
theorem zp_bkS (f pr rep : Nat → Int32) (lr n : Nat) : zp_bk f pr rep lr (n + 1) = upd (zp_bk f pr rep lr n) (pr (lr - 1 - n)).toNatClampNeg (rep (lr - 1 - n)) := rfl
set_option maxHeartbeats 4000000 in
set_option maxRecDepth 100000 in
theorem ct_U_pitchIn (l : Launch) (hst : l.stackTraces = false) (z : zv_T) (ad : Nat → Nat) (N : Nat) (g : Nat → va_E) (b : Nat) (th sh : Int32) (lr c : Nat) (p q pr rp rq : Nat → Int32) (hN : b + 7 < N) (hs : zs_U z ad g b th sh lr c p q pr rp rq) (r k : Nat) (hr : r ≤ lr) (hlr : lr ≤ 8) (hk : k < 20) : zm_i l mn_U_pitchIn ws_U_pitchIn rm_U_pitchIn z ad N g [.ref (ad b), .int (nI r), .int (nI k)] (fun v g1 => v = zp_in p rp (zp_ra pr (nI k) r (lr - r)) k ∧ g1 = g) := by
  obtain ⟨hs0, ⟨hn0, hn1, hn2⟩, hs4, hr0, hr1, hr2⟩ := hs
  refine zm_ofi hst pn_U_pitchIn rfl (Nat.le_of_ble_eq_true rfl) (fun X hX C => ?_)
  subst hX
  show zj_J X 0 0 _ ad N g 0 [(0, .ref (ad b)), (1, .int (nI r)), (2, .int (nI k))] []
  refine zj_aload_n C dc_U_pitchIn_0 rfl 0 rfl ?_
  refine zj_iload_n C dc_U_pitchIn_1 rfl 1 rfl ?_
  refine zj_iload_n C dc_U_pitchIn_2 rfl 2 rfl ?_
  refine zj_Vi C (ct_U_replacedAfter _ hst z ad N g b th sh lr c p q pr rp rq hN ⟨hs0, ⟨hn0, hn1, hn2⟩, hs4, hr0, hr1, hr2⟩ r (nI k) hr hlr) gv_U_51 rfl rfl rfl hd_U_replacedAfter ⟨(Nat.le_of_ble_eq_true rfl), (Nat.le_of_ble_eq_true rfl)⟩ (by omega) hs0 rfl rfl rfl (Nat.le_of_ble_eq_true rfl) ⟨(Nat.le_of_ble_eq_true rfl), (Nat.le_of_ble_eq_true rfl)⟩ dc_U_pitchIn_3 (fun r1 g1 h1 => ?_)
  obtain ⟨rfl, rfl⟩ := h1
  have hlt : ∀ j, zp_ra pr (nI k) r (lr - r) = some j → j < 8 := fun j h => by have := zp_ra_lt h; omega
  generalize zp_ra pr (nI k) r (lr - r) = o at hlt ⊢
  refine zj_istore_n C dc_U_pitchIn_6 rfl (by decide) rfl ?_
  refine zj_iload_n C dc_U_pitchIn_7 rfl 0 rfl ?_
  refine zj_iconst (v := -1) C dc_U_pitchIn_8 (by decide) ?_
  refine zj_icmp_ne C dc_U_pitchIn_9 rfl (fun h9 => ?_) (fun h9 => ?_)
  · obtain ⟨j, rfl⟩ := zp_rv_some h9
    refine zj_aload_n C dc_U_pitchIn_24 rfl 1 rfl ?_
    refine zj_get (k := 2) C (by omega) hs0 rfl (by decide) fw_U fl_U_24 rfl rfl dc_U_pitchIn_25 ?_
    refine zj_get (k := 0) C (by omega) hr0 rfl (by decide) fw_N fl_U_41 rfl rfl dc_U_pitchIn_28 ?_
    refine zj_iload_n C dc_U_pitchIn_31 rfl 0 rfl ?_
    refine zj_iald C (by omega) hr1 rfl (hlt j rfl) (by decide) dc_U_pitchIn_32 ?_
    exact zj_iret C dc_U_pitchIn_33 ⟨rfl, rfl⟩
  · have h9 := zp_rv_none (fun j h => by have := hlt j h; omega) h9
    subst h9
    refine zj_aload_n C dc_U_pitchIn_12 rfl 1 rfl ?_
    refine zj_get (k := 0) C (by omega) hs0 rfl (by decide) fw_U fl_U_14 rfl rfl dc_U_pitchIn_13 ?_
    refine zj_get (k := 0) C (by omega) hn0 rfl (by decide) fw_N fl_U_41 rfl rfl dc_U_pitchIn_16 ?_
    refine zj_iload_n C dc_U_pitchIn_19 rfl 3 rfl ?_
    refine zj_iald C (by omega) hn1 rfl hk (by decide) dc_U_pitchIn_20 ?_
    refine zj_goto C dc_U_pitchIn_21 rfl ?_
    exact zj_iret C dc_U_pitchIn_33 ⟨rfl, rfl⟩
set_option maxHeartbeats 4000000 in
set_option maxRecDepth 100000 in
theorem ct_U_lengthIn (l : Launch) (hst : l.stackTraces = false) (z : zv_T) (ad : Nat → Nat) (N : Nat) (g : Nat → va_E) (b : Nat) (th sh : Int32) (lr c : Nat) (p q pr rp rq : Nat → Int32) (hN : b + 7 < N) (hs : zs_U z ad g b th sh lr c p q pr rp rq) (r k : Nat) (hr : r ≤ lr) (hlr : lr ≤ 8) (hk : k < 20) : zm_i l mn_U_lengthIn ws_U_lengthIn rm_U_lengthIn z ad N g [.ref (ad b), .int (nI r), .int (nI k)] (fun v g1 => v = zp_in q rq (zp_ra pr (nI k) r (lr - r)) k ∧ g1 = g) := by
  obtain ⟨hs0, ⟨hn0, hn1, hn2⟩, hs4, hr0, hr1, hr2⟩ := hs
  refine zm_ofi hst pn_U_lengthIn rfl (Nat.le_of_ble_eq_true rfl) (fun X hX C => ?_)
  subst hX
  show zj_J X 0 0 _ ad N g 0 [(0, .ref (ad b)), (1, .int (nI r)), (2, .int (nI k))] []
  refine zj_aload_n C dc_U_lengthIn_0 rfl 0 rfl ?_
  refine zj_iload_n C dc_U_lengthIn_1 rfl 1 rfl ?_
  refine zj_iload_n C dc_U_lengthIn_2 rfl 2 rfl ?_
  refine zj_Vi C (ct_U_replacedAfter _ hst z ad N g b th sh lr c p q pr rp rq hN ⟨hs0, ⟨hn0, hn1, hn2⟩, hs4, hr0, hr1, hr2⟩ r (nI k) hr hlr) gv_U_51 rfl rfl rfl hd_U_replacedAfter ⟨(Nat.le_of_ble_eq_true rfl), (Nat.le_of_ble_eq_true rfl)⟩ (by omega) hs0 rfl rfl rfl (Nat.le_of_ble_eq_true rfl) ⟨(Nat.le_of_ble_eq_true rfl), (Nat.le_of_ble_eq_true rfl)⟩ dc_U_lengthIn_3 (fun r1 g1 h1 => ?_)
  obtain ⟨rfl, rfl⟩ := h1
  have hlt : ∀ j, zp_ra pr (nI k) r (lr - r) = some j → j < 8 := fun j h => by have := zp_ra_lt h; omega
  generalize zp_ra pr (nI k) r (lr - r) = o at hlt ⊢
  refine zj_istore_n C dc_U_lengthIn_6 rfl (by decide) rfl ?_
  refine zj_iload_n C dc_U_lengthIn_7 rfl 0 rfl ?_
  refine zj_iconst (v := -1) C dc_U_lengthIn_8 (by decide) ?_
  refine zj_icmp_ne C dc_U_lengthIn_9 rfl (fun h9 => ?_) (fun h9 => ?_)
  · obtain ⟨j, rfl⟩ := zp_rv_some h9
    refine zj_aload_n C dc_U_lengthIn_24 rfl 1 rfl ?_
    refine zj_get (k := 2) C (by omega) hs0 rfl (by decide) fw_U fl_U_24 rfl rfl dc_U_lengthIn_25 ?_
    refine zj_get (k := 1) C (by omega) hr0 rfl (by decide) fw_N fl_U_44 rfl rfl dc_U_lengthIn_28 ?_
    refine zj_iload_n C dc_U_lengthIn_31 rfl 0 rfl ?_
    refine zj_iald C (by omega) hr2 rfl (hlt j rfl) (by decide) dc_U_lengthIn_32 ?_
    exact zj_iret C dc_U_lengthIn_33 ⟨rfl, rfl⟩
  · have h9 := zp_rv_none (fun j h => by have := hlt j h; omega) h9
    subst h9
    refine zj_aload_n C dc_U_lengthIn_12 rfl 1 rfl ?_
    refine zj_get (k := 0) C (by omega) hs0 rfl (by decide) fw_U fl_U_14 rfl rfl dc_U_lengthIn_13 ?_
    refine zj_get (k := 1) C (by omega) hn0 rfl (by decide) fw_N fl_U_44 rfl rfl dc_U_lengthIn_16 ?_
    refine zj_iload_n C dc_U_lengthIn_19 rfl 3 rfl ?_
    refine zj_iald C (by omega) hn2 rfl hk (by decide) dc_U_lengthIn_20 ?_
    refine zj_goto C dc_U_lengthIn_21 rfl ?_
    exact zj_iret C dc_U_lengthIn_33 ⟨rfl, rfl⟩
set_option maxHeartbeats 4000000 in
set_option maxRecDepth 100000 in
theorem ct_U_stepIn (l : Launch) (hst : l.stackTraces = false) (z : zv_T) (ad : Nat → Nat) (N : Nat) (g : Nat → va_E) (b : Nat) (th sh : Int32) (lr c : Nat) (p q pr rp rq : Nat → Int32) (hN : b + 7 < N) (hs : zs_U z ad g b th sh lr c p q pr rp rq) (r k : Nat) (hr : r ≤ lr) (hlr : lr ≤ 8) (hk : k < 20) (hc : c ≤ 20) : zm_i l mn_U_stepIn ws_U_stepIn rm_U_stepIn z ad N g [.ref (ad b), .int (nI r), .int (nI k)] (fun v g1 => v = (if k + 1 < c then zp_in p rp (zp_ra pr (nI (k + 1)) r (lr - r)) (k + 1) - zp_in p rp (zp_ra pr (nI (k)) r (lr - r)) (k) else 0) ∧ g1 = g) := by
  obtain ⟨hs0, ⟨hn0, hn1, hn2⟩, hs4, hr0, hr1, hr2⟩ := hs
  refine zm_ofi hst pn_U_stepIn rfl (Nat.le_of_ble_eq_true rfl) (fun X hX C => ?_)
  subst hX
  show zj_J X 0 0 _ ad N g 0 [(0, .ref (ad b)), (1, .int (nI r)), (2, .int (nI k))] []
  refine zj_iload_n C dc_U_stepIn_0 rfl 2 rfl ?_
  refine zj_iconst (v := 1) C dc_U_stepIn_1 (by decide) ?_
  refine zj_iadd C dc_U_stepIn_2 ?_
  refine zj_topi (nI_1 k) ?_
  refine zj_aload_n C dc_U_stepIn_3 rfl 0 rfl ?_
  refine zj_get (k := 0) C (by omega) hs0 rfl (by decide) fw_U fl_U_14 rfl rfl dc_U_stepIn_4 ?_
  refine zj_get (k := 2) C (by omega) hn0 rfl (by decide) fw_N fl_U_55 rfl rfl dc_U_stepIn_7 ?_
  refine zj_icmp_lt C dc_U_stepIn_10 rfl (fun h10 => ?_) (fun h10 => ?_)
  · have h10 := (nI_ltI (by omega) (by omega)).mp h10
    refine zj_aload_n C dc_U_stepIn_15 rfl 0 rfl ?_
    refine zj_iload_n C dc_U_stepIn_16 rfl 1 rfl ?_
    refine zj_iload_n C dc_U_stepIn_17 rfl 2 rfl ?_
    refine zj_iconst (v := 1) C dc_U_stepIn_18 (by decide) ?_
    refine zj_iadd C dc_U_stepIn_19 ?_
    refine zj_topi (nI_1 k) ?_
    refine zj_Vi C (ct_U_pitchIn _ hst z ad N g b th sh lr c p q pr rp rq hN ⟨hs0, ⟨hn0, hn1, hn2⟩, hs4, hr0, hr1, hr2⟩ r (k + 1) hr hlr (by omega)) gv_U_58 rfl rfl rfl hd_U_pitchIn ⟨(Nat.le_of_ble_eq_true rfl), (Nat.le_of_ble_eq_true rfl)⟩ (by omega) hs0 rfl rfl rfl (Nat.le_of_ble_eq_true rfl) ⟨(Nat.le_of_ble_eq_true rfl), (Nat.le_of_ble_eq_true rfl)⟩ dc_U_stepIn_20 (fun r1 g1 h1 => ?_)
    obtain ⟨rfl, rfl⟩ := h1
    refine zj_aload_n C dc_U_stepIn_23 rfl 0 rfl ?_
    refine zj_iload_n C dc_U_stepIn_24 rfl 1 rfl ?_
    refine zj_iload_n C dc_U_stepIn_25 rfl 2 rfl ?_
    refine zj_Vi C (ct_U_pitchIn _ hst z ad N _ b th sh lr c p q pr rp rq hN ⟨hs0, ⟨hn0, hn1, hn2⟩, hs4, hr0, hr1, hr2⟩ r k hr hlr (by omega)) gv_U_58 rfl rfl rfl hd_U_pitchIn ⟨(Nat.le_of_ble_eq_true rfl), (Nat.le_of_ble_eq_true rfl)⟩ (by omega) hs0 rfl rfl rfl (Nat.le_of_ble_eq_true rfl) ⟨(Nat.le_of_ble_eq_true rfl), (Nat.le_of_ble_eq_true rfl)⟩ dc_U_stepIn_26 (fun r2 g1 h1 => ?_)
    obtain ⟨rfl, rfl⟩ := h1
    refine zj_isub C dc_U_stepIn_29 ?_
    exact zj_iret C dc_U_stepIn_30 ⟨by rw [if_pos h10], rfl⟩
  · have h10 := (zn_nlt (by omega) (by omega)).mp h10
    refine zj_iconst (v := 0) C dc_U_stepIn_13 (by decide) ?_
    exact zj_iret C dc_U_stepIn_14 ⟨by rw [if_neg (by omega)], rfl⟩
set_option maxHeartbeats 4000000 in
set_option maxRecDepth 100000 in
theorem ct_U_replace (l : Launch) (hst : l.stackTraces = false) (z : zv_T) (ad : Nat → Nat) (N : Nat) (g : Nat → va_E) (b : Nat) (th sh : Int32) (lr c : Nat) (p q pr rp rq : Nat → Int32) (hN : b + 7 < N) (hs : zs_U z ad g b th sh lr c p q pr rp rq) (k : Nat) (x y : Int32) (hlr : lr < 8) (hk : k < 20) : zm_i l mn_U_replace ws_U_replace rm_U_replace z ad N g [.ref (ad b), .int (nI k), .int x, .int y] (fun v g1 => v = nI (lr + 1) ∧ zs_U z ad g1 b th sh (lr + 1) c (upd p k x) (upd q k y) (upd pr lr (nI k)) (upd rp lr (p k)) (upd rq lr (q k)) ∧ ∀ j, j < b ∨ b + 8 ≤ j → g1 j = g j) := by
  obtain ⟨hs0, ⟨hn0, hn1, hn2⟩, hs4, hr0, hr1, hr2⟩ := hs
  refine zm_ofi hst pn_U_replace rfl (Nat.le_of_ble_eq_true rfl) (fun X hX C => ?_)
  subst hX
  show zj_J X 0 0 _ ad N g 0 [(0, .ref (ad b)), (1, .int (nI k)), (2, .int x), (3, .int y)] []
  refine zj_aload_n C dc_U_replace_0 rfl 0 rfl ?_
  refine zj_get (k := 1) C (by omega) hs0 rfl (by decide) fw_U fl_U_20 rfl rfl dc_U_replace_1 ?_
  refine zj_aload_n C dc_U_replace_4 rfl 0 rfl ?_
  refine zj_get (k := 5) C (by omega) hs0 rfl (by decide) fw_U fl_U_37 rfl rfl dc_U_replace_5 ?_
  refine zj_iload_n C dc_U_replace_8 rfl 1 rfl ?_
  refine zj_iast C (by omega) hs4 rfl hlr (by decide) dc_U_replace_9 ?_
  refine zj_aload_n C dc_U_replace_10 rfl 0 rfl ?_
  refine zj_get (k := 2) C (by omega) (by (repeat rw [va_up_ne _ _ (by omega)]); exact hs0) rfl (by decide) fw_U fl_U_24 rfl rfl dc_U_replace_11 ?_
  refine zj_aload_n C dc_U_replace_14 rfl 0 rfl ?_
  refine zj_get (k := 5) C (by omega) (by (repeat rw [va_up_ne _ _ (by omega)]); exact hs0) rfl (by decide) fw_U fl_U_37 rfl rfl dc_U_replace_15 ?_
  refine zj_aload_n C dc_U_replace_18 rfl 0 rfl ?_
  refine zj_get (k := 0) C (by omega) (by (repeat rw [va_up_ne _ _ (by omega)]); exact hs0) rfl (by decide) fw_U fl_U_14 rfl rfl dc_U_replace_19 ?_
  refine zj_get (k := 0) C (by omega) (by (repeat rw [va_up_ne _ _ (by omega)]); exact hn0) rfl (by decide) fw_N fl_U_41 rfl rfl dc_U_replace_22 ?_
  refine zj_iload_n C dc_U_replace_25 rfl 1 rfl ?_
  refine zj_iald C (by omega) (by (repeat rw [va_up_ne _ _ (by omega)]); exact hn1) rfl hk (by decide) dc_U_replace_26 ?_
  refine zj_aload_n C dc_U_replace_27 rfl 0 rfl ?_
  refine zj_get (k := 0) C (by omega) (by (repeat rw [va_up_ne _ _ (by omega)]); exact hs0) rfl (by decide) fw_U fl_U_14 rfl rfl dc_U_replace_28 ?_
  refine zj_get (k := 1) C (by omega) (by (repeat rw [va_up_ne _ _ (by omega)]); exact hn0) rfl (by decide) fw_N fl_U_44 rfl rfl dc_U_replace_31 ?_
  refine zj_iload_n C dc_U_replace_34 rfl 1 rfl ?_
  refine zj_iald C (by omega) (by (repeat rw [va_up_ne _ _ (by omega)]); exact hn2) rfl hk (by decide) dc_U_replace_35 ?_
  refine zj_Vv C (ct_N_put _ hst z ad N _ (b + 5) 8 0 rp rq (by omega) ⟨(by (repeat rw [va_up_ne _ _ (by omega)]); exact hr0), (by (repeat rw [va_up_ne _ _ (by omega)]); exact hr1), (by (repeat rw [va_up_ne _ _ (by omega)]); exact hr2)⟩ (by decide) lr (p k) (q k) hlr) gv_U_47 rfl rfl rfl hd_N_put ⟨(Nat.le_of_ble_eq_true rfl), (Nat.le_of_ble_eq_true rfl)⟩ (by omega) (by (repeat rw [va_up_ne _ _ (by omega)]); exact hr0) rfl rfl rfl (Nat.le_of_ble_eq_true rfl) ⟨(Nat.le_of_ble_eq_true rfl), (Nat.le_of_ble_eq_true rfl)⟩ dc_U_replace_36 (fun g1 h1 => ?_)
  subst h1
  refine zj_aload_n C dc_U_replace_39 rfl 0 rfl ?_
  refine zj_get (k := 0) C (by omega) (by (repeat rw [va_up_ne _ _ (by omega)]); exact hs0) rfl (by decide) fw_U fl_U_14 rfl rfl dc_U_replace_40 ?_
  refine zj_iload_n C dc_U_replace_43 rfl 1 rfl ?_
  refine zj_iload_n C dc_U_replace_44 rfl 2 rfl ?_
  refine zj_iload_n C dc_U_replace_45 rfl 3 rfl ?_
  refine zj_Vv C (ct_N_put _ hst z ad N _ (b + 1) 20 c p q (by omega) ⟨(by (repeat rw [va_up_ne _ _ (by omega)]); exact hn0), (by (repeat rw [va_up_ne _ _ (by omega)]); exact hn1), (by (repeat rw [va_up_ne _ _ (by omega)]); exact hn2)⟩ (by decide) k x y hk) gv_U_47 rfl rfl rfl hd_N_put ⟨(Nat.le_of_ble_eq_true rfl), (Nat.le_of_ble_eq_true rfl)⟩ (by omega) (by (repeat rw [va_up_ne _ _ (by omega)]); exact hn0) rfl rfl rfl (Nat.le_of_ble_eq_true rfl) ⟨(Nat.le_of_ble_eq_true rfl), (Nat.le_of_ble_eq_true rfl)⟩ dc_U_replace_46 (fun g1 h1 => ?_)
  subst h1
  refine zj_aload_n C dc_U_replace_49 rfl 0 rfl ?_
  refine zj_dup C dc_U_replace_50 rfl ?_
  refine zj_get (k := 5) C (by omega) (by (repeat rw [va_up_ne _ _ (by omega)]); exact hs0) rfl (by decide) fw_U fl_U_37 rfl rfl dc_U_replace_51 ?_
  refine zj_iconst (v := 1) C dc_U_replace_54 (by decide) ?_
  refine zj_iadd C dc_U_replace_55 ?_
  refine zj_topi (nI_1 lr) ?_
  refine zj_put (k := 5) C (by omega) (by (repeat rw [va_up_ne _ _ (by omega)]); exact hs0) rfl (by decide) fw_U fl_U_37 rfl fy_U fk_U fn_U rfl rfl rfl (Nat.le_of_ble_eq_true rfl) rfl dc_U_replace_56 ?_
  refine zj_aload_n C dc_U_replace_59 rfl 0 rfl ?_
  refine zj_get (k := 5) C (by omega) (by (repeat rw [va_up_ne _ _ (by omega)]); exact (va_up_self _ _ _)) rfl (by decide) fw_U fl_U_37 rfl rfl dc_U_replace_60 ?_
  exact zj_iret C dc_U_replace_63 ⟨rfl, ⟨(by (repeat rw [va_up_ne _ _ (by omega)]); exact (va_up_self _ _ _)), ⟨(by (repeat rw [va_up_ne _ _ (by omega)]); exact hn0), (by (repeat rw [va_up_ne _ _ (by omega)]); exact (va_up_self _ _ _)), (by (repeat rw [va_up_ne _ _ (by omega)]); exact (va_up_self _ _ _))⟩, (by (repeat rw [va_up_ne _ _ (by omega)]); exact (va_up_self _ _ _)), (by (repeat rw [va_up_ne _ _ (by omega)]); exact hr0), (by (repeat rw [va_up_ne _ _ (by omega)]); exact (va_up_self _ _ _)), (by (repeat rw [va_up_ne _ _ (by omega)]); exact (va_up_self _ _ _))⟩, fun j hj => by (repeat rw [va_up_ne _ _ (by omega)])⟩
set_option maxHeartbeats 4000000 in
set_option maxRecDepth 100000 in
theorem ct_U_goBack (l : Launch) (hst : l.stackTraces = false) (z : zv_T) (ad : Nat → Nat) (N : Nat) (g : Nat → va_E) (b : Nat) (th sh : Int32) (lr c : Nat) (p q pr rp rq : Nat → Int32) (hN : b + 7 < N) (hs : zs_U z ad g b th sh lr c p q pr rp rq) (rd : Nat) (hrd : rd ≤ lr) (hlr : lr ≤ 8) (hpl : ∀ j, j < lr → ∃ k, k < 20 ∧ pr j = nI k) : zm_v l mn_U_goBack ws_U_goBack rm_U_goBack z ad N g [.ref (ad b), .int (nI rd)] (fun g1 => zs_U z ad g1 b th sh rd c (zp_bk p pr rp lr (lr - rd)) (zp_bk q pr rq lr (lr - rd)) pr rp rq ∧ ∀ j, j < b ∨ b + 8 ≤ j → g1 j = g j) := by
  obtain ⟨hs0, ⟨hn0, hn1, hn2⟩, hs4, hr0, hr1, hr2⟩ := hs
  refine zm_ofv hst pn_U_goBack rfl (Nat.le_of_ble_eq_true rfl) (fun X hX C => ?_)
  subst hX
  show zj_J X 0 0 _ ad N g 0 [(0, .ref (ad b)), (1, .int (nI rd))] []
  have loop : ∀ (n : Nat) (m : Nat) (g2 : Nat → va_E), m - rd = n → rd ≤ m → m ≤ lr → zs_U z ad g2 b th sh lr c (zp_bk p pr rp lr (lr - m)) (zp_bk q pr rq lr (lr - m)) pr rp rq → (∀ j, j < b ∨ b + 8 ≤ j → g2 j = g j) → zj_J X 0 0 (zj_Qv X 0 0 ad N (fun g1 => zs_U z ad g1 b th sh rd c (zp_bk p pr rp lr (lr - rd)) (zp_bk q pr rq lr (lr - rd)) pr rp rq ∧ ∀ j, j < b ∨ b + 8 ≤ j → g1 j = g j)) ad N g2 7 [(2, .int (nI m - 1)), (0, .ref (ad b)), (1, .int (nI rd))] [] := by
    intro n
    induction n with
    | zero =>
      intro m g2 e1 e2 e3 hs e5
      obtain ⟨hs0, ⟨hn0, hn1, hn2⟩, hs4, hr0, hr1, hr2⟩ := hs
      refine zj_iload_n C dc_U_goBack_7 rfl 0 rfl ?_
      refine zj_iload_n C dc_U_goBack_8 rfl 2 rfl ?_
      refine zj_icmp_lt C dc_U_goBack_9 rfl (fun _ => ?_) (fun h => absurd h (not_not_intro (by rw [show m = rd by omega]; exact zn_m1lt (by omega))))
      refine zj_aload_n C dc_U_goBack_49 rfl 1 rfl ?_
      refine zj_iload_n C dc_U_goBack_50 rfl 2 rfl ?_
      refine zj_put (k := 5) C (by omega) hs0 rfl (by decide) fw_U fl_U_37 rfl fy_U fk_U fn_U rfl rfl rfl (Nat.le_of_ble_eq_true rfl) rfl dc_U_goBack_51 ?_
      exact zj_vret C dc_U_goBack_54 ⟨⟨(by (repeat rw [va_up_ne _ _ (by omega)]); exact (va_up_self _ _ _)), ⟨(by (repeat rw [va_up_ne _ _ (by omega)]); exact hn0), by (repeat rw [va_up_ne _ _ (by omega)]); rw [show lr - rd = lr - m by omega]; exact hn1, by (repeat rw [va_up_ne _ _ (by omega)]); rw [show lr - rd = lr - m by omega]; exact hn2⟩, (by (repeat rw [va_up_ne _ _ (by omega)]); exact hs4), (by (repeat rw [va_up_ne _ _ (by omega)]); exact hr0), (by (repeat rw [va_up_ne _ _ (by omega)]); exact hr1), (by (repeat rw [va_up_ne _ _ (by omega)]); exact hr2)⟩, fun j hj => by (repeat rw [va_up_ne _ _ (by omega)]); exact e5 j hj⟩
    | succ n ih =>
      intro m g2 e1 e2 e3 hs e5
      obtain ⟨hs0, ⟨hn0, hn1, hn2⟩, hs4, hr0, hr1, hr2⟩ := hs
      refine zj_iload_n C dc_U_goBack_7 rfl 0 rfl ?_
      refine zj_iload_n C dc_U_goBack_8 rfl 2 rfl ?_
      refine zj_icmp_lt C dc_U_goBack_9 rfl (fun h => absurd h ((by rw [zn_m1 (by omega)]; exact (zn_nlt (by omega) (by omega)).mpr (by omega)))) (fun _ => ?_)
      refine zj_aload_n C dc_U_goBack_12 rfl 1 rfl ?_
      refine zj_get (k := 0) C (by omega) hs0 rfl (by decide) fw_U fl_U_14 rfl rfl dc_U_goBack_13 ?_
      refine zj_aload_n C dc_U_goBack_16 rfl 1 rfl ?_
      refine zj_get (k := 1) C (by omega) hs0 rfl (by decide) fw_U fl_U_20 rfl rfl dc_U_goBack_17 ?_
      refine zj_iload_n C dc_U_goBack_20 rfl 0 rfl ?_
      refine zj_iald C (by omega) hs4 (zn_m1 (by omega)) (by omega) (by decide) dc_U_goBack_21 ?_
      obtain ⟨kk, hk1, hk2⟩ := hpl (m - 1) (by omega)
      refine zj_topi hk2 ?_
      refine zj_aload_n C dc_U_goBack_22 rfl 1 rfl ?_
      refine zj_get (k := 2) C (by omega) hs0 rfl (by decide) fw_U fl_U_24 rfl rfl dc_U_goBack_23 ?_
      refine zj_get (k := 0) C (by omega) hr0 rfl (by decide) fw_N fl_U_41 rfl rfl dc_U_goBack_26 ?_
      refine zj_iload_n C dc_U_goBack_29 rfl 0 rfl ?_
      refine zj_iald C (by omega) hr1 (zn_m1 (by omega)) (by omega) (by decide) dc_U_goBack_30 ?_
      refine zj_aload_n C dc_U_goBack_31 rfl 1 rfl ?_
      refine zj_get (k := 2) C (by omega) hs0 rfl (by decide) fw_U fl_U_24 rfl rfl dc_U_goBack_32 ?_
      refine zj_get (k := 1) C (by omega) hr0 rfl (by decide) fw_N fl_U_44 rfl rfl dc_U_goBack_35 ?_
      refine zj_iload_n C dc_U_goBack_38 rfl 0 rfl ?_
      refine zj_iald C (by omega) hr2 (zn_m1 (by omega)) (by omega) (by decide) dc_U_goBack_39 ?_
      refine zj_Vv C (ct_N_put _ hst z ad N g2 (b + 1) 20 c _ _ (by omega) ⟨hn0, hn1, hn2⟩ (by decide) kk (rp (m - 1)) (rq (m - 1)) hk1) gv_U_47 rfl rfl rfl hd_N_put ⟨(Nat.le_of_ble_eq_true rfl), (Nat.le_of_ble_eq_true rfl)⟩ (by omega) hn0 rfl rfl rfl (Nat.le_of_ble_eq_true rfl) ⟨(Nat.le_of_ble_eq_true rfl), (Nat.le_of_ble_eq_true rfl)⟩ dc_U_goBack_40 (fun g1 h1 => ?_)
      subst h1
      refine zj_iinc C dc_U_goBack_43 0 rfl (zn_dec (by omega)) (by decide) rfl ?_
      refine zj_goto C dc_U_goBack_46 rfl ?_
      refine zj_loc (L' := [(2, .int (nI (m - 1) - 1)), (0, .ref (ad b)), (1, .int (nI rd))]) [0, 1, 2] rfl ?_
      exact ih (m - 1) _ (by omega) (by omega) (by omega) ⟨(by (repeat rw [va_up_ne _ _ (by omega)]); exact hs0), ⟨(by (repeat rw [va_up_ne _ _ (by omega)]); exact hn0), by rw [show lr - (m - 1) = lr - m + 1 by omega]; rw [zp_bkS, show lr - 1 - (lr - m) = m - 1 by omega, hk2, nI_clamp (by omega)]; (repeat rw [va_up_ne _ _ (by omega)]); exact va_up_self _ _ _, by rw [show lr - (m - 1) = lr - m + 1 by omega]; rw [zp_bkS, show lr - 1 - (lr - m) = m - 1 by omega, hk2, nI_clamp (by omega)]; (repeat rw [va_up_ne _ _ (by omega)]); exact va_up_self _ _ _⟩, (by (repeat rw [va_up_ne _ _ (by omega)]); exact hs4), (by (repeat rw [va_up_ne _ _ (by omega)]); exact hr0), (by (repeat rw [va_up_ne _ _ (by omega)]); exact hr1), (by (repeat rw [va_up_ne _ _ (by omega)]); exact hr2)⟩ (fun j hj => by (repeat rw [va_up_ne _ _ (by omega)]); exact e5 j hj)
  refine zj_aload_n C dc_U_goBack_0 rfl 0 rfl ?_
  refine zj_get (k := 5) C (by omega) hs0 rfl (by decide) fw_U fl_U_37 rfl rfl dc_U_goBack_1 ?_
  refine zj_iconst (v := 1) C dc_U_goBack_4 (by decide) ?_
  refine zj_isub C dc_U_goBack_5 ?_
  refine zj_istore_n C dc_U_goBack_6 rfl (by decide) rfl ?_
  refine zj_loc [0, 1, 2] rfl ?_
  exact loop (lr - rd) lr g rfl hrd (Nat.le_refl _) (by rw [Nat.sub_self]; exact ⟨hs0, ⟨hn0, hn1, hn2⟩, hs4, hr0, hr1, hr2⟩) (fun j hj => rfl)
end ZU
end
section
section ZF
/-- a passage as it is kept: tune, place, span, how much higher, and the number of its score -/
abbrev zs_It : Type := Int32 × Int32 × Int32 × Int32 × Int32
def zs_P (a : zs_It) : va_E := ze_o 3 [.int a.1, .int a.2.1, .int a.2.2.1, .int a.2.2.2.1, .int a.2.2.2.2]
/-- what was found, at the cells 69 .. 100; pi j: the cell of the passage at place j -/
def zs_F (z : zv_T) (ad : Nat → Nat) (g : Nat → va_E) (as tot kp : Nat) (pi : Nat → Nat) (it : Nat → zs_It) : Prop := g 69 = ze_o 0 [.ref (ad 70), .int (nI as), .int (nI tot), .int (nI kp)] ∧ (∃ f, g 70 = ze_p z 30 f ∧ ∀ j, j < 30 → f j = some (ad (pi j))) ∧ (∀ j, j < 30 → 71 ≤ pi j ∧ pi j < 101) ∧ (∀ i j, i < 30 → j < 30 → pi i = pi j → i = j) ∧ ∀ m, 71 ≤ m → m < 101 → g m = zs_P (it m)
/-- the rank of a new one: behind the last that has P -/
def zp_rk (P : Nat → Bool) : Nat → Nat
  | 0 => 0
  | i + 1 => if P i then i + 1 else zp_rk P i
theorem zp_rk_le (P : Nat → Bool) (n : Nat) : zp_rk P n ≤ n := by
  induction n with
  | zero => exact Nat.le_refl _
  | succ n ih => unfold zp_rk; split <;> omega
theorem zp_rk_t {P : Nat → Bool} {i : Nat} (h : P i = true) : zp_rk P (i + 1) = i + 1 := by
  show (if P i then i + 1 else zp_rk P i) = i + 1
  rw [if_pos h]
theorem zp_rk_f {P : Nat → Bool} {i : Nat} (h : P i = false) : zp_rk P (i + 1) = zp_rk P i := by
  show (if P i then i + 1 else zp_rk P i) = zp_rk P i
  rw [h]; rfl
/-- the one at place a goes to place r, those between move up -/
def zp_sh (pi : Nat → Nat) (r a : Nat) : Nat → Nat := fun j => if j < r then pi j else if j = r then pi a else if j ≤ a then pi (j - 1) else pi j
theorem zn_min29 {k : Nat} (h : k < 2 ^ 31) : (if (29 : Int32) < nI k then (29 : Int32) else nI k) = nI (if 29 < k then 29 else k) := by
  have e : (29 : Int32) = nI 29 := by decide
  by_cases c : 29 < k
  · rw [if_pos c, if_pos (by rw [e]; exact (nI_ltI (by omega) h).mpr c)]; exact e
  · rw [if_neg c, if_neg (by rw [e]; exact (zn_nlt (by omega) h).mpr (by omega))]
set_option maxHeartbeats 4000000 in
set_option maxRecDepth 100000 in
theorem ct_F_begin (l : Launch) (hst : l.stackTraces = false) (z : zv_T) (ad : Nat → Nat) (N : Nat) (g : Nat → va_E) (as tot kp : Nat) (pi : Nat → Nat) (it : Nat → zs_It) (hN : 101 ≤ N) (hs : zs_F z ad g as tot kp pi it) (n : Nat) : zm_v l mn_F_begin ws_F_begin rm_F_begin z ad N g [.ref (ad 69), .int (nI n)] (fun g1 => g1 = va_up g 69 (ze_o 0 [.ref (ad 70), .int (nI n), .int 0, .int 0])) := by
  obtain ⟨hF, ⟨f, hA, hf⟩, hp1, hp2, hit⟩ := hs
  refine zm_ofv hst pn_F_begin rfl (Nat.le_of_ble_eq_true rfl) (fun X hX C => ?_)
  subst hX
  show zj_J X 0 0 _ ad N g 0 [(0, .ref (ad 69)), (1, .int (nI n))] []
  refine zj_aload_n C dc_F_begin_0 rfl 0 rfl ?_
  refine zj_iload_n C dc_F_begin_1 rfl 1 rfl ?_
  refine zj_put (k := 1) C (by omega) hF rfl (by decide) fw_F fl_F_18 rfl fy_F fk_F fn_F rfl rfl rfl (Nat.le_of_ble_eq_true rfl) rfl dc_F_begin_2 ?_
  refine zj_aload_n C dc_F_begin_5 rfl 0 rfl ?_
  refine zj_iconst (v := 0) C dc_F_begin_6 (by decide) ?_
  refine zj_put (k := 2) C (by omega) (by (repeat rw [va_up_ne _ _ (by omega)]); exact (va_up_self _ _ _)) rfl (by decide) fw_F fl_F_22 rfl fy_F fk_F fn_F rfl rfl rfl (Nat.le_of_ble_eq_true rfl) rfl dc_F_begin_7 ?_
  refine zj_aload_n C dc_F_begin_10 rfl 0 rfl ?_
  refine zj_iconst (v := 0) C dc_F_begin_11 (by decide) ?_
  refine zj_put (k := 3) C (by omega) (by (repeat rw [va_up_ne _ _ (by omega)]); exact (va_up_self _ _ _)) rfl (by decide) fw_F fl_F_25 rfl fy_F fk_F fn_F rfl rfl rfl (Nat.le_of_ble_eq_true rfl) rfl dc_F_begin_12 ?_
  exact zj_vret C dc_F_begin_15 (by funext j; by_cases e : j = 69 <;> simp [va_up, e])
set_option maxHeartbeats 4000000 in
set_option maxRecDepth 100000 in
theorem ct_F_rankOf (l : Launch) (hst : l.stackTraces = false) (z : zv_T) (ad : Nat → Nat) (N : Nat) (g : Nat → va_E) (as tot kp : Nat) (pi : Nat → Nat) (it : Nat → zs_It) (hN : 101 ≤ N) (hs : zs_F z ad g as tot kp pi it) (sp cc : Int32) (hk : kp ≤ 30) : zm_i l mn_F_rankOf ws_F_rankOf rm_F_rankOf z ad N g [.ref (ad 69), .int sp, .int cc] (fun r g1 => r = nI (zp_rk (fun i => decide (cc * cc * (it (pi i)).2.2.1 ≤ (it (pi i)).2.2.2.2 * (it (pi i)).2.2.2.2 * sp)) kp) ∧ g1 = g) := by
  obtain ⟨hF, ⟨f, hA, hf⟩, hp1, hp2, hit⟩ := hs
  refine zm_ofi hst pn_F_rankOf rfl (Nat.le_of_ble_eq_true rfl) (fun X hX C => ?_)
  subst hX
  show zj_J X 0 0 _ ad N g 0 [(0, .ref (ad 69)), (1, .int sp), (2, .int cc)] []
  have loop : ∀ (n : Nat) (k : Nat), k = n → k ≤ 30 → zp_rk (fun i => decide (cc * cc * (it (pi i)).2.2.1 ≤ (it (pi i)).2.2.2.2 * (it (pi i)).2.2.2.2 * sp)) kp = zp_rk (fun i => decide (cc * cc * (it (pi i)).2.2.1 ≤ (it (pi i)).2.2.2.2 * (it (pi i)).2.2.2.2 * sp)) k → zj_J X 0 0 (zj_Qi X 0 0 ad N (fun r g1 => r = nI (zp_rk (fun i => decide (cc * cc * (it (pi i)).2.2.1 ≤ (it (pi i)).2.2.2.2 * (it (pi i)).2.2.2.2 * sp)) kp) ∧ g1 = g)) ad N g 5 [(3, .int (nI k)), (0, .ref (ad 69)), (1, .int sp), (2, .int cc)] [] := by
    intro n
    induction n with
    | zero =>
      intro k e1 e2 e3
      refine zj_iload_n C dc_F_rankOf_5 rfl 0 rfl ?_
      refine zj_if_le C dc_F_rankOf_6 rfl (fun _ => ?_) (fun h => absurd h (not_not_intro ((zn_le0 (by omega)).mpr (by omega))))
      refine zj_iconst (v := 0) C dc_F_rankOf_52 (by decide) ?_
      exact zj_iret C dc_F_rankOf_53 ⟨by rw [e3, show k = 0 by omega]; rfl, rfl⟩
    | succ n ih =>
      intro k e1 e2 e3
      refine zj_iload_n C dc_F_rankOf_5 rfl 0 rfl ?_
      refine zj_if_le C dc_F_rankOf_6 rfl (fun h => absurd h ((fun h => by have := (zn_le0 (by omega)).mp h; omega))) (fun _ => ?_)
      refine zj_aload_n C dc_F_rankOf_9 rfl 1 rfl ?_
      refine zj_get (k := 0) C (by omega) hF rfl (by decide) fw_F fl_F_11 rfl rfl dc_F_rankOf_10 ?_
      refine zj_iload_n C dc_F_rankOf_13 rfl 0 rfl ?_
      refine zj_iconst (v := 1) C dc_F_rankOf_14 (by decide) ?_
      refine zj_isub C dc_F_rankOf_15 ?_
      refine zj_topi (zn_m1 (by omega)) ?_
      refine zj_pald C (by omega) hA rfl (by omega) (by decide) dc_F_rankOf_16 ?_
      refine zj_topv (congrArg va_rf (hf (k - 1) (by omega))) ?_
      refine zj_astore C dc_F_rankOf_17 (by decide) rfl ?_
      refine zj_iload_n C dc_F_rankOf_19 rfl 4 rfl ?_
      refine zj_iload_n C dc_F_rankOf_20 rfl 4 rfl ?_
      refine zj_imul C dc_F_rankOf_21 ?_
      refine zj_aload C dc_F_rankOf_22 0 rfl ?_
      refine zj_get (k := 2) C (by have := hp1 (k - 1) (by omega); omega) (hit _ (hp1 (k - 1) (by omega)).1 (hp1 (k - 1) (by omega)).2) rfl (by decide) fw_P fl_F_42 rfl rfl dc_F_rankOf_24 ?_
      refine zj_imul C dc_F_rankOf_27 ?_
      refine zj_aload C dc_F_rankOf_28 0 rfl ?_
      refine zj_get (k := 4) C (by have := hp1 (k - 1) (by omega); omega) (hit _ (hp1 (k - 1) (by omega)).1 (hp1 (k - 1) (by omega)).2) rfl (by decide) fw_P fl_F_48 rfl rfl dc_F_rankOf_30 ?_
      refine zj_aload C dc_F_rankOf_33 0 rfl ?_
      refine zj_get (k := 4) C (by have := hp1 (k - 1) (by omega); omega) (hit _ (hp1 (k - 1) (by omega)).1 (hp1 (k - 1) (by omega)).2) rfl (by decide) fw_P fl_F_48 rfl rfl dc_F_rankOf_35 ?_
      refine zj_imul C dc_F_rankOf_38 ?_
      refine zj_iload_n C dc_F_rankOf_39 rfl 3 rfl ?_
      refine zj_imul C dc_F_rankOf_40 ?_
      refine zj_icmp_gt C dc_F_rankOf_41 rfl (fun h41 => ?_) (fun h41 => ?_)
      · skip
        refine zj_iinc C dc_F_rankOf_46 1 rfl (show nI k + Int32.ofInt (-1) = nI (k - 1) from by rw [← zn_m1 (by omega)]; show nI k + -1 = _; grind) (by decide) rfl ?_
        refine zj_goto C dc_F_rankOf_49 rfl ?_
        refine zj_loc (L' := [(3, .int (nI (k - 1))), (0, .ref (ad 69)), (1, .int sp), (2, .int cc)]) [0, 2, 3, 4] rfl ?_
        exact ih (k - 1) (by omega) (by omega) (by rw [e3, show k = (k - 1) + 1 by omega]; rw [zp_rk_f (by simpa using h41)]; rfl)
      · skip
        refine zj_iload_n C dc_F_rankOf_44 rfl 1 rfl ?_
        exact zj_iret C dc_F_rankOf_45 ⟨by rw [e3, show k = (k - 1) + 1 by omega]; rw [zp_rk_t (by simpa using h41)], rfl⟩
  refine zj_aload_n C dc_F_rankOf_0 rfl 0 rfl ?_
  refine zj_get (k := 3) C (by omega) hF rfl (by decide) fw_F fl_F_25 rfl rfl dc_F_rankOf_1 ?_
  refine zj_istore_n C dc_F_rankOf_4 rfl (by decide) rfl ?_
  refine zj_loc [0, 1, 2, 3] rfl ?_
  exact loop kp kp rfl hk rfl
/-- what is left of a when a and b are divided by all that they share -/
def zp_lt (a b : Nat) : Nat := a / Nat.gcd a b
theorem zn_rem0 {a d : Nat} (ha : a < 2 ^ 31) (h0 : 0 < d) (hd : d < 2 ^ 31) : nI a - nI a / nI d * nI d = 0 ↔ a % d = 0 := by
  rw [pk_rem ha h0 hd, zn_e0 (by have := Nat.mod_lt a h0; omega)]
set_option maxHeartbeats 4000000 in
set_option maxRecDepth 100000 in
theorem ct_F_leastTerm (l : Launch) (hst : l.stackTraces = false) (z : zv_T) (ad : Nat → Nat) (N : Nat) (g : Nat → va_E) (a b : Nat) (ha : 0 < a) (ha2 : a < 2 ^ 31) (hb : b < 2 ^ 31) : zm_i l mn_F_leastTerm ws_F_leastTerm rm_F_leastTerm z ad N g [.int (nI a), .int (nI b)] (fun r g1 => r = nI (zp_lt a b) ∧ g1 = g) := by
  refine zm_ofi hst pn_F_leastTerm rfl (Nat.le_of_ble_eq_true rfl) (fun X hX C => ?_)
  subst hX
  show zj_J X 0 0 _ ad N g 0 [(0, .int (nI a)), (1, .int (nI b))] []
  have loop : ∀ (n : Nat) (k : Nat), k - 1 = n → 0 < k → k ≤ a → (∀ e, k < e → ¬ (a % e = 0 ∧ b % e = 0)) → zj_J X 0 0 (zj_Qi X 0 0 ad N (fun r g1 => r = nI (zp_lt a b) ∧ g1 = g)) ad N g 2 [(2, .int (nI k)), (0, .int (nI a)), (1, .int (nI b))] [] := by
    intro n
    induction n with
    | zero =>
      intro k e1 e2 e3 e4
      refine zj_iload_n C dc_F_leastTerm_2 rfl 0 rfl ?_
      refine zj_iconst (v := 1) C dc_F_leastTerm_3 (by decide) ?_
      refine zj_icmp_le C dc_F_leastTerm_4 rfl (fun _ => ?_) (fun h => absurd h (not_not_intro (show nI k ≤ nI 1 from (nI_leI (by omega) (by omega)).mpr (by omega))))
      refine zj_iload_n C dc_F_leastTerm_29 rfl 1 rfl ?_
      exact zj_iret C dc_F_leastTerm_30 ⟨by unfold zp_lt; rw [← zp_gcd1 (d := 1) ha (Nat.mod_one a) (Nat.mod_one b) (fun e he => e4 e (by omega)), Nat.div_one], rfl⟩
    | succ n ih =>
      intro k e1 e2 e3 e4
      refine zj_iload_n C dc_F_leastTerm_2 rfl 0 rfl ?_
      refine zj_iconst (v := 1) C dc_F_leastTerm_3 (by decide) ?_
      refine zj_icmp_le C dc_F_leastTerm_4 rfl (fun h => absurd h ((show ¬ nI k ≤ nI 1 from (zn_nle (by omega) (by omega)).mpr (by omega)))) (fun _ => ?_)
      refine zj_iload_n C dc_F_leastTerm_7 rfl 1 rfl ?_
      refine zj_iload_n C dc_F_leastTerm_8 rfl 0 rfl ?_
      refine zj_irem C dc_F_leastTerm_9 (nI_ne0 e2 (by omega)) ?_
      refine zj_if_ne C dc_F_leastTerm_10 rfl (fun h10 => ?_) (fun h10 => ?_)
      · skip
        refine zj_iinc C dc_F_leastTerm_23 0 rfl (show nI k + Int32.ofInt (-1) = nI (k - 1) from by rw [← zn_m1 (by omega)]; show nI k + -1 = _; grind) (by decide) rfl ?_
        refine zj_goto C dc_F_leastTerm_26 rfl ?_
        refine zj_loc (L' := [(2, .int (nI (k - 1))), (0, .int (nI a)), (1, .int (nI b))]) [0, 1, 2] rfl ?_
        exact ih (k - 1) (by omega) (by omega) (by omega) (fun e he h => if c : e = k then (by subst c; first | exact h10 ((zn_rem0 ha2 e2 (by omega)).mpr h.1) | exact h16 ((zn_rem0 hb e2 (by omega)).mpr h.2)) else e4 e (by omega) h)
      · skip
        refine zj_iload_n C dc_F_leastTerm_13 rfl 2 rfl ?_
        refine zj_iload_n C dc_F_leastTerm_14 rfl 0 rfl ?_
        refine zj_irem C dc_F_leastTerm_15 (nI_ne0 e2 (by omega)) ?_
        refine zj_if_ne C dc_F_leastTerm_16 rfl (fun h16 => ?_) (fun h16 => ?_)
        · skip
          refine zj_iinc C dc_F_leastTerm_23 0 rfl (show nI k + Int32.ofInt (-1) = nI (k - 1) from by rw [← zn_m1 (by omega)]; show nI k + -1 = _; grind) (by decide) rfl ?_
          refine zj_goto C dc_F_leastTerm_26 rfl ?_
          refine zj_loc (L' := [(2, .int (nI (k - 1))), (0, .int (nI a)), (1, .int (nI b))]) [0, 1, 2] rfl ?_
          exact ih (k - 1) (by omega) (by omega) (by omega) (fun e he h => if c : e = k then (by subst c; first | exact h10 ((zn_rem0 ha2 e2 (by omega)).mpr h.1) | exact h16 ((zn_rem0 hb e2 (by omega)).mpr h.2)) else e4 e (by omega) h)
        · skip
          refine zj_iload_n C dc_F_leastTerm_19 rfl 1 rfl ?_
          refine zj_iload_n C dc_F_leastTerm_20 rfl 0 rfl ?_
          refine zj_idiv C dc_F_leastTerm_21 (nI_ne0 e2 (by omega)) ?_
          exact zj_iret C dc_F_leastTerm_22 ⟨by rw [pk_div ha2 e2 (by omega)]; unfold zp_lt; rw [← zp_gcd1 ha ((zn_rem0 ha2 e2 (by omega)).mp h10) ((zn_rem0 hb e2 (by omega)).mp h16) e4], rfl⟩
  refine zj_iload_n C dc_F_leastTerm_0 rfl 0 rfl ?_
  refine zj_istore_n C dc_F_leastTerm_1 rfl (by decide) rfl ?_
  refine zj_loc [0, 1, 2] rfl ?_
  exact loop (a - 1) a rfl ha (Nat.le_refl _) (fun e he h => by have := Nat.mod_eq_of_lt he; omega)
set_option maxHeartbeats 4000000 in
set_option maxRecDepth 100000 in
theorem ct_F_upperOfScore (l : Launch) (hst : l.stackTraces = false) (z : zv_T) (ad : Nat → Nat) (N : Nat) (g : Nat → va_E) (as tot kp : Nat) (pi : Nat → Nat) (it : Nat → zs_It) (hN : 101 ≤ N) (hs : zs_F z ad g as tot kp pi it) (m cc sp : Nat) (x1 x2 x3 : Int32) (hm1 : m < 101) (hm : g m = zs_P (x1, x2, nI sp, x3, nI cc)) (hcc : 0 < cc) (hcc2 : cc ≤ 8) (hsp : 0 < sp) (hsp2 : sp ≤ 20) (has : 0 < as) (has2 : as ≤ 8) : zm_i l mn_F_upperOfScore ws_F_upperOfScore rm_F_upperOfScore z ad N g [.ref (ad 69), .ref (ad m)] (fun r g1 => r = nI (zp_lt (cc * cc) (as * sp)) ∧ g1 = g) := by
  obtain ⟨hF, ⟨f, hA, hf⟩, hp1, hp2, hit⟩ := hs
  have hq1 : cc * cc ≤ 8 * 8 := Nat.mul_le_mul hcc2 hcc2
  have hq2 : as * sp ≤ 8 * 20 := Nat.mul_le_mul has2 hsp2
  have hq3 : 0 < cc * cc := Nat.mul_pos hcc hcc
  have hq4 : 0 < as * sp := Nat.mul_pos has hsp
  refine zm_ofi hst pn_F_upperOfScore rfl (Nat.le_of_ble_eq_true rfl) (fun X hX C => ?_)
  subst hX
  show zj_J X 0 0 _ ad N g 0 [(0, .ref (ad 69)), (1, .ref (ad m))] []
  refine zj_aload_n C dc_F_upperOfScore_0 rfl 1 rfl ?_
  refine zj_get (k := 4) C (by omega) hm rfl (by decide) fw_P fl_F_48 rfl rfl dc_F_upperOfScore_1 ?_
  refine zj_aload_n C dc_F_upperOfScore_4 rfl 1 rfl ?_
  refine zj_get (k := 4) C (by omega) hm rfl (by decide) fw_P fl_F_48 rfl rfl dc_F_upperOfScore_5 ?_
  refine zj_imul C dc_F_upperOfScore_8 ?_
  refine zj_topi (pk_mul _ _) ?_
  refine zj_aload_n C dc_F_upperOfScore_9 rfl 0 rfl ?_
  refine zj_get (k := 1) C (by omega) hF rfl (by decide) fw_F fl_F_18 rfl rfl dc_F_upperOfScore_10 ?_
  refine zj_aload_n C dc_F_upperOfScore_13 rfl 1 rfl ?_
  refine zj_get (k := 2) C (by omega) hm rfl (by decide) fw_P fl_F_42 rfl rfl dc_F_upperOfScore_14 ?_
  refine zj_imul C dc_F_upperOfScore_17 ?_
  refine zj_topi (pk_mul _ _) ?_
  refine zj_Si C (ct_F_leastTerm _ hst z ad N g (cc * cc) (as * sp) (by omega) (by omega) (by omega)) gv_F_56 rfl rfl rfl hd_F_leastTerm ⟨(Nat.le_of_ble_eq_true rfl), (Nat.le_of_ble_eq_true rfl)⟩ rfl rfl (Nat.le_of_ble_eq_true rfl) ⟨(Nat.le_of_ble_eq_true rfl), (Nat.le_of_ble_eq_true rfl)⟩ dc_F_upperOfScore_18 (fun r1 g1 h1 => ?_)
  exact zj_iret C dc_F_upperOfScore_21 h1
set_option maxHeartbeats 4000000 in
set_option maxRecDepth 100000 in
theorem ct_F_lowerOfScore (l : Launch) (hst : l.stackTraces = false) (z : zv_T) (ad : Nat → Nat) (N : Nat) (g : Nat → va_E) (as tot kp : Nat) (pi : Nat → Nat) (it : Nat → zs_It) (hN : 101 ≤ N) (hs : zs_F z ad g as tot kp pi it) (m cc sp : Nat) (x1 x2 x3 : Int32) (hm1 : m < 101) (hm : g m = zs_P (x1, x2, nI sp, x3, nI cc)) (hcc : 0 < cc) (hcc2 : cc ≤ 8) (hsp : 0 < sp) (hsp2 : sp ≤ 20) (has : 0 < as) (has2 : as ≤ 8) : zm_i l mn_F_lowerOfScore ws_F_lowerOfScore rm_F_lowerOfScore z ad N g [.ref (ad 69), .ref (ad m)] (fun r g1 => r = nI (zp_lt (as * sp) (cc * cc)) ∧ g1 = g) := by
  obtain ⟨hF, ⟨f, hA, hf⟩, hp1, hp2, hit⟩ := hs
  have hq1 : cc * cc ≤ 8 * 8 := Nat.mul_le_mul hcc2 hcc2
  have hq2 : as * sp ≤ 8 * 20 := Nat.mul_le_mul has2 hsp2
  have hq3 : 0 < cc * cc := Nat.mul_pos hcc hcc
  have hq4 : 0 < as * sp := Nat.mul_pos has hsp
  refine zm_ofi hst pn_F_lowerOfScore rfl (Nat.le_of_ble_eq_true rfl) (fun X hX C => ?_)
  subst hX
  show zj_J X 0 0 _ ad N g 0 [(0, .ref (ad 69)), (1, .ref (ad m))] []
  refine zj_aload_n C dc_F_lowerOfScore_0 rfl 0 rfl ?_
  refine zj_get (k := 1) C (by omega) hF rfl (by decide) fw_F fl_F_18 rfl rfl dc_F_lowerOfScore_1 ?_
  refine zj_aload_n C dc_F_lowerOfScore_4 rfl 1 rfl ?_
  refine zj_get (k := 2) C (by omega) hm rfl (by decide) fw_P fl_F_42 rfl rfl dc_F_lowerOfScore_5 ?_
  refine zj_imul C dc_F_lowerOfScore_8 ?_
  refine zj_topi (pk_mul _ _) ?_
  refine zj_aload_n C dc_F_lowerOfScore_9 rfl 1 rfl ?_
  refine zj_get (k := 4) C (by omega) hm rfl (by decide) fw_P fl_F_48 rfl rfl dc_F_lowerOfScore_10 ?_
  refine zj_aload_n C dc_F_lowerOfScore_13 rfl 1 rfl ?_
  refine zj_get (k := 4) C (by omega) hm rfl (by decide) fw_P fl_F_48 rfl rfl dc_F_lowerOfScore_14 ?_
  refine zj_imul C dc_F_lowerOfScore_17 ?_
  refine zj_topi (pk_mul _ _) ?_
  refine zj_Si C (ct_F_leastTerm _ hst z ad N g (as * sp) (cc * cc) (by omega) (by omega) (by omega)) gv_F_56 rfl rfl rfl hd_F_leastTerm ⟨(Nat.le_of_ble_eq_true rfl), (Nat.le_of_ble_eq_true rfl)⟩ rfl rfl (Nat.le_of_ble_eq_true rfl) ⟨(Nat.le_of_ble_eq_true rfl), (Nat.le_of_ble_eq_true rfl)⟩ dc_F_lowerOfScore_18 (fun r1 g1 h1 => ?_)
  exact zj_iret C dc_F_lowerOfScore_21 h1
theorem zp_sh_in {pi : Nat → Nat} {r a : Nat} (hr : r ≤ a) (ha : a < 30) (h1 : ∀ j, j < 30 → 71 ≤ pi j ∧ pi j < 101) : ∀ j, j < 30 → 71 ≤ zp_sh pi r a j ∧ zp_sh pi r a j < 101 := by
  intro j hj
  unfold zp_sh
  split
  · exact h1 j hj
  · split
    · exact h1 a ha
    · split
      · exact h1 (j - 1) (by omega)
      · exact h1 j hj
theorem zp_sh_inj {pi : Nat → Nat} {r a : Nat} (hr : r ≤ a) (ha : a < 30) (h2 : ∀ i j, i < 30 → j < 30 → pi i = pi j → i = j) : ∀ i j, i < 30 → j < 30 → zp_sh pi r a i = zp_sh pi r a j → i = j := by
  intro i j hi hj h
  unfold zp_sh at h
  split at h <;> (try split at h) <;> (try split at h) <;> (try split at h) <;> (try split at h) <;> (try split at h) <;> first | omega | (have := h2 _ _ (by omega) (by omega) h; omega)
set_option maxHeartbeats 4000000 in
set_option maxRecDepth 100000 in
theorem ct_F_makeRoom (l : Launch) (hst : l.stackTraces = false) (z : zv_T) (ad : Nat → Nat) (N : Nat) (g : Nat → va_E) (as tot kp : Nat) (pi : Nat → Nat) (it : Nat → zs_It) (hN : 101 ≤ N) (hs : zs_F z ad g as tot kp pi it) (r : Nat) (hr : r ≤ kp) (hr2 : r < 30) (hk : kp ≤ 30) : zm_r l mn_F_makeRoom ws_F_makeRoom rm_F_makeRoom z ad N g [.ref (ad 69), .int (nI r)] (fun k g1 => k = pi (if 29 < kp then 29 else kp) ∧ zs_F z ad g1 as tot ((if 29 < kp then 29 else kp) + 1) (zp_sh pi r (if 29 < kp then 29 else kp)) it ∧ ∀ j, j ≠ 69 → j ≠ 70 → g1 j = g j) := by
  obtain ⟨hF, ⟨f, hA, hf⟩, hp1, hp2, hit⟩ := hs
  have hla : (if 29 < kp then 29 else kp) < 30 := by split <;> omega
  have hra : r ≤ (if 29 < kp then 29 else kp) := by split <;> omega
  obtain ⟨a, ha⟩ : ∃ a, a = (if 29 < kp then 29 else kp) := ⟨_, rfl⟩
  rw [← ha] at hla hra
  refine zm_ofr hst pn_F_makeRoom rfl (Nat.le_of_ble_eq_true rfl) (fun X hX C => ?_)
  subst hX
  show zj_J X 0 0 _ ad N g 0 [(0, .ref (ad 69)), (1, .int (nI r))] []
  have loop : ∀ (n : Nat) (i : Nat) (g2 : Nat → va_E) (f2 : Nat → Option Nat), i - r = n → r ≤ i → i ≤ a → g2 70 = ze_p z 30 f2 → (∀ j, j < 30 → f2 j = some (ad (if i < j ∧ j ≤ a then pi (j - 1) else pi j))) → (∀ j, j ≠ 70 → g2 j = g j) → zj_J X 0 0 (zj_Qr X 0 0 ad N (fun k g1 => k = pi (if 29 < kp then 29 else kp) ∧ zs_F z ad g1 as tot ((if 29 < kp then 29 else kp) + 1) (zp_sh pi r (if 29 < kp then 29 else kp)) it ∧ ∀ j, j ≠ 69 → j ≠ 70 → g1 j = g j)) ad N g2 20 [(4, .int (nI i)), (3, .ref (ad (pi a))), (2, .int (nI a)), (0, .ref (ad 69)), (1, .int (nI r))] [] := by
    intro n
    induction n with
    | zero =>
      intro i g2 f2 e1 e2 e3 hA2 hf2 h69
      refine zj_iload C dc_F_makeRoom_20 0 rfl ?_
      refine zj_iload_n C dc_F_makeRoom_22 rfl 4 rfl ?_
      refine zj_icmp_le C dc_F_makeRoom_23 rfl (fun _ => ?_) (fun h => absurd h (not_not_intro ((nI_leI (by omega) (by omega)).mpr (by omega))))
      refine zj_aload_n C dc_F_makeRoom_48 rfl 3 rfl ?_
      refine zj_get (k := 0) C (by omega) ((h69 69 (by omega)).trans hF) rfl (by decide) fw_F fl_F_11 rfl rfl dc_F_makeRoom_49 ?_
      refine zj_iload_n C dc_F_makeRoom_52 rfl 4 rfl ?_
      refine zj_aload_n C dc_F_makeRoom_53 rfl 1 rfl ?_
      refine zj_past C (by omega) hA2 rfl (by omega) (by decide) (by have := hp1 a (by omega); omega) ((h69 _ (by have := hp1 a (by omega); omega)).trans (hit _ (hp1 a (by omega)).1 (hp1 a (by omega)).2)) dc_F_makeRoom_54 ?_
      generalize hg3 : va_up g2 70 _ = g3
      have hA3 : g3 70 = ze_p z 30 (va_up f2 r (some (ad (pi a)))) := by rw [← hg3]; exact va_up_self _ _ _
      have h693 : ∀ j, j ≠ 70 → g3 j = g j := fun j hj => by rw [← hg3, va_up_ne _ _ hj]; exact h69 j hj
      refine zj_aload_n C dc_F_makeRoom_55 rfl 3 rfl ?_
      refine zj_iload_n C dc_F_makeRoom_56 rfl 2 rfl ?_
      refine zj_iconst (v := 1) C dc_F_makeRoom_57 (by decide) ?_
      refine zj_iadd C dc_F_makeRoom_58 ?_
      refine zj_topi (nI_1 a) ?_
      refine zj_put (k := 3) C (by omega) ((h693 69 (by omega)).trans hF) rfl (by decide) fw_F fl_F_25 rfl fy_F fk_F fn_F rfl rfl rfl (Nat.le_of_ble_eq_true rfl) rfl dc_F_makeRoom_59 ?_
      refine zj_aload_n C dc_F_makeRoom_62 rfl 1 rfl ?_
      refine zj_aret C dc_F_makeRoom_63 ⟨by rw [ha], ⟨by rw [← ha]; exact va_up_self _ _ _, ⟨_, by rw [va_up_ne _ _ (by omega)]; exact hA3, fun j hj => ?_⟩, by rw [← ha]; exact zp_sh_in (by omega) (by omega) hp1, by rw [← ha]; exact zp_sh_inj (by omega) (by omega) hp2, fun m h1 h2 => by rw [va_up_ne _ _ (by omega)]; exact (h693 m (by omega)).trans (hit m h1 h2)⟩, fun j h1 h2 => by rw [va_up_ne _ _ h1]; exact h693 j h2⟩
      rw [← ha]
      unfold zp_sh
      by_cases c : j = r
      · subst c
        rw [va_up_self, if_neg (by omega), if_pos rfl]
      · rw [va_up_ne _ _ c, hf2 j hj]
        by_cases c2 : j < r
        · rw [if_pos c2, if_neg (by omega)]
        · rw [if_neg c2, if_neg c]
          by_cases c3 : j ≤ a
          · rw [if_pos c3, if_pos (by omega)]
          · rw [if_neg c3, if_neg (by omega)]
    | succ n ih =>
      intro i g2 f2 e1 e2 e3 hA2 hf2 h69
      refine zj_iload C dc_F_makeRoom_20 0 rfl ?_
      refine zj_iload_n C dc_F_makeRoom_22 rfl 4 rfl ?_
      refine zj_icmp_le C dc_F_makeRoom_23 rfl (fun h => absurd h (((zn_nle (by omega) (by omega)).mpr (by omega)))) (fun _ => ?_)
      refine zj_aload_n C dc_F_makeRoom_26 rfl 3 rfl ?_
      refine zj_get (k := 0) C (by omega) ((h69 69 (by omega)).trans hF) rfl (by decide) fw_F fl_F_11 rfl rfl dc_F_makeRoom_27 ?_
      refine zj_iload C dc_F_makeRoom_30 0 rfl ?_
      refine zj_aload_n C dc_F_makeRoom_32 rfl 3 rfl ?_
      refine zj_get (k := 0) C (by omega) ((h69 69 (by omega)).trans hF) rfl (by decide) fw_F fl_F_11 rfl rfl dc_F_makeRoom_33 ?_
      refine zj_iload C dc_F_makeRoom_36 0 rfl ?_
      refine zj_iconst (v := 1) C dc_F_makeRoom_38 (by decide) ?_
      refine zj_isub C dc_F_makeRoom_39 ?_
      refine zj_topi (zn_m1 (by omega)) ?_
      refine zj_pald C (by omega) hA2 rfl (by omega) (by decide) dc_F_makeRoom_40 ?_
      refine zj_topv (congrArg va_rf ((hf2 (i - 1) (by omega)).trans (by rw [if_neg (by omega)]))) ?_
      refine zj_past C (by omega) hA2 rfl (by omega) (by decide) (by have := hp1 (i - 1) (by omega); omega) ((h69 _ (by have := hp1 (i - 1) (by omega); omega)).trans (hit _ (hp1 (i - 1) (by omega)).1 (hp1 (i - 1) (by omega)).2)) dc_F_makeRoom_41 ?_
      refine zj_iinc C dc_F_makeRoom_42 0 rfl (show nI i + Int32.ofInt (-1) = nI (i - 1) from by rw [← zn_m1 (by omega)]; show nI i + -1 = _; grind) (by decide) rfl ?_
      refine zj_goto C dc_F_makeRoom_45 rfl ?_
      refine zj_loc (L' := [(4, .int (nI (i - 1))), (3, .ref (ad (pi a))), (2, .int (nI a)), (0, .ref (ad 69)), (1, .int (nI r))]) [0, 1, 2, 3, 4] rfl ?_
      refine ih (i - 1) _ _ (by omega) (by omega) (by omega) (va_up_self _ _ _) (fun j hj => ?_) (fun j hj => by rw [va_up_ne _ _ hj]; exact h69 j hj)
      by_cases c : j = i
      · subst c
        rw [va_up_self, if_pos (by omega)]
      · rw [va_up_ne _ _ c, hf2 j hj]
        by_cases c2 : i < j ∧ j ≤ a
        · rw [if_pos c2, if_pos (by omega)]
        · rw [if_neg c2, if_neg (by omega)]
  refine zj_aload_n C dc_F_makeRoom_0 rfl 0 rfl ?_
  refine zj_get (k := 3) C (by omega) hF rfl (by decide) fw_F fl_F_25 rfl rfl dc_F_makeRoom_1 ?_
  refine zj_bipush (v := 29) C dc_F_makeRoom_4 (by decide) ?_
  refine zj_mmin C ml_F_51 sm_Math_min ini_Math wk_Math_min ⟨(Nat.le_of_ble_eq_true rfl), (Nat.le_of_ble_eq_true rfl)⟩ ⟨(Nat.le_of_ble_eq_true rfl), (Nat.le_of_ble_eq_true rfl)⟩ dc_F_makeRoom_6 ?_
  refine zj_topi ((zn_min29 (by omega)).trans (congrArg nI ha.symm)) ?_
  refine zj_istore_n C dc_F_makeRoom_9 rfl (by decide) rfl ?_
  refine zj_aload_n C dc_F_makeRoom_10 rfl 1 rfl ?_
  refine zj_get (k := 0) C (by omega) hF rfl (by decide) fw_F fl_F_11 rfl rfl dc_F_makeRoom_11 ?_
  refine zj_iload_n C dc_F_makeRoom_14 rfl 0 rfl ?_
  refine zj_pald C (by omega) hA rfl hla (by decide) dc_F_makeRoom_15 ?_
  refine zj_topv (congrArg va_rf (hf a hla)) ?_
  refine zj_astore_n C dc_F_makeRoom_16 rfl (by decide) rfl ?_
  refine zj_iload_n C dc_F_makeRoom_17 rfl 1 rfl ?_
  refine zj_istore C dc_F_makeRoom_18 (by decide) rfl ?_
  refine zj_loc [0, 1, 2, 3, 4] rfl ?_
  exact loop (a - r) a g f rfl (by omega) (Nat.le_refl _) hA (fun j hj => (hf j hj).trans (by rw [if_neg (by omega)])) (fun j hj => rfl)
set_option maxHeartbeats 4000000 in
set_option maxRecDepth 100000 in
theorem ct_F_add (l : Launch) (hst : l.stackTraces = false) (z : zv_T) (ad : Nat → Nat) (N : Nat) (g : Nat → va_E) (as tot kp : Nat) (pi : Nat → Nat) (it : Nat → zs_It) (hN : 101 ≤ N) (hs : zs_F z ad g as tot kp pi it) (i1 i2 sp i4 cc : Int32) (hk : kp ≤ 30) (ht : tot < 2 ^ 30) : zm_v l mn_F_add ws_F_add rm_F_add z ad N g [.ref (ad 69), .int i1, .int i2, .int sp, .int i4, .int cc] (fun g1 => ((zp_rk (fun i => decide (cc * cc * (it (pi i)).2.2.1 ≤ (it (pi i)).2.2.2.2 * (it (pi i)).2.2.2.2 * sp)) kp) < 30 → zs_F z ad g1 as (tot + 1) ((if 29 < kp then 29 else kp) + 1) (zp_sh pi (zp_rk (fun i => decide (cc * cc * (it (pi i)).2.2.1 ≤ (it (pi i)).2.2.2.2 * (it (pi i)).2.2.2.2 * sp)) kp) (if 29 < kp then 29 else kp)) (fun m => if m = pi (if 29 < kp then 29 else kp) then (i1, i2, sp, i4, cc) else it m)) ∧ (30 ≤ (zp_rk (fun i => decide (cc * cc * (it (pi i)).2.2.1 ≤ (it (pi i)).2.2.2.2 * (it (pi i)).2.2.2.2 * sp)) kp) → zs_F z ad g1 as (tot + 1) kp pi it) ∧ ∀ j, j < 69 ∨ 101 ≤ j → g1 j = g j) := by
  obtain ⟨hF, ⟨f, hA, hf⟩, hp1, hp2, hit⟩ := hs
  refine zm_ofv hst pn_F_add rfl (Nat.le_of_ble_eq_true rfl) (fun X hX C => ?_)
  subst hX
  show zj_J X 0 0 _ ad N g 0 [(0, .ref (ad 69)), (1, .int i1), (2, .int i2), (3, .int sp), (4, .int i4), (5, .int cc)] []
  refine zj_aload_n C dc_F_add_0 rfl 0 rfl ?_
  refine zj_dup C dc_F_add_1 rfl ?_
  refine zj_get (k := 2) C (by omega) hF rfl (by decide) fw_F fl_F_22 rfl rfl dc_F_add_2 ?_
  refine zj_iconst (v := 1) C dc_F_add_5 (by decide) ?_
  refine zj_iadd C dc_F_add_6 ?_
  refine zj_topi (nI_1 tot) ?_
  refine zj_put (k := 2) C (by omega) hF rfl (by decide) fw_F fl_F_22 rfl fy_F fk_F fn_F rfl rfl rfl (Nat.le_of_ble_eq_true rfl) rfl dc_F_add_7 ?_
  have hs1 : zs_F z ad (va_up g 69 (ze_o 0 [.ref (ad 70), .int (nI as), .int (nI (tot + 1)), .int (nI kp)])) as (tot + 1) kp pi it := ⟨va_up_self _ _ _, ⟨f, by rw [va_up_ne _ _ (by omega)]; exact hA, hf⟩, hp1, hp2, fun m h1 h2 => by rw [va_up_ne _ _ (by omega)]; exact hit m h1 h2⟩
  refine zj_g (g1 := va_up g 69 (ze_o 0 [.ref (ad 70), .int (nI as), .int (nI (tot + 1)), .int (nI kp)])) rfl ?_
  have hfr : ∀ j, j ≠ 69 → va_up g 69 (ze_o 0 [.ref (ad 70), .int (nI as), .int (nI (tot + 1)), .int (nI kp)]) j = g j := fun j hj => va_up_ne _ _ hj
  generalize va_up g 69 (ze_o 0 [.ref (ad 70), .int (nI as), .int (nI (tot + 1)), .int (nI kp)]) = g2 at hs1 hfr ⊢
  refine zj_aload_n C dc_F_add_10 rfl 0 rfl ?_
  refine zj_iload_n C dc_F_add_11 rfl 3 rfl ?_
  refine zj_iload C dc_F_add_12 5 rfl ?_
  refine zj_Vi C (ct_F_rankOf _ hst z ad N g2 as (tot + 1) kp pi it hN hs1 sp cc hk) gv_F_28 rfl rfl rfl hd_F_rankOf ⟨(Nat.le_of_ble_eq_true rfl), (Nat.le_of_ble_eq_true rfl)⟩ (by omega) hs1.1 rfl rfl rfl (Nat.le_of_ble_eq_true rfl) ⟨(Nat.le_of_ble_eq_true rfl), (Nat.le_of_ble_eq_true rfl)⟩ dc_F_add_14 (fun r1 g9 h1 => ?_)
  obtain ⟨rfl, rfl⟩ := h1
  have hrk := zp_rk_le (fun i => decide (cc * cc * (it (pi i)).2.2.1 ≤ (it (pi i)).2.2.2.2 * (it (pi i)).2.2.2.2 * sp)) kp
  generalize zp_rk (fun i => decide (cc * cc * (it (pi i)).2.2.1 ≤ (it (pi i)).2.2.2.2 * (it (pi i)).2.2.2.2 * sp)) kp = rk at hrk ⊢
  refine zj_istore C dc_F_add_17 (by decide) rfl ?_
  refine zj_iload C dc_F_add_19 0 rfl ?_
  refine zj_bipush (v := 30) C dc_F_add_21 (by decide) ?_
  refine zj_icmp_lt C dc_F_add_23 rfl (fun h23 => ?_) (fun h23 => ?_)
  · have h23 := (nI_ltI (b := 30) (by omega) (by omega)).mp h23
    refine zj_aload_n C dc_F_add_27 rfl 1 rfl ?_
    refine zj_iload C dc_F_add_28 0 rfl ?_
    refine zj_Vr C (ct_F_makeRoom _ hst z ad N _ as (tot + 1) kp pi it hN hs1 rk hrk h23 hk) gv_F_32 rfl rfl rfl hd_F_makeRoom ⟨(Nat.le_of_ble_eq_true rfl), (Nat.le_of_ble_eq_true rfl)⟩ (by omega) hs1.1 rfl rfl rfl (Nat.le_of_ble_eq_true rfl) ⟨(Nat.le_of_ble_eq_true rfl), (Nat.le_of_ble_eq_true rfl)⟩ dc_F_add_30 (fun k1 g3 h1 => ?_)
    obtain ⟨rfl, hs3, hfr3⟩ := h1
    have hla : (if 29 < kp then 29 else kp) < 30 := by split <;> omega
    refine zj_astore C dc_F_add_33 (by decide) rfl ?_
    refine zj_aload C dc_F_add_35 0 rfl ?_
    refine zj_iload_n C dc_F_add_37 rfl 3 rfl ?_
    refine zj_put (k := 0) C (by have := hp1 _ hla; omega) (by (repeat rw [va_up_ne _ _ (by omega)]); exact (hs3.2.2.2.2 _ (hp1 _ hla).1 (hp1 _ hla).2)) rfl (by decide) fw_P fl_F_36 rfl fy_P fk_P fn_P rfl rfl rfl (Nat.le_of_ble_eq_true rfl) rfl dc_F_add_38 ?_
    refine zj_aload C dc_F_add_41 0 rfl ?_
    refine zj_iload_n C dc_F_add_43 rfl 4 rfl ?_
    refine zj_put (k := 1) C (by have := hp1 _ hla; omega) (by (repeat rw [va_up_ne _ _ (by omega)]); exact (va_up_self _ _ _)) rfl (by decide) fw_P fl_F_39 rfl fy_P fk_P fn_P rfl rfl rfl (Nat.le_of_ble_eq_true rfl) rfl dc_F_add_44 ?_
    refine zj_aload C dc_F_add_47 0 rfl ?_
    refine zj_iload_n C dc_F_add_49 rfl 5 rfl ?_
    refine zj_put (k := 2) C (by have := hp1 _ hla; omega) (by (repeat rw [va_up_ne _ _ (by omega)]); exact (va_up_self _ _ _)) rfl (by decide) fw_P fl_F_42 rfl fy_P fk_P fn_P rfl rfl rfl (Nat.le_of_ble_eq_true rfl) rfl dc_F_add_50 ?_
    refine zj_aload C dc_F_add_53 0 rfl ?_
    refine zj_iload C dc_F_add_55 6 rfl ?_
    refine zj_put (k := 3) C (by have := hp1 _ hla; omega) (by (repeat rw [va_up_ne _ _ (by omega)]); exact (va_up_self _ _ _)) rfl (by decide) fw_P fl_F_45 rfl fy_P fk_P fn_P rfl rfl rfl (Nat.le_of_ble_eq_true rfl) rfl dc_F_add_57 ?_
    refine zj_aload C dc_F_add_60 0 rfl ?_
    refine zj_iload C dc_F_add_62 7 rfl ?_
    refine zj_put (k := 4) C (by have := hp1 _ hla; omega) (by (repeat rw [va_up_ne _ _ (by omega)]); exact (va_up_self _ _ _)) rfl (by decide) fw_P fl_F_48 rfl fy_P fk_P fn_P rfl rfl rfl (Nat.le_of_ble_eq_true rfl) rfl dc_F_add_64 ?_
    refine zj_vret C dc_F_add_67 ⟨fun _ => ?_, fun h => by omega, fun j hj => ?_⟩
    · have hpa := hp1 _ hla
      obtain ⟨q1, ⟨f3, q2, q3⟩, q4, q5, q6⟩ := hs3
      refine ⟨by (repeat rw [va_up_ne _ _ (by omega)]); exact q1, ⟨f3, by (repeat rw [va_up_ne _ _ (by omega)]); exact q2, q3⟩, q4, q5, fun m h1 h2 => ?_⟩
      by_cases c : m = pi (if 29 < kp then 29 else kp)
      · subst c
        rw [va_up_self]
        show _ = zs_P (if _ then _ else _)
        rw [if_pos rfl]
        rfl
      · (repeat rw [va_up_ne _ _ c])
        show _ = zs_P (if _ then _ else _)
        rw [if_neg c]
        exact q6 m h1 h2
    · have hpa := hp1 _ hla
      (repeat rw [va_up_ne _ _ (by omega)])
      rw [hfr3 j (by omega) (by omega)]
      exact hfr j (by omega)
  · have h23 := (zn_nlt (b := 30) (by omega) (by omega)).mp h23
    exact zj_vret C dc_F_add_26 ⟨fun h => by omega, fun _ => hs1, fun j hj => hfr j (by omega)⟩
end ZF
end
section
section ZR
/-- an int by a number that may be negative -/
def zi_I (x : Int) : Int32 := Int32.ofInt x
theorem zi_n (n : Nat) : nI n = zi_I (n : Int) := by
  apply Int32.toBitVec_inj.1
  show BitVec.ofNat 32 n = BitVec.ofInt 32 (n : Int)
  simp
theorem zi_add (x y : Int) : zi_I x + zi_I y = zi_I (x + y) := (Int32.ofInt_add x y).symm
theorem zi_sub (x y : Int) : zi_I x - zi_I y = zi_I (x - y) := (Int32.ofInt_sub x y).symm
theorem zi_mul (x y : Int) : zi_I x * zi_I y = zi_I (x * y) := (Int32.ofInt_mul x y).symm
theorem zi_to {x : Int} (h1 : -1000000000 ≤ x) (h2 : x ≤ 1000000000) : (zi_I x).toInt = x := Int32.toInt_ofInt_of_le (by omega) (by omega)
theorem zi_lt {x y : Int} (h1 : -1000000000 ≤ x) (h2 : x ≤ 1000000000) (h3 : -1000000000 ≤ y) (h4 : y ≤ 1000000000) : zi_I x < zi_I y ↔ x < y := by
  rw [Int32.lt_iff_toInt_lt, zi_to h1 h2, zi_to h3 h4]
theorem zi_le {x y : Int} (h1 : -1000000000 ≤ x) (h2 : x ≤ 1000000000) (h3 : -1000000000 ≤ y) (h4 : y ≤ 1000000000) : zi_I x ≤ zi_I y ↔ x ≤ y := by
  rw [Int32.le_iff_toInt_le, zi_to h1 h2, zi_to h3 h4]
theorem zi_min {x y : Int} (h1 : -1000000000 ≤ x) (h2 : x ≤ 1000000000) (h3 : -1000000000 ≤ y) (h4 : y ≤ 1000000000) : (if zi_I y < zi_I x then zi_I y else zi_I x) = zi_I (if y < x then y else x) := by
  by_cases c : y < x
  · rw [if_pos c, if_pos ((zi_lt h3 h4 h1 h2).mpr c)]
  · rw [if_neg c, if_neg (fun h => c ((zi_lt h3 h4 h1 h2).mp h))]
theorem zi_16 (x : Int) : zi_I x + 16 = zi_I (x + 16) := zi_add x 16
theorem zi_m1 (x : Int) : zi_I x + -1 = zi_I (x + -1) := by
  have e : (-1 : Int32) = zi_I (-1) := by decide
  rw [e, zi_add]
/-- the weights against a row with one step more -/
def zp_tk (V : Nat → Int) (s : Nat → Bool) : Nat → Int
  | 0 => V 0 + 16
  | i + 1 => let pr := V i + (if s i then -1 else 16); let un := (if zp_tk V s i < V (i + 1) then zp_tk V s i else V (i + 1)) + 16; if un < pr then un else pr
theorem zp_tkS (V : Nat → Int) (s : Nat → Bool) (i : Nat) : zp_tk V s (i + 1) = (if (if zp_tk V s i < V (i + 1) then zp_tk V s i else V (i + 1)) + 16 < V i + (if s i then -1 else 16) then (if zp_tk V s i < V (i + 1) then zp_tk V s i else V (i + 1)) + 16 else V i + (if s i then -1 else 16)) := rfl
theorem zp_tk_dp (same : Nat → Nat → Bool) (j : Nat) : ∀ i, i < 14 → zp_tk (fun i => zp_w (zp_dp same i j)) (fun i => same i j) i = zp_w (zp_dp same i (j + 1)) := by
  intro i
  induction i with
  | zero => intro _; show zp_w (j, 0) + 16 = zp_w (j + 1, 0); unfold zp_w; simp; omega
  | succ i ih =>
    intro hi
    rw [zp_tkS, ih (by omega), zp_wS same i j (by omega)]
    generalize zp_w (zp_dp same i j) + (if same i j then -1 else 16) = A
    generalize zp_w (zp_dp same i (j + 1)) = B
    generalize zp_w (zp_dp same (i + 1) j) = D
    dsimp only
    split <;> split <;> split <;> (try split) <;> omega
theorem zp_tk_lo {V : Nat → Int} {s : Nat → Bool} {n : Nat} (h : ∀ i, i < n → -100000 ≤ V i ∧ V i ≤ 100000) : ∀ i, i < n → -100001 ≤ zp_tk V s i ∧ zp_tk V s i ≤ 100016 := by
  intro i
  induction i with
  | zero => intro hi; have := h 0 hi; show _ ≤ V 0 + 16 ∧ V 0 + 16 ≤ _; omega
  | succ i ih =>
    intro hi
    have h1 := ih (by omega)
    have h2 := h i (by omega)
    have h3 := h (i + 1) hi
    rw [zp_tkS]
    have h4 : (if s i then (-1 : Int) else 16) = -1 ∨ (if s i then (-1 : Int) else 16) = 16 := by cases s i <;> simp
    generalize (if s i then (-1 : Int) else 16) = t at h4 ⊢
    generalize zp_tk V s i = A at h1 ⊢
    split <;> split <;> omega
/-- the distances' rows, at the cells 101 .. 104; hh, ee: which cell is here, which behind -/
def zs_R (z : zv_T) (ad : Nat → Nat) (g : Nat → va_E) (hh ee mo lo : Nat) (wt hr bh : Nat → Int32) : Prop := g 101 = ze_o 1 [.ref (ad 102), .ref (ad hh), .ref (ad ee), .int (nI mo), .int (nI lo)] ∧ g 102 = ze_i z 8 wt ∧ g hh = ze_i z 13 hr ∧ g ee = ze_i z 13 bh ∧ ((hh = 103 ∧ ee = 104) ∨ (hh = 104 ∧ ee = 103))
set_option maxHeartbeats 4000000 in
set_option maxRecDepth 100000 in
theorem ct_R_takeIn (l : Launch) (hst : l.stackTraces = false) (z : zv_T) (ad : Nat → Nat) (N : Nat) (g : Nat → va_E) (qc : Nat) (qp qq : Nat → Int32) (hq : zs_N z ad g 66 8 qc qp qq) (hqc : 2 ≤ qc) (hqc8 : qc ≤ 8) (hN : 105 ≤ N) (hh ee mo lo : Nat) (wt hr bh : Nat → Int32) (hs : zs_R z ad g hh ee mo lo wt hr bh) (step : Int32) (sm : Nat → Bool) (hsm : ∀ i, sm i = decide (qp (i + 1) - qp i = step)) (V : Nat → Int) (hw : ∀ i, i < qc → wt i = zi_I (V i)) (hV : ∀ i, i < qc → -100000 ≤ V i ∧ V i ≤ 100000) : zm_v l mn_R_takeIn ws_R_takeIn rm_R_takeIn z ad N g [.ref (ad 101), .ref (ad 66), .int step] (fun g1 => ∃ w2, g1 = va_up g 102 (ze_i z 8 w2) ∧ ∀ i, i < qc → w2 i = zi_I (zp_tk V sm i)) := by
  obtain ⟨hR, hw0, hh0, he0, hhe⟩ := hs
  obtain ⟨hq0, hq1, hq2⟩ := hq
  have hV2 := zp_tk_lo (s := sm) hV
  refine zm_ofv hst pn_R_takeIn rfl (Nat.le_of_ble_eq_true rfl) (fun X hX C => ?_)
  subst hX
  show zj_J X 0 0 _ ad N g 0 [(0, .ref (ad 101)), (1, .ref (ad 66)), (2, .int step)] []
  have loop : ∀ (n : Nat) (k : Nat) (w2 : Nat → Int32), qc - 1 - k = n → k < qc → (∀ i, i ≤ k → w2 i = zi_I (zp_tk V sm i)) → (∀ i, k < i → i < qc → w2 i = zi_I (V i)) → zj_J X 0 0 (zj_Qv X 0 0 ad N (fun g1 => ∃ w2, g1 = va_up g 102 (ze_i z 8 w2) ∧ ∀ i, i < qc → w2 i = zi_I (zp_tk V sm i))) ad N (va_up g 102 (ze_i z 8 w2)) 21 [(4, .int (nI (k + 1))), (3, .int (zi_I (V k))), (0, .ref (ad 101)), (1, .ref (ad 66)), (2, .int step)] [] := by
    intro n
    induction n with
    | zero =>
      intro k w2 e1 e2 e3 e4
      refine zj_iload C dc_R_takeIn_21 0 rfl ?_
      refine zj_aload_n C dc_R_takeIn_23 rfl 3 rfl ?_
      refine zj_Vi C (ct_N_steps _ hst z ad N _ 66 8 qc qp qq (by omega) ⟨(by (repeat rw [va_up_ne _ _ (by omega)]); exact hq0), (by (repeat rw [va_up_ne _ _ (by omega)]); exact hq1), (by (repeat rw [va_up_ne _ _ (by omega)]); exact hq2)⟩ (by decide) (by omega)) gv_R_37 rfl rfl rfl hd_N_steps ⟨(Nat.le_of_ble_eq_true rfl), (Nat.le_of_ble_eq_true rfl)⟩ (by omega) hq0 rfl rfl rfl (Nat.le_of_ble_eq_true rfl) ⟨(Nat.le_of_ble_eq_true rfl), (Nat.le_of_ble_eq_true rfl)⟩ dc_R_takeIn_24 (fun r1 g9 h1 => ?_)
      obtain ⟨rfl, hg9⟩ := h1
      rw [hg9]
      refine zj_icmp_gt C dc_R_takeIn_27 rfl (fun _ => ?_) (fun h => absurd h (not_not_intro ((nI_ltI (by omega) (by omega)).mpr (by omega))))
      exact zj_vret C dc_R_takeIn_116 ⟨w2, rfl, fun i hi => e3 i (by omega)⟩
    | succ n ih =>
      intro k w2 e1 e2 e3 e4
      refine zj_iload C dc_R_takeIn_21 0 rfl ?_
      refine zj_aload_n C dc_R_takeIn_23 rfl 3 rfl ?_
      refine zj_Vi C (ct_N_steps _ hst z ad N _ 66 8 qc qp qq (by omega) ⟨(by (repeat rw [va_up_ne _ _ (by omega)]); exact hq0), (by (repeat rw [va_up_ne _ _ (by omega)]); exact hq1), (by (repeat rw [va_up_ne _ _ (by omega)]); exact hq2)⟩ (by decide) (by omega)) gv_R_37 rfl rfl rfl hd_N_steps ⟨(Nat.le_of_ble_eq_true rfl), (Nat.le_of_ble_eq_true rfl)⟩ (by omega) hq0 rfl rfl rfl (Nat.le_of_ble_eq_true rfl) ⟨(Nat.le_of_ble_eq_true rfl), (Nat.le_of_ble_eq_true rfl)⟩ dc_R_takeIn_24 (fun r1 g9 h1 => ?_)
      obtain ⟨rfl, hg9⟩ := h1
      rw [hg9]
      refine zj_icmp_gt C dc_R_takeIn_27 rfl (fun h => absurd h (((zn_nlt (by omega) (by omega)).mpr (by omega)))) (fun _ => ?_)
      refine zj_aload_n C dc_R_takeIn_30 rfl 3 rfl ?_
      refine zj_iload C dc_R_takeIn_31 0 rfl ?_
      refine zj_iconst (v := 1) C dc_R_takeIn_33 (by decide) ?_
      refine zj_isub C dc_R_takeIn_34 ?_
      refine zj_topi (nI_pred k) ?_
      refine zj_Vi C (ct_N_stepBehind _ hst z ad N _ 66 8 qc qp qq (by omega) ⟨(by (repeat rw [va_up_ne _ _ (by omega)]); exact hq0), (by (repeat rw [va_up_ne _ _ (by omega)]); exact hq1), (by (repeat rw [va_up_ne _ _ (by omega)]); exact hq2)⟩ (by decide) k (by omega)) gv_R_41 rfl rfl rfl hd_N_stepBehind ⟨(Nat.le_of_ble_eq_true rfl), (Nat.le_of_ble_eq_true rfl)⟩ (by omega) hq0 rfl rfl rfl (Nat.le_of_ble_eq_true rfl) ⟨(Nat.le_of_ble_eq_true rfl), (Nat.le_of_ble_eq_true rfl)⟩ dc_R_takeIn_35 (fun r1 g9 h1 => ?_)
      obtain ⟨rfl, hg9⟩ := h1
      rw [hg9]
      refine zj_iload_n C dc_R_takeIn_38 rfl 4 rfl ?_
      refine zj_icmp_ne C dc_R_takeIn_39 rfl (fun h39 => ?_) (fun h39 => ?_)
      · skip
        refine zj_iconst (v := 0) C dc_R_takeIn_46 (by decide) ?_
        refine zj_istore C dc_R_takeIn_47 (by decide) rfl ?_
        refine zj_iload_n C dc_R_takeIn_49 rfl 2 rfl ?_
        refine zj_iload C dc_R_takeIn_50 0 rfl ?_
        refine zj_if_eq C dc_R_takeIn_52 rfl (fun _ => ?_) (fun h => absurd h (by decide))
        refine zj_bipush (v := 16) C dc_R_takeIn_59 (by decide) ?_
        refine zj_iadd C dc_R_takeIn_61 ?_
        refine zj_topi (zi_16 _) ?_
        refine zj_istore C dc_R_takeIn_62 (by decide) rfl ?_
        refine zj_aload_n C dc_R_takeIn_64 rfl 4 rfl ?_
        refine zj_get (k := 0) C (by omega) hR rfl (by decide) fw_R fl_R_9 rfl rfl dc_R_takeIn_65 ?_
        refine zj_iload C dc_R_takeIn_68 2 rfl ?_
        refine zj_iald C (by omega) (va_up_self _ _ _) rfl (by omega) (by decide) dc_R_takeIn_70 ?_
        refine zj_topi (e4 (k + 1) (by omega) (by omega)) ?_
        refine zj_istore_n C dc_R_takeIn_71 rfl (by decide) rfl ?_
        refine zj_aload_n C dc_R_takeIn_72 rfl 4 rfl ?_
        refine zj_get (k := 0) C (by omega) hR rfl (by decide) fw_R fl_R_9 rfl rfl dc_R_takeIn_73 ?_
        refine zj_iload C dc_R_takeIn_76 3 rfl ?_
        refine zj_iald C (by omega) (va_up_self _ _ _) rfl (by omega) (by decide) dc_R_takeIn_78 ?_
        refine zj_topi (e4 (k + 1) (by omega) (by omega)) ?_
        refine zj_aload_n C dc_R_takeIn_79 rfl 4 rfl ?_
        refine zj_get (k := 0) C (by omega) hR rfl (by decide) fw_R fl_R_9 rfl rfl dc_R_takeIn_80 ?_
        refine zj_iload C dc_R_takeIn_83 3 rfl ?_
        refine zj_iconst (v := 1) C dc_R_takeIn_85 (by decide) ?_
        refine zj_isub C dc_R_takeIn_86 ?_
        refine zj_topi (nI_pred k) ?_
        refine zj_iald C (by omega) (va_up_self _ _ _) rfl (by omega) (by decide) dc_R_takeIn_87 ?_
        refine zj_topi (e3 k (Nat.le_refl _)) ?_
        refine zj_mmin C ml_R_49 sm_Math_min ini_Math wk_Math_min ⟨(Nat.le_of_ble_eq_true rfl), (Nat.le_of_ble_eq_true rfl)⟩ ⟨(Nat.le_of_ble_eq_true rfl), (Nat.le_of_ble_eq_true rfl)⟩ dc_R_takeIn_88 ?_
        refine zj_topi (zi_min (by have := hV (k + 1) (by omega); omega) (by have := hV (k + 1) (by omega); omega) (by have := hV2 k (by omega); omega) (by have := hV2 k (by omega); omega)) ?_
        refine zj_bipush (v := 16) C dc_R_takeIn_91 (by decide) ?_
        refine zj_iadd C dc_R_takeIn_93 ?_
        refine zj_topi (zi_16 _) ?_
        refine zj_istore C dc_R_takeIn_94 (by decide) rfl ?_
        refine zj_aload_n C dc_R_takeIn_96 rfl 5 rfl ?_
        refine zj_get (k := 0) C (by omega) hR rfl (by decide) fw_R fl_R_9 rfl rfl dc_R_takeIn_97 ?_
        refine zj_iload C dc_R_takeIn_100 4 rfl ?_
        refine zj_iload C dc_R_takeIn_102 2 rfl ?_
        refine zj_iload C dc_R_takeIn_104 0 rfl ?_
        refine zj_mmin C ml_R_49 sm_Math_min ini_Math wk_Math_min ⟨(Nat.le_of_ble_eq_true rfl), (Nat.le_of_ble_eq_true rfl)⟩ ⟨(Nat.le_of_ble_eq_true rfl), (Nat.le_of_ble_eq_true rfl)⟩ dc_R_takeIn_106 ?_
        refine zj_topi (y := zi_I (zp_tk V sm (k + 1))) ((zi_min (by have := hV k (by omega); omega) (by have := hV k (by omega); omega) (by have := hV (k + 1) (by omega); have := hV2 k (by omega); split <;> omega) (by have := hV (k + 1) (by omega); have := hV2 k (by omega); split <;> omega)).trans (by rw [zp_tkS, hsm k, decide_eq_false h39]; rfl)) ?_
        refine zj_iast C (by omega) (va_up_self _ _ _) rfl (by omega) (by decide) dc_R_takeIn_109 ?_
        refine zj_iinc C dc_R_takeIn_110 4 rfl (zn_inc (k + 1)) (by decide) rfl ?_
        refine zj_goto C dc_R_takeIn_113 rfl ?_
        refine zj_loc (L' := [(4, .int (nI (k + 1 + 1))), (3, .int (zi_I (V (k + 1)))), (0, .ref (ad 101)), (1, .ref (ad 66)), (2, .int step)]) [0, 2, 5, 6, 7] rfl ?_
        refine zj_g (bx_uu _ _ _ _) ?_
        exact ih (k + 1) _ (by omega) (by omega) (fun i hi => by by_cases c : i = k + 1 <;> simp only [upd, c, if_true, if_false] <;> first | rfl | exact e3 i (by omega)) (fun i h1 h2 => by simp only [upd, if_neg (show ¬ i = k + 1 by omega)]; exact e4 i (by omega) h2)
      · skip
        refine zj_iconst (v := 1) C dc_R_takeIn_42 (by decide) ?_
        refine zj_goto C dc_R_takeIn_43 rfl ?_
        refine zj_istore C dc_R_takeIn_47 (by decide) rfl ?_
        refine zj_iload_n C dc_R_takeIn_49 rfl 2 rfl ?_
        refine zj_iload C dc_R_takeIn_50 0 rfl ?_
        refine zj_if_eq C dc_R_takeIn_52 rfl (fun h => absurd h (by decide)) (fun _ => ?_)
        refine zj_iconst (v := -1) C dc_R_takeIn_55 (by decide) ?_
        refine zj_goto C dc_R_takeIn_56 rfl ?_
        refine zj_iadd C dc_R_takeIn_61 ?_
        refine zj_topi (zi_m1 _) ?_
        refine zj_istore C dc_R_takeIn_62 (by decide) rfl ?_
        refine zj_aload_n C dc_R_takeIn_64 rfl 4 rfl ?_
        refine zj_get (k := 0) C (by omega) hR rfl (by decide) fw_R fl_R_9 rfl rfl dc_R_takeIn_65 ?_
        refine zj_iload C dc_R_takeIn_68 2 rfl ?_
        refine zj_iald C (by omega) (va_up_self _ _ _) rfl (by omega) (by decide) dc_R_takeIn_70 ?_
        refine zj_topi (e4 (k + 1) (by omega) (by omega)) ?_
        refine zj_istore_n C dc_R_takeIn_71 rfl (by decide) rfl ?_
        refine zj_aload_n C dc_R_takeIn_72 rfl 4 rfl ?_
        refine zj_get (k := 0) C (by omega) hR rfl (by decide) fw_R fl_R_9 rfl rfl dc_R_takeIn_73 ?_
        refine zj_iload C dc_R_takeIn_76 3 rfl ?_
        refine zj_iald C (by omega) (va_up_self _ _ _) rfl (by omega) (by decide) dc_R_takeIn_78 ?_
        refine zj_topi (e4 (k + 1) (by omega) (by omega)) ?_
        refine zj_aload_n C dc_R_takeIn_79 rfl 4 rfl ?_
        refine zj_get (k := 0) C (by omega) hR rfl (by decide) fw_R fl_R_9 rfl rfl dc_R_takeIn_80 ?_
        refine zj_iload C dc_R_takeIn_83 3 rfl ?_
        refine zj_iconst (v := 1) C dc_R_takeIn_85 (by decide) ?_
        refine zj_isub C dc_R_takeIn_86 ?_
        refine zj_topi (nI_pred k) ?_
        refine zj_iald C (by omega) (va_up_self _ _ _) rfl (by omega) (by decide) dc_R_takeIn_87 ?_
        refine zj_topi (e3 k (Nat.le_refl _)) ?_
        refine zj_mmin C ml_R_49 sm_Math_min ini_Math wk_Math_min ⟨(Nat.le_of_ble_eq_true rfl), (Nat.le_of_ble_eq_true rfl)⟩ ⟨(Nat.le_of_ble_eq_true rfl), (Nat.le_of_ble_eq_true rfl)⟩ dc_R_takeIn_88 ?_
        refine zj_topi (zi_min (by have := hV (k + 1) (by omega); omega) (by have := hV (k + 1) (by omega); omega) (by have := hV2 k (by omega); omega) (by have := hV2 k (by omega); omega)) ?_
        refine zj_bipush (v := 16) C dc_R_takeIn_91 (by decide) ?_
        refine zj_iadd C dc_R_takeIn_93 ?_
        refine zj_topi (zi_16 _) ?_
        refine zj_istore C dc_R_takeIn_94 (by decide) rfl ?_
        refine zj_aload_n C dc_R_takeIn_96 rfl 5 rfl ?_
        refine zj_get (k := 0) C (by omega) hR rfl (by decide) fw_R fl_R_9 rfl rfl dc_R_takeIn_97 ?_
        refine zj_iload C dc_R_takeIn_100 4 rfl ?_
        refine zj_iload C dc_R_takeIn_102 2 rfl ?_
        refine zj_iload C dc_R_takeIn_104 0 rfl ?_
        refine zj_mmin C ml_R_49 sm_Math_min ini_Math wk_Math_min ⟨(Nat.le_of_ble_eq_true rfl), (Nat.le_of_ble_eq_true rfl)⟩ ⟨(Nat.le_of_ble_eq_true rfl), (Nat.le_of_ble_eq_true rfl)⟩ dc_R_takeIn_106 ?_
        refine zj_topi (y := zi_I (zp_tk V sm (k + 1))) ((zi_min (by have := hV k (by omega); omega) (by have := hV k (by omega); omega) (by have := hV (k + 1) (by omega); have := hV2 k (by omega); split <;> omega) (by have := hV (k + 1) (by omega); have := hV2 k (by omega); split <;> omega)).trans (by rw [zp_tkS, hsm k, decide_eq_true h39]; rfl)) ?_
        refine zj_iast C (by omega) (va_up_self _ _ _) rfl (by omega) (by decide) dc_R_takeIn_109 ?_
        refine zj_iinc C dc_R_takeIn_110 4 rfl (zn_inc (k + 1)) (by decide) rfl ?_
        refine zj_goto C dc_R_takeIn_113 rfl ?_
        refine zj_loc (L' := [(4, .int (nI (k + 1 + 1))), (3, .int (zi_I (V (k + 1)))), (0, .ref (ad 101)), (1, .ref (ad 66)), (2, .int step)]) [0, 2, 5, 6, 7] rfl ?_
        refine zj_g (bx_uu _ _ _ _) ?_
        exact ih (k + 1) _ (by omega) (by omega) (fun i hi => by by_cases c : i = k + 1 <;> simp only [upd, c, if_true, if_false] <;> first | rfl | exact e3 i (by omega)) (fun i h1 h2 => by simp only [upd, if_neg (show ¬ i = k + 1 by omega)]; exact e4 i (by omega) h2)
  refine zj_aload_n C dc_R_takeIn_0 rfl 0 rfl ?_
  refine zj_get (k := 0) C (by omega) hR rfl (by decide) fw_R fl_R_9 rfl rfl dc_R_takeIn_1 ?_
  refine zj_iconst (v := 0) C dc_R_takeIn_4 (by decide) ?_
  refine zj_iald C (by omega) hw0 nI_0.symm (by omega) (by decide) dc_R_takeIn_5 ?_
  refine zj_topi (hw 0 (by omega)) ?_
  refine zj_istore_n C dc_R_takeIn_6 rfl (by decide) rfl ?_
  refine zj_aload_n C dc_R_takeIn_7 rfl 1 rfl ?_
  refine zj_get (k := 0) C (by omega) hR rfl (by decide) fw_R fl_R_9 rfl rfl dc_R_takeIn_8 ?_
  refine zj_iconst (v := 0) C dc_R_takeIn_11 (by decide) ?_
  refine zj_dup2 C dc_R_takeIn_12 rfl rfl ?_
  refine zj_iald C (by omega) hw0 nI_0.symm (by omega) (by decide) dc_R_takeIn_13 ?_
  refine zj_topi (hw 0 (by omega)) ?_
  refine zj_bipush (v := 16) C dc_R_takeIn_14 (by decide) ?_
  refine zj_iadd C dc_R_takeIn_16 ?_
  refine zj_topi (zi_16 _) ?_
  refine zj_iast C (by omega) hw0 nI_0.symm (by omega) (by decide) dc_R_takeIn_17 ?_
  refine zj_iconst (v := 1) C dc_R_takeIn_18 (by decide) ?_
  refine zj_istore C dc_R_takeIn_19 (by decide) rfl ?_
  refine zj_loc [0, 1, 2, 3, 4] rfl ?_
  exact loop (qc - 1) 0 _ (by omega) (by omega) (fun i hi => by rw [show i = 0 by omega]; rfl) (fun i h1 h2 => by simp only [upd, if_neg (show ¬ i = 0 by omega)]; exact hw i h2)
/-- a step of the query is a step of the notes from place pl on -/
def zp_sm (qp p : Nat → Int32) (pl : Nat) : Nat → Nat → Bool := fun i j => decide (qp (i + 1) - qp i = p (pl + j + 1) - p (pl + j))
set_option maxHeartbeats 4000000 in
set_option maxRecDepth 100000 in
theorem ct_R_measure (l : Launch) (hst : l.stackTraces = false) (z : zv_T) (ad : Nat → Nat) (N : Nat) (g : Nat → va_E) (qc : Nat) (qp qq : Nat → Int32) (hq : zs_N z ad g 66 8 qc qp qq) (hqc : 2 ≤ qc) (hqc8 : qc ≤ 8) (hN : 105 ≤ N) (hh ee mo lo : Nat) (wt hr bh : Nat → Int32) (hs : zs_R z ad g hh ee mo lo wt hr bh) (ni c : Nat) (p q : Nat → Int32) (hn : zs_N z ad g ni 20 c p q) (hni : ni + 2 < 66) (hc : c ≤ 20) (pl : Nat) (hpl : pl ≤ 20) (hlo : lo ≤ 12) : zm_v l mn_R_measure ws_R_measure rm_R_measure z ad N g [.ref (ad 101), .ref (ad 66), .ref (ad ni), .int (nI pl)] (fun g1 => ∃ w2 b2, g1 102 = ze_i z 8 w2 ∧ g1 ee = ze_i z 13 b2 ∧ (∀ s, 2 ≤ s → s ≤ lo → pl + s ≤ c → b2 s = zi_I (zp_w (zp_dp (zp_sm qp p pl) (qc - 1) (s - 1)))) ∧ ∀ j, j ≠ 102 → j ≠ ee → g1 j = g j) := by
  obtain ⟨hR, hw0, hh0, he0, hhe⟩ := hs
  obtain ⟨hq0, hq1, hq2⟩ := hq
  obtain ⟨hn0, hn1, hn2⟩ := hn
  refine zm_ofv hst pn_R_measure rfl (Nat.le_of_ble_eq_true rfl) (fun X hX C => ?_)
  subst hX
  show zj_J X 0 0 _ ad N g 0 [(0, .ref (ad 101)), (1, .ref (ad 66)), (2, .ref (ad ni)), (3, .int (nI pl))] []
  have loop2 : ∀ (n : Nat) (j : Nat) (g3 : Nat → va_E) (w3 b3 : Nat → Int32), lo + 1 - (j + 2) = n → j + 2 ≤ 13 → g3 102 = ze_i z 8 w3 → g3 ee = ze_i z 13 b3 → (∀ j, j ≠ 102 → j ≠ ee → g3 j = g j) → (∀ i, i < qc → w3 i = zi_I (zp_w (zp_dp (zp_sm qp p pl) (i) (j)))) → (∀ s, 2 ≤ s → s < j + 2 → b3 s = zi_I (zp_w (zp_dp (zp_sm qp p pl) (qc - 1) (s - 1)))) → zj_J X 0 0 (zj_Qv X 0 0 ad N (fun g1 => ∃ w2 b2, g1 102 = ze_i z 8 w2 ∧ g1 ee = ze_i z 13 b2 ∧ (∀ s, 2 ≤ s → s ≤ lo → pl + s ≤ c → b2 s = zi_I (zp_w (zp_dp (zp_sm qp p pl) (qc - 1) (s - 1)))) ∧ ∀ j, j ≠ 102 → j ≠ ee → g1 j = g j)) ad N g3 33 [(4, .int (nI (j + 2))), (0, .ref (ad 101)), (1, .ref (ad 66)), (2, .ref (ad ni)), (3, .int (nI pl))] [] := by
    intro n
    induction n with
    | zero =>
      intro j g3 w3 b3 e1 e2 hw3 hb3 hfr e3 e4
      refine zj_iload C dc_R_measure_33 0 rfl ?_
      refine zj_aload_n C dc_R_measure_35 rfl 1 rfl ?_
      refine zj_get (k := 4) C (by omega) ((hfr 101 (by omega) (by omega)).trans hR) rfl (by decide) fw_R fl_R_30 rfl rfl dc_R_measure_36 ?_
      refine zj_icmp_gt C dc_R_measure_39 rfl (fun _ => ?_) (fun h => absurd h (not_not_intro ((nI_ltI (by omega) (by omega)).mpr (by omega))))
      exact zj_vret C dc_R_measure_90 ⟨w3, b3, hw3, hb3, fun s h1 h2 h3 => e4 s h1 (by omega), hfr⟩
    | succ n ih =>
      intro j g3 w3 b3 e1 e2 hw3 hb3 hfr e3 e4
      refine zj_iload C dc_R_measure_33 0 rfl ?_
      refine zj_aload_n C dc_R_measure_35 rfl 1 rfl ?_
      refine zj_get (k := 4) C (by omega) ((hfr 101 (by omega) (by omega)).trans hR) rfl (by decide) fw_R fl_R_30 rfl rfl dc_R_measure_36 ?_
      refine zj_icmp_gt C dc_R_measure_39 rfl (fun h => absurd h (((zn_nlt (by omega) (by omega)).mpr (by omega)))) (fun _ => ?_)
      refine zj_iload_n C dc_R_measure_42 rfl 4 rfl ?_
      refine zj_iload C dc_R_measure_43 0 rfl ?_
      refine zj_iadd C dc_R_measure_45 ?_
      refine zj_topi (nI_add _ _) ?_
      refine zj_aload_n C dc_R_measure_46 rfl 3 rfl ?_
      refine zj_get (k := 2) C (by omega) ((hfr ni (by omega) (by omega)).trans hn0) rfl (by decide) fw_N fl_R_25 rfl rfl dc_R_measure_47 ?_
      refine zj_icmp_gt C dc_R_measure_50 rfl (fun h50 => ?_) (fun h50 => ?_)
      · have h50 := (nI_ltI (by omega) (by omega)).mp h50
        exact zj_vret C dc_R_measure_90 ⟨w3, b3, hw3, hb3, fun s h1 h2 h3 => e4 s h1 (by omega), hfr⟩
      · have h50 := (zn_nlt (by omega) (by omega)).mp h50
        refine zj_aload_n C dc_R_measure_53 rfl 1 rfl ?_
        refine zj_aload_n C dc_R_measure_54 rfl 2 rfl ?_
        refine zj_aload_n C dc_R_measure_55 rfl 3 rfl ?_
        refine zj_iload_n C dc_R_measure_56 rfl 4 rfl ?_
        refine zj_iload C dc_R_measure_57 0 rfl ?_
        refine zj_iadd C dc_R_measure_59 ?_
        refine zj_topi (nI_add _ _) ?_
        refine zj_iconst (v := 2) C dc_R_measure_60 (by decide) ?_
        refine zj_isub C dc_R_measure_61 ?_
        refine zj_topi (show nI (pl + (j + 2)) - nI 2 = nI (pl + j) from (pk_sub (by omega)).trans (congrArg nI (by omega))) ?_
        refine zj_Vi C (ct_N_stepBehind _ hst z ad N g3 ni 20 c p q (by omega) ⟨((hfr ni (by omega) (by omega)).trans hn0), ((hfr (ni + 1) (by omega) (by omega)).trans hn1), ((hfr (ni + 2) (by omega) (by omega)).trans hn2)⟩ (by decide) (pl + j) (by omega)) gv_R_41 rfl rfl rfl hd_N_stepBehind ⟨(Nat.le_of_ble_eq_true rfl), (Nat.le_of_ble_eq_true rfl)⟩ (by omega) ((hfr ni (by omega) (by omega)).trans hn0) rfl rfl rfl (Nat.le_of_ble_eq_true rfl) ⟨(Nat.le_of_ble_eq_true rfl), (Nat.le_of_ble_eq_true rfl)⟩ dc_R_measure_62 (fun r1 g9 h1 => ?_)
        obtain ⟨rfl, hg9⟩ := h1
        rw [hg9]
        refine zj_Vv C (ct_R_takeIn _ hst z ad N _ qc qp qq ⟨((hfr 66 (by omega) (by omega)).trans hq0), ((hfr 67 (by omega) (by omega)).trans hq1), ((hfr 68 (by omega) (by omega)).trans hq2)⟩ hqc hqc8 hN hh ee mo lo w3 hr b3 ⟨((hfr 101 (by omega) (by omega)).trans hR), hw3, ((hfr hh (by omega) (by omega)).trans hh0), hb3, hhe⟩ _ (fun i => (zp_sm qp p pl) i j) (fun i => rfl) (fun i => zp_w (zp_dp (zp_sm qp p pl) i j)) e3 (fun i hi => by have h5 := zp_w_lo (zp_sm qp p pl) i j (by omega); have h6 := zp_dp_up (zp_sm qp p pl) i j; unfold zp_w at h5 ⊢; omega)) gv_R_45 rfl rfl rfl hd_R_takeIn ⟨(Nat.le_of_ble_eq_true rfl), (Nat.le_of_ble_eq_true rfl)⟩ (by omega) ((hfr 101 (by omega) (by omega)).trans hR) rfl rfl rfl (Nat.le_of_ble_eq_true rfl) ⟨(Nat.le_of_ble_eq_true rfl), (Nat.le_of_ble_eq_true rfl)⟩ dc_R_measure_65 (fun g4 h1 => ?_)
        obtain ⟨w4, rfl, hw4⟩ := h1
        have hw5 : ∀ i, i < qc → w4 i = zi_I (zp_w (zp_dp (zp_sm qp p pl) (i) (j + 1))) := fun i hi => (hw4 i hi).trans (congrArg zi_I (zp_tk_dp (zp_sm qp p pl) j i (by omega)))
        refine zj_aload_n C dc_R_measure_68 rfl 1 rfl ?_
        refine zj_get (k := 2) C (by omega) (by (repeat rw [va_up_ne _ _ (by omega)]); exact ((hfr 101 (by omega) (by omega)).trans hR)) rfl (by decide) fw_R fl_R_18 rfl rfl dc_R_measure_69 ?_
        refine zj_iload C dc_R_measure_72 0 rfl ?_
        refine zj_aload_n C dc_R_measure_74 rfl 1 rfl ?_
        refine zj_get (k := 0) C (by omega) (by (repeat rw [va_up_ne _ _ (by omega)]); exact ((hfr 101 (by omega) (by omega)).trans hR)) rfl (by decide) fw_R fl_R_9 rfl rfl dc_R_measure_75 ?_
        refine zj_aload_n C dc_R_measure_78 rfl 2 rfl ?_
        refine zj_Vi C (ct_N_steps _ hst z ad N _ 66 8 qc qp qq (by omega) ⟨(by (repeat rw [va_up_ne _ _ (by omega)]); exact ((hfr 66 (by omega) (by omega)).trans hq0)), (by (repeat rw [va_up_ne _ _ (by omega)]); exact ((hfr 67 (by omega) (by omega)).trans hq1)), (by (repeat rw [va_up_ne _ _ (by omega)]); exact ((hfr 68 (by omega) (by omega)).trans hq2))⟩ (by decide) (by omega)) gv_R_37 rfl rfl rfl hd_N_steps ⟨(Nat.le_of_ble_eq_true rfl), (Nat.le_of_ble_eq_true rfl)⟩ (by omega) (by (repeat rw [va_up_ne _ _ (by omega)]); exact ((hfr 66 (by omega) (by omega)).trans hq0)) rfl rfl rfl (Nat.le_of_ble_eq_true rfl) ⟨(Nat.le_of_ble_eq_true rfl), (Nat.le_of_ble_eq_true rfl)⟩ dc_R_measure_79 (fun r1 g9 h1 => ?_)
        obtain ⟨rfl, hg9⟩ := h1
        rw [hg9]
        refine zj_iald C (by omega) (by (repeat rw [va_up_ne _ _ (by omega)]); exact (va_up_self _ _ _)) rfl (by omega) (by decide) dc_R_measure_82 ?_
        refine zj_topi (hw5 (qc - 1) (by omega)) ?_
        refine zj_iast C (by omega) (by (repeat rw [va_up_ne _ _ (by omega)]); exact hb3) rfl (by omega) (by decide) dc_R_measure_83 ?_
        refine zj_iinc C dc_R_measure_84 0 rfl (zn_inc (j + 2)) (by decide) rfl ?_
        refine zj_goto C dc_R_measure_87 rfl ?_
        refine zj_loc (L' := [(4, .int (nI (j + 1 + 2))), (0, .ref (ad 101)), (1, .ref (ad 66)), (2, .ref (ad ni)), (3, .int (nI pl))]) [0, 1, 2, 3, 4] rfl ?_
        exact ih (j + 1) _ w4 _ (by omega) (by omega) (by rw [va_up_ne _ _ (by omega)]; exact va_up_self _ _ _) (va_up_self _ _ _) (fun j h1 h2 => by rw [va_up_ne _ _ h2, va_up_ne _ _ h1]; exact hfr j h1 h2) hw5 (fun s h1 h2 => if c9 : s = j + 2 then (by subst c9; simp only [upd, if_true]; rfl) else (by simp only [upd, if_neg c9]; exact e4 s h1 (by omega)))
  have loop1 : ∀ (n : Nat) (k : Nat) (g2 : Nat → va_E) (w2 : Nat → Int32), qc - k = n → k ≤ qc → g2 102 = ze_i z 8 w2 → (∀ j, j ≠ 102 → g2 j = g j) → (∀ i, i < k → w2 i = zi_I (16 * (i : Int))) → zj_J X 0 0 (zj_Qv X 0 0 ad N (fun g1 => ∃ w2 b2, g1 102 = ze_i z 8 w2 ∧ g1 ee = ze_i z 13 b2 ∧ (∀ s, 2 ≤ s → s ≤ lo → pl + s ≤ c → b2 s = zi_I (zp_w (zp_dp (zp_sm qp p pl) (qc - 1) (s - 1)))) ∧ ∀ j, j ≠ 102 → j ≠ ee → g1 j = g j)) ad N g2 3 [(4, .int (nI k)), (0, .ref (ad 101)), (1, .ref (ad 66)), (2, .ref (ad ni)), (3, .int (nI pl))] [] := by
    intro n
    induction n with
    | zero =>
      intro k g2 w2 e1 e2 hw2 hfr e3
      refine zj_iload C dc_R_measure_3 0 rfl ?_
      refine zj_aload_n C dc_R_measure_5 rfl 2 rfl ?_
      refine zj_Vi C (ct_N_steps _ hst z ad N _ 66 8 qc qp qq (by omega) ⟨((hfr 66 (by omega)).trans hq0), ((hfr 67 (by omega)).trans hq1), ((hfr 68 (by omega)).trans hq2)⟩ (by decide) (by omega)) gv_R_37 rfl rfl rfl hd_N_steps ⟨(Nat.le_of_ble_eq_true rfl), (Nat.le_of_ble_eq_true rfl)⟩ (by omega) ((hfr 66 (by omega)).trans hq0) rfl rfl rfl (Nat.le_of_ble_eq_true rfl) ⟨(Nat.le_of_ble_eq_true rfl), (Nat.le_of_ble_eq_true rfl)⟩ dc_R_measure_6 (fun r1 g9 h1 => ?_)
      obtain ⟨rfl, hg9⟩ := h1
      rw [hg9]
      refine zj_icmp_gt C dc_R_measure_9 rfl (fun _ => ?_) (fun h => absurd h (not_not_intro ((nI_ltI (by omega) (by omega)).mpr (by omega))))
      refine zj_iconst (v := 2) C dc_R_measure_30 (by decide) ?_
      refine zj_istore C dc_R_measure_31 (by decide) rfl ?_
      refine zj_loc (L' := [(4, .int (nI (0 + 2))), (0, .ref (ad 101)), (1, .ref (ad 66)), (2, .ref (ad ni)), (3, .int (nI pl))]) [0, 1, 2, 3, 4] rfl ?_
      exact loop2 (lo + 1 - 2) 0 g2 w2 bh rfl (by omega) hw2 ((hfr ee (by omega)).trans he0) (fun j h1 h2 => hfr j h1) (fun i hi => (e3 i (by omega)).trans (congrArg zi_I (by rw [zp_dpi]; unfold zp_w; simp))) (fun s h1 h2 => by omega)
    | succ n ih =>
      intro k g2 w2 e1 e2 hw2 hfr e3
      refine zj_iload C dc_R_measure_3 0 rfl ?_
      refine zj_aload_n C dc_R_measure_5 rfl 2 rfl ?_
      refine zj_Vi C (ct_N_steps _ hst z ad N _ 66 8 qc qp qq (by omega) ⟨((hfr 66 (by omega)).trans hq0), ((hfr 67 (by omega)).trans hq1), ((hfr 68 (by omega)).trans hq2)⟩ (by decide) (by omega)) gv_R_37 rfl rfl rfl hd_N_steps ⟨(Nat.le_of_ble_eq_true rfl), (Nat.le_of_ble_eq_true rfl)⟩ (by omega) ((hfr 66 (by omega)).trans hq0) rfl rfl rfl (Nat.le_of_ble_eq_true rfl) ⟨(Nat.le_of_ble_eq_true rfl), (Nat.le_of_ble_eq_true rfl)⟩ dc_R_measure_6 (fun r1 g9 h1 => ?_)
      obtain ⟨rfl, hg9⟩ := h1
      rw [hg9]
      refine zj_icmp_gt C dc_R_measure_9 rfl (fun h => absurd h (((zn_nlt (by omega) (by omega)).mpr (by omega)))) (fun _ => ?_)
      refine zj_aload_n C dc_R_measure_12 rfl 1 rfl ?_
      refine zj_get (k := 0) C (by omega) ((hfr 101 (by omega)).trans hR) rfl (by decide) fw_R fl_R_9 rfl rfl dc_R_measure_13 ?_
      refine zj_iload C dc_R_measure_16 0 rfl ?_
      refine zj_iload C dc_R_measure_18 0 rfl ?_
      refine zj_bipush (v := 16) C dc_R_measure_20 (by decide) ?_
      refine zj_imul C dc_R_measure_22 ?_
      refine zj_topi (show nI k * 16 = zi_I (16 * (k : Int)) from by rw [zi_n, show (16 : Int32) = zi_I 16 from rfl, zi_mul, Int.mul_comm]) ?_
      refine zj_iast C (by omega) hw2 rfl (by omega) (by decide) dc_R_measure_23 ?_
      refine zj_iinc C dc_R_measure_24 0 rfl (zn_inc k) (by decide) rfl ?_
      refine zj_goto C dc_R_measure_27 rfl ?_
      refine zj_loc (L' := [(4, .int (nI (k + 1))), (0, .ref (ad 101)), (1, .ref (ad 66)), (2, .ref (ad ni)), (3, .int (nI pl))]) [0, 1, 2, 3, 4] rfl ?_
      exact ih (k + 1) _ _ (by omega) (by omega) (va_up_self _ _ _) (fun j hj => by rw [va_up_ne _ _ hj]; exact hfr j hj) (fun i hi => if c9 : i = k then (by subst c9; simp only [upd, if_true]) else (by simp only [upd, if_neg c9]; exact e3 i (by omega)))
  refine zj_iconst (v := 0) C dc_R_measure_0 (by decide) ?_
  refine zj_istore C dc_R_measure_1 (by decide) rfl ?_
  refine zj_loc [0, 1, 2, 3, 4] rfl ?_
  exact loop1 qc 0 g wt rfl (by omega) hw0 (fun j hj => rfl) (fun i hi => by omega)
theorem zi_div16 {y : Int} (h1 : 0 ≤ y) (h2 : y ≤ 1000000) : zi_I y / 16 = zi_I (y / 16) := by
  obtain ⟨n, rfl⟩ := Int.eq_ofNat_of_zero_le h1
  rw [← zi_n, show (16 : Int32) = nI 16 from rfl, pk_div (by omega) (by omega) (by omega), zi_n]
  congr 1
set_option maxHeartbeats 4000000 in
set_option maxRecDepth 100000 in
theorem ct_R_begin (l : Launch) (hst : l.stackTraces = false) (z : zv_T) (ad : Nat → Nat) (N : Nat) (g : Nat → va_E) (qc : Nat) (qp qq : Nat → Int32) (hq : zs_N z ad g 66 8 qc qp qq) (hqc : 2 ≤ qc) (hqc8 : qc ≤ 8) (hN : 105 ≤ N) (hh ee mo lo : Nat) (wt hr bh : Nat → Int32) (hs : zs_R z ad g hh ee mo lo wt hr bh) (ni c : Nat) (p q : Nat → Int32) (hn : zs_N z ad g ni 20 c p q) (hni : ni + 2 < 66) (hc : c ≤ 20) (kk : Nat) (hkk : kk ≤ 4) : zm_v l mn_R_begin ws_R_begin rm_R_begin z ad N g [.ref (ad 101), .ref (ad 66), .ref (ad ni), .int (nI kk)] (fun g1 => ∃ w2 b2, zs_R z ad g1 hh ee (kk * 16) (qc + kk) w2 hr b2 ∧ (∀ s, 2 ≤ s → s ≤ qc + kk → 0 + s ≤ c → b2 s = zi_I (zp_w (zp_dp (zp_sm qp p (0)) (qc - 1) (s - 1)))) ∧ ∀ j, j ≠ 101 → j ≠ 102 → j ≠ ee → g1 j = g j) := by
  obtain ⟨hR, hw0, hh0, he0, hhe⟩ := hs
  obtain ⟨hq0, hq1, hq2⟩ := hq
  obtain ⟨hn0, hn1, hn2⟩ := hn
  refine zm_ofv hst pn_R_begin rfl (Nat.le_of_ble_eq_true rfl) (fun X hX C => ?_)
  subst hX
  show zj_J X 0 0 _ ad N g 0 [(0, .ref (ad 101)), (1, .ref (ad 66)), (2, .ref (ad ni)), (3, .int (nI kk))] []
  refine zj_aload_n C dc_R_begin_0 rfl 0 rfl ?_
  refine zj_iload_n C dc_R_begin_1 rfl 3 rfl ?_
  refine zj_bipush (v := 16) C dc_R_begin_2 (by decide) ?_
  refine zj_imul C dc_R_begin_4 ?_
  refine zj_topi (show nI kk * nI 16 = nI (kk * 16) from pk_mul kk 16) ?_
  refine zj_put (k := 3) C (by omega) hR rfl (by decide) fw_R fl_R_21 rfl fy_R fk_R fn_R rfl rfl rfl (Nat.le_of_ble_eq_true rfl) rfl dc_R_begin_5 ?_
  refine zj_aload_n C dc_R_begin_8 rfl 0 rfl ?_
  refine zj_aload_n C dc_R_begin_9 rfl 1 rfl ?_
  refine zj_get (k := 2) C (by omega) (by (repeat rw [va_up_ne _ _ (by omega)]); exact hq0) rfl (by decide) fw_N fl_R_25 rfl rfl dc_R_begin_10 ?_
  refine zj_iload_n C dc_R_begin_13 rfl 3 rfl ?_
  refine zj_iadd C dc_R_begin_14 ?_
  refine zj_topi (nI_add _ _) ?_
  refine zj_put (k := 4) C (by omega) (by (repeat rw [va_up_ne _ _ (by omega)]); exact (va_up_self _ _ _)) rfl (by decide) fw_R fl_R_30 rfl fy_R fk_R fn_R rfl rfl rfl (Nat.le_of_ble_eq_true rfl) rfl dc_R_begin_15 ?_
  refine zj_aload_n C dc_R_begin_18 rfl 0 rfl ?_
  refine zj_aload_n C dc_R_begin_19 rfl 1 rfl ?_
  refine zj_aload_n C dc_R_begin_20 rfl 2 rfl ?_
  refine zj_iconst (v := 0) C dc_R_begin_21 (by decide) ?_
  refine zj_topi (nI_0.symm) ?_
  refine zj_Vv C (ct_R_measure _ hst z ad N _ qc qp qq ⟨(by (repeat rw [va_up_ne _ _ (by omega)]); exact hq0), (by (repeat rw [va_up_ne _ _ (by omega)]); exact hq1), (by (repeat rw [va_up_ne _ _ (by omega)]); exact hq2)⟩ hqc hqc8 hN hh ee (kk * 16) (qc + kk) wt hr bh ⟨(by (repeat rw [va_up_ne _ _ (by omega)]); exact (va_up_self _ _ _)), (by (repeat rw [va_up_ne _ _ (by omega)]); exact hw0), (by (repeat rw [va_up_ne _ _ (by omega)]); exact hh0), (by (repeat rw [va_up_ne _ _ (by omega)]); exact he0), hhe⟩ ni c p q ⟨(by (repeat rw [va_up_ne _ _ (by omega)]); exact hn0), (by (repeat rw [va_up_ne _ _ (by omega)]); exact hn1), (by (repeat rw [va_up_ne _ _ (by omega)]); exact hn2)⟩ hni hc 0 (by omega) (by omega)) gv_R_33 rfl rfl rfl hd_R_measure ⟨(Nat.le_of_ble_eq_true rfl), (Nat.le_of_ble_eq_true rfl)⟩ (by omega) (by (repeat rw [va_up_ne _ _ (by omega)]); exact (va_up_self _ _ _)) rfl rfl rfl (Nat.le_of_ble_eq_true rfl) ⟨(Nat.le_of_ble_eq_true rfl), (Nat.le_of_ble_eq_true rfl)⟩ dc_R_begin_22 (fun g3 h1 => ?_)
  obtain ⟨w2, b2, h2, h3, h4, h5⟩ := h1
  exact zj_vret C dc_R_begin_25 ⟨w2, b2, ⟨(h5 101 (by omega) (by omega)).trans (by (repeat rw [va_up_ne _ _ (by omega)]); exact (va_up_self _ _ _)), h2, (h5 hh (by omega) (by omega)).trans (by (repeat rw [va_up_ne _ _ (by omega)]); exact hh0), h3, hhe⟩, h4, fun j c1 c2 c3 => (h5 j c2 c3).trans (by (repeat rw [va_up_ne _ _ c1]))⟩
set_option maxHeartbeats 4000000 in
set_option maxRecDepth 100000 in
theorem ct_R_goOn (l : Launch) (hst : l.stackTraces = false) (z : zv_T) (ad : Nat → Nat) (N : Nat) (g : Nat → va_E) (qc : Nat) (qp qq : Nat → Int32) (hq : zs_N z ad g 66 8 qc qp qq) (hqc : 2 ≤ qc) (hqc8 : qc ≤ 8) (hN : 105 ≤ N) (hh ee mo lo : Nat) (wt hr bh : Nat → Int32) (hs : zs_R z ad g hh ee mo lo wt hr bh) (ni c : Nat) (p q : Nat → Int32) (hn : zs_N z ad g ni 20 c p q) (hni : ni + 2 < 66) (hc : c ≤ 20) (pl : Nat) (hpl : pl < 20) (hlo : lo ≤ 12) : zm_v l mn_R_goOn ws_R_goOn rm_R_goOn z ad N g [.ref (ad 101), .ref (ad 66), .ref (ad ni), .int (nI pl)] (fun g1 => ∃ w2 b2, zs_R z ad g1 ee hh mo lo w2 bh b2 ∧ (∀ s, 2 ≤ s → s ≤ lo → pl + 1 + s ≤ c → b2 s = zi_I (zp_w (zp_dp (zp_sm qp p (pl + 1)) (qc - 1) (s - 1)))) ∧ ∀ j, j ≠ 101 → j ≠ 102 → j ≠ hh → g1 j = g j) := by
  obtain ⟨hR, hw0, hh0, he0, hhe⟩ := hs
  obtain ⟨hq0, hq1, hq2⟩ := hq
  obtain ⟨hn0, hn1, hn2⟩ := hn
  refine zm_ofv hst pn_R_goOn rfl (Nat.le_of_ble_eq_true rfl) (fun X hX C => ?_)
  subst hX
  show zj_J X 0 0 _ ad N g 0 [(0, .ref (ad 101)), (1, .ref (ad 66)), (2, .ref (ad ni)), (3, .int (nI pl))] []
  refine zj_aload_n C dc_R_goOn_0 rfl 0 rfl ?_
  refine zj_get (k := 2) C (by omega) hR rfl (by decide) fw_R fl_R_18 rfl rfl dc_R_goOn_1 ?_
  refine zj_astore C dc_R_goOn_4 (by decide) rfl ?_
  refine zj_aload_n C dc_R_goOn_6 rfl 1 rfl ?_
  refine zj_aload_n C dc_R_goOn_7 rfl 1 rfl ?_
  refine zj_get (k := 1) C (by omega) hR rfl (by decide) fw_R fl_R_15 rfl rfl dc_R_goOn_8 ?_
  refine zj_put (k := 2) C (by omega) hR rfl (by decide) fw_R fl_R_18 rfl fy_R fk_R fn_R rfl rfl rfl (Nat.le_of_ble_eq_true rfl) rfl dc_R_goOn_11 ?_
  refine zj_aload_n C dc_R_goOn_14 rfl 1 rfl ?_
  refine zj_aload C dc_R_goOn_15 0 rfl ?_
  refine zj_put (k := 1) C (by omega) (by (repeat rw [va_up_ne _ _ (by omega)]); exact (va_up_self _ _ _)) rfl (by decide) fw_R fl_R_15 rfl fy_R fk_R fn_R rfl rfl rfl (Nat.le_of_ble_eq_true rfl) rfl dc_R_goOn_17 ?_
  refine zj_aload_n C dc_R_goOn_20 rfl 1 rfl ?_
  refine zj_aload_n C dc_R_goOn_21 rfl 2 rfl ?_
  refine zj_aload_n C dc_R_goOn_22 rfl 3 rfl ?_
  refine zj_iload_n C dc_R_goOn_23 rfl 4 rfl ?_
  refine zj_iconst (v := 1) C dc_R_goOn_24 (by decide) ?_
  refine zj_iadd C dc_R_goOn_25 ?_
  refine zj_topi (nI_1 _) ?_
  refine zj_Vv C (ct_R_measure _ hst z ad N _ qc qp qq ⟨(by (repeat rw [va_up_ne _ _ (by omega)]); exact hq0), (by (repeat rw [va_up_ne _ _ (by omega)]); exact hq1), (by (repeat rw [va_up_ne _ _ (by omega)]); exact hq2)⟩ hqc hqc8 hN ee hh mo lo wt bh hr ⟨(by (repeat rw [va_up_ne _ _ (by omega)]); exact (va_up_self _ _ _)), (by (repeat rw [va_up_ne _ _ (by omega)]); exact hw0), (by (repeat rw [va_up_ne _ _ (by omega)]); exact he0), (by (repeat rw [va_up_ne _ _ (by omega)]); exact hh0), by omega⟩ ni c p q ⟨(by (repeat rw [va_up_ne _ _ (by omega)]); exact hn0), (by (repeat rw [va_up_ne _ _ (by omega)]); exact hn1), (by (repeat rw [va_up_ne _ _ (by omega)]); exact hn2)⟩ hni hc (pl + 1) (by omega) hlo) gv_R_33 rfl rfl rfl hd_R_measure ⟨(Nat.le_of_ble_eq_true rfl), (Nat.le_of_ble_eq_true rfl)⟩ (by omega) (by (repeat rw [va_up_ne _ _ (by omega)]); exact (va_up_self _ _ _)) rfl rfl rfl (Nat.le_of_ble_eq_true rfl) ⟨(Nat.le_of_ble_eq_true rfl), (Nat.le_of_ble_eq_true rfl)⟩ dc_R_goOn_26 (fun g3 h1 => ?_)
  obtain ⟨w2, b2, h2, h3, h4, h5⟩ := h1
  exact zj_vret C dc_R_goOn_29 ⟨w2, b2, ⟨(h5 101 (by omega) (by omega)).trans (by (repeat rw [va_up_ne _ _ (by omega)]); exact (va_up_self _ _ _)), h2, (h5 ee (by omega) (by omega)).trans (by (repeat rw [va_up_ne _ _ (by omega)]); exact he0), h3, by omega⟩, h4, fun j c1 c2 c3 => (h5 j c2 c3).trans (by (repeat rw [va_up_ne _ _ c1]))⟩
set_option maxHeartbeats 4000000 in
set_option maxRecDepth 100000 in
theorem ct_R_holds (l : Launch) (hst : l.stackTraces = false) (z : zv_T) (ad : Nat → Nat) (N : Nat) (g : Nat → va_E) (hN : 105 ≤ N) (hh ee mo lo : Nat) (wt hr bh : Nat → Int32) (hs : zs_R z ad g hh ee mo lo wt hr bh) (s : Nat) (hs2 : 2 ≤ s) (hs12 : s ≤ 12) : zm_i l mn_R_holds ws_R_holds rm_R_holds z ad N g [.ref (ad 101), .int (nI s)] (fun r g1 => r = (if hr s ≤ nI mo ∧ (s = 2 ∨ (¬ hr (s - 1) ≤ nI mo ∧ ¬ bh (s - 1) ≤ nI mo)) then 1 else 0) ∧ g1 = g) := by
  obtain ⟨hR, hw0, hh0, he0, hhe⟩ := hs
  refine zm_ofz hst pn_R_holds rfl (Nat.le_of_ble_eq_true rfl) (fun X hX C => ?_)
  subst hX
  show zj_J X 0 0 _ ad N g 0 [(0, .ref (ad 101)), (1, .int (nI s))] []
  refine zj_aload_n C dc_R_holds_0 rfl 0 rfl ?_
  refine zj_get (k := 1) C (by omega) hR rfl (by decide) fw_R fl_R_15 rfl rfl dc_R_holds_1 ?_
  refine zj_iload_n C dc_R_holds_4 rfl 1 rfl ?_
  refine zj_iald C (by omega) hh0 rfl (by omega) (by decide) dc_R_holds_5 ?_
  refine zj_aload_n C dc_R_holds_6 rfl 0 rfl ?_
  refine zj_get (k := 3) C (by omega) hR rfl (by decide) fw_R fl_R_21 rfl rfl dc_R_holds_7 ?_
  refine zj_icmp_le C dc_R_holds_10 rfl (fun a1 => ?_) (fun a1 => ?_)
  · skip
    refine zj_iload_n C dc_R_holds_15 rfl 1 rfl ?_
    refine zj_iconst (v := 2) C dc_R_holds_16 (by decide) ?_
    refine zj_icmp_eq C dc_R_holds_17 rfl (fun a2 => ?_) (fun a2 => ?_)
    · have a2 := (nI_eq (b := 2) (by omega) (by omega)).mp a2
      refine zj_iconst (v := 1) C dc_R_holds_50 (by decide) ?_
      refine zj_goto C dc_R_holds_51 rfl ?_
      exact zj_zret C dc_R_holds_55 rfl ⟨by simp_all, rfl⟩
    · have a2 : ¬ s = 2 := fun e => a2 (by rw [e]; rfl)
      refine zj_aload_n C dc_R_holds_20 rfl 0 rfl ?_
      refine zj_get (k := 1) C (by omega) hR rfl (by decide) fw_R fl_R_15 rfl rfl dc_R_holds_21 ?_
      refine zj_iload_n C dc_R_holds_24 rfl 1 rfl ?_
      refine zj_iconst (v := 1) C dc_R_holds_25 (by decide) ?_
      refine zj_isub C dc_R_holds_26 ?_
      refine zj_topi (zn_m1 (by omega)) ?_
      refine zj_iald C (by omega) hh0 rfl (by omega) (by decide) dc_R_holds_27 ?_
      refine zj_aload_n C dc_R_holds_28 rfl 0 rfl ?_
      refine zj_get (k := 3) C (by omega) hR rfl (by decide) fw_R fl_R_21 rfl rfl dc_R_holds_29 ?_
      refine zj_icmp_le C dc_R_holds_32 rfl (fun a3 => ?_) (fun a3 => ?_)
      · skip
        refine zj_iconst (v := 0) C dc_R_holds_54 (by decide) ?_
        exact zj_zret C dc_R_holds_55 rfl ⟨by simp_all, rfl⟩
      · skip
        refine zj_aload_n C dc_R_holds_35 rfl 0 rfl ?_
        refine zj_get (k := 2) C (by omega) hR rfl (by decide) fw_R fl_R_18 rfl rfl dc_R_holds_36 ?_
        refine zj_iload_n C dc_R_holds_39 rfl 1 rfl ?_
        refine zj_iconst (v := 1) C dc_R_holds_40 (by decide) ?_
        refine zj_isub C dc_R_holds_41 ?_
        refine zj_topi (zn_m1 (by omega)) ?_
        refine zj_iald C (by omega) he0 rfl (by omega) (by decide) dc_R_holds_42 ?_
        refine zj_aload_n C dc_R_holds_43 rfl 0 rfl ?_
        refine zj_get (k := 3) C (by omega) hR rfl (by decide) fw_R fl_R_21 rfl rfl dc_R_holds_44 ?_
        refine zj_icmp_le C dc_R_holds_47 rfl (fun a4 => ?_) (fun a4 => ?_)
        · skip
          refine zj_iconst (v := 0) C dc_R_holds_54 (by decide) ?_
          exact zj_zret C dc_R_holds_55 rfl ⟨by simp_all, rfl⟩
        · skip
          refine zj_iconst (v := 1) C dc_R_holds_50 (by decide) ?_
          refine zj_goto C dc_R_holds_51 rfl ?_
          exact zj_zret C dc_R_holds_55 rfl ⟨by simp_all, rfl⟩
  · skip
    refine zj_iconst (v := 0) C dc_R_holds_13 (by decide) ?_
    exact zj_zret C dc_R_holds_14 rfl ⟨by rw [if_neg (fun h => a1 h.1)], rfl⟩
set_option maxHeartbeats 4000000 in
set_option maxRecDepth 100000 in
theorem ct_R_staying (l : Launch) (hst : l.stackTraces = false) (z : zv_T) (ad : Nat → Nat) (N : Nat) (g : Nat → va_E) (hN : 105 ≤ N) (hh ee mo lo : Nat) (wt hr bh : Nat → Int32) (hs : zs_R z ad g hh ee mo lo wt hr bh) (s : Nat) (hs2 : 2 ≤ s) (hs12 : s ≤ 12) (x : Int) (hx : hr s = zi_I x) (hx1 : -7 ≤ x) (hx2 : x ≤ 100000) : zm_i l mn_R_staying ws_R_staying rm_R_staying z ad N g [.ref (ad 101), .int (nI s)] (fun r g1 => r = zi_I ((x + 15) / 16 * 16 - x) ∧ g1 = g) := by
  obtain ⟨hR, hw0, hh0, he0, hhe⟩ := hs
  refine zm_ofi hst pn_R_staying rfl (Nat.le_of_ble_eq_true rfl) (fun X hX C => ?_)
  subst hX
  show zj_J X 0 0 _ ad N g 0 [(0, .ref (ad 101)), (1, .int (nI s))] []
  refine zj_aload_n C dc_R_staying_0 rfl 0 rfl ?_
  refine zj_get (k := 1) C (by omega) hR rfl (by decide) fw_R fl_R_15 rfl rfl dc_R_staying_1 ?_
  refine zj_iload_n C dc_R_staying_4 rfl 1 rfl ?_
  refine zj_iald C (by omega) hh0 rfl (by omega) (by decide) dc_R_staying_5 ?_
  refine zj_topi (hx) ?_
  refine zj_bipush (v := 16) C dc_R_staying_6 (by decide) ?_
  refine zj_iadd C dc_R_staying_8 ?_
  refine zj_topi (zi_16 _) ?_
  refine zj_iconst (v := 1) C dc_R_staying_9 (by decide) ?_
  refine zj_isub C dc_R_staying_10 ?_
  refine zj_topi (show zi_I (x + 16) - zi_I 1 = zi_I (x + 15) from (zi_sub _ _).trans (congrArg zi_I (by omega))) ?_
  refine zj_bipush (v := 16) C dc_R_staying_11 (by decide) ?_
  refine zj_idiv C dc_R_staying_13 (by decide) ?_
  refine zj_topi (zi_div16 (by omega) (by omega)) ?_
  refine zj_istore_n C dc_R_staying_14 rfl (by decide) rfl ?_
  refine zj_iload_n C dc_R_staying_15 rfl 0 rfl ?_
  refine zj_bipush (v := 16) C dc_R_staying_16 (by decide) ?_
  refine zj_imul C dc_R_staying_18 ?_
  refine zj_topi (show zi_I ((x + 15) / 16) * zi_I 16 = zi_I ((x + 15) / 16 * 16) from zi_mul _ _) ?_
  refine zj_aload_n C dc_R_staying_19 rfl 1 rfl ?_
  refine zj_get (k := 1) C (by omega) hR rfl (by decide) fw_R fl_R_15 rfl rfl dc_R_staying_20 ?_
  refine zj_iload_n C dc_R_staying_23 rfl 2 rfl ?_
  refine zj_iald C (by omega) hh0 rfl (by omega) (by decide) dc_R_staying_24 ?_
  refine zj_topi (hx) ?_
  refine zj_isub C dc_R_staying_25 ?_
  refine zj_topi (zi_sub _ _) ?_
  exact zj_iret C dc_R_staying_26 ⟨rfl, rfl⟩
end ZR
end
section
section ZW
/-- m leading places have e, of lim at most -/
def zp_ld (e : Nat → Bool) (lim m : Nat) : Prop := m ≤ lim ∧ (∀ t, t < m → e t = true) ∧ (m < lim → e m = false)
theorem zp_ld_ge {e : Nat → Bool} {lim m n : Nat} (h : zp_ld e lim m) : n ≤ m ↔ n ≤ lim ∧ ∀ t, t < n → e t = true := by
  constructor
  · intro hn
    exact ⟨Nat.le_trans hn h.1, fun t ht => h.2.1 t (by omega)⟩
  · intro ⟨h1, h2⟩
    rcases Nat.lt_or_ge m n with c | c
    · have h3 := h.2.2 (by omega)
      rw [h2 m c] at h3
      cases h3
    · exact c
/-- the search for repeats, at the cells 105, 106 -/
def zs_W (z : zv_T) (ad : Nat → Nat) (g : Nat → va_E) (a1 a2 a3 : Int32) (cm : Nat → Int32) : Prop := g 105 = ze_o 4 [.ref (ad 106), .int a1, .int a2, .int a3] ∧ g 106 = ze_i z 19 cm
/-- the steps from a place on are those from another one on -/
def zp_es (p : Nat → Int32) (a b : Nat) : Nat → Bool := fun t => decide (p (a + t + 1) - p (a + t) = p (b + t + 1) - p (b + t))
theorem zn_max {a b : Nat} (ha : a < 2 ^ 31) (hb : b < 2 ^ 31) : (if nI a < nI b then nI b else nI a) = nI (if a < b then b else a) := by
  by_cases c : a < b
  · rw [if_pos c, if_pos ((nI_ltI ha hb).mpr c)]
  · rw [if_neg c, if_neg (fun h => c ((nI_ltI ha hb).mp h))]
set_option maxHeartbeats 4000000 in
set_option maxRecDepth 100000 in
theorem ct_W_compare (l : Launch) (hst : l.stackTraces = false) (z : zv_T) (ad : Nat → Nat) (N : Nat) (g : Nat → va_E) (ni c : Nat) (p q : Nat → Int32) (hn : zs_N z ad g ni 20 c p q) (hni : ni + 2 < 66) (hc : c ≤ 20) (hN : 107 ≤ N) (a1 a2 a3 : Int32) (cm : Nat → Int32) (hs : zs_W z ad g a1 a2 a3 cm) (fr : Nat) (hfr0 : fr < c - 1) : zm_v l mn_W_compare ws_W_compare rm_W_compare z ad N g [.ref (ad 105), .ref (ad ni), .int (nI fr)] (fun g1 => ∃ m2, g1 106 = ze_i z 19 m2 ∧ (∀ k, k < c - 1 → ∃ m, m2 k = nI m ∧ zp_ld (zp_es p fr k) (c - 1 - (if fr < k then k else fr)) m) ∧ ∀ j, j ≠ 106 → g1 j = g j) := by
  obtain ⟨hW, hm0⟩ := hs
  obtain ⟨hn0, hn1, hn2⟩ := hn
  refine zm_ofv hst pn_W_compare rfl (Nat.le_of_ble_eq_true rfl) (fun X hX C => ?_)
  subst hX
  show zj_J X 0 0 _ ad N g 0 [(0, .ref (ad 105)), (1, .ref (ad ni)), (2, .int (nI fr))] []
  have inner : ∀ (n : Nat) (t k : Nat) (g2 : Nat → va_E), (c - 1 - (if fr < k then k else fr)) - t = n → k < c - 1 → t ≤ (c - 1 - (if fr < k then k else fr)) → (∀ j, j ≠ 106 → g2 j = g j) → (∀ u, u < t → zp_es p fr k u = true) → (∀ m, zp_ld (zp_es p fr k) (c - 1 - (if fr < k then k else fr)) m → zj_J X 0 0 (zj_Qv X 0 0 ad N (fun g1 => ∃ m2, g1 106 = ze_i z 19 m2 ∧ (∀ k, k < c - 1 → ∃ m, m2 k = nI m ∧ zp_ld (zp_es p fr k) (c - 1 - (if fr < k then k else fr)) m) ∧ ∀ j, j ≠ 106 → g1 j = g j)) ad N g2 57 [(5, .int (nI m)), (4, .int (nI (c - 1 - (if fr < k then k else fr)))), (3, .int (nI k)), (0, .ref (ad 105)), (1, .ref (ad ni)), (2, .int (nI fr))] []) → zj_J X 0 0 (zj_Qv X 0 0 ad N (fun g1 => ∃ m2, g1 106 = ze_i z 19 m2 ∧ (∀ k, k < c - 1 → ∃ m, m2 k = nI m ∧ zp_ld (zp_es p fr k) (c - 1 - (if fr < k then k else fr)) m) ∧ ∀ j, j ≠ 106 → g1 j = g j)) ad N g2 25 [(5, .int (nI t)), (4, .int (nI (c - 1 - (if fr < k then k else fr)))), (3, .int (nI k)), (0, .ref (ad 105)), (1, .ref (ad ni)), (2, .int (nI fr))] [] := by
    intro n
    induction n with
    | zero =>
      intro t k g2 e1 e2 e3 hfr e4 K
      have hx1 : fr ≤ (if fr < k then k else fr) := by split <;> omega
      have hx2 : k ≤ (if fr < k then k else fr) := by split <;> omega
      have hx3 : (if fr < k then k else fr) < c - 1 := by split <;> omega
      refine zj_iload C dc_W_compare_25 0 rfl ?_
      refine zj_iload C dc_W_compare_27 1 rfl ?_
      refine zj_icmp_ge C dc_W_compare_29 rfl (fun _ => ?_) (fun h => absurd h (not_not_intro ((nI_leI (by omega) (by omega)).mpr (by omega))))
      refine zj_loc [0, 1, 2, 3, 4, 5] rfl ?_
      exact K t ⟨by omega, e4, fun h => by first | omega | exact decide_eq_false h48⟩
    | succ n ih =>
      intro t k g2 e1 e2 e3 hfr e4 K
      have hx1 : fr ≤ (if fr < k then k else fr) := by split <;> omega
      have hx2 : k ≤ (if fr < k then k else fr) := by split <;> omega
      have hx3 : (if fr < k then k else fr) < c - 1 := by split <;> omega
      refine zj_iload C dc_W_compare_25 0 rfl ?_
      refine zj_iload C dc_W_compare_27 1 rfl ?_
      refine zj_icmp_ge C dc_W_compare_29 rfl (fun h => absurd h (((zn_nle (by omega) (by omega)).mpr (by omega)))) (fun _ => ?_)
      refine zj_aload_n C dc_W_compare_32 rfl 4 rfl ?_
      refine zj_iload_n C dc_W_compare_33 rfl 5 rfl ?_
      refine zj_iload C dc_W_compare_34 0 rfl ?_
      refine zj_iadd C dc_W_compare_36 ?_
      refine zj_topi (nI_add _ _) ?_
      refine zj_Vi C (ct_N_stepBehind _ hst z ad N g2 ni 20 c p q (by omega) ⟨((hfr ni (by omega)).trans hn0), ((hfr (ni + 1) (by omega)).trans hn1), ((hfr (ni + 2) (by omega)).trans hn2)⟩ (by decide) (fr + t) (by omega)) gv_W_45 rfl rfl rfl hd_N_stepBehind ⟨(Nat.le_of_ble_eq_true rfl), (Nat.le_of_ble_eq_true rfl)⟩ (by omega) ((hfr ni (by omega)).trans hn0) rfl rfl rfl (Nat.le_of_ble_eq_true rfl) ⟨(Nat.le_of_ble_eq_true rfl), (Nat.le_of_ble_eq_true rfl)⟩ dc_W_compare_37 (fun r1 g9 h1 => ?_)
      obtain ⟨rfl, hg9⟩ := h1
      rw [hg9]
      refine zj_aload_n C dc_W_compare_40 rfl 4 rfl ?_
      refine zj_iload_n C dc_W_compare_41 rfl 2 rfl ?_
      refine zj_iload C dc_W_compare_42 0 rfl ?_
      refine zj_iadd C dc_W_compare_44 ?_
      refine zj_topi (nI_add _ _) ?_
      refine zj_Vi C (ct_N_stepBehind _ hst z ad N g2 ni 20 c p q (by omega) ⟨((hfr ni (by omega)).trans hn0), ((hfr (ni + 1) (by omega)).trans hn1), ((hfr (ni + 2) (by omega)).trans hn2)⟩ (by decide) (k + t) (by omega)) gv_W_45 rfl rfl rfl hd_N_stepBehind ⟨(Nat.le_of_ble_eq_true rfl), (Nat.le_of_ble_eq_true rfl)⟩ (by omega) ((hfr ni (by omega)).trans hn0) rfl rfl rfl (Nat.le_of_ble_eq_true rfl) ⟨(Nat.le_of_ble_eq_true rfl), (Nat.le_of_ble_eq_true rfl)⟩ dc_W_compare_45 (fun r2 g9 h1 => ?_)
      obtain ⟨rfl, hg9⟩ := h1
      rw [hg9]
      refine zj_icmp_ne C dc_W_compare_48 rfl (fun h48 => ?_) (fun h48 => ?_)
      · skip
        refine zj_loc [0, 1, 2, 3, 4, 5] rfl ?_
        exact K t ⟨by omega, e4, fun h => by first | omega | exact decide_eq_false h48⟩
      · skip
        refine zj_iinc C dc_W_compare_51 0 rfl (zn_inc t) (by decide) rfl ?_
        refine zj_goto C dc_W_compare_54 rfl ?_
        refine zj_loc (L' := [(5, .int (nI (t + 1))), (4, .int (nI (c - 1 - (if fr < k then k else fr)))), (3, .int (nI k)), (0, .ref (ad 105)), (1, .ref (ad ni)), (2, .int (nI fr))]) [0, 1, 2, 3, 4, 5] rfl ?_
        exact ih (t + 1) k g2 (by omega) e2 (by omega) hfr (fun u hu => if c9 : u = t then (by rw [c9]; exact decide_eq_true h48) else e4 u (by omega)) K
  have outer : ∀ (n : Nat) (k : Nat) (g2 : Nat → va_E) (m2 : Nat → Int32), c - 1 - k = n → k ≤ c - 1 → g2 106 = ze_i z 19 m2 → (∀ j, j ≠ 106 → g2 j = g j) → (∀ i, i < k → ∃ m, m2 i = nI m ∧ zp_ld (zp_es p fr i) (c - 1 - (if fr < i then i else fr)) m) → zj_J X 0 0 (zj_Qv X 0 0 ad N (fun g1 => ∃ m2, g1 106 = ze_i z 19 m2 ∧ (∀ k, k < c - 1 → ∃ m, m2 k = nI m ∧ zp_ld (zp_es p fr k) (c - 1 - (if fr < k then k else fr)) m) ∧ ∀ j, j ≠ 106 → g1 j = g j)) ad N g2 2 [(3, .int (nI k)), (0, .ref (ad 105)), (1, .ref (ad ni)), (2, .int (nI fr))] [] := by
    intro n
    induction n with
    | zero =>
      intro k g2 m2 e1 e2 hm2 hfr e3
      refine zj_iload_n C dc_W_compare_2 rfl 0 rfl ?_
      refine zj_aload_n C dc_W_compare_3 rfl 2 rfl ?_
      refine zj_Vi C (ct_N_steps _ hst z ad N g2 ni 20 c p q (by omega) ⟨((hfr ni (by omega)).trans hn0), ((hfr (ni + 1) (by omega)).trans hn1), ((hfr (ni + 2) (by omega)).trans hn2)⟩ (by decide) (by omega)) gv_W_15 rfl rfl rfl hd_N_steps ⟨(Nat.le_of_ble_eq_true rfl), (Nat.le_of_ble_eq_true rfl)⟩ (by omega) ((hfr ni (by omega)).trans hn0) rfl rfl rfl (Nat.le_of_ble_eq_true rfl) ⟨(Nat.le_of_ble_eq_true rfl), (Nat.le_of_ble_eq_true rfl)⟩ dc_W_compare_4 (fun r1 g9 h1 => ?_)
      obtain ⟨rfl, hg9⟩ := h1
      rw [hg9]
      refine zj_icmp_ge C dc_W_compare_7 rfl (fun _ => ?_) (fun h => absurd h (not_not_intro ((nI_leI (by omega) (by omega)).mpr (by omega))))
      exact zj_vret C dc_W_compare_71 ⟨m2, hm2, fun i hi => e3 i (by omega), hfr⟩
    | succ n ih =>
      intro k g2 m2 e1 e2 hm2 hfr e3
      refine zj_iload_n C dc_W_compare_2 rfl 0 rfl ?_
      refine zj_aload_n C dc_W_compare_3 rfl 2 rfl ?_
      refine zj_Vi C (ct_N_steps _ hst z ad N g2 ni 20 c p q (by omega) ⟨((hfr ni (by omega)).trans hn0), ((hfr (ni + 1) (by omega)).trans hn1), ((hfr (ni + 2) (by omega)).trans hn2)⟩ (by decide) (by omega)) gv_W_15 rfl rfl rfl hd_N_steps ⟨(Nat.le_of_ble_eq_true rfl), (Nat.le_of_ble_eq_true rfl)⟩ (by omega) ((hfr ni (by omega)).trans hn0) rfl rfl rfl (Nat.le_of_ble_eq_true rfl) ⟨(Nat.le_of_ble_eq_true rfl), (Nat.le_of_ble_eq_true rfl)⟩ dc_W_compare_4 (fun r1 g9 h1 => ?_)
      obtain ⟨rfl, hg9⟩ := h1
      rw [hg9]
      refine zj_icmp_ge C dc_W_compare_7 rfl (fun h => absurd h (((zn_nle (by omega) (by omega)).mpr (by omega)))) (fun _ => ?_)
      refine zj_aload_n C dc_W_compare_10 rfl 2 rfl ?_
      refine zj_Vi C (ct_N_steps _ hst z ad N g2 ni 20 c p q (by omega) ⟨((hfr ni (by omega)).trans hn0), ((hfr (ni + 1) (by omega)).trans hn1), ((hfr (ni + 2) (by omega)).trans hn2)⟩ (by decide) (by omega)) gv_W_15 rfl rfl rfl hd_N_steps ⟨(Nat.le_of_ble_eq_true rfl), (Nat.le_of_ble_eq_true rfl)⟩ (by omega) ((hfr ni (by omega)).trans hn0) rfl rfl rfl (Nat.le_of_ble_eq_true rfl) ⟨(Nat.le_of_ble_eq_true rfl), (Nat.le_of_ble_eq_true rfl)⟩ dc_W_compare_11 (fun r2 g9 h1 => ?_)
      obtain ⟨rfl, hg9⟩ := h1
      rw [hg9]
      refine zj_iload_n C dc_W_compare_14 rfl 3 rfl ?_
      refine zj_iload_n C dc_W_compare_15 rfl 0 rfl ?_
      refine zj_mmax C ml_W_39 sm_Math_max ini_Math wk_Math_max ⟨(Nat.le_of_ble_eq_true rfl), (Nat.le_of_ble_eq_true rfl)⟩ ⟨(Nat.le_of_ble_eq_true rfl), (Nat.le_of_ble_eq_true rfl)⟩ dc_W_compare_16 ?_
      refine zj_topi (zn_max (by omega) (by omega)) ?_
      refine zj_isub C dc_W_compare_19 ?_
      refine zj_topi (pk_sub (by split <;> omega)) ?_
      refine zj_istore C dc_W_compare_20 (by decide) rfl ?_
      refine zj_iconst (v := 0) C dc_W_compare_22 (by decide) ?_
      refine zj_istore C dc_W_compare_23 (by decide) rfl ?_
      refine zj_loc (L' := [(5, .int (nI 0)), (4, .int (nI (c - 1 - (if fr < k then k else fr)))), (3, .int (nI k)), (0, .ref (ad 105)), (1, .ref (ad ni)), (2, .int (nI fr))]) [0, 1, 2, 3, 4, 5] rfl ?_
      refine inner (c - 1 - (if fr < k then k else fr)) 0 k g2 rfl (by omega) (by omega) hfr (fun u hu => by omega) (fun m hm => ?_)
      refine zj_aload_n C dc_W_compare_57 rfl 3 rfl ?_
      refine zj_get (k := 0) C (by omega) ((hfr 105 (by omega)).trans hW) rfl (by decide) fw_W fl_W_9 rfl rfl dc_W_compare_58 ?_
      refine zj_iload_n C dc_W_compare_61 rfl 2 rfl ?_
      refine zj_iload C dc_W_compare_62 0 rfl ?_
      refine zj_iast C (by omega) hm2 rfl (by omega) (by decide) dc_W_compare_64 ?_
      refine zj_iinc C dc_W_compare_65 2 rfl (zn_inc k) (by decide) rfl ?_
      refine zj_goto C dc_W_compare_68 rfl ?_
      refine zj_loc (L' := [(3, .int (nI (k + 1))), (0, .ref (ad 105)), (1, .ref (ad ni)), (2, .int (nI fr))]) [0, 3, 4, 5] rfl ?_
      exact ih (k + 1) _ _ (by omega) (by omega) (va_up_self _ _ _) (fun j hj => by rw [va_up_ne _ _ hj]; exact hfr j hj) (fun i hi => if c9 : i = k then ⟨m, by simp only [upd, if_pos c9], by rw [c9]; exact hm⟩ else (by simp only [upd, if_neg c9]; exact e3 i (by omega)))
  refine zj_iconst (v := 0) C dc_W_compare_0 (by decide) ?_
  refine zj_istore_n C dc_W_compare_1 rfl (by decide) rfl ?_
  refine zj_loc [0, 1, 2, 3] rfl ?_
  exact outer (c - 1) 0 g cm rfl (by omega) hm0 (fun j hj => rfl) (fun i hi => by omega)
/-- a boolean as an int -/
def zb_i (b : Bool) : Int32 := if b then 1 else 0
theorem zb_i0 {b : Bool} (h : zb_i b = 0) : b = false := by
  cases b
  · rfl
  · exact absurd h (by decide)
theorem zb_i1 {b : Bool} (h : ¬ zb_i b = 0) : b = true := by
  cases b
  · exact absurd rfl h
  · rfl
/-- the places of a repeat, taken one after another: how many, whether all have the same before, whether all have the same behind; none: there is one ahead of the first -/
def zp_fold (occ bf bh : Nat → Bool) (fr : Nat) (b0 : Bool) : Nat → Option (Nat × Bool × Bool)
  | 0 => some (0, b0, true)
  | k + 1 => match zp_fold occ bf bh fr b0 k with
    | none => none
    | some (n, a, b) => if occ k then (if k < fr then none else some (n + 1, a && bf k, b && bh k)) else some (n, a, b)
def zp_pres : Option (Nat × Bool × Bool) → Nat
  | none => 0
  | some (n, a, b) => if n < 2 ∨ a = true ∨ b = true then 0 else n
theorem zp_foldS {occ bf bh : Nat → Bool} {fr k n : Nat} {b0 a b : Bool} (h : zp_fold occ bf bh fr b0 k = some (n, a, b)) : zp_fold occ bf bh fr b0 (k + 1) = if occ k then (if k < fr then none else some (n + 1, a && bf k, b && bh k)) else some (n, a, b) := by
  show (match zp_fold occ bf bh fr b0 k with | none => none | some (n, a, b) => _) = _
  rw [h]
theorem zp_fold_none {occ bf bh : Nat → Bool} {fr k : Nat} {b0 : Bool} (h : zp_fold occ bf bh fr b0 k = none) : ∀ d, zp_fold occ bf bh fr b0 (k + d) = none := by
  intro d
  induction d with
  | zero => exact h
  | succ d ih =>
    show (match zp_fold occ bf bh fr b0 (k + d) with | none => none | some (n, a, b) => _) = _
    rw [ih]
set_option maxHeartbeats 4000000 in
set_option maxRecDepth 100000 in
theorem ct_W_placesOfRepeat (l : Launch) (hst : l.stackTraces = false) (z : zv_T) (ad : Nat → Nat) (N : Nat) (g : Nat → va_E) (ni c : Nat) (p q : Nat → Int32) (hn : zs_N z ad g ni 20 c p q) (hni : ni + 2 < 66) (hc : c ≤ 20) (hN : 107 ≤ N) (a1 a2 a3 : Int32) (cm : Nat → Int32) (hs : zs_W z ad g a1 a2 a3 cm) (fr st : Nat) (mm : Nat → Nat) (hm : ∀ k, k < c - 1 → cm k = nI (mm k) ∧ mm k ≤ 19) (hfr : fr < c - 1) (hst2 : st ≤ 19) : zm_i l mn_W_placesOfRepeat ws_W_placesOfRepeat rm_W_placesOfRepeat z ad N g [.ref (ad 105), .ref (ad ni), .int (nI fr), .int (nI st)] (fun r g1 => r = nI (zp_pres (zp_fold (fun k => decide (st ≤ mm k)) (fun k => decide (p (k - 1 + 1) - p (k - 1) = p (fr - 1 + 1) - p (fr - 1))) (fun k => decide (st < mm k)) fr (decide (0 < fr)) (c - 1))) ∧ g1 = g) := by
  obtain ⟨hW, hm0⟩ := hs
  obtain ⟨hn0, hn1, hn2⟩ := hn
  refine zm_ofi hst pn_W_placesOfRepeat rfl (Nat.le_of_ble_eq_true rfl) (fun X hX C => ?_)
  subst hX
  show zj_J X 0 0 _ ad N g 0 [(0, .ref (ad 105)), (1, .ref (ad ni)), (2, .int (nI fr)), (3, .int (nI st))] []
  have loop : ∀ (n : Nat) (k n9 : Nat) (a b : Bool), c - 1 - k = n → k ≤ c - 1 → zp_fold (fun k => decide (st ≤ mm k)) (fun k => decide (p (k - 1 + 1) - p (k - 1) = p (fr - 1 + 1) - p (fr - 1))) (fun k => decide (st < mm k)) fr (decide (0 < fr)) k = some (n9, a, b) → (a = true → 0 < fr) → n9 ≤ k → zj_J X 0 0 (zj_Qi X 0 0 ad N (fun r g1 => r = nI (zp_pres (zp_fold (fun k => decide (st ≤ mm k)) (fun k => decide (p (k - 1 + 1) - p (k - 1) = p (fr - 1 + 1) - p (fr - 1))) (fun k => decide (st < mm k)) fr (decide (0 < fr)) (c - 1))) ∧ g1 = g)) ad N g 20 [(7, .int (nI k)), (6, .int (zb_i b)), (5, .int (zb_i a)), (4, .int (nI n9)), (0, .ref (ad 105)), (1, .ref (ad ni)), (2, .int (nI fr)), (3, .int (nI st))] [] := by
    intro n
    induction n with
    | zero =>
      intro k n9 a b e1 e2 e3 e4 e5
      refine zj_iload C dc_W_placesOfRepeat_20 0 rfl ?_
      refine zj_aload_n C dc_W_placesOfRepeat_22 rfl 5 rfl ?_
      refine zj_Vi C (ct_N_steps _ hst z ad N g ni 20 c p q (by omega) ⟨hn0, hn1, hn2⟩ (by decide) (by omega)) gv_W_15 rfl rfl rfl hd_N_steps ⟨(Nat.le_of_ble_eq_true rfl), (Nat.le_of_ble_eq_true rfl)⟩ (by omega) hn0 rfl rfl rfl (Nat.le_of_ble_eq_true rfl) ⟨(Nat.le_of_ble_eq_true rfl), (Nat.le_of_ble_eq_true rfl)⟩ dc_W_placesOfRepeat_23 (fun r1 g9 h1 => ?_)
      obtain ⟨rfl, hg9⟩ := h1
      rw [hg9]
      refine zj_icmp_ge C dc_W_placesOfRepeat_26 rfl (fun _ => ?_) (fun h => absurd h (not_not_intro ((nI_leI (by omega) (by omega)).mpr (by omega))))
      refine zj_iload C dc_W_placesOfRepeat_110 3 rfl ?_
      refine zj_iconst (v := 2) C dc_W_placesOfRepeat_112 (by decide) ?_
      refine zj_icmp_lt C dc_W_placesOfRepeat_113 rfl (fun h113 => ?_) (fun h113 => ?_)
      · have h113 := (nI_ltI (b := 2) (by omega) (by omega)).mp h113
        refine zj_iconst (v := 0) C dc_W_placesOfRepeat_131 (by decide) ?_
        exact zj_iret C dc_W_placesOfRepeat_132 ⟨by rw [show c - 1 = k by omega, e3]; show _ = nI (if _ then _ else _); rw [if_pos (Or.inl h113)]; rfl, rfl⟩
      · have h113 := (zn_nlt (b := 2) (by omega) (by omega)).mp h113
        refine zj_iload C dc_W_placesOfRepeat_116 2 rfl ?_
        refine zj_if_ne C dc_W_placesOfRepeat_118 rfl (fun h118 => ?_) (fun h118 => ?_)
        · obtain rfl : a = true := zb_i1 h118
          refine zj_iconst (v := 0) C dc_W_placesOfRepeat_131 (by decide) ?_
          exact zj_iret C dc_W_placesOfRepeat_132 ⟨by rw [show c - 1 = k by omega, e3]; show _ = nI (if _ then _ else _); rw [if_pos (Or.inr (Or.inl rfl))]; rfl, rfl⟩
        · obtain rfl : a = false := zb_i0 h118
          refine zj_iload C dc_W_placesOfRepeat_121 1 rfl ?_
          refine zj_if_ne C dc_W_placesOfRepeat_123 rfl (fun h123 => ?_) (fun h123 => ?_)
          · obtain rfl : b = true := zb_i1 h123
            refine zj_iconst (v := 0) C dc_W_placesOfRepeat_131 (by decide) ?_
            exact zj_iret C dc_W_placesOfRepeat_132 ⟨by rw [show c - 1 = k by omega, e3]; show _ = nI (if _ then _ else _); rw [if_pos (Or.inr (Or.inr rfl))]; rfl, rfl⟩
          · obtain rfl : b = false := zb_i0 h123
            refine zj_iload C dc_W_placesOfRepeat_126 3 rfl ?_
            refine zj_goto C dc_W_placesOfRepeat_128 rfl ?_
            exact zj_iret C dc_W_placesOfRepeat_132 ⟨by rw [show c - 1 = k by omega, e3]; show _ = nI (if _ then _ else _); rw [if_neg (by simp; omega)], rfl⟩
    | succ n ih =>
      intro k n9 a b e1 e2 e3 e4 e5
      refine zj_iload C dc_W_placesOfRepeat_20 0 rfl ?_
      refine zj_aload_n C dc_W_placesOfRepeat_22 rfl 5 rfl ?_
      refine zj_Vi C (ct_N_steps _ hst z ad N g ni 20 c p q (by omega) ⟨hn0, hn1, hn2⟩ (by decide) (by omega)) gv_W_15 rfl rfl rfl hd_N_steps ⟨(Nat.le_of_ble_eq_true rfl), (Nat.le_of_ble_eq_true rfl)⟩ (by omega) hn0 rfl rfl rfl (Nat.le_of_ble_eq_true rfl) ⟨(Nat.le_of_ble_eq_true rfl), (Nat.le_of_ble_eq_true rfl)⟩ dc_W_placesOfRepeat_23 (fun r1 g9 h1 => ?_)
      obtain ⟨rfl, hg9⟩ := h1
      rw [hg9]
      refine zj_icmp_ge C dc_W_placesOfRepeat_26 rfl (fun h => absurd h (((zn_nle (by omega) (by omega)).mpr (by omega)))) (fun _ => ?_)
      refine zj_aload_n C dc_W_placesOfRepeat_29 rfl 4 rfl ?_
      refine zj_get (k := 0) C (by omega) hW rfl (by decide) fw_W fl_W_9 rfl rfl dc_W_placesOfRepeat_30 ?_
      refine zj_iload C dc_W_placesOfRepeat_33 0 rfl ?_
      refine zj_iald C (by omega) hm0 rfl (by omega) (by decide) dc_W_placesOfRepeat_35 ?_
      refine zj_topi ((hm k (by omega)).1) ?_
      refine zj_iload_n C dc_W_placesOfRepeat_36 rfl 7 rfl ?_
      refine zj_icmp_lt C dc_W_placesOfRepeat_37 rfl (fun h37 => ?_) (fun h37 => ?_)
      · have h37 := (nI_ltI (by have := (hm k (by omega)).2; omega) (by omega)).mp h37
        refine zj_iinc C dc_W_placesOfRepeat_104 0 rfl (zn_inc k) (by decide) rfl ?_
        refine zj_goto C dc_W_placesOfRepeat_107 rfl ?_
        refine zj_loc (L' := [(7, .int (nI (k + 1))), (6, .int (zb_i b)), (5, .int (zb_i a)), (4, .int (nI n9)), (0, .ref (ad 105)), (1, .ref (ad ni)), (2, .int (nI fr)), (3, .int (nI st))]) [0, 1, 2, 3, 4, 5, 6, 7] rfl ?_
        exact ih (k + 1) n9 a b (by omega) (by omega) (by rw [zp_foldS e3]; rw [if_neg (by rw [decide_eq_false (Nat.not_le.mpr h37)]; exact Bool.false_ne_true)]) e4 (by omega)
      · have h37 := (zn_nlt (by have := (hm k (by omega)).2; omega) (by omega)).mp h37
        refine zj_iload C dc_W_placesOfRepeat_40 0 rfl ?_
        refine zj_iload_n C dc_W_placesOfRepeat_42 rfl 6 rfl ?_
        refine zj_icmp_ge C dc_W_placesOfRepeat_43 rfl (fun h43 => ?_) (fun h43 => ?_)
        · have h43 := (nI_leI (by omega) (by omega)).mp h43
          refine zj_iinc C dc_W_placesOfRepeat_48 3 rfl (zn_inc n9) (by decide) rfl ?_
          refine zj_iload C dc_W_placesOfRepeat_51 3 rfl ?_
          refine zj_if_eq C dc_W_placesOfRepeat_53 rfl (fun h53 => ?_) (fun h53 => ?_)
          · obtain rfl : a = false := zb_i0 h53
            refine zj_iconst (v := 0) C dc_W_placesOfRepeat_78 (by decide) ?_
            refine zj_istore C dc_W_placesOfRepeat_79 (by decide) rfl ?_
            refine zj_iload C dc_W_placesOfRepeat_81 3 rfl ?_
            refine zj_if_eq C dc_W_placesOfRepeat_83 rfl (fun h83 => ?_) (fun h83 => ?_)
            · obtain rfl : b = false := zb_i0 h83
              refine zj_iconst (v := 0) C dc_W_placesOfRepeat_101 (by decide) ?_
              refine zj_istore C dc_W_placesOfRepeat_102 (by decide) rfl ?_
              refine zj_iinc C dc_W_placesOfRepeat_104 3 rfl (zn_inc k) (by decide) rfl ?_
              refine zj_goto C dc_W_placesOfRepeat_107 rfl ?_
              refine zj_loc (L' := [(7, .int (nI (k + 1))), (6, .int (zb_i false)), (5, .int (zb_i false)), (4, .int (nI (n9 + 1))), (0, .ref (ad 105)), (1, .ref (ad ni)), (2, .int (nI fr)), (3, .int (nI st))]) [0, 1, 2, 3, 4, 5, 6, 7] rfl ?_
              exact ih (k + 1) (n9 + 1) false false (by omega) (by omega) (by rw [zp_foldS e3]; rw [if_pos (decide_eq_true h37), if_neg (show ¬ k < fr by omega)]; simp only [Bool.false_and, Bool.true_and]) (fun h => by cases h) (by omega)
            · obtain rfl : b = true := zb_i1 h83
              refine zj_aload_n C dc_W_placesOfRepeat_86 rfl 4 rfl ?_
              refine zj_get (k := 0) C (by omega) hW rfl (by decide) fw_W fl_W_9 rfl rfl dc_W_placesOfRepeat_87 ?_
              refine zj_iload C dc_W_placesOfRepeat_90 2 rfl ?_
              refine zj_iald C (by omega) hm0 rfl (by omega) (by decide) dc_W_placesOfRepeat_92 ?_
              refine zj_topi ((hm k (by omega)).1) ?_
              refine zj_iload_n C dc_W_placesOfRepeat_93 rfl 7 rfl ?_
              refine zj_icmp_le C dc_W_placesOfRepeat_94 rfl (fun h94 => ?_) (fun h94 => ?_)
              · have h94 := (nI_leI (by have := (hm k (by omega)).2; omega) (by omega)).mp h94
                refine zj_iconst (v := 0) C dc_W_placesOfRepeat_101 (by decide) ?_
                refine zj_istore C dc_W_placesOfRepeat_102 (by decide) rfl ?_
                refine zj_iinc C dc_W_placesOfRepeat_104 3 rfl (zn_inc k) (by decide) rfl ?_
                refine zj_goto C dc_W_placesOfRepeat_107 rfl ?_
                refine zj_loc (L' := [(7, .int (nI (k + 1))), (6, .int (zb_i false)), (5, .int (zb_i false)), (4, .int (nI (n9 + 1))), (0, .ref (ad 105)), (1, .ref (ad ni)), (2, .int (nI fr)), (3, .int (nI st))]) [0, 1, 2, 3, 4, 5, 6, 7] rfl ?_
                exact ih (k + 1) (n9 + 1) false false (by omega) (by omega) (by rw [zp_foldS e3]; rw [if_pos (decide_eq_true h37), if_neg (show ¬ k < fr by omega)]; simp only [Bool.false_and, Bool.true_and, decide_eq_false (Nat.not_lt.mpr h94)]) (fun h => by cases h) (by omega)
              · have h94 := (zn_nle (by have := (hm k (by omega)).2; omega) (by omega)).mp h94
                refine zj_iconst (v := 1) C dc_W_placesOfRepeat_97 (by decide) ?_
                refine zj_goto C dc_W_placesOfRepeat_98 rfl ?_
                refine zj_istore C dc_W_placesOfRepeat_102 (by decide) rfl ?_
                refine zj_iinc C dc_W_placesOfRepeat_104 3 rfl (zn_inc k) (by decide) rfl ?_
                refine zj_goto C dc_W_placesOfRepeat_107 rfl ?_
                refine zj_loc (L' := [(7, .int (nI (k + 1))), (6, .int (zb_i true)), (5, .int (zb_i false)), (4, .int (nI (n9 + 1))), (0, .ref (ad 105)), (1, .ref (ad ni)), (2, .int (nI fr)), (3, .int (nI st))]) [0, 1, 2, 3, 4, 5, 6, 7] rfl ?_
                exact ih (k + 1) (n9 + 1) false true (by omega) (by omega) (by rw [zp_foldS e3]; rw [if_pos (decide_eq_true h37), if_neg (show ¬ k < fr by omega)]; simp only [Bool.false_and, Bool.true_and, decide_eq_true h94]) (fun h => by cases h) (by omega)
          · obtain rfl : a = true := zb_i1 h53
            refine zj_aload_n C dc_W_placesOfRepeat_56 rfl 5 rfl ?_
            refine zj_iload C dc_W_placesOfRepeat_57 1 rfl ?_
            refine zj_iconst (v := 1) C dc_W_placesOfRepeat_59 (by decide) ?_
            refine zj_isub C dc_W_placesOfRepeat_60 ?_
            refine zj_topi (zn_m1 (by have := e4 rfl; omega)) ?_
            refine zj_Vi C (ct_N_stepBehind _ hst z ad N g ni 20 c p q (by omega) ⟨hn0, hn1, hn2⟩ (by decide) (k - 1) (by omega)) gv_W_45 rfl rfl rfl hd_N_stepBehind ⟨(Nat.le_of_ble_eq_true rfl), (Nat.le_of_ble_eq_true rfl)⟩ (by omega) hn0 rfl rfl rfl (Nat.le_of_ble_eq_true rfl) ⟨(Nat.le_of_ble_eq_true rfl), (Nat.le_of_ble_eq_true rfl)⟩ dc_W_placesOfRepeat_61 (fun r1 g9 h1 => ?_)
            obtain ⟨rfl, hg9⟩ := h1
            rw [hg9]
            refine zj_aload_n C dc_W_placesOfRepeat_64 rfl 5 rfl ?_
            refine zj_iload_n C dc_W_placesOfRepeat_65 rfl 6 rfl ?_
            refine zj_iconst (v := 1) C dc_W_placesOfRepeat_66 (by decide) ?_
            refine zj_isub C dc_W_placesOfRepeat_67 ?_
            refine zj_topi (zn_m1 (by have := e4 rfl; omega)) ?_
            refine zj_Vi C (ct_N_stepBehind _ hst z ad N g ni 20 c p q (by omega) ⟨hn0, hn1, hn2⟩ (by decide) (fr - 1) (by omega)) gv_W_45 rfl rfl rfl hd_N_stepBehind ⟨(Nat.le_of_ble_eq_true rfl), (Nat.le_of_ble_eq_true rfl)⟩ (by omega) hn0 rfl rfl rfl (Nat.le_of_ble_eq_true rfl) ⟨(Nat.le_of_ble_eq_true rfl), (Nat.le_of_ble_eq_true rfl)⟩ dc_W_placesOfRepeat_68 (fun r2 g9 h1 => ?_)
            obtain ⟨rfl, hg9⟩ := h1
            rw [hg9]
            refine zj_icmp_ne C dc_W_placesOfRepeat_71 rfl (fun h71 => ?_) (fun h71 => ?_)
            · skip
              refine zj_iconst (v := 0) C dc_W_placesOfRepeat_78 (by decide) ?_
              refine zj_istore C dc_W_placesOfRepeat_79 (by decide) rfl ?_
              refine zj_iload C dc_W_placesOfRepeat_81 3 rfl ?_
              refine zj_if_eq C dc_W_placesOfRepeat_83 rfl (fun h83 => ?_) (fun h83 => ?_)
              · obtain rfl : b = false := zb_i0 h83
                refine zj_iconst (v := 0) C dc_W_placesOfRepeat_101 (by decide) ?_
                refine zj_istore C dc_W_placesOfRepeat_102 (by decide) rfl ?_
                refine zj_iinc C dc_W_placesOfRepeat_104 3 rfl (zn_inc k) (by decide) rfl ?_
                refine zj_goto C dc_W_placesOfRepeat_107 rfl ?_
                refine zj_loc (L' := [(7, .int (nI (k + 1))), (6, .int (zb_i false)), (5, .int (zb_i false)), (4, .int (nI (n9 + 1))), (0, .ref (ad 105)), (1, .ref (ad ni)), (2, .int (nI fr)), (3, .int (nI st))]) [0, 1, 2, 3, 4, 5, 6, 7] rfl ?_
                exact ih (k + 1) (n9 + 1) false false (by omega) (by omega) (by rw [zp_foldS e3]; rw [if_pos (decide_eq_true h37), if_neg (show ¬ k < fr by omega)]; simp only [Bool.false_and, Bool.true_and, decide_eq_false h71]) (fun h => by cases h) (by omega)
              · obtain rfl : b = true := zb_i1 h83
                refine zj_aload_n C dc_W_placesOfRepeat_86 rfl 4 rfl ?_
                refine zj_get (k := 0) C (by omega) hW rfl (by decide) fw_W fl_W_9 rfl rfl dc_W_placesOfRepeat_87 ?_
                refine zj_iload C dc_W_placesOfRepeat_90 2 rfl ?_
                refine zj_iald C (by omega) hm0 rfl (by omega) (by decide) dc_W_placesOfRepeat_92 ?_
                refine zj_topi ((hm k (by omega)).1) ?_
                refine zj_iload_n C dc_W_placesOfRepeat_93 rfl 7 rfl ?_
                refine zj_icmp_le C dc_W_placesOfRepeat_94 rfl (fun h94 => ?_) (fun h94 => ?_)
                · have h94 := (nI_leI (by have := (hm k (by omega)).2; omega) (by omega)).mp h94
                  refine zj_iconst (v := 0) C dc_W_placesOfRepeat_101 (by decide) ?_
                  refine zj_istore C dc_W_placesOfRepeat_102 (by decide) rfl ?_
                  refine zj_iinc C dc_W_placesOfRepeat_104 3 rfl (zn_inc k) (by decide) rfl ?_
                  refine zj_goto C dc_W_placesOfRepeat_107 rfl ?_
                  refine zj_loc (L' := [(7, .int (nI (k + 1))), (6, .int (zb_i false)), (5, .int (zb_i false)), (4, .int (nI (n9 + 1))), (0, .ref (ad 105)), (1, .ref (ad ni)), (2, .int (nI fr)), (3, .int (nI st))]) [0, 1, 2, 3, 4, 5, 6, 7] rfl ?_
                  exact ih (k + 1) (n9 + 1) false false (by omega) (by omega) (by rw [zp_foldS e3]; rw [if_pos (decide_eq_true h37), if_neg (show ¬ k < fr by omega)]; simp only [Bool.false_and, Bool.true_and, decide_eq_false h71, decide_eq_false (Nat.not_lt.mpr h94)]) (fun h => by cases h) (by omega)
                · have h94 := (zn_nle (by have := (hm k (by omega)).2; omega) (by omega)).mp h94
                  refine zj_iconst (v := 1) C dc_W_placesOfRepeat_97 (by decide) ?_
                  refine zj_goto C dc_W_placesOfRepeat_98 rfl ?_
                  refine zj_istore C dc_W_placesOfRepeat_102 (by decide) rfl ?_
                  refine zj_iinc C dc_W_placesOfRepeat_104 3 rfl (zn_inc k) (by decide) rfl ?_
                  refine zj_goto C dc_W_placesOfRepeat_107 rfl ?_
                  refine zj_loc (L' := [(7, .int (nI (k + 1))), (6, .int (zb_i true)), (5, .int (zb_i false)), (4, .int (nI (n9 + 1))), (0, .ref (ad 105)), (1, .ref (ad ni)), (2, .int (nI fr)), (3, .int (nI st))]) [0, 1, 2, 3, 4, 5, 6, 7] rfl ?_
                  exact ih (k + 1) (n9 + 1) false true (by omega) (by omega) (by rw [zp_foldS e3]; rw [if_pos (decide_eq_true h37), if_neg (show ¬ k < fr by omega)]; simp only [Bool.false_and, Bool.true_and, decide_eq_false h71, decide_eq_true h94]) (fun h => by cases h) (by omega)
            · skip
              refine zj_iconst (v := 1) C dc_W_placesOfRepeat_74 (by decide) ?_
              refine zj_goto C dc_W_placesOfRepeat_75 rfl ?_
              refine zj_istore C dc_W_placesOfRepeat_79 (by decide) rfl ?_
              refine zj_iload C dc_W_placesOfRepeat_81 3 rfl ?_
              refine zj_if_eq C dc_W_placesOfRepeat_83 rfl (fun h83 => ?_) (fun h83 => ?_)
              · obtain rfl : b = false := zb_i0 h83
                refine zj_iconst (v := 0) C dc_W_placesOfRepeat_101 (by decide) ?_
                refine zj_istore C dc_W_placesOfRepeat_102 (by decide) rfl ?_
                refine zj_iinc C dc_W_placesOfRepeat_104 3 rfl (zn_inc k) (by decide) rfl ?_
                refine zj_goto C dc_W_placesOfRepeat_107 rfl ?_
                refine zj_loc (L' := [(7, .int (nI (k + 1))), (6, .int (zb_i false)), (5, .int (zb_i true)), (4, .int (nI (n9 + 1))), (0, .ref (ad 105)), (1, .ref (ad ni)), (2, .int (nI fr)), (3, .int (nI st))]) [0, 1, 2, 3, 4, 5, 6, 7] rfl ?_
                exact ih (k + 1) (n9 + 1) true false (by omega) (by omega) (by rw [zp_foldS e3]; rw [if_pos (decide_eq_true h37), if_neg (show ¬ k < fr by omega)]; simp only [Bool.false_and, Bool.true_and, decide_eq_true h71]) (fun _ => e4 rfl) (by omega)
              · obtain rfl : b = true := zb_i1 h83
                refine zj_aload_n C dc_W_placesOfRepeat_86 rfl 4 rfl ?_
                refine zj_get (k := 0) C (by omega) hW rfl (by decide) fw_W fl_W_9 rfl rfl dc_W_placesOfRepeat_87 ?_
                refine zj_iload C dc_W_placesOfRepeat_90 2 rfl ?_
                refine zj_iald C (by omega) hm0 rfl (by omega) (by decide) dc_W_placesOfRepeat_92 ?_
                refine zj_topi ((hm k (by omega)).1) ?_
                refine zj_iload_n C dc_W_placesOfRepeat_93 rfl 7 rfl ?_
                refine zj_icmp_le C dc_W_placesOfRepeat_94 rfl (fun h94 => ?_) (fun h94 => ?_)
                · have h94 := (nI_leI (by have := (hm k (by omega)).2; omega) (by omega)).mp h94
                  refine zj_iconst (v := 0) C dc_W_placesOfRepeat_101 (by decide) ?_
                  refine zj_istore C dc_W_placesOfRepeat_102 (by decide) rfl ?_
                  refine zj_iinc C dc_W_placesOfRepeat_104 3 rfl (zn_inc k) (by decide) rfl ?_
                  refine zj_goto C dc_W_placesOfRepeat_107 rfl ?_
                  refine zj_loc (L' := [(7, .int (nI (k + 1))), (6, .int (zb_i false)), (5, .int (zb_i true)), (4, .int (nI (n9 + 1))), (0, .ref (ad 105)), (1, .ref (ad ni)), (2, .int (nI fr)), (3, .int (nI st))]) [0, 1, 2, 3, 4, 5, 6, 7] rfl ?_
                  exact ih (k + 1) (n9 + 1) true false (by omega) (by omega) (by rw [zp_foldS e3]; rw [if_pos (decide_eq_true h37), if_neg (show ¬ k < fr by omega)]; simp only [Bool.false_and, Bool.true_and, decide_eq_true h71, decide_eq_false (Nat.not_lt.mpr h94)]) (fun _ => e4 rfl) (by omega)
                · have h94 := (zn_nle (by have := (hm k (by omega)).2; omega) (by omega)).mp h94
                  refine zj_iconst (v := 1) C dc_W_placesOfRepeat_97 (by decide) ?_
                  refine zj_goto C dc_W_placesOfRepeat_98 rfl ?_
                  refine zj_istore C dc_W_placesOfRepeat_102 (by decide) rfl ?_
                  refine zj_iinc C dc_W_placesOfRepeat_104 3 rfl (zn_inc k) (by decide) rfl ?_
                  refine zj_goto C dc_W_placesOfRepeat_107 rfl ?_
                  refine zj_loc (L' := [(7, .int (nI (k + 1))), (6, .int (zb_i true)), (5, .int (zb_i true)), (4, .int (nI (n9 + 1))), (0, .ref (ad 105)), (1, .ref (ad ni)), (2, .int (nI fr)), (3, .int (nI st))]) [0, 1, 2, 3, 4, 5, 6, 7] rfl ?_
                  exact ih (k + 1) (n9 + 1) true true (by omega) (by omega) (by rw [zp_foldS e3]; rw [if_pos (decide_eq_true h37), if_neg (show ¬ k < fr by omega)]; simp only [Bool.false_and, Bool.true_and, decide_eq_true h71, decide_eq_true h94]) (fun _ => e4 rfl) (by omega)
        · have h43 := (zn_nle (by omega) (by omega)).mp h43
          refine zj_iconst (v := 0) C dc_W_placesOfRepeat_46 (by decide) ?_
          exact zj_iret C dc_W_placesOfRepeat_47 ⟨by have h9 := zp_foldS e3; rw [if_pos (decide_eq_true h37), if_pos h43] at h9; have h10 := zp_fold_none h9 (c - 1 - (k + 1)); rw [show k + 1 + (c - 1 - (k + 1)) = c - 1 by omega] at h10; rw [h10]; rfl, rfl⟩
  refine zj_iconst (v := 0) C dc_W_placesOfRepeat_0 (by decide) ?_
  refine zj_istore C dc_W_placesOfRepeat_1 (by decide) rfl ?_
  refine zj_iload_n C dc_W_placesOfRepeat_3 rfl 3 rfl ?_
  refine zj_if_le C dc_W_placesOfRepeat_4 rfl (fun h4 => ?_) (fun h4 => ?_)
  · have h4 : ¬ 0 < fr := by have := (zn_le0 (by omega)).mp h4; omega
    refine zj_iconst (v := 0) C dc_W_placesOfRepeat_11 (by decide) ?_
    refine zj_istore C dc_W_placesOfRepeat_12 (by decide) rfl ?_
    refine zj_iconst (v := 1) C dc_W_placesOfRepeat_14 (by decide) ?_
    refine zj_istore C dc_W_placesOfRepeat_15 (by decide) rfl ?_
    refine zj_iconst (v := 0) C dc_W_placesOfRepeat_17 (by decide) ?_
    refine zj_istore C dc_W_placesOfRepeat_18 (by decide) rfl ?_
    refine zj_loc (L' := [(7, .int (nI 0)), (6, .int (zb_i true)), (5, .int (zb_i (decide (0 < fr)))), (4, .int (nI 0)), (0, .ref (ad 105)), (1, .ref (ad ni)), (2, .int (nI fr)), (3, .int (nI st))]) [0, 1, 2, 3, 4, 5, 6, 7] (by rw [decide_eq_false h4]; rfl) ?_
    exact loop (c - 1) 0 0 (decide (0 < fr)) true rfl (by omega) rfl (fun h => of_decide_eq_true h) (by omega)
  · have h4 : 0 < fr := Nat.pos_of_ne_zero (fun e => h4 ((zn_le0 (by omega)).mpr e))
    refine zj_iconst (v := 1) C dc_W_placesOfRepeat_7 (by decide) ?_
    refine zj_goto C dc_W_placesOfRepeat_8 rfl ?_
    refine zj_istore C dc_W_placesOfRepeat_12 (by decide) rfl ?_
    refine zj_iconst (v := 1) C dc_W_placesOfRepeat_14 (by decide) ?_
    refine zj_istore C dc_W_placesOfRepeat_15 (by decide) rfl ?_
    refine zj_iconst (v := 0) C dc_W_placesOfRepeat_17 (by decide) ?_
    refine zj_istore C dc_W_placesOfRepeat_18 (by decide) rfl ?_
    refine zj_loc (L' := [(7, .int (nI 0)), (6, .int (zb_i true)), (5, .int (zb_i (decide (0 < fr)))), (4, .int (nI 0)), (0, .ref (ad 105)), (1, .ref (ad ni)), (2, .int (nI fr)), (3, .int (nI st))]) [0, 1, 2, 3, 4, 5, 6, 7] (by rw [decide_eq_true h4]; rfl) ?_
    exact loop (c - 1) 0 0 (decide (0 < fr)) true rfl (by omega) rfl (fun h => of_decide_eq_true h) (by omega)
theorem zp_sk {S : Nat} {P : Nat → Nat → Prop} (h : ∀ k, k < S → ∃ m, P k m) : ∃ f : Nat → Nat, ∀ k, k < S → P k (f k) :=
  ⟨fun k => if h' : k < S then Classical.choose (h k h') else 0, fun k hk => by dsimp only; rw [dif_pos hk]; exact Classical.choose_spec (h k hk)⟩
theorem zp_fold_eq {occ bf bh occ' bf' bh' : Nat → Bool} {fr : Nat} {b0 : Bool} : ∀ {n : Nat}, (∀ k, k < n → occ k = occ' k ∧ bf k = bf' k ∧ bh k = bh' k) → zp_fold occ bf bh fr b0 n = zp_fold occ' bf' bh' fr b0 n := by
  intro n
  induction n with
  | zero => intro _; rfl
  | succ n ih =>
    intro h
    obtain ⟨h1, h2, h3⟩ := h n (by omega)
    show (match zp_fold occ bf bh fr b0 n with | none => none | some (n', a, b) => if occ n then (if n < fr then none else some (n' + 1, a && bf n, b && bh n)) else some (n', a, b)) = (match zp_fold occ' bf' bh' fr b0 n with | none => none | some (n', a, b) => if occ' n then (if n < fr then none else some (n' + 1, a && bf' n, b && bh' n)) else some (n', a, b))
    rw [ih (fun k hk => h k (by omega)), h1, h2, h3]
theorem zp_fold_n {occ bf bh : Nat → Bool} {fr : Nat} {b0 : Bool} : ∀ {k n : Nat} {a b : Bool}, zp_fold occ bf bh fr b0 k = some (n, a, b) → n ≤ k := by
  intro k
  induction k with
  | zero => intro n a b h; cases h; exact Nat.le_refl _
  | succ k ih =>
    intro n a b h
    cases e : zp_fold occ bf bh fr b0 k with
    | none => rw [zp_fold_none e 1] at h; cases h
    | some x =>
      obtain ⟨n', a', b'⟩ := x
      have h1 := ih e
      rw [zp_foldS e] at h
      split at h
      · split at h
        · cases h
        · cases h; omega
      · cases h; omega
theorem zp_pres_le {occ bf bh : Nat → Bool} {fr k : Nat} {b0 : Bool} : zp_pres (zp_fold occ bf bh fr b0 k) ≤ k := by
  cases e : zp_fold occ bf bh fr b0 k with
  | none => exact Nat.zero_le _
  | some x =>
    obtain ⟨n, a, b⟩ := x
    have := zp_fold_n e
    show (if _ then 0 else n) ≤ k
    split <;> omega
/-- the st steps from fr on come at k too -/
def zp_oc (p : Nat → Int32) (S fr st : Nat) : Nat → Bool := fun k => decide (st ≤ S - (if fr < k then k else fr) ∧ ∀ t, t < st → zp_es p fr k t = true)
/-- at how many places the repeat of st steps from fr on is; 0: there is none -/
def zp_T (p : Nat → Int32) (S fr st : Nat) : Nat := zp_pres (zp_fold (zp_oc p S fr st) (fun k => decide (p (k - 1 + 1) - p (k - 1) = p (fr - 1 + 1) - p (fr - 1))) (zp_oc p S fr (st + 1)) fr (decide (0 < fr)) S)
theorem zp_T_mm {p : Nat → Int32} {S fr st : Nat} {mm : Nat → Nat} (h : ∀ k, k < S → zp_ld (zp_es p fr k) (S - (if fr < k then k else fr)) (mm k)) : zp_pres (zp_fold (fun k => decide (st ≤ mm k)) (fun k => decide (p (k - 1 + 1) - p (k - 1) = p (fr - 1 + 1) - p (fr - 1))) (fun k => decide (st < mm k)) fr (decide (0 < fr)) S) = zp_T p S fr st := by
  unfold zp_T
  congr 1
  refine zp_fold_eq (fun k hk => ⟨?_, rfl, ?_⟩)
  · exact decide_eq_decide.mpr (zp_ld_ge (h k hk))
  · exact decide_eq_decide.mpr (zp_ld_ge (n := st + 1) (h k hk))
/-- the repeats in their order -/
def zp_ei (T : Nat → Nat → Nat) (fr : Nat) : Nat → Nat → List (Nat × Nat × Nat)
  | _, 0 => []
  | st, n + 1 => (if 0 < T fr st then [(fr, st, T fr st)] else []) ++ zp_ei T fr (st + 1) n
def zp_eo (T : Nat → Nat → Nat) (S le : Nat) : Nat → Nat → List (Nat × Nat × Nat)
  | _, 0 => []
  | fr, n + 1 => zp_ei T fr le (S + 1 - fr - le) ++ zp_eo T S le (fr + 1) n
theorem zp_eiS (T : Nat → Nat → Nat) (fr st n : Nat) : zp_ei T fr st (n + 1) = (if 0 < T fr st then [(fr, st, T fr st)] else []) ++ zp_ei T fr (st + 1) n := rfl
set_option maxHeartbeats 4000000 in
set_option maxRecDepth 100000 in
theorem ct_W_walk (l : Launch) (hst : l.stackTraces = false) (z : zv_T) (ad : Nat → Nat) (N : Nat) (g : Nat → va_E) (ni c : Nat) (p q : Nat → Int32) (hn : zs_N z ad g ni 20 c p q) (hni : ni + 2 < 66) (hc : c ≤ 20) (hN : 107 ≤ N) (a1 a2 a3 : Int32) (cm : Nat → Int32) (hs : zs_W z ad g a1 a2 a3 cm) (le : Nat) (w : Int32) (hle : 1 ≤ le) (hle2 : le ≤ 19) : zm_i l mn_W_walk ws_W_walk rm_W_walk z ad N g [.ref (ad 105), .ref (ad ni), .int (nI le), .int w] (fun r g1 => ((∃ j x, (zp_eo (zp_T p (c - 1)) (c - 1) le 0 (c - 1))[j]? = some x ∧ nI j = w ∧ r = nI (j + 1) ∧ ∃ cm2, zs_W z ad g1 (nI x.1) (nI x.2.1) (nI x.2.2) cm2) ∨ ((∀ j, j < (zp_eo (zp_T p (c - 1)) (c - 1) le 0 (c - 1)).length → ¬ nI j = w) ∧ r = nI (zp_eo (zp_T p (c - 1)) (c - 1) le 0 (c - 1)).length ∧ ∃ cm2, zs_W z ad g1 a1 a2 a3 cm2)) ∧ ∀ j, j ≠ 105 → j ≠ 106 → g1 j = g j) := by
  obtain ⟨hW, hm0⟩ := hs
  obtain ⟨hn0, hn1, hn2⟩ := hn
  refine zm_ofi hst pn_W_walk rfl (Nat.le_of_ble_eq_true rfl) (fun X hX C => ?_)
  subst hX
  show zj_J X 0 0 _ ad N g 0 [(0, .ref (ad 105)), (1, .ref (ad ni)), (2, .int (nI le)), (3, .int w)] []
  have inner : ∀ (n : Nat) (st fr m : Nat) (D : List (Nat × Nat × Nat)) (g2 : Nat → va_E) (cm2 : Nat → Int32) (mm : Nat → Nat), c - 1 + 1 - fr - st = n → 1 ≤ st → st ≤ 20 → fr < c - 1 → zs_W z ad g2 a1 a2 a3 cm2 → (∀ k, k < c - 1 → cm2 k = nI (mm k) ∧ zp_ld (zp_es p fr k) (c - 1 - (if fr < k then k else fr)) (mm k)) → (∀ j, j ≠ 105 → j ≠ 106 → g2 j = g j) → (zp_eo (zp_T p (c - 1)) (c - 1) le 0 (c - 1)) = D ++ (zp_ei (zp_T p (c - 1)) fr st (c - 1 + 1 - fr - st) ++ zp_eo (zp_T p (c - 1)) (c - 1) le (fr + 1) m) → (∀ j, j < D.length → ¬ nI j = w) → (∀ (D : List (Nat × Nat × Nat)) (s9 : Nat), (zp_eo (zp_T p (c - 1)) (c - 1) le 0 (c - 1)) = D ++ zp_eo (zp_T p (c - 1)) (c - 1) le (fr + 1) m → (∀ j, j < D.length → ¬ nI j = w) → zj_J X 0 0 (zj_Qi X 0 0 ad N (fun r g1 => ((∃ j x, (zp_eo (zp_T p (c - 1)) (c - 1) le 0 (c - 1))[j]? = some x ∧ nI j = w ∧ r = nI (j + 1) ∧ ∃ cm2, zs_W z ad g1 (nI x.1) (nI x.2.1) (nI x.2.2) cm2) ∨ ((∀ j, j < (zp_eo (zp_T p (c - 1)) (c - 1) le 0 (c - 1)).length → ¬ nI j = w) ∧ r = nI (zp_eo (zp_T p (c - 1)) (c - 1) le 0 (c - 1)).length ∧ ∃ cm2, zs_W z ad g1 a1 a2 a3 cm2)) ∧ ∀ j, j ≠ 105 → j ≠ 106 → g1 j = g j)) ad N g2 91 [(6, .int (nI s9)), (4, .int (nI D.length)), (5, .int (nI fr)), (0, .ref (ad 105)), (1, .ref (ad ni)), (2, .int (nI le)), (3, .int w)] []) → zj_J X 0 0 (zj_Qi X 0 0 ad N (fun r g1 => ((∃ j x, (zp_eo (zp_T p (c - 1)) (c - 1) le 0 (c - 1))[j]? = some x ∧ nI j = w ∧ r = nI (j + 1) ∧ ∃ cm2, zs_W z ad g1 (nI x.1) (nI x.2.1) (nI x.2.2) cm2) ∨ ((∀ j, j < (zp_eo (zp_T p (c - 1)) (c - 1) le 0 (c - 1)).length → ¬ nI j = w) ∧ r = nI (zp_eo (zp_T p (c - 1)) (c - 1) le 0 (c - 1)).length ∧ ∃ cm2, zs_W z ad g1 a1 a2 a3 cm2)) ∧ ∀ j, j ≠ 105 → j ≠ 106 → g1 j = g j)) ad N g2 25 [(6, .int (nI st)), (4, .int (nI D.length)), (5, .int (nI fr)), (0, .ref (ad 105)), (1, .ref (ad ni)), (2, .int (nI le)), (3, .int w)] [] := by
    intro n
    induction n with
    | zero =>
      intro st fr m D g2 cm2 mm e1 e2 e2b e3 hW2 hmm hfr hE hno K
      have hW3 := hW2
      obtain ⟨hW, hm0⟩ := hW2
      refine zj_iload C dc_W_walk_25 2 rfl ?_
      refine zj_iload C dc_W_walk_27 0 rfl ?_
      refine zj_iadd C dc_W_walk_29 ?_
      refine zj_topi (nI_add _ _) ?_
      refine zj_aload_n C dc_W_walk_30 rfl 4 rfl ?_
      refine zj_Vi C (ct_N_steps _ hst z ad N g2 ni 20 c p q (by omega) ⟨((hfr ni (by omega) (by omega)).trans hn0), ((hfr (ni + 1) (by omega) (by omega)).trans hn1), ((hfr (ni + 2) (by omega) (by omega)).trans hn2)⟩ (by decide) (by omega)) gv_W_15 rfl rfl rfl hd_N_steps ⟨(Nat.le_of_ble_eq_true rfl), (Nat.le_of_ble_eq_true rfl)⟩ (by omega) ((hfr ni (by omega) (by omega)).trans hn0) rfl rfl rfl (Nat.le_of_ble_eq_true rfl) ⟨(Nat.le_of_ble_eq_true rfl), (Nat.le_of_ble_eq_true rfl)⟩ dc_W_walk_31 (fun r1 g9 h1 => ?_)
      obtain ⟨rfl, hg9⟩ := h1
      rw [hg9]
      refine zj_icmp_gt C dc_W_walk_34 rfl (fun _ => ?_) (fun h => absurd h (not_not_intro ((nI_ltI (by omega) (by omega)).mpr (by omega))))
      refine zj_loc [0, 1, 2, 3, 4, 5, 6] rfl ?_
      exact K D st (by rw [hE, show c - 1 + 1 - fr - st = 0 by omega]; rfl) hno
    | succ n ih =>
      intro st fr m D g2 cm2 mm e1 e2 e2b e3 hW2 hmm hfr hE hno K
      have hW3 := hW2
      obtain ⟨hW, hm0⟩ := hW2
      refine zj_iload C dc_W_walk_25 2 rfl ?_
      refine zj_iload C dc_W_walk_27 0 rfl ?_
      refine zj_iadd C dc_W_walk_29 ?_
      refine zj_topi (nI_add _ _) ?_
      refine zj_aload_n C dc_W_walk_30 rfl 4 rfl ?_
      refine zj_Vi C (ct_N_steps _ hst z ad N g2 ni 20 c p q (by omega) ⟨((hfr ni (by omega) (by omega)).trans hn0), ((hfr (ni + 1) (by omega) (by omega)).trans hn1), ((hfr (ni + 2) (by omega) (by omega)).trans hn2)⟩ (by decide) (by omega)) gv_W_15 rfl rfl rfl hd_N_steps ⟨(Nat.le_of_ble_eq_true rfl), (Nat.le_of_ble_eq_true rfl)⟩ (by omega) ((hfr ni (by omega) (by omega)).trans hn0) rfl rfl rfl (Nat.le_of_ble_eq_true rfl) ⟨(Nat.le_of_ble_eq_true rfl), (Nat.le_of_ble_eq_true rfl)⟩ dc_W_walk_31 (fun r1 g9 h1 => ?_)
      obtain ⟨rfl, hg9⟩ := h1
      rw [hg9]
      refine zj_icmp_gt C dc_W_walk_34 rfl (fun h => absurd h (((zn_nlt (by omega) (by omega)).mpr (by omega)))) (fun _ => ?_)
      refine zj_aload_n C dc_W_walk_37 rfl 3 rfl ?_
      refine zj_aload_n C dc_W_walk_38 rfl 4 rfl ?_
      refine zj_iload C dc_W_walk_39 2 rfl ?_
      refine zj_iload C dc_W_walk_41 0 rfl ?_
      refine zj_Vi C (ct_W_placesOfRepeat _ hst z ad N g2 ni c p q ⟨((hfr ni (by omega) (by omega)).trans hn0), ((hfr (ni + 1) (by omega) (by omega)).trans hn1), ((hfr (ni + 2) (by omega) (by omega)).trans hn2)⟩ hni hc hN a1 a2 a3 cm2 hW3 fr st mm (fun k hk => ⟨(hmm k hk).1, by have := (hmm k hk).2.1; omega⟩) e3 (by omega)) gv_W_25 rfl rfl rfl hd_W_placesOfRepeat ⟨(Nat.le_of_ble_eq_true rfl), (Nat.le_of_ble_eq_true rfl)⟩ (by omega) hW rfl rfl rfl (Nat.le_of_ble_eq_true rfl) ⟨(Nat.le_of_ble_eq_true rfl), (Nat.le_of_ble_eq_true rfl)⟩ dc_W_walk_43 (fun r1 g9 h1 => ?_)
      obtain ⟨rfl, hg9⟩ := h1
      rw [hg9, zp_T_mm (fun k hk => (hmm k hk).2)]
      have hTl : (zp_T p (c - 1)) fr st ≤ c - 1 := zp_pres_le
      refine zj_istore C dc_W_walk_46 (by decide) rfl ?_
      refine zj_iload C dc_W_walk_48 0 rfl ?_
      refine zj_if_le C dc_W_walk_50 rfl (fun h50 => ?_) (fun h50 => ?_)
      · have h50 := (zn_le0 (by omega)).mp h50
        refine zj_iinc C dc_W_walk_85 1 rfl (zn_inc st) (by decide) rfl ?_
        refine zj_goto C dc_W_walk_88 rfl ?_
        refine zj_loc (L' := [(6, .int (nI (st + 1))), (4, .int (nI D.length)), (5, .int (nI fr)), (0, .ref (ad 105)), (1, .ref (ad ni)), (2, .int (nI le)), (3, .int w)]) [0, 2, 3, 4, 5, 6, 7] rfl ?_
        exact ih (st + 1) fr m D g2 cm2 mm (by omega) (by omega) (by omega) e3 hW3 hmm hfr (by rw [hE, show c - 1 + 1 - fr - st = (c - 1 + 1 - fr - (st + 1)) + 1 by omega, zp_eiS, if_neg (by omega)]; rfl) hno K
      · have h50 : 0 < zp_T p (c - 1) fr st := Nat.pos_of_ne_zero (fun e => h50 ((zn_le0 (by omega)).mpr e))
        refine zj_iinc C dc_W_walk_53 2 rfl (zn_inc D.length) (by decide) rfl ?_
        refine zj_iload C dc_W_walk_56 0 rfl ?_
        refine zj_iconst (v := 1) C dc_W_walk_58 (by decide) ?_
        refine zj_isub C dc_W_walk_59 ?_
        refine zj_topi (nI_pred D.length) ?_
        refine zj_iload_n C dc_W_walk_60 rfl 7 rfl ?_
        refine zj_icmp_ne C dc_W_walk_61 rfl (fun h61 => ?_) (fun h61 => ?_)
        · skip
          refine zj_iinc C dc_W_walk_85 2 rfl (zn_inc st) (by decide) rfl ?_
          refine zj_goto C dc_W_walk_88 rfl ?_
          refine zj_loc (L' := [(6, .int (nI (st + 1))), (4, .int (nI (D ++ [(fr, st, zp_T p (c - 1) fr st)]).length)), (5, .int (nI fr)), (0, .ref (ad 105)), (1, .ref (ad ni)), (2, .int (nI le)), (3, .int w)]) [0, 1, 3, 4, 5, 6, 7] (by rw [List.length_append]; rfl) ?_
          exact ih (st + 1) fr m (D ++ [(fr, st, zp_T p (c - 1) fr st)]) g2 cm2 mm (by omega) (by omega) (by omega) e3 hW3 hmm hfr (by rw [hE, show c - 1 + 1 - fr - st = (c - 1 + 1 - fr - (st + 1)) + 1 by omega, zp_eiS, if_pos h50]; simp) (fun j hj => if c9 : j < D.length then hno j c9 else (by simp at hj; rw [show j = D.length by omega]; exact h61)) K
        · skip
          refine zj_aload_n C dc_W_walk_64 rfl 4 rfl ?_
          refine zj_iload C dc_W_walk_65 3 rfl ?_
          refine zj_put (k := 1) C (by omega) hW rfl (by decide) fw_W fl_W_29 rfl fy_W fk_W fn_W rfl rfl rfl (Nat.le_of_ble_eq_true rfl) rfl dc_W_walk_67 ?_
          refine zj_aload_n C dc_W_walk_70 rfl 4 rfl ?_
          refine zj_iload C dc_W_walk_71 2 rfl ?_
          refine zj_put (k := 2) C (by omega) (by (repeat rw [va_up_ne _ _ (by omega)]); exact (va_up_self _ _ _)) rfl (by decide) fw_W fl_W_33 rfl fy_W fk_W fn_W rfl rfl rfl (Nat.le_of_ble_eq_true rfl) rfl dc_W_walk_73 ?_
          refine zj_aload_n C dc_W_walk_76 rfl 4 rfl ?_
          refine zj_iload C dc_W_walk_77 1 rfl ?_
          refine zj_put (k := 3) C (by omega) (by (repeat rw [va_up_ne _ _ (by omega)]); exact (va_up_self _ _ _)) rfl (by decide) fw_W fl_W_36 rfl fy_W fk_W fn_W rfl rfl rfl (Nat.le_of_ble_eq_true rfl) rfl dc_W_walk_79 ?_
          refine zj_iload C dc_W_walk_82 0 rfl ?_
          exact zj_iret C dc_W_walk_84 ⟨Or.inl ⟨D.length, (fr, st, (zp_T p (c - 1)) fr st), by rw [hE, show c - 1 + 1 - fr - st = (c - 1 + 1 - fr - (st + 1)) + 1 by omega, zp_eiS, if_pos h50]; simp, h61, rfl, cm2, (by (repeat rw [va_up_ne _ _ (by omega)]); exact (va_up_self _ _ _)), (by (repeat rw [va_up_ne _ _ (by omega)]); exact hm0)⟩, fun j h1 h2 => by (repeat rw [va_up_ne _ _ h1]); exact hfr j h1 h2⟩
  have outer : ∀ (n : Nat) (fr m : Nat) (D : List (Nat × Nat × Nat)) (g2 : Nat → va_E) (cm2 : Nat → Int32), m = n → fr + m = c - 1 → zs_W z ad g2 a1 a2 a3 cm2 → (∀ j, j ≠ 105 → j ≠ 106 → g2 j = g j) → (zp_eo (zp_T p (c - 1)) (c - 1) le 0 (c - 1)) = D ++ zp_eo (zp_T p (c - 1)) (c - 1) le fr m → (∀ j, j < D.length → ¬ nI j = w) → zj_J X 0 0 (zj_Qi X 0 0 ad N (fun r g1 => ((∃ j x, (zp_eo (zp_T p (c - 1)) (c - 1) le 0 (c - 1))[j]? = some x ∧ nI j = w ∧ r = nI (j + 1) ∧ ∃ cm2, zs_W z ad g1 (nI x.1) (nI x.2.1) (nI x.2.2) cm2) ∨ ((∀ j, j < (zp_eo (zp_T p (c - 1)) (c - 1) le 0 (c - 1)).length → ¬ nI j = w) ∧ r = nI (zp_eo (zp_T p (c - 1)) (c - 1) le 0 (c - 1)).length ∧ ∃ cm2, zs_W z ad g1 a1 a2 a3 cm2)) ∧ ∀ j, j ≠ 105 → j ≠ 106 → g1 j = g j)) ad N g2 6 [(5, .int (nI fr)), (4, .int (nI D.length)), (0, .ref (ad 105)), (1, .ref (ad ni)), (2, .int (nI le)), (3, .int w)] [] := by
    intro n
    induction n with
    | zero =>
      intro fr m D g2 cm2 e1 e2 hW2 hfr hE hno
      have hW4 := hW2
      obtain ⟨hW, hm0⟩ := hW2
      refine zj_iload C dc_W_walk_6 0 rfl ?_
      refine zj_aload_n C dc_W_walk_8 rfl 3 rfl ?_
      refine zj_Vi C (ct_N_steps _ hst z ad N g2 ni 20 c p q (by omega) ⟨((hfr ni (by omega) (by omega)).trans hn0), ((hfr (ni + 1) (by omega) (by omega)).trans hn1), ((hfr (ni + 2) (by omega) (by omega)).trans hn2)⟩ (by decide) (by omega)) gv_W_15 rfl rfl rfl hd_N_steps ⟨(Nat.le_of_ble_eq_true rfl), (Nat.le_of_ble_eq_true rfl)⟩ (by omega) ((hfr ni (by omega) (by omega)).trans hn0) rfl rfl rfl (Nat.le_of_ble_eq_true rfl) ⟨(Nat.le_of_ble_eq_true rfl), (Nat.le_of_ble_eq_true rfl)⟩ dc_W_walk_9 (fun r1 g9 h1 => ?_)
      obtain ⟨rfl, hg9⟩ := h1
      rw [hg9]
      refine zj_icmp_ge C dc_W_walk_12 rfl (fun _ => ?_) (fun h => absurd h (not_not_intro ((nI_leI (by omega) (by omega)).mpr (by omega))))
      refine zj_iload C dc_W_walk_97 1 rfl ?_
      exact zj_iret C dc_W_walk_99 ⟨Or.inr ⟨fun j hj => hno j (by rw [hE, show m = 0 by omega] at hj; simpa [zp_eo] using hj), by rw [hE, show m = 0 by omega]; simp [zp_eo], cm2, hW4⟩, hfr⟩
    | succ n ih =>
      intro fr m D g2 cm2 e1 e2 hW2 hfr hE hno
      have hW4 := hW2
      obtain ⟨hW, hm0⟩ := hW2
      refine zj_iload C dc_W_walk_6 0 rfl ?_
      refine zj_aload_n C dc_W_walk_8 rfl 3 rfl ?_
      refine zj_Vi C (ct_N_steps _ hst z ad N g2 ni 20 c p q (by omega) ⟨((hfr ni (by omega) (by omega)).trans hn0), ((hfr (ni + 1) (by omega) (by omega)).trans hn1), ((hfr (ni + 2) (by omega) (by omega)).trans hn2)⟩ (by decide) (by omega)) gv_W_15 rfl rfl rfl hd_N_steps ⟨(Nat.le_of_ble_eq_true rfl), (Nat.le_of_ble_eq_true rfl)⟩ (by omega) ((hfr ni (by omega) (by omega)).trans hn0) rfl rfl rfl (Nat.le_of_ble_eq_true rfl) ⟨(Nat.le_of_ble_eq_true rfl), (Nat.le_of_ble_eq_true rfl)⟩ dc_W_walk_9 (fun r1 g9 h1 => ?_)
      obtain ⟨rfl, hg9⟩ := h1
      rw [hg9]
      refine zj_icmp_ge C dc_W_walk_12 rfl (fun h => absurd h (((zn_nle (by omega) (by omega)).mpr (by omega)))) (fun _ => ?_)
      refine zj_aload_n C dc_W_walk_15 rfl 2 rfl ?_
      refine zj_aload_n C dc_W_walk_16 rfl 3 rfl ?_
      refine zj_iload C dc_W_walk_17 0 rfl ?_
      refine zj_Vv C (ct_W_compare _ hst z ad N g2 ni c p q ⟨((hfr ni (by omega) (by omega)).trans hn0), ((hfr (ni + 1) (by omega) (by omega)).trans hn1), ((hfr (ni + 2) (by omega) (by omega)).trans hn2)⟩ hni hc hN a1 a2 a3 cm2 hW4 fr (by omega)) gv_W_21 rfl rfl rfl hd_W_compare ⟨(Nat.le_of_ble_eq_true rfl), (Nat.le_of_ble_eq_true rfl)⟩ (by omega) hW rfl rfl rfl (Nat.le_of_ble_eq_true rfl) ⟨(Nat.le_of_ble_eq_true rfl), (Nat.le_of_ble_eq_true rfl)⟩ dc_W_walk_19 (fun g3 h1 => ?_)
      obtain ⟨cm3, hm3, hld, hf3⟩ := h1
      obtain ⟨mm, hmm⟩ := zp_sk hld
      have hW3 : zs_W z ad g3 a1 a2 a3 cm3 := ⟨(hf3 105 (by omega)).trans hW, hm3⟩
      have hfr3 : ∀ j, j ≠ 105 → j ≠ 106 → g3 j = g j := fun j h1 h2 => (hf3 j h2).trans (hfr j h1 h2)
      obtain ⟨m, rfl⟩ : ∃ m9, m = m9 + 1 := ⟨m - 1, by omega⟩
      refine zj_iload_n C dc_W_walk_22 rfl 4 rfl ?_
      refine zj_istore C dc_W_walk_23 (by decide) rfl ?_
      refine zj_loc [0, 2, 1, 3, 4, 5, 6] rfl ?_
      refine inner (c - 1 + 1 - fr - le) le fr m D g3 cm3 mm rfl hle (by omega) (by omega) hW3 hmm hfr3 hE hno (fun D s9 hE hno => ?_)
      refine zj_iinc C dc_W_walk_91 2 rfl (zn_inc fr) (by decide) rfl ?_
      refine zj_goto C dc_W_walk_94 rfl ?_
      refine zj_loc (L' := [(5, .int (nI (fr + 1))), (4, .int (nI D.length)), (0, .ref (ad 105)), (1, .ref (ad ni)), (2, .int (nI le)), (3, .int w)]) [0, 2, 3, 4, 5, 6] rfl ?_
      exact ih (fr + 1) m D g3 cm3 (by omega) (by omega) hW3 hfr3 hE hno
  refine zj_iconst (v := 0) C dc_W_walk_0 (by decide) ?_
  refine zj_istore C dc_W_walk_1 (by decide) rfl ?_
  refine zj_iconst (v := 0) C dc_W_walk_3 (by decide) ?_
  refine zj_istore C dc_W_walk_4 (by decide) rfl ?_
  refine zj_loc (L' := [(5, .int (nI 0)), (4, .int (nI ([] : List (Nat × Nat × Nat)).length)), (0, .ref (ad 105)), (1, .ref (ad ni)), (2, .int (nI le)), (3, .int w)]) [0, 1, 2, 3, 4, 5] rfl ?_
  exact outer (c - 1) 0 (c - 1) [] g cm rfl (by omega) ⟨hW, hm0⟩ (fun j _ _ => rfl) rfl (fun j hj => by cases hj)
end ZW
end
section
theorem dc_T_init_0 : decode bc_T_init 0 = .ok (.aload_n 0, 1) := by decide +kernel
theorem dc_T_init_1 : decode bc_T_init 1 = .ok (.invokespecial 3, 3) := by decide +kernel
theorem dc_T_init_4 : decode bc_T_init 4 = .ok (.aload_n 0, 1) := by decide +kernel
theorem dc_T_init_5 : decode bc_T_init 5 = .ok (.bipush 8, 2) := by decide +kernel
theorem dc_T_init_7 : decode bc_T_init 7 = .ok (.anewarray 9, 3) := by decide +kernel
theorem dc_T_init_10 : decode bc_T_init 10 = .ok (.putfield 11, 3) := by decide +kernel
theorem dc_T_init_13 : decode bc_T_init 13 = .ok (.iconst 0, 1) := by decide +kernel
theorem dc_T_init_14 : decode bc_T_init 14 = .ok (.istore_n 1, 1) := by decide +kernel
theorem dc_T_init_15 : decode bc_T_init 15 = .ok (.iload_n 1, 1) := by decide +kernel
theorem dc_T_init_16 : decode bc_T_init 16 = .ok (.bipush 8, 2) := by decide +kernel
theorem dc_T_init_18 : decode bc_T_init 18 = .ok (.if_icmp .ge 22, 3) := by decide +kernel
theorem dc_T_init_21 : decode bc_T_init 21 = .ok (.aload_n 0, 1) := by decide +kernel
theorem dc_T_init_22 : decode bc_T_init 22 = .ok (.getfield 11, 3) := by decide +kernel
theorem dc_T_init_25 : decode bc_T_init 25 = .ok (.iload_n 1, 1) := by decide +kernel
theorem dc_T_init_26 : decode bc_T_init 26 = .ok (.new 9, 3) := by decide +kernel
theorem dc_T_init_29 : decode bc_T_init 29 = .ok (.dup, 1) := by decide +kernel
theorem dc_T_init_30 : decode bc_T_init 30 = .ok (.invokespecial 15, 3) := by decide +kernel
theorem dc_T_init_33 : decode bc_T_init 33 = .ok (.aastore, 1) := by decide +kernel
theorem dc_T_init_34 : decode bc_T_init 34 = .ok (.iinc 1 1, 3) := by decide +kernel
theorem dc_T_init_37 : decode bc_T_init 37 = .ok (.goto (-22), 3) := by decide +kernel
theorem dc_T_init_40 : decode bc_T_init 40 = .ok (.aload_n 0, 1) := by decide +kernel
theorem dc_T_init_41 : decode bc_T_init 41 = .ok (.new 16, 3) := by decide +kernel
theorem dc_T_init_44 : decode bc_T_init 44 = .ok (.dup, 1) := by decide +kernel
theorem dc_T_init_45 : decode bc_T_init 45 = .ok (.bipush 8, 2) := by decide +kernel
theorem dc_T_init_47 : decode bc_T_init 47 = .ok (.invokespecial 18, 3) := by decide +kernel
theorem dc_T_init_50 : decode bc_T_init 50 = .ok (.putfield 21, 3) := by decide +kernel
theorem dc_T_init_53 : decode bc_T_init 53 = .ok (.aload_n 0, 1) := by decide +kernel
theorem dc_T_init_54 : decode bc_T_init 54 = .ok (.new 25, 3) := by decide +kernel
theorem dc_T_init_57 : decode bc_T_init 57 = .ok (.dup, 1) := by decide +kernel
theorem dc_T_init_58 : decode bc_T_init 58 = .ok (.invokespecial 27, 3) := by decide +kernel
theorem dc_T_init_61 : decode bc_T_init 61 = .ok (.putfield 28, 3) := by decide +kernel
theorem dc_T_init_64 : decode bc_T_init 64 = .ok (.aload_n 0, 1) := by decide +kernel
theorem dc_T_init_65 : decode bc_T_init 65 = .ok (.new 32, 3) := by decide +kernel
theorem dc_T_init_68 : decode bc_T_init 68 = .ok (.dup, 1) := by decide +kernel
theorem dc_T_init_69 : decode bc_T_init 69 = .ok (.invokespecial 34, 3) := by decide +kernel
theorem dc_T_init_72 : decode bc_T_init 72 = .ok (.putfield 35, 3) := by decide +kernel
theorem dc_T_init_75 : decode bc_T_init 75 = .ok (.aload_n 0, 1) := by decide +kernel
theorem dc_T_init_76 : decode bc_T_init 76 = .ok (.new 39, 3) := by decide +kernel
theorem dc_T_init_79 : decode bc_T_init 79 = .ok (.dup, 1) := by decide +kernel
theorem dc_T_init_80 : decode bc_T_init 80 = .ok (.invokespecial 41, 3) := by decide +kernel
theorem dc_T_init_83 : decode bc_T_init 83 = .ok (.putfield 42, 3) := by decide +kernel
theorem dc_T_init_86 : decode bc_T_init 86 = .ok (.aload_n 0, 1) := by decide +kernel
theorem dc_T_init_87 : decode bc_T_init 87 = .ok (.bipush 8, 2) := by decide +kernel
theorem dc_T_init_89 : decode bc_T_init 89 = .ok (.newarray .int, 2) := by decide +kernel
theorem dc_T_init_91 : decode bc_T_init 91 = .ok (.putfield 46, 3) := by decide +kernel
theorem dc_T_init_94 : decode bc_T_init 94 = .ok (.return_, 1) := by decide +kernel
theorem dc_T_forget_0 : decode bc_T_forget 0 = .ok (.aload_n 0, 1) := by decide +kernel
theorem dc_T_forget_1 : decode bc_T_forget 1 = .ok (.getfield 21, 3) := by decide +kernel
theorem dc_T_forget_4 : decode bc_T_forget 4 = .ok (.invokevirtual 125, 3) := by decide +kernel
theorem dc_T_forget_7 : decode bc_T_forget 7 = .ok (.return_, 1) := by decide +kernel
theorem dc_T_tune_0 : decode bc_T_tune 0 = .ok (.iload_n 1, 1) := by decide +kernel
theorem dc_T_tune_1 : decode bc_T_tune 1 = .ok (.ifCond .lt 9, 3) := by decide +kernel
theorem dc_T_tune_4 : decode bc_T_tune 4 = .ok (.iload_n 1, 1) := by decide +kernel
theorem dc_T_tune_5 : decode bc_T_tune 5 = .ok (.bipush 8, 2) := by decide +kernel
theorem dc_T_tune_7 : decode bc_T_tune 7 = .ok (.if_icmp .lt 11, 3) := by decide +kernel
theorem dc_T_tune_10 : decode bc_T_tune 10 = .ok (.new 50, 3) := by decide +kernel
theorem dc_T_tune_13 : decode bc_T_tune 13 = .ok (.dup, 1) := by decide +kernel
theorem dc_T_tune_14 : decode bc_T_tune 14 = .ok (.invokespecial 52, 3) := by decide +kernel
theorem dc_T_tune_17 : decode bc_T_tune 17 = .ok (.athrow, 1) := by decide +kernel
theorem dc_T_tune_18 : decode bc_T_tune 18 = .ok (.aload_n 0, 1) := by decide +kernel
theorem dc_T_tune_19 : decode bc_T_tune 19 = .ok (.getfield 11, 3) := by decide +kernel
theorem dc_T_tune_22 : decode bc_T_tune 22 = .ok (.iload_n 1, 1) := by decide +kernel
theorem dc_T_tune_23 : decode bc_T_tune 23 = .ok (.aaload, 1) := by decide +kernel
theorem dc_T_tune_24 : decode bc_T_tune 24 = .ok (.getfield 53, 3) := by decide +kernel
theorem dc_T_tune_27 : decode bc_T_tune 27 = .ok (.ifCond .eq 11, 3) := by decide +kernel
theorem dc_T_tune_30 : decode bc_T_tune 30 = .ok (.new 57, 3) := by decide +kernel
theorem dc_T_tune_33 : decode bc_T_tune 33 = .ok (.dup, 1) := by decide +kernel
theorem dc_T_tune_34 : decode bc_T_tune 34 = .ok (.invokespecial 59, 3) := by decide +kernel
theorem dc_T_tune_37 : decode bc_T_tune 37 = .ok (.athrow, 1) := by decide +kernel
theorem dc_T_tune_38 : decode bc_T_tune 38 = .ok (.aload_n 0, 1) := by decide +kernel
theorem dc_T_tune_39 : decode bc_T_tune 39 = .ok (.getfield 11, 3) := by decide +kernel
theorem dc_T_tune_42 : decode bc_T_tune 42 = .ok (.iload_n 1, 1) := by decide +kernel
theorem dc_T_tune_43 : decode bc_T_tune 43 = .ok (.aaload, 1) := by decide +kernel
theorem dc_T_tune_44 : decode bc_T_tune 44 = .ok (.invokevirtual 60, 3) := by decide +kernel
theorem dc_T_tune_47 : decode bc_T_tune 47 = .ok (.return_, 1) := by decide +kernel
theorem dc_T_drop_0 : decode bc_T_drop 0 = .ok (.aload_n 0, 1) := by decide +kernel
theorem dc_T_drop_1 : decode bc_T_drop 1 = .ok (.iload_n 1, 1) := by decide +kernel
theorem dc_T_drop_2 : decode bc_T_drop 2 = .ok (.invokevirtual 63, 3) := by decide +kernel
theorem dc_T_drop_5 : decode bc_T_drop 5 = .ok (.invokevirtual 67, 3) := by decide +kernel
theorem dc_T_drop_8 : decode bc_T_drop 8 = .ok (.return_, 1) := by decide +kernel
theorem dc_T_existing_0 : decode bc_T_existing 0 = .ok (.iload_n 1, 1) := by decide +kernel
theorem dc_T_existing_1 : decode bc_T_existing 1 = .ok (.ifCond .lt 21, 3) := by decide +kernel
theorem dc_T_existing_4 : decode bc_T_existing 4 = .ok (.iload_n 1, 1) := by decide +kernel
theorem dc_T_existing_5 : decode bc_T_existing 5 = .ok (.bipush 8, 2) := by decide +kernel
theorem dc_T_existing_7 : decode bc_T_existing 7 = .ok (.if_icmp .ge 15, 3) := by decide +kernel
theorem dc_T_existing_10 : decode bc_T_existing 10 = .ok (.aload_n 0, 1) := by decide +kernel
theorem dc_T_existing_11 : decode bc_T_existing 11 = .ok (.getfield 11, 3) := by decide +kernel
theorem dc_T_existing_14 : decode bc_T_existing 14 = .ok (.iload_n 1, 1) := by decide +kernel
theorem dc_T_existing_15 : decode bc_T_existing 15 = .ok (.aaload, 1) := by decide +kernel
theorem dc_T_existing_16 : decode bc_T_existing 16 = .ok (.getfield 53, 3) := by decide +kernel
theorem dc_T_existing_19 : decode bc_T_existing 19 = .ok (.ifCond .ne 11, 3) := by decide +kernel
theorem dc_T_existing_22 : decode bc_T_existing 22 = .ok (.new 50, 3) := by decide +kernel
theorem dc_T_existing_25 : decode bc_T_existing 25 = .ok (.dup, 1) := by decide +kernel
theorem dc_T_existing_26 : decode bc_T_existing 26 = .ok (.invokespecial 52, 3) := by decide +kernel
theorem dc_T_existing_29 : decode bc_T_existing 29 = .ok (.athrow, 1) := by decide +kernel
theorem dc_T_existing_30 : decode bc_T_existing 30 = .ok (.aload_n 0, 1) := by decide +kernel
theorem dc_T_existing_31 : decode bc_T_existing 31 = .ok (.getfield 11, 3) := by decide +kernel
theorem dc_T_existing_34 : decode bc_T_existing 34 = .ok (.iload_n 1, 1) := by decide +kernel
theorem dc_T_existing_35 : decode bc_T_existing 35 = .ok (.aaload, 1) := by decide +kernel
theorem dc_T_existing_36 : decode bc_T_existing 36 = .ok (.areturn, 1) := by decide +kernel
theorem dc_T_note_0 : decode bc_T_note 0 = .ok (.aload_n 0, 1) := by decide +kernel
theorem dc_T_note_1 : decode bc_T_note 1 = .ok (.iload_n 1, 1) := by decide +kernel
theorem dc_T_note_2 : decode bc_T_note 2 = .ok (.invokevirtual 63, 3) := by decide +kernel
theorem dc_T_note_5 : decode bc_T_note 5 = .ok (.astore 4, 2) := by decide +kernel
theorem dc_T_note_7 : decode bc_T_note 7 = .ok (.iload_n 2, 1) := by decide +kernel
theorem dc_T_note_8 : decode bc_T_note 8 = .ok (.iload_n 3, 1) := by decide +kernel
theorem dc_T_note_9 : decode bc_T_note 9 = .ok (.invokestatic 70, 3) := by decide +kernel
theorem dc_T_note_12 : decode bc_T_note 12 = .ok (.aload 4, 2) := by decide +kernel
theorem dc_T_note_14 : decode bc_T_note 14 = .ok (.getfield 74, 3) := by decide +kernel
theorem dc_T_note_17 : decode bc_T_note 17 = .ok (.ifCond .ne 24, 3) := by decide +kernel
theorem dc_T_note_20 : decode bc_T_note 20 = .ok (.aload 4, 2) := by decide +kernel
theorem dc_T_note_22 : decode bc_T_note 22 = .ok (.getfield 77, 3) := by decide +kernel
theorem dc_T_note_25 : decode bc_T_note 25 = .ok (.ifCond .gt 16, 3) := by decide +kernel
theorem dc_T_note_28 : decode bc_T_note 28 = .ok (.aload 4, 2) := by decide +kernel
theorem dc_T_note_30 : decode bc_T_note 30 = .ok (.getfield 81, 3) := by decide +kernel
theorem dc_T_note_33 : decode bc_T_note 33 = .ok (.getfield 84, 3) := by decide +kernel
theorem dc_T_note_36 : decode bc_T_note 36 = .ok (.bipush 20, 2) := by decide +kernel
theorem dc_T_note_38 : decode bc_T_note 38 = .ok (.if_icmp .lt 11, 3) := by decide +kernel
theorem dc_T_note_41 : decode bc_T_note 41 = .ok (.new 57, 3) := by decide +kernel
theorem dc_T_note_44 : decode bc_T_note 44 = .ok (.dup, 1) := by decide +kernel
theorem dc_T_note_45 : decode bc_T_note 45 = .ok (.invokespecial 59, 3) := by decide +kernel
theorem dc_T_note_48 : decode bc_T_note 48 = .ok (.athrow, 1) := by decide +kernel
theorem dc_T_note_49 : decode bc_T_note 49 = .ok (.aload 4, 2) := by decide +kernel
theorem dc_T_note_51 : decode bc_T_note 51 = .ok (.getfield 81, 3) := by decide +kernel
theorem dc_T_note_54 : decode bc_T_note 54 = .ok (.iload_n 2, 1) := by decide +kernel
theorem dc_T_note_55 : decode bc_T_note 55 = .ok (.iload_n 3, 1) := by decide +kernel
theorem dc_T_note_56 : decode bc_T_note 56 = .ok (.invokevirtual 87, 3) := by decide +kernel
theorem dc_T_note_59 : decode bc_T_note 59 = .ok (.ireturn, 1) := by decide +kernel
theorem dc_T_refuseUnlessNote_0 : decode bc_T_refuseUnlessNote 0 = .ok (.iload_n 0, 1) := by decide +kernel
theorem dc_T_refuseUnlessNote_1 : decode bc_T_refuseUnlessNote 1 = .ok (.ifCond .lt 20, 3) := by decide +kernel
theorem dc_T_refuseUnlessNote_4 : decode bc_T_refuseUnlessNote 4 = .ok (.iload_n 0, 1) := by decide +kernel
theorem dc_T_refuseUnlessNote_5 : decode bc_T_refuseUnlessNote 5 = .ok (.bipush 127, 2) := by decide +kernel
theorem dc_T_refuseUnlessNote_7 : decode bc_T_refuseUnlessNote 7 = .ok (.if_icmp .gt 14, 3) := by decide +kernel
theorem dc_T_refuseUnlessNote_10 : decode bc_T_refuseUnlessNote 10 = .ok (.iload_n 1, 1) := by decide +kernel
theorem dc_T_refuseUnlessNote_11 : decode bc_T_refuseUnlessNote 11 = .ok (.iconst 1, 1) := by decide +kernel
theorem dc_T_refuseUnlessNote_12 : decode bc_T_refuseUnlessNote 12 = .ok (.if_icmp .lt 9, 3) := by decide +kernel
theorem dc_T_refuseUnlessNote_15 : decode bc_T_refuseUnlessNote 15 = .ok (.iload_n 1, 1) := by decide +kernel
theorem dc_T_refuseUnlessNote_16 : decode bc_T_refuseUnlessNote 16 = .ok (.bipush 64, 2) := by decide +kernel
theorem dc_T_refuseUnlessNote_18 : decode bc_T_refuseUnlessNote 18 = .ok (.if_icmp .le 11, 3) := by decide +kernel
theorem dc_T_refuseUnlessNote_21 : decode bc_T_refuseUnlessNote 21 = .ok (.new 114, 3) := by decide +kernel
theorem dc_T_refuseUnlessNote_24 : decode bc_T_refuseUnlessNote 24 = .ok (.dup, 1) := by decide +kernel
theorem dc_T_refuseUnlessNote_25 : decode bc_T_refuseUnlessNote 25 = .ok (.invokespecial 116, 3) := by decide +kernel
theorem dc_T_refuseUnlessNote_28 : decode bc_T_refuseUnlessNote 28 = .ok (.athrow, 1) := by decide +kernel
theorem dc_T_refuseUnlessNote_29 : decode bc_T_refuseUnlessNote 29 = .ok (.return_, 1) := by decide +kernel
theorem dc_T_show_0 : decode bc_T_show 0 = .ok (.aload_n 0, 1) := by decide +kernel
theorem dc_T_show_1 : decode bc_T_show 1 = .ok (.iload_n 1, 1) := by decide +kernel
theorem dc_T_show_2 : decode bc_T_show 2 = .ok (.invokevirtual 63, 3) := by decide +kernel
theorem dc_T_show_5 : decode bc_T_show 5 = .ok (.astore_n 3, 1) := by decide +kernel
theorem dc_T_show_6 : decode bc_T_show 6 = .ok (.aload_n 3, 1) := by decide +kernel
theorem dc_T_show_7 : decode bc_T_show 7 = .ok (.getfield 74, 3) := by decide +kernel
theorem dc_T_show_10 : decode bc_T_show 10 = .ok (.iload_n 2, 1) := by decide +kernel
theorem dc_T_show_11 : decode bc_T_show 11 = .ok (.if_icmp .eq 14, 3) := by decide +kernel
theorem dc_T_show_14 : decode bc_T_show 14 = .ok (.aload_n 3, 1) := by decide +kernel
theorem dc_T_show_15 : decode bc_T_show 15 = .ok (.getfield 81, 3) := by decide +kernel
theorem dc_T_show_18 : decode bc_T_show 18 = .ok (.getfield 84, 3) := by decide +kernel
theorem dc_T_show_21 : decode bc_T_show 21 = .ok (.iconst 2, 1) := by decide +kernel
theorem dc_T_show_22 : decode bc_T_show 22 = .ok (.if_icmp .ge 11, 3) := by decide +kernel
theorem dc_T_show_25 : decode bc_T_show 25 = .ok (.new 57, 3) := by decide +kernel
theorem dc_T_show_28 : decode bc_T_show 28 = .ok (.dup, 1) := by decide +kernel
theorem dc_T_show_29 : decode bc_T_show 29 = .ok (.invokespecial 59, 3) := by decide +kernel
theorem dc_T_show_32 : decode bc_T_show 32 = .ok (.athrow, 1) := by decide +kernel
theorem dc_T_show_33 : decode bc_T_show 33 = .ok (.aload_n 3, 1) := by decide +kernel
theorem dc_T_show_34 : decode bc_T_show 34 = .ok (.iload_n 2, 1) := by decide +kernel
theorem dc_T_show_35 : decode bc_T_show 35 = .ok (.putfield 74, 3) := by decide +kernel
theorem dc_T_show_38 : decode bc_T_show 38 = .ok (.return_, 1) := by decide +kernel
theorem dc_T_correct_0 : decode bc_T_correct 0 = .ok (.aload_n 0, 1) := by decide +kernel
theorem dc_T_correct_1 : decode bc_T_correct 1 = .ok (.iload_n 1, 1) := by decide +kernel
theorem dc_T_correct_2 : decode bc_T_correct 2 = .ok (.invokevirtual 63, 3) := by decide +kernel
theorem dc_T_correct_5 : decode bc_T_correct 5 = .ok (.astore 5, 2) := by decide +kernel
theorem dc_T_correct_7 : decode bc_T_correct 7 = .ok (.aload 5, 2) := by decide +kernel
theorem dc_T_correct_9 : decode bc_T_correct 9 = .ok (.iload_n 2, 1) := by decide +kernel
theorem dc_T_correct_10 : decode bc_T_correct 10 = .ok (.invokestatic 91, 3) := by decide +kernel
theorem dc_T_correct_13 : decode bc_T_correct 13 = .ok (.iload_n 3, 1) := by decide +kernel
theorem dc_T_correct_14 : decode bc_T_correct 14 = .ok (.iload 4, 2) := by decide +kernel
theorem dc_T_correct_16 : decode bc_T_correct 16 = .ok (.invokestatic 70, 3) := by decide +kernel
theorem dc_T_correct_19 : decode bc_T_correct 19 = .ok (.aload 5, 2) := by decide +kernel
theorem dc_T_correct_21 : decode bc_T_correct 21 = .ok (.getfield 77, 3) := by decide +kernel
theorem dc_T_correct_24 : decode bc_T_correct 24 = .ok (.iconst 1, 1) := by decide +kernel
theorem dc_T_correct_25 : decode bc_T_correct 25 = .ok (.iadd, 1) := by decide +kernel
theorem dc_T_correct_26 : decode bc_T_correct 26 = .ok (.bipush 9, 2) := by decide +kernel
theorem dc_T_correct_28 : decode bc_T_correct 28 = .ok (.if_icmp .lt 11, 3) := by decide +kernel
theorem dc_T_correct_31 : decode bc_T_correct 31 = .ok (.new 57, 3) := by decide +kernel
theorem dc_T_correct_34 : decode bc_T_correct 34 = .ok (.dup, 1) := by decide +kernel
theorem dc_T_correct_35 : decode bc_T_correct 35 = .ok (.invokespecial 59, 3) := by decide +kernel
theorem dc_T_correct_38 : decode bc_T_correct 38 = .ok (.athrow, 1) := by decide +kernel
theorem dc_T_correct_39 : decode bc_T_correct 39 = .ok (.aload 5, 2) := by decide +kernel
theorem dc_T_correct_41 : decode bc_T_correct 41 = .ok (.iload_n 2, 1) := by decide +kernel
theorem dc_T_correct_42 : decode bc_T_correct 42 = .ok (.iload_n 3, 1) := by decide +kernel
theorem dc_T_correct_43 : decode bc_T_correct 43 = .ok (.iload 4, 2) := by decide +kernel
theorem dc_T_correct_45 : decode bc_T_correct 45 = .ok (.invokevirtual 95, 3) := by decide +kernel
theorem dc_T_correct_48 : decode bc_T_correct 48 = .ok (.ireturn, 1) := by decide +kernel
theorem dc_T_refuseUnlessPlace_0 : decode bc_T_refuseUnlessPlace 0 = .ok (.iload_n 1, 1) := by decide +kernel
theorem dc_T_refuseUnlessPlace_1 : decode bc_T_refuseUnlessPlace 1 = .ok (.ifCond .lt 14, 3) := by decide +kernel
theorem dc_T_refuseUnlessPlace_4 : decode bc_T_refuseUnlessPlace 4 = .ok (.iload_n 1, 1) := by decide +kernel
theorem dc_T_refuseUnlessPlace_5 : decode bc_T_refuseUnlessPlace 5 = .ok (.aload_n 0, 1) := by decide +kernel
theorem dc_T_refuseUnlessPlace_6 : decode bc_T_refuseUnlessPlace 6 = .ok (.getfield 81, 3) := by decide +kernel
theorem dc_T_refuseUnlessPlace_9 : decode bc_T_refuseUnlessPlace 9 = .ok (.getfield 84, 3) := by decide +kernel
theorem dc_T_refuseUnlessPlace_12 : decode bc_T_refuseUnlessPlace 12 = .ok (.if_icmp .lt 11, 3) := by decide +kernel
theorem dc_T_refuseUnlessPlace_15 : decode bc_T_refuseUnlessPlace 15 = .ok (.new 50, 3) := by decide +kernel
theorem dc_T_refuseUnlessPlace_18 : decode bc_T_refuseUnlessPlace 18 = .ok (.dup, 1) := by decide +kernel
theorem dc_T_refuseUnlessPlace_19 : decode bc_T_refuseUnlessPlace 19 = .ok (.invokespecial 52, 3) := by decide +kernel
theorem dc_T_refuseUnlessPlace_22 : decode bc_T_refuseUnlessPlace 22 = .ok (.athrow, 1) := by decide +kernel
theorem dc_T_refuseUnlessPlace_23 : decode bc_T_refuseUnlessPlace 23 = .ok (.return_, 1) := by decide +kernel
theorem dc_T_restore_0 : decode bc_T_restore 0 = .ok (.aload_n 0, 1) := by decide +kernel
theorem dc_T_restore_1 : decode bc_T_restore 1 = .ok (.iload_n 1, 1) := by decide +kernel
theorem dc_T_restore_2 : decode bc_T_restore 2 = .ok (.invokevirtual 63, 3) := by decide +kernel
theorem dc_T_restore_5 : decode bc_T_restore 5 = .ok (.astore_n 3, 1) := by decide +kernel
theorem dc_T_restore_6 : decode bc_T_restore 6 = .ok (.aload_n 3, 1) := by decide +kernel
theorem dc_T_restore_7 : decode bc_T_restore 7 = .ok (.iload_n 2, 1) := by decide +kernel
theorem dc_T_restore_8 : decode bc_T_restore 8 = .ok (.invokestatic 99, 3) := by decide +kernel
theorem dc_T_restore_11 : decode bc_T_restore 11 = .ok (.aload_n 3, 1) := by decide +kernel
theorem dc_T_restore_12 : decode bc_T_restore 12 = .ok (.iload_n 2, 1) := by decide +kernel
theorem dc_T_restore_13 : decode bc_T_restore 13 = .ok (.invokevirtual 102, 3) := by decide +kernel
theorem dc_T_restore_16 : decode bc_T_restore 16 = .ok (.return_, 1) := by decide +kernel
theorem dc_T_refuseUnlessReading_0 : decode bc_T_refuseUnlessReading 0 = .ok (.iload_n 1, 1) := by decide +kernel
theorem dc_T_refuseUnlessReading_1 : decode bc_T_refuseUnlessReading 1 = .ok (.ifCond .lt 11, 3) := by decide +kernel
theorem dc_T_refuseUnlessReading_4 : decode bc_T_refuseUnlessReading 4 = .ok (.iload_n 1, 1) := by decide +kernel
theorem dc_T_refuseUnlessReading_5 : decode bc_T_refuseUnlessReading 5 = .ok (.aload_n 0, 1) := by decide +kernel
theorem dc_T_refuseUnlessReading_6 : decode bc_T_refuseUnlessReading 6 = .ok (.getfield 77, 3) := by decide +kernel
theorem dc_T_refuseUnlessReading_9 : decode bc_T_refuseUnlessReading 9 = .ok (.if_icmp .le 11, 3) := by decide +kernel
theorem dc_T_refuseUnlessReading_12 : decode bc_T_refuseUnlessReading 12 = .ok (.new 50, 3) := by decide +kernel
theorem dc_T_refuseUnlessReading_15 : decode bc_T_refuseUnlessReading 15 = .ok (.dup, 1) := by decide +kernel
theorem dc_T_refuseUnlessReading_16 : decode bc_T_refuseUnlessReading 16 = .ok (.invokespecial 52, 3) := by decide +kernel
theorem dc_T_refuseUnlessReading_19 : decode bc_T_refuseUnlessReading 19 = .ok (.athrow, 1) := by decide +kernel
theorem dc_T_refuseUnlessReading_20 : decode bc_T_refuseUnlessReading 20 = .ok (.return_, 1) := by decide +kernel
theorem dc_T_at_0 : decode bc_T_at 0 = .ok (.aload_n 0, 1) := by decide +kernel
theorem dc_T_at_1 : decode bc_T_at 1 = .ok (.iload_n 1, 1) := by decide +kernel
theorem dc_T_at_2 : decode bc_T_at 2 = .ok (.invokevirtual 63, 3) := by decide +kernel
theorem dc_T_at_5 : decode bc_T_at 5 = .ok (.astore 5, 2) := by decide +kernel
theorem dc_T_at_7 : decode bc_T_at 7 = .ok (.aload 5, 2) := by decide +kernel
theorem dc_T_at_9 : decode bc_T_at 9 = .ok (.iload_n 2, 1) := by decide +kernel
theorem dc_T_at_10 : decode bc_T_at 10 = .ok (.invokestatic 91, 3) := by decide +kernel
theorem dc_T_at_13 : decode bc_T_at 13 = .ok (.iload 4, 2) := by decide +kernel
theorem dc_T_at_15 : decode bc_T_at 15 = .ok (.iconst (-1), 1) := by decide +kernel
theorem dc_T_at_16 : decode bc_T_at 16 = .ok (.if_icmp .ne 11, 3) := by decide +kernel
theorem dc_T_at_19 : decode bc_T_at 19 = .ok (.aload 5, 2) := by decide +kernel
theorem dc_T_at_21 : decode bc_T_at 21 = .ok (.getfield 77, 3) := by decide +kernel
theorem dc_T_at_24 : decode bc_T_at 24 = .ok (.goto 5, 3) := by decide +kernel
theorem dc_T_at_27 : decode bc_T_at 27 = .ok (.iload 4, 2) := by decide +kernel
theorem dc_T_at_29 : decode bc_T_at 29 = .ok (.istore 6, 2) := by decide +kernel
theorem dc_T_at_31 : decode bc_T_at 31 = .ok (.aload 5, 2) := by decide +kernel
theorem dc_T_at_33 : decode bc_T_at 33 = .ok (.iload 6, 2) := by decide +kernel
theorem dc_T_at_35 : decode bc_T_at 35 = .ok (.invokestatic 99, 3) := by decide +kernel
theorem dc_T_at_38 : decode bc_T_at 38 = .ok (.iload_n 3, 1) := by decide +kernel
theorem dc_T_at_39 : decode bc_T_at 39 = .ok (.tableswitch 52 0 2 #[25, 34, 43], 25) := by decide +kernel
theorem dc_T_at_64 : decode bc_T_at 64 = .ok (.aload 5, 2) := by decide +kernel
theorem dc_T_at_66 : decode bc_T_at 66 = .ok (.iload 6, 2) := by decide +kernel
theorem dc_T_at_68 : decode bc_T_at 68 = .ok (.iload_n 2, 1) := by decide +kernel
theorem dc_T_at_69 : decode bc_T_at 69 = .ok (.invokevirtual 105, 3) := by decide +kernel
theorem dc_T_at_72 : decode bc_T_at 72 = .ok (.ireturn, 1) := by decide +kernel
theorem dc_T_at_73 : decode bc_T_at 73 = .ok (.aload 5, 2) := by decide +kernel
theorem dc_T_at_75 : decode bc_T_at 75 = .ok (.iload 6, 2) := by decide +kernel
theorem dc_T_at_77 : decode bc_T_at 77 = .ok (.iload_n 2, 1) := by decide +kernel
theorem dc_T_at_78 : decode bc_T_at 78 = .ok (.invokevirtual 108, 3) := by decide +kernel
theorem dc_T_at_81 : decode bc_T_at 81 = .ok (.ireturn, 1) := by decide +kernel
theorem dc_T_at_82 : decode bc_T_at 82 = .ok (.aload 5, 2) := by decide +kernel
theorem dc_T_at_84 : decode bc_T_at 84 = .ok (.iload 6, 2) := by decide +kernel
theorem dc_T_at_86 : decode bc_T_at 86 = .ok (.iload_n 2, 1) := by decide +kernel
theorem dc_T_at_87 : decode bc_T_at 87 = .ok (.invokevirtual 111, 3) := by decide +kernel
theorem dc_T_at_90 : decode bc_T_at 90 = .ok (.ireturn, 1) := by decide +kernel
theorem dc_T_at_91 : decode bc_T_at 91 = .ok (.new 114, 3) := by decide +kernel
theorem dc_T_at_94 : decode bc_T_at 94 = .ok (.dup, 1) := by decide +kernel
theorem dc_T_at_95 : decode bc_T_at 95 = .ok (.invokespecial 116, 3) := by decide +kernel
theorem dc_T_at_98 : decode bc_T_at 98 = .ok (.athrow, 1) := by decide +kernel
theorem dc_T_about_0 : decode bc_T_about 0 = .ok (.aload_n 0, 1) := by decide +kernel
theorem dc_T_about_1 : decode bc_T_about 1 = .ok (.iload_n 1, 1) := by decide +kernel
theorem dc_T_about_2 : decode bc_T_about 2 = .ok (.invokevirtual 63, 3) := by decide +kernel
theorem dc_T_about_5 : decode bc_T_about 5 = .ok (.astore_n 3, 1) := by decide +kernel
theorem dc_T_about_6 : decode bc_T_about 6 = .ok (.iload_n 2, 1) := by decide +kernel
theorem dc_T_about_7 : decode bc_T_about 7 = .ok (.tableswitch 53 0 2 #[25, 33, 46], 25) := by decide +kernel
theorem dc_T_about_32 : decode bc_T_about 32 = .ok (.aload_n 3, 1) := by decide +kernel
theorem dc_T_about_33 : decode bc_T_about 33 = .ok (.getfield 81, 3) := by decide +kernel
theorem dc_T_about_36 : decode bc_T_about 36 = .ok (.getfield 84, 3) := by decide +kernel
theorem dc_T_about_39 : decode bc_T_about 39 = .ok (.ireturn, 1) := by decide +kernel
theorem dc_T_about_40 : decode bc_T_about 40 = .ok (.aload_n 3, 1) := by decide +kernel
theorem dc_T_about_41 : decode bc_T_about 41 = .ok (.getfield 74, 3) := by decide +kernel
theorem dc_T_about_44 : decode bc_T_about 44 = .ok (.ifCond .eq 7, 3) := by decide +kernel
theorem dc_T_about_47 : decode bc_T_about 47 = .ok (.iconst 1, 1) := by decide +kernel
theorem dc_T_about_48 : decode bc_T_about 48 = .ok (.goto 4, 3) := by decide +kernel
theorem dc_T_about_51 : decode bc_T_about 51 = .ok (.iconst 0, 1) := by decide +kernel
theorem dc_T_about_52 : decode bc_T_about 52 = .ok (.ireturn, 1) := by decide +kernel
theorem dc_T_about_53 : decode bc_T_about 53 = .ok (.aload_n 3, 1) := by decide +kernel
theorem dc_T_about_54 : decode bc_T_about 54 = .ok (.getfield 77, 3) := by decide +kernel
theorem dc_T_about_57 : decode bc_T_about 57 = .ok (.iconst 1, 1) := by decide +kernel
theorem dc_T_about_58 : decode bc_T_about 58 = .ok (.iadd, 1) := by decide +kernel
theorem dc_T_about_59 : decode bc_T_about 59 = .ok (.ireturn, 1) := by decide +kernel
theorem dc_T_about_60 : decode bc_T_about 60 = .ok (.new 114, 3) := by decide +kernel
theorem dc_T_about_63 : decode bc_T_about 63 = .ok (.dup, 1) := by decide +kernel
theorem dc_T_about_64 : decode bc_T_about 64 = .ok (.invokespecial 116, 3) := by decide +kernel
theorem dc_T_about_67 : decode bc_T_about 67 = .ok (.athrow, 1) := by decide +kernel
theorem dc_T_contour_0 : decode bc_T_contour 0 = .ok (.aload_n 0, 1) := by decide +kernel
theorem dc_T_contour_1 : decode bc_T_contour 1 = .ok (.iload_n 1, 1) := by decide +kernel
theorem dc_T_contour_2 : decode bc_T_contour 2 = .ok (.invokevirtual 63, 3) := by decide +kernel
theorem dc_T_contour_5 : decode bc_T_contour 5 = .ok (.getfield 81, 3) := by decide +kernel
theorem dc_T_contour_8 : decode bc_T_contour 8 = .ok (.astore_n 3, 1) := by decide +kernel
theorem dc_T_contour_9 : decode bc_T_contour 9 = .ok (.iload_n 2, 1) := by decide +kernel
theorem dc_T_contour_10 : decode bc_T_contour 10 = .ok (.ifCond .lt 11, 3) := by decide +kernel
theorem dc_T_contour_13 : decode bc_T_contour 13 = .ok (.iload_n 2, 1) := by decide +kernel
theorem dc_T_contour_14 : decode bc_T_contour 14 = .ok (.aload_n 3, 1) := by decide +kernel
theorem dc_T_contour_15 : decode bc_T_contour 15 = .ok (.invokevirtual 117, 3) := by decide +kernel
theorem dc_T_contour_18 : decode bc_T_contour 18 = .ok (.if_icmp .lt 5, 3) := by decide +kernel
theorem dc_T_contour_21 : decode bc_T_contour 21 = .ok (.iconst (-1), 1) := by decide +kernel
theorem dc_T_contour_22 : decode bc_T_contour 22 = .ok (.ireturn, 1) := by decide +kernel
theorem dc_T_contour_23 : decode bc_T_contour 23 = .ok (.aload_n 3, 1) := by decide +kernel
theorem dc_T_contour_24 : decode bc_T_contour 24 = .ok (.iload_n 2, 1) := by decide +kernel
theorem dc_T_contour_25 : decode bc_T_contour 25 = .ok (.invokevirtual 121, 3) := by decide +kernel
theorem dc_T_contour_28 : decode bc_T_contour 28 = .ok (.istore 4, 2) := by decide +kernel
theorem dc_T_contour_30 : decode bc_T_contour 30 = .ok (.iload 4, 2) := by decide +kernel
theorem dc_T_contour_32 : decode bc_T_contour 32 = .ok (.ifCond .ne 6, 3) := by decide +kernel
theorem dc_T_contour_35 : decode bc_T_contour 35 = .ok (.bipush 115, 2) := by decide +kernel
theorem dc_T_contour_37 : decode bc_T_contour 37 = .ok (.ireturn, 1) := by decide +kernel
theorem dc_T_contour_38 : decode bc_T_contour 38 = .ok (.iload 4, 2) := by decide +kernel
theorem dc_T_contour_40 : decode bc_T_contour 40 = .ok (.ifCond .le 8, 3) := by decide +kernel
theorem dc_T_contour_43 : decode bc_T_contour 43 = .ok (.bipush 117, 2) := by decide +kernel
theorem dc_T_contour_45 : decode bc_T_contour 45 = .ok (.goto 5, 3) := by decide +kernel
theorem dc_T_contour_48 : decode bc_T_contour 48 = .ok (.bipush 100, 2) := by decide +kernel
theorem dc_T_contour_50 : decode bc_T_contour 50 = .ok (.ireturn, 1) := by decide +kernel
theorem dc_T_ask_0 : decode bc_T_ask 0 = .ok (.iload_n 1, 1) := by decide +kernel
theorem dc_T_ask_1 : decode bc_T_ask 1 = .ok (.iload_n 2, 1) := by decide +kernel
theorem dc_T_ask_2 : decode bc_T_ask 2 = .ok (.invokestatic 70, 3) := by decide +kernel
theorem dc_T_ask_5 : decode bc_T_ask 5 = .ok (.aload_n 0, 1) := by decide +kernel
theorem dc_T_ask_6 : decode bc_T_ask 6 = .ok (.getfield 21, 3) := by decide +kernel
theorem dc_T_ask_9 : decode bc_T_ask 9 = .ok (.getfield 84, 3) := by decide +kernel
theorem dc_T_ask_12 : decode bc_T_ask 12 = .ok (.bipush 8, 2) := by decide +kernel
theorem dc_T_ask_14 : decode bc_T_ask 14 = .ok (.if_icmp .lt 11, 3) := by decide +kernel
theorem dc_T_ask_17 : decode bc_T_ask 17 = .ok (.new 57, 3) := by decide +kernel
theorem dc_T_ask_20 : decode bc_T_ask 20 = .ok (.dup, 1) := by decide +kernel
theorem dc_T_ask_21 : decode bc_T_ask 21 = .ok (.invokespecial 59, 3) := by decide +kernel
theorem dc_T_ask_24 : decode bc_T_ask 24 = .ok (.athrow, 1) := by decide +kernel
theorem dc_T_ask_25 : decode bc_T_ask 25 = .ok (.aload_n 0, 1) := by decide +kernel
theorem dc_T_ask_26 : decode bc_T_ask 26 = .ok (.getfield 21, 3) := by decide +kernel
theorem dc_T_ask_29 : decode bc_T_ask 29 = .ok (.iload_n 1, 1) := by decide +kernel
theorem dc_T_ask_30 : decode bc_T_ask 30 = .ok (.iload_n 2, 1) := by decide +kernel
theorem dc_T_ask_31 : decode bc_T_ask 31 = .ok (.invokevirtual 87, 3) := by decide +kernel
theorem dc_T_ask_34 : decode bc_T_ask 34 = .ok (.ireturn, 1) := by decide +kernel
theorem dc_T_search_0 : decode bc_T_search 0 = .ok (.iload_n 1, 1) := by decide +kernel
theorem dc_T_search_1 : decode bc_T_search 1 = .ok (.ifCond .lt 17, 3) := by decide +kernel
theorem dc_T_search_4 : decode bc_T_search 4 = .ok (.iload_n 1, 1) := by decide +kernel
theorem dc_T_search_5 : decode bc_T_search 5 = .ok (.iconst 5, 1) := by decide +kernel
theorem dc_T_search_6 : decode bc_T_search 6 = .ok (.if_icmp .gt 12, 3) := by decide +kernel
theorem dc_T_search_9 : decode bc_T_search 9 = .ok (.iload_n 2, 1) := by decide +kernel
theorem dc_T_search_10 : decode bc_T_search 10 = .ok (.ifCond .lt 8, 3) := by decide +kernel
theorem dc_T_search_13 : decode bc_T_search 13 = .ok (.iload_n 2, 1) := by decide +kernel
theorem dc_T_search_14 : decode bc_T_search 14 = .ok (.iconst 4, 1) := by decide +kernel
theorem dc_T_search_15 : decode bc_T_search 15 = .ok (.if_icmp .le 11, 3) := by decide +kernel
theorem dc_T_search_18 : decode bc_T_search 18 = .ok (.new 114, 3) := by decide +kernel
theorem dc_T_search_21 : decode bc_T_search 21 = .ok (.dup, 1) := by decide +kernel
theorem dc_T_search_22 : decode bc_T_search 22 = .ok (.invokespecial 116, 3) := by decide +kernel
theorem dc_T_search_25 : decode bc_T_search 25 = .ok (.athrow, 1) := by decide +kernel
theorem dc_T_search_26 : decode bc_T_search 26 = .ok (.aload_n 0, 1) := by decide +kernel
theorem dc_T_search_27 : decode bc_T_search 27 = .ok (.getfield 21, 3) := by decide +kernel
theorem dc_T_search_30 : decode bc_T_search 30 = .ok (.getfield 84, 3) := by decide +kernel
theorem dc_T_search_33 : decode bc_T_search 33 = .ok (.iconst 2, 1) := by decide +kernel
theorem dc_T_search_34 : decode bc_T_search 34 = .ok (.if_icmp .ge 11, 3) := by decide +kernel
theorem dc_T_search_37 : decode bc_T_search 37 = .ok (.new 57, 3) := by decide +kernel
theorem dc_T_search_40 : decode bc_T_search 40 = .ok (.dup, 1) := by decide +kernel
theorem dc_T_search_41 : decode bc_T_search 41 = .ok (.invokespecial 59, 3) := by decide +kernel
theorem dc_T_search_44 : decode bc_T_search 44 = .ok (.athrow, 1) := by decide +kernel
theorem dc_T_search_45 : decode bc_T_search 45 = .ok (.aload_n 0, 1) := by decide +kernel
theorem dc_T_search_46 : decode bc_T_search 46 = .ok (.getfield 28, 3) := by decide +kernel
theorem dc_T_search_49 : decode bc_T_search 49 = .ok (.aload_n 0, 1) := by decide +kernel
theorem dc_T_search_50 : decode bc_T_search 50 = .ok (.getfield 21, 3) := by decide +kernel
theorem dc_T_search_53 : decode bc_T_search 53 = .ok (.getfield 84, 3) := by decide +kernel
theorem dc_T_search_56 : decode bc_T_search 56 = .ok (.invokevirtual 128, 3) := by decide +kernel
theorem dc_T_search_59 : decode bc_T_search 59 = .ok (.iconst 0, 1) := by decide +kernel
theorem dc_T_search_60 : decode bc_T_search 60 = .ok (.istore_n 3, 1) := by decide +kernel
theorem dc_T_search_61 : decode bc_T_search 61 = .ok (.iload_n 3, 1) := by decide +kernel
theorem dc_T_search_62 : decode bc_T_search 62 = .ok (.bipush 8, 2) := by decide +kernel
theorem dc_T_search_64 : decode bc_T_search 64 = .ok (.if_icmp .ge 28, 3) := by decide +kernel
theorem dc_T_search_67 : decode bc_T_search 67 = .ok (.aload_n 0, 1) := by decide +kernel
theorem dc_T_search_68 : decode bc_T_search 68 = .ok (.getfield 11, 3) := by decide +kernel
theorem dc_T_search_71 : decode bc_T_search 71 = .ok (.iload_n 3, 1) := by decide +kernel
theorem dc_T_search_72 : decode bc_T_search 72 = .ok (.aaload, 1) := by decide +kernel
theorem dc_T_search_73 : decode bc_T_search 73 = .ok (.getfield 74, 3) := by decide +kernel
theorem dc_T_search_76 : decode bc_T_search 76 = .ok (.ifCond .eq 10, 3) := by decide +kernel
theorem dc_T_search_79 : decode bc_T_search 79 = .ok (.aload_n 0, 1) := by decide +kernel
theorem dc_T_search_80 : decode bc_T_search 80 = .ok (.iload_n 3, 1) := by decide +kernel
theorem dc_T_search_81 : decode bc_T_search 81 = .ok (.iload_n 1, 1) := by decide +kernel
theorem dc_T_search_82 : decode bc_T_search 82 = .ok (.iload_n 2, 1) := by decide +kernel
theorem dc_T_search_83 : decode bc_T_search 83 = .ok (.invokevirtual 130, 3) := by decide +kernel
theorem dc_T_search_86 : decode bc_T_search 86 = .ok (.iinc 3 1, 3) := by decide +kernel
theorem dc_T_search_89 : decode bc_T_search 89 = .ok (.goto (-28), 3) := by decide +kernel
theorem dc_T_search_92 : decode bc_T_search 92 = .ok (.aload_n 0, 1) := by decide +kernel
theorem dc_T_search_93 : decode bc_T_search 93 = .ok (.getfield 28, 3) := by decide +kernel
theorem dc_T_search_96 : decode bc_T_search 96 = .ok (.getfield 134, 3) := by decide +kernel
theorem dc_T_search_99 : decode bc_T_search 99 = .ok (.ireturn, 1) := by decide +kernel
theorem dc_T_searchTune_0 : decode bc_T_searchTune 0 = .ok (.iload_n 2, 1) := by decide +kernel
theorem dc_T_searchTune_1 : decode bc_T_searchTune 1 = .ok (.lookupswitch 45 #[(4, 27), (5, 36)], 27) := by decide +kernel
theorem dc_T_searchTune_28 : decode bc_T_searchTune 28 = .ok (.aload_n 0, 1) := by decide +kernel
theorem dc_T_searchTune_29 : decode bc_T_searchTune 29 = .ok (.iload_n 1, 1) := by decide +kernel
theorem dc_T_searchTune_30 : decode bc_T_searchTune 30 = .ok (.iload_n 3, 1) := by decide +kernel
theorem dc_T_searchTune_31 : decode bc_T_searchTune 31 = .ok (.invokevirtual 192, 3) := by decide +kernel
theorem dc_T_searchTune_34 : decode bc_T_searchTune 34 = .ok (.goto 18, 3) := by decide +kernel
theorem dc_T_searchTune_37 : decode bc_T_searchTune 37 = .ok (.aload_n 0, 1) := by decide +kernel
theorem dc_T_searchTune_38 : decode bc_T_searchTune 38 = .ok (.iload_n 1, 1) := by decide +kernel
theorem dc_T_searchTune_39 : decode bc_T_searchTune 39 = .ok (.iload_n 3, 1) := by decide +kernel
theorem dc_T_searchTune_40 : decode bc_T_searchTune 40 = .ok (.invokevirtual 195, 3) := by decide +kernel
theorem dc_T_searchTune_43 : decode bc_T_searchTune 43 = .ok (.goto 9, 3) := by decide +kernel
theorem dc_T_searchTune_46 : decode bc_T_searchTune 46 = .ok (.aload_n 0, 1) := by decide +kernel
theorem dc_T_searchTune_47 : decode bc_T_searchTune 47 = .ok (.iload_n 1, 1) := by decide +kernel
theorem dc_T_searchTune_48 : decode bc_T_searchTune 48 = .ok (.iload_n 2, 1) := by decide +kernel
theorem dc_T_searchTune_49 : decode bc_T_searchTune 49 = .ok (.invokevirtual 198, 3) := by decide +kernel
theorem dc_T_searchTune_52 : decode bc_T_searchTune 52 = .ok (.return_, 1) := by decide +kernel
theorem dc_T_searchOutline_0 : decode bc_T_searchOutline 0 = .ok (.aload_n 0, 1) := by decide +kernel
theorem dc_T_searchOutline_1 : decode bc_T_searchOutline 1 = .ok (.getfield 11, 3) := by decide +kernel
theorem dc_T_searchOutline_4 : decode bc_T_searchOutline 4 = .ok (.iload_n 1, 1) := by decide +kernel
theorem dc_T_searchOutline_5 : decode bc_T_searchOutline 5 = .ok (.aaload, 1) := by decide +kernel
theorem dc_T_searchOutline_6 : decode bc_T_searchOutline 6 = .ok (.getfield 81, 3) := by decide +kernel
theorem dc_T_searchOutline_9 : decode bc_T_searchOutline 9 = .ok (.astore_n 3, 1) := by decide +kernel
theorem dc_T_searchOutline_10 : decode bc_T_searchOutline 10 = .ok (.iconst 0, 1) := by decide +kernel
theorem dc_T_searchOutline_11 : decode bc_T_searchOutline 11 = .ok (.istore 4, 2) := by decide +kernel
theorem dc_T_searchOutline_13 : decode bc_T_searchOutline 13 = .ok (.iload 4, 2) := by decide +kernel
theorem dc_T_searchOutline_15 : decode bc_T_searchOutline 15 = .ok (.aload_n 0, 1) := by decide +kernel
theorem dc_T_searchOutline_16 : decode bc_T_searchOutline 16 = .ok (.getfield 21, 3) := by decide +kernel
theorem dc_T_searchOutline_19 : decode bc_T_searchOutline 19 = .ok (.getfield 84, 3) := by decide +kernel
theorem dc_T_searchOutline_22 : decode bc_T_searchOutline 22 = .ok (.iadd, 1) := by decide +kernel
theorem dc_T_searchOutline_23 : decode bc_T_searchOutline 23 = .ok (.aload_n 3, 1) := by decide +kernel
theorem dc_T_searchOutline_24 : decode bc_T_searchOutline 24 = .ok (.getfield 84, 3) := by decide +kernel
theorem dc_T_searchOutline_27 : decode bc_T_searchOutline 27 = .ok (.if_icmp .gt 72, 3) := by decide +kernel
theorem dc_T_searchOutline_30 : decode bc_T_searchOutline 30 = .ok (.aload_n 0, 1) := by decide +kernel
theorem dc_T_searchOutline_31 : decode bc_T_searchOutline 31 = .ok (.aload_n 3, 1) := by decide +kernel
theorem dc_T_searchOutline_32 : decode bc_T_searchOutline 32 = .ok (.iload 4, 2) := by decide +kernel
theorem dc_T_searchOutline_34 : decode bc_T_searchOutline 34 = .ok (.iload_n 2, 1) := by decide +kernel
theorem dc_T_searchOutline_35 : decode bc_T_searchOutline 35 = .ok (.invokevirtual 216, 3) := by decide +kernel
theorem dc_T_searchOutline_38 : decode bc_T_searchOutline 38 = .ok (.istore 5, 2) := by decide +kernel
theorem dc_T_searchOutline_40 : decode bc_T_searchOutline 40 = .ok (.iload 4, 2) := by decide +kernel
theorem dc_T_searchOutline_42 : decode bc_T_searchOutline 42 = .ok (.iconst 1, 1) := by decide +kernel
theorem dc_T_searchOutline_43 : decode bc_T_searchOutline 43 = .ok (.iadd, 1) := by decide +kernel
theorem dc_T_searchOutline_44 : decode bc_T_searchOutline 44 = .ok (.istore 6, 2) := by decide +kernel
theorem dc_T_searchOutline_46 : decode bc_T_searchOutline 46 = .ok (.iload 6, 2) := by decide +kernel
theorem dc_T_searchOutline_48 : decode bc_T_searchOutline 48 = .ok (.aload_n 3, 1) := by decide +kernel
theorem dc_T_searchOutline_49 : decode bc_T_searchOutline 49 = .ok (.getfield 84, 3) := by decide +kernel
theorem dc_T_searchOutline_52 : decode bc_T_searchOutline 52 = .ok (.if_icmp .ge 41, 3) := by decide +kernel
theorem dc_T_searchOutline_55 : decode bc_T_searchOutline 55 = .ok (.iload 5, 2) := by decide +kernel
theorem dc_T_searchOutline_57 : decode bc_T_searchOutline 57 = .ok (.iload 6, 2) := by decide +kernel
theorem dc_T_searchOutline_59 : decode bc_T_searchOutline 59 = .ok (.ishr, 1) := by decide +kernel
theorem dc_T_searchOutline_60 : decode bc_T_searchOutline 60 = .ok (.iconst 1, 1) := by decide +kernel
theorem dc_T_searchOutline_61 : decode bc_T_searchOutline 61 = .ok (.iand, 1) := by decide +kernel
theorem dc_T_searchOutline_62 : decode bc_T_searchOutline 62 = .ok (.iconst 1, 1) := by decide +kernel
theorem dc_T_searchOutline_63 : decode bc_T_searchOutline 63 = .ok (.if_icmp .ne 24, 3) := by decide +kernel
theorem dc_T_searchOutline_66 : decode bc_T_searchOutline 66 = .ok (.aload_n 0, 1) := by decide +kernel
theorem dc_T_searchOutline_67 : decode bc_T_searchOutline 67 = .ok (.iload_n 1, 1) := by decide +kernel
theorem dc_T_searchOutline_68 : decode bc_T_searchOutline 68 = .ok (.iload 4, 2) := by decide +kernel
theorem dc_T_searchOutline_70 : decode bc_T_searchOutline 70 = .ok (.iload 6, 2) := by decide +kernel
theorem dc_T_searchOutline_72 : decode bc_T_searchOutline 72 = .ok (.iload 4, 2) := by decide +kernel
theorem dc_T_searchOutline_74 : decode bc_T_searchOutline 74 = .ok (.isub, 1) := by decide +kernel
theorem dc_T_searchOutline_75 : decode bc_T_searchOutline 75 = .ok (.iconst 1, 1) := by decide +kernel
theorem dc_T_searchOutline_76 : decode bc_T_searchOutline 76 = .ok (.iadd, 1) := by decide +kernel
theorem dc_T_searchOutline_77 : decode bc_T_searchOutline 77 = .ok (.aload_n 0, 1) := by decide +kernel
theorem dc_T_searchOutline_78 : decode bc_T_searchOutline 78 = .ok (.getfield 21, 3) := by decide +kernel
theorem dc_T_searchOutline_81 : decode bc_T_searchOutline 81 = .ok (.getfield 84, 3) := by decide +kernel
theorem dc_T_searchOutline_84 : decode bc_T_searchOutline 84 = .ok (.invokevirtual 205, 3) := by decide +kernel
theorem dc_T_searchOutline_87 : decode bc_T_searchOutline 87 = .ok (.iinc 6 1, 3) := by decide +kernel
theorem dc_T_searchOutline_90 : decode bc_T_searchOutline 90 = .ok (.goto (-44), 3) := by decide +kernel
theorem dc_T_searchOutline_93 : decode bc_T_searchOutline 93 = .ok (.iinc 4 1, 3) := by decide +kernel
theorem dc_T_searchOutline_96 : decode bc_T_searchOutline 96 = .ok (.goto (-83), 3) := by decide +kernel
theorem dc_T_searchOutline_99 : decode bc_T_searchOutline 99 = .ok (.return_, 1) := by decide +kernel
theorem dc_T_outlineEnds_0 : decode bc_T_outlineEnds 0 = .ok (.aload_n 1, 1) := by decide +kernel
theorem dc_T_outlineEnds_1 : decode bc_T_outlineEnds 1 = .ok (.getfield 219, 3) := by decide +kernel
theorem dc_T_outlineEnds_4 : decode bc_T_outlineEnds 4 = .ok (.iload_n 2, 1) := by decide +kernel
theorem dc_T_outlineEnds_5 : decode bc_T_outlineEnds 5 = .ok (.iaload, 1) := by decide +kernel
theorem dc_T_outlineEnds_6 : decode bc_T_outlineEnds 6 = .ok (.aload_n 0, 1) := by decide +kernel
theorem dc_T_outlineEnds_7 : decode bc_T_outlineEnds 7 = .ok (.getfield 21, 3) := by decide +kernel
theorem dc_T_outlineEnds_10 : decode bc_T_outlineEnds 10 = .ok (.getfield 219, 3) := by decide +kernel
theorem dc_T_outlineEnds_13 : decode bc_T_outlineEnds 13 = .ok (.iconst 0, 1) := by decide +kernel
theorem dc_T_outlineEnds_14 : decode bc_T_outlineEnds 14 = .ok (.iaload, 1) := by decide +kernel
theorem dc_T_outlineEnds_15 : decode bc_T_outlineEnds 15 = .ok (.isub, 1) := by decide +kernel
theorem dc_T_outlineEnds_16 : decode bc_T_outlineEnds 16 = .ok (.istore 4, 2) := by decide +kernel
theorem dc_T_outlineEnds_18 : decode bc_T_outlineEnds 18 = .ok (.iconst 1, 1) := by decide +kernel
theorem dc_T_outlineEnds_19 : decode bc_T_outlineEnds 19 = .ok (.iload_n 2, 1) := by decide +kernel
theorem dc_T_outlineEnds_20 : decode bc_T_outlineEnds 20 = .ok (.ishl, 1) := by decide +kernel
theorem dc_T_outlineEnds_21 : decode bc_T_outlineEnds 21 = .ok (.istore 5, 2) := by decide +kernel
theorem dc_T_outlineEnds_23 : decode bc_T_outlineEnds 23 = .ok (.iconst 1, 1) := by decide +kernel
theorem dc_T_outlineEnds_24 : decode bc_T_outlineEnds 24 = .ok (.istore 6, 2) := by decide +kernel
theorem dc_T_outlineEnds_26 : decode bc_T_outlineEnds 26 = .ok (.iload 6, 2) := by decide +kernel
theorem dc_T_outlineEnds_28 : decode bc_T_outlineEnds 28 = .ok (.aload_n 0, 1) := by decide +kernel
theorem dc_T_outlineEnds_29 : decode bc_T_outlineEnds 29 = .ok (.getfield 21, 3) := by decide +kernel
theorem dc_T_outlineEnds_32 : decode bc_T_outlineEnds 32 = .ok (.getfield 84, 3) := by decide +kernel
theorem dc_T_outlineEnds_35 : decode bc_T_outlineEnds 35 = .ok (.if_icmp .ge 61, 3) := by decide +kernel
theorem dc_T_outlineEnds_38 : decode bc_T_outlineEnds 38 = .ok (.iconst 0, 1) := by decide +kernel
theorem dc_T_outlineEnds_39 : decode bc_T_outlineEnds 39 = .ok (.istore 7, 2) := by decide +kernel
theorem dc_T_outlineEnds_41 : decode bc_T_outlineEnds 41 = .ok (.iconst 1, 1) := by decide +kernel
theorem dc_T_outlineEnds_42 : decode bc_T_outlineEnds 42 = .ok (.istore 8, 2) := by decide +kernel
theorem dc_T_outlineEnds_44 : decode bc_T_outlineEnds 44 = .ok (.iload 8, 2) := by decide +kernel
theorem dc_T_outlineEnds_46 : decode bc_T_outlineEnds 46 = .ok (.iload_n 3, 1) := by decide +kernel
theorem dc_T_outlineEnds_47 : decode bc_T_outlineEnds 47 = .ok (.iconst 1, 1) := by decide +kernel
theorem dc_T_outlineEnds_48 : decode bc_T_outlineEnds 48 = .ok (.iadd, 1) := by decide +kernel
theorem dc_T_outlineEnds_49 : decode bc_T_outlineEnds 49 = .ok (.if_icmp .gt 19, 3) := by decide +kernel
theorem dc_T_outlineEnds_52 : decode bc_T_outlineEnds 52 = .ok (.iload 7, 2) := by decide +kernel
theorem dc_T_outlineEnds_54 : decode bc_T_outlineEnds 54 = .ok (.iload 5, 2) := by decide +kernel
theorem dc_T_outlineEnds_56 : decode bc_T_outlineEnds 56 = .ok (.iload 8, 2) := by decide +kernel
theorem dc_T_outlineEnds_58 : decode bc_T_outlineEnds 58 = .ok (.ishl, 1) := by decide +kernel
theorem dc_T_outlineEnds_59 : decode bc_T_outlineEnds 59 = .ok (.ior, 1) := by decide +kernel
theorem dc_T_outlineEnds_60 : decode bc_T_outlineEnds 60 = .ok (.istore 7, 2) := by decide +kernel
theorem dc_T_outlineEnds_62 : decode bc_T_outlineEnds 62 = .ok (.iinc 8 1, 3) := by decide +kernel
theorem dc_T_outlineEnds_65 : decode bc_T_outlineEnds 65 = .ok (.goto (-21), 3) := by decide +kernel
theorem dc_T_outlineEnds_68 : decode bc_T_outlineEnds 68 = .ok (.iload 7, 2) := by decide +kernel
theorem dc_T_outlineEnds_70 : decode bc_T_outlineEnds 70 = .ok (.aload_n 1, 1) := by decide +kernel
theorem dc_T_outlineEnds_71 : decode bc_T_outlineEnds 71 = .ok (.aload_n 0, 1) := by decide +kernel
theorem dc_T_outlineEnds_72 : decode bc_T_outlineEnds 72 = .ok (.getfield 21, 3) := by decide +kernel
theorem dc_T_outlineEnds_75 : decode bc_T_outlineEnds 75 = .ok (.getfield 219, 3) := by decide +kernel
theorem dc_T_outlineEnds_78 : decode bc_T_outlineEnds 78 = .ok (.iload 6, 2) := by decide +kernel
theorem dc_T_outlineEnds_80 : decode bc_T_outlineEnds 80 = .ok (.iaload, 1) := by decide +kernel
theorem dc_T_outlineEnds_81 : decode bc_T_outlineEnds 81 = .ok (.iload 4, 2) := by decide +kernel
theorem dc_T_outlineEnds_83 : decode bc_T_outlineEnds 83 = .ok (.iadd, 1) := by decide +kernel
theorem dc_T_outlineEnds_84 : decode bc_T_outlineEnds 84 = .ok (.invokevirtual 222, 3) := by decide +kernel
theorem dc_T_outlineEnds_87 : decode bc_T_outlineEnds 87 = .ok (.iand, 1) := by decide +kernel
theorem dc_T_outlineEnds_88 : decode bc_T_outlineEnds 88 = .ok (.istore 5, 2) := by decide +kernel
theorem dc_T_outlineEnds_90 : decode bc_T_outlineEnds 90 = .ok (.iinc 6 1, 3) := by decide +kernel
theorem dc_T_outlineEnds_93 : decode bc_T_outlineEnds 93 = .ok (.goto (-67), 3) := by decide +kernel
theorem dc_T_outlineEnds_96 : decode bc_T_outlineEnds 96 = .ok (.iload 5, 2) := by decide +kernel
theorem dc_T_outlineEnds_98 : decode bc_T_outlineEnds 98 = .ok (.ireturn, 1) := by decide +kernel
theorem dc_T_offer_0 : decode bc_T_offer 0 = .ok (.aload_n 0, 1) := by decide +kernel
theorem dc_T_offer_1 : decode bc_T_offer 1 = .ok (.getfield 11, 3) := by decide +kernel
theorem dc_T_offer_4 : decode bc_T_offer 4 = .ok (.iload_n 1, 1) := by decide +kernel
theorem dc_T_offer_5 : decode bc_T_offer 5 = .ok (.aaload, 1) := by decide +kernel
theorem dc_T_offer_6 : decode bc_T_offer 6 = .ok (.getfield 81, 3) := by decide +kernel
theorem dc_T_offer_9 : decode bc_T_offer 9 = .ok (.getfield 219, 3) := by decide +kernel
theorem dc_T_offer_12 : decode bc_T_offer 12 = .ok (.iload_n 2, 1) := by decide +kernel
theorem dc_T_offer_13 : decode bc_T_offer 13 = .ok (.iaload, 1) := by decide +kernel
theorem dc_T_offer_14 : decode bc_T_offer 14 = .ok (.aload_n 0, 1) := by decide +kernel
theorem dc_T_offer_15 : decode bc_T_offer 15 = .ok (.getfield 21, 3) := by decide +kernel
theorem dc_T_offer_18 : decode bc_T_offer 18 = .ok (.getfield 219, 3) := by decide +kernel
theorem dc_T_offer_21 : decode bc_T_offer 21 = .ok (.iconst 0, 1) := by decide +kernel
theorem dc_T_offer_22 : decode bc_T_offer 22 = .ok (.iaload, 1) := by decide +kernel
theorem dc_T_offer_23 : decode bc_T_offer 23 = .ok (.isub, 1) := by decide +kernel
theorem dc_T_offer_24 : decode bc_T_offer 24 = .ok (.istore 5, 2) := by decide +kernel
theorem dc_T_offer_26 : decode bc_T_offer 26 = .ok (.aload_n 0, 1) := by decide +kernel
theorem dc_T_offer_27 : decode bc_T_offer 27 = .ok (.getfield 28, 3) := by decide +kernel
theorem dc_T_offer_30 : decode bc_T_offer 30 = .ok (.iload_n 1, 1) := by decide +kernel
theorem dc_T_offer_31 : decode bc_T_offer 31 = .ok (.iload_n 2, 1) := by decide +kernel
theorem dc_T_offer_32 : decode bc_T_offer 32 = .ok (.iload_n 3, 1) := by decide +kernel
theorem dc_T_offer_33 : decode bc_T_offer 33 = .ok (.iload 5, 2) := by decide +kernel
theorem dc_T_offer_35 : decode bc_T_offer 35 = .ok (.iload 4, 2) := by decide +kernel
theorem dc_T_offer_37 : decode bc_T_offer 37 = .ok (.invokevirtual 241, 3) := by decide +kernel
theorem dc_T_offer_40 : decode bc_T_offer 40 = .ok (.return_, 1) := by decide +kernel
theorem dc_T_searchNear_0 : decode bc_T_searchNear 0 = .ok (.aload_n 0, 1) := by decide +kernel
theorem dc_T_searchNear_1 : decode bc_T_searchNear 1 = .ok (.getfield 11, 3) := by decide +kernel
theorem dc_T_searchNear_4 : decode bc_T_searchNear 4 = .ok (.iload_n 1, 1) := by decide +kernel
theorem dc_T_searchNear_5 : decode bc_T_searchNear 5 = .ok (.aaload, 1) := by decide +kernel
theorem dc_T_searchNear_6 : decode bc_T_searchNear 6 = .ok (.getfield 81, 3) := by decide +kernel
theorem dc_T_searchNear_9 : decode bc_T_searchNear 9 = .ok (.astore_n 3, 1) := by decide +kernel
theorem dc_T_searchNear_10 : decode bc_T_searchNear 10 = .ok (.aload_n 0, 1) := by decide +kernel
theorem dc_T_searchNear_11 : decode bc_T_searchNear 11 = .ok (.getfield 35, 3) := by decide +kernel
theorem dc_T_searchNear_14 : decode bc_T_searchNear 14 = .ok (.aload_n 0, 1) := by decide +kernel
theorem dc_T_searchNear_15 : decode bc_T_searchNear 15 = .ok (.getfield 21, 3) := by decide +kernel
theorem dc_T_searchNear_18 : decode bc_T_searchNear 18 = .ok (.aload_n 3, 1) := by decide +kernel
theorem dc_T_searchNear_19 : decode bc_T_searchNear 19 = .ok (.iload_n 2, 1) := by decide +kernel
theorem dc_T_searchNear_20 : decode bc_T_searchNear 20 = .ok (.invokevirtual 225, 3) := by decide +kernel
theorem dc_T_searchNear_23 : decode bc_T_searchNear 23 = .ok (.iconst 0, 1) := by decide +kernel
theorem dc_T_searchNear_24 : decode bc_T_searchNear 24 = .ok (.istore 4, 2) := by decide +kernel
theorem dc_T_searchNear_26 : decode bc_T_searchNear 26 = .ok (.iload 4, 2) := by decide +kernel
theorem dc_T_searchNear_28 : decode bc_T_searchNear 28 = .ok (.iconst 2, 1) := by decide +kernel
theorem dc_T_searchNear_29 : decode bc_T_searchNear 29 = .ok (.iadd, 1) := by decide +kernel
theorem dc_T_searchNear_30 : decode bc_T_searchNear 30 = .ok (.aload_n 3, 1) := by decide +kernel
theorem dc_T_searchNear_31 : decode bc_T_searchNear 31 = .ok (.getfield 84, 3) := by decide +kernel
theorem dc_T_searchNear_34 : decode bc_T_searchNear 34 = .ok (.if_icmp .gt 88, 3) := by decide +kernel
theorem dc_T_searchNear_37 : decode bc_T_searchNear 37 = .ok (.aload_n 0, 1) := by decide +kernel
theorem dc_T_searchNear_38 : decode bc_T_searchNear 38 = .ok (.getfield 35, 3) := by decide +kernel
theorem dc_T_searchNear_41 : decode bc_T_searchNear 41 = .ok (.aload_n 0, 1) := by decide +kernel
theorem dc_T_searchNear_42 : decode bc_T_searchNear 42 = .ok (.getfield 21, 3) := by decide +kernel
theorem dc_T_searchNear_45 : decode bc_T_searchNear 45 = .ok (.aload_n 3, 1) := by decide +kernel
theorem dc_T_searchNear_46 : decode bc_T_searchNear 46 = .ok (.iload 4, 2) := by decide +kernel
theorem dc_T_searchNear_48 : decode bc_T_searchNear 48 = .ok (.invokevirtual 228, 3) := by decide +kernel
theorem dc_T_searchNear_51 : decode bc_T_searchNear 51 = .ok (.iconst 2, 1) := by decide +kernel
theorem dc_T_searchNear_52 : decode bc_T_searchNear 52 = .ok (.istore 5, 2) := by decide +kernel
theorem dc_T_searchNear_54 : decode bc_T_searchNear 54 = .ok (.iload 5, 2) := by decide +kernel
theorem dc_T_searchNear_56 : decode bc_T_searchNear 56 = .ok (.aload_n 0, 1) := by decide +kernel
theorem dc_T_searchNear_57 : decode bc_T_searchNear 57 = .ok (.getfield 35, 3) := by decide +kernel
theorem dc_T_searchNear_60 : decode bc_T_searchNear 60 = .ok (.getfield 231, 3) := by decide +kernel
theorem dc_T_searchNear_63 : decode bc_T_searchNear 63 = .ok (.if_icmp .gt 53, 3) := by decide +kernel
theorem dc_T_searchNear_66 : decode bc_T_searchNear 66 = .ok (.iload 4, 2) := by decide +kernel
theorem dc_T_searchNear_68 : decode bc_T_searchNear 68 = .ok (.iload 5, 2) := by decide +kernel
theorem dc_T_searchNear_70 : decode bc_T_searchNear 70 = .ok (.iadd, 1) := by decide +kernel
theorem dc_T_searchNear_71 : decode bc_T_searchNear 71 = .ok (.aload_n 3, 1) := by decide +kernel
theorem dc_T_searchNear_72 : decode bc_T_searchNear 72 = .ok (.getfield 84, 3) := by decide +kernel
theorem dc_T_searchNear_75 : decode bc_T_searchNear 75 = .ok (.if_icmp .gt 41, 3) := by decide +kernel
theorem dc_T_searchNear_78 : decode bc_T_searchNear 78 = .ok (.aload_n 0, 1) := by decide +kernel
theorem dc_T_searchNear_79 : decode bc_T_searchNear 79 = .ok (.getfield 35, 3) := by decide +kernel
theorem dc_T_searchNear_82 : decode bc_T_searchNear 82 = .ok (.iload 5, 2) := by decide +kernel
theorem dc_T_searchNear_84 : decode bc_T_searchNear 84 = .ok (.invokevirtual 234, 3) := by decide +kernel
theorem dc_T_searchNear_87 : decode bc_T_searchNear 87 = .ok (.ifCond .eq 23, 3) := by decide +kernel
theorem dc_T_searchNear_90 : decode bc_T_searchNear 90 = .ok (.aload_n 0, 1) := by decide +kernel
theorem dc_T_searchNear_91 : decode bc_T_searchNear 91 = .ok (.iload_n 1, 1) := by decide +kernel
theorem dc_T_searchNear_92 : decode bc_T_searchNear 92 = .ok (.iload 4, 2) := by decide +kernel
theorem dc_T_searchNear_94 : decode bc_T_searchNear 94 = .ok (.iload 5, 2) := by decide +kernel
theorem dc_T_searchNear_96 : decode bc_T_searchNear 96 = .ok (.aload_n 0, 1) := by decide +kernel
theorem dc_T_searchNear_97 : decode bc_T_searchNear 97 = .ok (.getfield 35, 3) := by decide +kernel
theorem dc_T_searchNear_100 : decode bc_T_searchNear 100 = .ok (.iload 5, 2) := by decide +kernel
theorem dc_T_searchNear_102 : decode bc_T_searchNear 102 = .ok (.invokevirtual 238, 3) := by decide +kernel
theorem dc_T_searchNear_105 : decode bc_T_searchNear 105 = .ok (.iconst 1, 1) := by decide +kernel
theorem dc_T_searchNear_106 : decode bc_T_searchNear 106 = .ok (.iadd, 1) := by decide +kernel
theorem dc_T_searchNear_107 : decode bc_T_searchNear 107 = .ok (.invokevirtual 205, 3) := by decide +kernel
theorem dc_T_searchNear_110 : decode bc_T_searchNear 110 = .ok (.iinc 5 1, 3) := by decide +kernel
theorem dc_T_searchNear_113 : decode bc_T_searchNear 113 = .ok (.goto (-59), 3) := by decide +kernel
theorem dc_T_searchNear_116 : decode bc_T_searchNear 116 = .ok (.iinc 4 1, 3) := by decide +kernel
theorem dc_T_searchNear_119 : decode bc_T_searchNear 119 = .ok (.goto (-93), 3) := by decide +kernel
theorem dc_T_searchNear_122 : decode bc_T_searchNear 122 = .ok (.return_, 1) := by decide +kernel
theorem dc_T_searchNoteByNote_0 : decode bc_T_searchNoteByNote 0 = .ok (.aload_n 0, 1) := by decide +kernel
theorem dc_T_searchNoteByNote_1 : decode bc_T_searchNoteByNote 1 = .ok (.getfield 11, 3) := by decide +kernel
theorem dc_T_searchNoteByNote_4 : decode bc_T_searchNoteByNote 4 = .ok (.iload_n 1, 1) := by decide +kernel
theorem dc_T_searchNoteByNote_5 : decode bc_T_searchNoteByNote 5 = .ok (.aaload, 1) := by decide +kernel
theorem dc_T_searchNoteByNote_6 : decode bc_T_searchNoteByNote 6 = .ok (.getfield 81, 3) := by decide +kernel
theorem dc_T_searchNoteByNote_9 : decode bc_T_searchNoteByNote 9 = .ok (.astore_n 3, 1) := by decide +kernel
theorem dc_T_searchNoteByNote_10 : decode bc_T_searchNoteByNote 10 = .ok (.iconst 0, 1) := by decide +kernel
theorem dc_T_searchNoteByNote_11 : decode bc_T_searchNoteByNote 11 = .ok (.istore 4, 2) := by decide +kernel
theorem dc_T_searchNoteByNote_13 : decode bc_T_searchNoteByNote 13 = .ok (.iload 4, 2) := by decide +kernel
theorem dc_T_searchNoteByNote_15 : decode bc_T_searchNoteByNote 15 = .ok (.aload_n 0, 1) := by decide +kernel
theorem dc_T_searchNoteByNote_16 : decode bc_T_searchNoteByNote 16 = .ok (.getfield 21, 3) := by decide +kernel
theorem dc_T_searchNoteByNote_19 : decode bc_T_searchNoteByNote 19 = .ok (.getfield 84, 3) := by decide +kernel
theorem dc_T_searchNoteByNote_22 : decode bc_T_searchNoteByNote 22 = .ok (.iadd, 1) := by decide +kernel
theorem dc_T_searchNoteByNote_23 : decode bc_T_searchNoteByNote 23 = .ok (.aload_n 3, 1) := by decide +kernel
theorem dc_T_searchNoteByNote_24 : decode bc_T_searchNoteByNote 24 = .ok (.getfield 84, 3) := by decide +kernel
theorem dc_T_searchNoteByNote_27 : decode bc_T_searchNoteByNote 27 = .ok (.if_icmp .gt 41, 3) := by decide +kernel
theorem dc_T_searchNoteByNote_30 : decode bc_T_searchNoteByNote 30 = .ok (.aload_n 0, 1) := by decide +kernel
theorem dc_T_searchNoteByNote_31 : decode bc_T_searchNoteByNote 31 = .ok (.iload_n 2, 1) := by decide +kernel
theorem dc_T_searchNoteByNote_32 : decode bc_T_searchNoteByNote 32 = .ok (.aload_n 3, 1) := by decide +kernel
theorem dc_T_searchNoteByNote_33 : decode bc_T_searchNoteByNote 33 = .ok (.iload 4, 2) := by decide +kernel
theorem dc_T_searchNoteByNote_35 : decode bc_T_searchNoteByNote 35 = .ok (.invokevirtual 201, 3) := by decide +kernel
theorem dc_T_searchNoteByNote_38 : decode bc_T_searchNoteByNote 38 = .ok (.ifCond .eq 24, 3) := by decide +kernel
theorem dc_T_searchNoteByNote_41 : decode bc_T_searchNoteByNote 41 = .ok (.aload_n 0, 1) := by decide +kernel
theorem dc_T_searchNoteByNote_42 : decode bc_T_searchNoteByNote 42 = .ok (.iload_n 1, 1) := by decide +kernel
theorem dc_T_searchNoteByNote_43 : decode bc_T_searchNoteByNote 43 = .ok (.iload 4, 2) := by decide +kernel
theorem dc_T_searchNoteByNote_45 : decode bc_T_searchNoteByNote 45 = .ok (.aload_n 0, 1) := by decide +kernel
theorem dc_T_searchNoteByNote_46 : decode bc_T_searchNoteByNote 46 = .ok (.getfield 21, 3) := by decide +kernel
theorem dc_T_searchNoteByNote_49 : decode bc_T_searchNoteByNote 49 = .ok (.getfield 84, 3) := by decide +kernel
theorem dc_T_searchNoteByNote_52 : decode bc_T_searchNoteByNote 52 = .ok (.aload_n 0, 1) := by decide +kernel
theorem dc_T_searchNoteByNote_53 : decode bc_T_searchNoteByNote 53 = .ok (.getfield 21, 3) := by decide +kernel
theorem dc_T_searchNoteByNote_56 : decode bc_T_searchNoteByNote 56 = .ok (.getfield 84, 3) := by decide +kernel
theorem dc_T_searchNoteByNote_59 : decode bc_T_searchNoteByNote 59 = .ok (.invokevirtual 205, 3) := by decide +kernel
theorem dc_T_searchNoteByNote_62 : decode bc_T_searchNoteByNote 62 = .ok (.iinc 4 1, 3) := by decide +kernel
theorem dc_T_searchNoteByNote_65 : decode bc_T_searchNoteByNote 65 = .ok (.goto (-52), 3) := by decide +kernel
theorem dc_T_searchNoteByNote_68 : decode bc_T_searchNoteByNote 68 = .ok (.return_, 1) := by decide +kernel
theorem dc_T_fits_0 : decode bc_T_fits 0 = .ok (.iload_n 1, 1) := by decide +kernel
theorem dc_T_fits_1 : decode bc_T_fits 1 = .ok (.tableswitch 91 0 2 #[27, 64, 81], 27) := by decide +kernel
theorem dc_T_fits_28 : decode bc_T_fits 28 = .ok (.aload_n 0, 1) := by decide +kernel
theorem dc_T_fits_29 : decode bc_T_fits 29 = .ok (.getfield 21, 3) := by decide +kernel
theorem dc_T_fits_32 : decode bc_T_fits 32 = .ok (.aload_n 0, 1) := by decide +kernel
theorem dc_T_fits_33 : decode bc_T_fits 33 = .ok (.getfield 21, 3) := by decide +kernel
theorem dc_T_fits_36 : decode bc_T_fits 36 = .ok (.getfield 84, 3) := by decide +kernel
theorem dc_T_fits_39 : decode bc_T_fits 39 = .ok (.aload_n 2, 1) := by decide +kernel
theorem dc_T_fits_40 : decode bc_T_fits 40 = .ok (.iload_n 3, 1) := by decide +kernel
theorem dc_T_fits_41 : decode bc_T_fits 41 = .ok (.invokestatic 181, 3) := by decide +kernel
theorem dc_T_fits_44 : decode bc_T_fits 44 = .ok (.ifCond .eq 19, 3) := by decide +kernel
theorem dc_T_fits_47 : decode bc_T_fits 47 = .ok (.aload_n 0, 1) := by decide +kernel
theorem dc_T_fits_48 : decode bc_T_fits 48 = .ok (.getfield 21, 3) := by decide +kernel
theorem dc_T_fits_51 : decode bc_T_fits 51 = .ok (.aload_n 2, 1) := by decide +kernel
theorem dc_T_fits_52 : decode bc_T_fits 52 = .ok (.iload_n 3, 1) := by decide +kernel
theorem dc_T_fits_53 : decode bc_T_fits 53 = .ok (.invokestatic 209, 3) := by decide +kernel
theorem dc_T_fits_56 : decode bc_T_fits 56 = .ok (.ifCond .eq 7, 3) := by decide +kernel
theorem dc_T_fits_59 : decode bc_T_fits 59 = .ok (.iconst 1, 1) := by decide +kernel
theorem dc_T_fits_60 : decode bc_T_fits 60 = .ok (.goto 4, 3) := by decide +kernel
theorem dc_T_fits_63 : decode bc_T_fits 63 = .ok (.iconst 0, 1) := by decide +kernel
theorem dc_T_fits_64 : decode bc_T_fits 64 = .ok (.ireturn, 1) := by decide +kernel
theorem dc_T_fits_65 : decode bc_T_fits 65 = .ok (.aload_n 0, 1) := by decide +kernel
theorem dc_T_fits_66 : decode bc_T_fits 66 = .ok (.getfield 21, 3) := by decide +kernel
theorem dc_T_fits_69 : decode bc_T_fits 69 = .ok (.aload_n 0, 1) := by decide +kernel
theorem dc_T_fits_70 : decode bc_T_fits 70 = .ok (.getfield 21, 3) := by decide +kernel
theorem dc_T_fits_73 : decode bc_T_fits 73 = .ok (.getfield 84, 3) := by decide +kernel
theorem dc_T_fits_76 : decode bc_T_fits 76 = .ok (.aload_n 2, 1) := by decide +kernel
theorem dc_T_fits_77 : decode bc_T_fits 77 = .ok (.iload_n 3, 1) := by decide +kernel
theorem dc_T_fits_78 : decode bc_T_fits 78 = .ok (.invokestatic 181, 3) := by decide +kernel
theorem dc_T_fits_81 : decode bc_T_fits 81 = .ok (.ireturn, 1) := by decide +kernel
theorem dc_T_fits_82 : decode bc_T_fits 82 = .ok (.aload_n 0, 1) := by decide +kernel
theorem dc_T_fits_83 : decode bc_T_fits 83 = .ok (.getfield 21, 3) := by decide +kernel
theorem dc_T_fits_86 : decode bc_T_fits 86 = .ok (.aload_n 2, 1) := by decide +kernel
theorem dc_T_fits_87 : decode bc_T_fits 87 = .ok (.iload_n 3, 1) := by decide +kernel
theorem dc_T_fits_88 : decode bc_T_fits 88 = .ok (.invokestatic 213, 3) := by decide +kernel
theorem dc_T_fits_91 : decode bc_T_fits 91 = .ok (.ireturn, 1) := by decide +kernel
theorem dc_T_fits_92 : decode bc_T_fits 92 = .ok (.aload_n 0, 1) := by decide +kernel
theorem dc_T_fits_93 : decode bc_T_fits 93 = .ok (.getfield 21, 3) := by decide +kernel
theorem dc_T_fits_96 : decode bc_T_fits 96 = .ok (.aload_n 2, 1) := by decide +kernel
theorem dc_T_fits_97 : decode bc_T_fits 97 = .ok (.iload_n 3, 1) := by decide +kernel
theorem dc_T_fits_98 : decode bc_T_fits 98 = .ok (.invokestatic 209, 3) := by decide +kernel
theorem dc_T_fits_101 : decode bc_T_fits 101 = .ok (.ireturn, 1) := by decide +kernel
theorem dc_T_sameSteps_0 : decode bc_T_sameSteps 0 = .ok (.iconst 0, 1) := by decide +kernel
theorem dc_T_sameSteps_1 : decode bc_T_sameSteps 1 = .ok (.istore 4, 2) := by decide +kernel
theorem dc_T_sameSteps_3 : decode bc_T_sameSteps 3 = .ok (.iload 4, 2) := by decide +kernel
theorem dc_T_sameSteps_5 : decode bc_T_sameSteps 5 = .ok (.iconst 1, 1) := by decide +kernel
theorem dc_T_sameSteps_6 : decode bc_T_sameSteps 6 = .ok (.iadd, 1) := by decide +kernel
theorem dc_T_sameSteps_7 : decode bc_T_sameSteps 7 = .ok (.iload_n 1, 1) := by decide +kernel
theorem dc_T_sameSteps_8 : decode bc_T_sameSteps 8 = .ok (.if_icmp .ge 28, 3) := by decide +kernel
theorem dc_T_sameSteps_11 : decode bc_T_sameSteps 11 = .ok (.aload_n 0, 1) := by decide +kernel
theorem dc_T_sameSteps_12 : decode bc_T_sameSteps 12 = .ok (.iload 4, 2) := by decide +kernel
theorem dc_T_sameSteps_14 : decode bc_T_sameSteps 14 = .ok (.invokevirtual 121, 3) := by decide +kernel
theorem dc_T_sameSteps_17 : decode bc_T_sameSteps 17 = .ok (.aload_n 2, 1) := by decide +kernel
theorem dc_T_sameSteps_18 : decode bc_T_sameSteps 18 = .ok (.iload_n 3, 1) := by decide +kernel
theorem dc_T_sameSteps_19 : decode bc_T_sameSteps 19 = .ok (.iload 4, 2) := by decide +kernel
theorem dc_T_sameSteps_21 : decode bc_T_sameSteps 21 = .ok (.iadd, 1) := by decide +kernel
theorem dc_T_sameSteps_22 : decode bc_T_sameSteps 22 = .ok (.invokevirtual 121, 3) := by decide +kernel
theorem dc_T_sameSteps_25 : decode bc_T_sameSteps 25 = .ok (.if_icmp .eq 5, 3) := by decide +kernel
theorem dc_T_sameSteps_28 : decode bc_T_sameSteps 28 = .ok (.iconst 0, 1) := by decide +kernel
theorem dc_T_sameSteps_29 : decode bc_T_sameSteps 29 = .ok (.ireturn, 1) := by decide +kernel
theorem dc_T_sameSteps_30 : decode bc_T_sameSteps 30 = .ok (.iinc 4 1, 3) := by decide +kernel
theorem dc_T_sameSteps_33 : decode bc_T_sameSteps 33 = .ok (.goto (-30), 3) := by decide +kernel
theorem dc_T_sameSteps_36 : decode bc_T_sameSteps 36 = .ok (.iconst 1, 1) := by decide +kernel
theorem dc_T_sameSteps_37 : decode bc_T_sameSteps 37 = .ok (.ireturn, 1) := by decide +kernel
theorem dc_T_sameRatio_0 : decode bc_T_sameRatio 0 = .ok (.iconst 1, 1) := by decide +kernel
theorem dc_T_sameRatio_1 : decode bc_T_sameRatio 1 = .ok (.istore_n 3, 1) := by decide +kernel
theorem dc_T_sameRatio_2 : decode bc_T_sameRatio 2 = .ok (.iload_n 3, 1) := by decide +kernel
theorem dc_T_sameRatio_3 : decode bc_T_sameRatio 3 = .ok (.aload_n 0, 1) := by decide +kernel
theorem dc_T_sameRatio_4 : decode bc_T_sameRatio 4 = .ok (.getfield 84, 3) := by decide +kernel
theorem dc_T_sameRatio_7 : decode bc_T_sameRatio 7 = .ok (.if_icmp .ge 42, 3) := by decide +kernel
theorem dc_T_sameRatio_10 : decode bc_T_sameRatio 10 = .ok (.aload_n 0, 1) := by decide +kernel
theorem dc_T_sameRatio_11 : decode bc_T_sameRatio 11 = .ok (.getfield 250, 3) := by decide +kernel
theorem dc_T_sameRatio_14 : decode bc_T_sameRatio 14 = .ok (.iload_n 3, 1) := by decide +kernel
theorem dc_T_sameRatio_15 : decode bc_T_sameRatio 15 = .ok (.iaload, 1) := by decide +kernel
theorem dc_T_sameRatio_16 : decode bc_T_sameRatio 16 = .ok (.aload_n 1, 1) := by decide +kernel
theorem dc_T_sameRatio_17 : decode bc_T_sameRatio 17 = .ok (.getfield 250, 3) := by decide +kernel
theorem dc_T_sameRatio_20 : decode bc_T_sameRatio 20 = .ok (.iload_n 2, 1) := by decide +kernel
theorem dc_T_sameRatio_21 : decode bc_T_sameRatio 21 = .ok (.iaload, 1) := by decide +kernel
theorem dc_T_sameRatio_22 : decode bc_T_sameRatio 22 = .ok (.imul, 1) := by decide +kernel
theorem dc_T_sameRatio_23 : decode bc_T_sameRatio 23 = .ok (.aload_n 1, 1) := by decide +kernel
theorem dc_T_sameRatio_24 : decode bc_T_sameRatio 24 = .ok (.getfield 250, 3) := by decide +kernel
theorem dc_T_sameRatio_27 : decode bc_T_sameRatio 27 = .ok (.iload_n 2, 1) := by decide +kernel
theorem dc_T_sameRatio_28 : decode bc_T_sameRatio 28 = .ok (.iload_n 3, 1) := by decide +kernel
theorem dc_T_sameRatio_29 : decode bc_T_sameRatio 29 = .ok (.iadd, 1) := by decide +kernel
theorem dc_T_sameRatio_30 : decode bc_T_sameRatio 30 = .ok (.iaload, 1) := by decide +kernel
theorem dc_T_sameRatio_31 : decode bc_T_sameRatio 31 = .ok (.aload_n 0, 1) := by decide +kernel
theorem dc_T_sameRatio_32 : decode bc_T_sameRatio 32 = .ok (.getfield 250, 3) := by decide +kernel
theorem dc_T_sameRatio_35 : decode bc_T_sameRatio 35 = .ok (.iconst 0, 1) := by decide +kernel
theorem dc_T_sameRatio_36 : decode bc_T_sameRatio 36 = .ok (.iaload, 1) := by decide +kernel
theorem dc_T_sameRatio_37 : decode bc_T_sameRatio 37 = .ok (.imul, 1) := by decide +kernel
theorem dc_T_sameRatio_38 : decode bc_T_sameRatio 38 = .ok (.if_icmp .eq 5, 3) := by decide +kernel
theorem dc_T_sameRatio_41 : decode bc_T_sameRatio 41 = .ok (.iconst 0, 1) := by decide +kernel
theorem dc_T_sameRatio_42 : decode bc_T_sameRatio 42 = .ok (.ireturn, 1) := by decide +kernel
theorem dc_T_sameRatio_43 : decode bc_T_sameRatio 43 = .ok (.iinc 3 1, 3) := by decide +kernel
theorem dc_T_sameRatio_46 : decode bc_T_sameRatio 46 = .ok (.goto (-44), 3) := by decide +kernel
theorem dc_T_sameRatio_49 : decode bc_T_sameRatio 49 = .ok (.iconst 1, 1) := by decide +kernel
theorem dc_T_sameRatio_50 : decode bc_T_sameRatio 50 = .ok (.ireturn, 1) := by decide +kernel
theorem dc_T_sameContour_0 : decode bc_T_sameContour 0 = .ok (.iconst 0, 1) := by decide +kernel
theorem dc_T_sameContour_1 : decode bc_T_sameContour 1 = .ok (.istore_n 3, 1) := by decide +kernel
theorem dc_T_sameContour_2 : decode bc_T_sameContour 2 = .ok (.iload_n 3, 1) := by decide +kernel
theorem dc_T_sameContour_3 : decode bc_T_sameContour 3 = .ok (.aload_n 0, 1) := by decide +kernel
theorem dc_T_sameContour_4 : decode bc_T_sameContour 4 = .ok (.invokevirtual 117, 3) := by decide +kernel
theorem dc_T_sameContour_7 : decode bc_T_sameContour 7 = .ok (.if_icmp .ge 32, 3) := by decide +kernel
theorem dc_T_sameContour_10 : decode bc_T_sameContour 10 = .ok (.aload_n 0, 1) := by decide +kernel
theorem dc_T_sameContour_11 : decode bc_T_sameContour 11 = .ok (.iload_n 3, 1) := by decide +kernel
theorem dc_T_sameContour_12 : decode bc_T_sameContour 12 = .ok (.invokevirtual 121, 3) := by decide +kernel
theorem dc_T_sameContour_15 : decode bc_T_sameContour 15 = .ok (.invokestatic 245, 3) := by decide +kernel
theorem dc_T_sameContour_18 : decode bc_T_sameContour 18 = .ok (.aload_n 1, 1) := by decide +kernel
theorem dc_T_sameContour_19 : decode bc_T_sameContour 19 = .ok (.iload_n 2, 1) := by decide +kernel
theorem dc_T_sameContour_20 : decode bc_T_sameContour 20 = .ok (.iload_n 3, 1) := by decide +kernel
theorem dc_T_sameContour_21 : decode bc_T_sameContour 21 = .ok (.iadd, 1) := by decide +kernel
theorem dc_T_sameContour_22 : decode bc_T_sameContour 22 = .ok (.invokevirtual 121, 3) := by decide +kernel
theorem dc_T_sameContour_25 : decode bc_T_sameContour 25 = .ok (.invokestatic 245, 3) := by decide +kernel
theorem dc_T_sameContour_28 : decode bc_T_sameContour 28 = .ok (.if_icmp .eq 5, 3) := by decide +kernel
theorem dc_T_sameContour_31 : decode bc_T_sameContour 31 = .ok (.iconst 0, 1) := by decide +kernel
theorem dc_T_sameContour_32 : decode bc_T_sameContour 32 = .ok (.ireturn, 1) := by decide +kernel
theorem dc_T_sameContour_33 : decode bc_T_sameContour 33 = .ok (.iinc 3 1, 3) := by decide +kernel
theorem dc_T_sameContour_36 : decode bc_T_sameContour 36 = .ok (.goto (-34), 3) := by decide +kernel
theorem dc_T_sameContour_39 : decode bc_T_sameContour 39 = .ok (.iconst 1, 1) := by decide +kernel
theorem dc_T_sameContour_40 : decode bc_T_sameContour 40 = .ok (.ireturn, 1) := by decide +kernel
theorem dc_T_match_0 : decode bc_T_match 0 = .ok (.iload_n 1, 1) := by decide +kernel
theorem dc_T_match_1 : decode bc_T_match 1 = .ok (.ifCond .lt 14, 3) := by decide +kernel
theorem dc_T_match_4 : decode bc_T_match 4 = .ok (.iload_n 1, 1) := by decide +kernel
theorem dc_T_match_5 : decode bc_T_match 5 = .ok (.aload_n 0, 1) := by decide +kernel
theorem dc_T_match_6 : decode bc_T_match 6 = .ok (.getfield 28, 3) := by decide +kernel
theorem dc_T_match_9 : decode bc_T_match 9 = .ok (.getfield 137, 3) := by decide +kernel
theorem dc_T_match_12 : decode bc_T_match 12 = .ok (.if_icmp .lt 11, 3) := by decide +kernel
theorem dc_T_match_15 : decode bc_T_match 15 = .ok (.new 50, 3) := by decide +kernel
theorem dc_T_match_18 : decode bc_T_match 18 = .ok (.dup, 1) := by decide +kernel
theorem dc_T_match_19 : decode bc_T_match 19 = .ok (.invokespecial 52, 3) := by decide +kernel
theorem dc_T_match_22 : decode bc_T_match 22 = .ok (.athrow, 1) := by decide +kernel
theorem dc_T_match_23 : decode bc_T_match 23 = .ok (.aload_n 0, 1) := by decide +kernel
theorem dc_T_match_24 : decode bc_T_match 24 = .ok (.getfield 28, 3) := by decide +kernel
theorem dc_T_match_27 : decode bc_T_match 27 = .ok (.getfield 140, 3) := by decide +kernel
theorem dc_T_match_30 : decode bc_T_match 30 = .ok (.iload_n 1, 1) := by decide +kernel
theorem dc_T_match_31 : decode bc_T_match 31 = .ok (.aaload, 1) := by decide +kernel
theorem dc_T_match_32 : decode bc_T_match 32 = .ok (.astore_n 3, 1) := by decide +kernel
theorem dc_T_match_33 : decode bc_T_match 33 = .ok (.iload_n 2, 1) := by decide +kernel
theorem dc_T_match_34 : decode bc_T_match 34 = .ok (.tableswitch 76 0 5 #[38, 43, 48, 53, 58, 67], 38) := by decide +kernel
theorem dc_T_match_72 : decode bc_T_match 72 = .ok (.aload_n 3, 1) := by decide +kernel
theorem dc_T_match_73 : decode bc_T_match 73 = .ok (.getfield 144, 3) := by decide +kernel
theorem dc_T_match_76 : decode bc_T_match 76 = .ok (.ireturn, 1) := by decide +kernel
theorem dc_T_match_77 : decode bc_T_match 77 = .ok (.aload_n 3, 1) := by decide +kernel
theorem dc_T_match_78 : decode bc_T_match 78 = .ok (.getfield 149, 3) := by decide +kernel
theorem dc_T_match_81 : decode bc_T_match 81 = .ok (.ireturn, 1) := by decide +kernel
theorem dc_T_match_82 : decode bc_T_match 82 = .ok (.aload_n 3, 1) := by decide +kernel
theorem dc_T_match_83 : decode bc_T_match 83 = .ok (.getfield 152, 3) := by decide +kernel
theorem dc_T_match_86 : decode bc_T_match 86 = .ok (.ireturn, 1) := by decide +kernel
theorem dc_T_match_87 : decode bc_T_match 87 = .ok (.aload_n 3, 1) := by decide +kernel
theorem dc_T_match_88 : decode bc_T_match 88 = .ok (.getfield 155, 3) := by decide +kernel
theorem dc_T_match_91 : decode bc_T_match 91 = .ok (.ireturn, 1) := by decide +kernel
theorem dc_T_match_92 : decode bc_T_match 92 = .ok (.aload_n 0, 1) := by decide +kernel
theorem dc_T_match_93 : decode bc_T_match 93 = .ok (.getfield 28, 3) := by decide +kernel
theorem dc_T_match_96 : decode bc_T_match 96 = .ok (.aload_n 3, 1) := by decide +kernel
theorem dc_T_match_97 : decode bc_T_match 97 = .ok (.invokevirtual 158, 3) := by decide +kernel
theorem dc_T_match_100 : decode bc_T_match 100 = .ok (.ireturn, 1) := by decide +kernel
theorem dc_T_match_101 : decode bc_T_match 101 = .ok (.aload_n 0, 1) := by decide +kernel
theorem dc_T_match_102 : decode bc_T_match 102 = .ok (.getfield 28, 3) := by decide +kernel
theorem dc_T_match_105 : decode bc_T_match 105 = .ok (.aload_n 3, 1) := by decide +kernel
theorem dc_T_match_106 : decode bc_T_match 106 = .ok (.invokevirtual 162, 3) := by decide +kernel
theorem dc_T_match_109 : decode bc_T_match 109 = .ok (.ireturn, 1) := by decide +kernel
theorem dc_T_match_110 : decode bc_T_match 110 = .ok (.new 114, 3) := by decide +kernel
theorem dc_T_match_113 : decode bc_T_match 113 = .ok (.dup, 1) := by decide +kernel
theorem dc_T_match_114 : decode bc_T_match 114 = .ok (.invokespecial 116, 3) := by decide +kernel
theorem dc_T_match_117 : decode bc_T_match 117 = .ok (.athrow, 1) := by decide +kernel
theorem dc_T_repeats_0 : decode bc_T_repeats 0 = .ok (.aload_n 0, 1) := by decide +kernel
theorem dc_T_repeats_1 : decode bc_T_repeats 1 = .ok (.iload_n 1, 1) := by decide +kernel
theorem dc_T_repeats_2 : decode bc_T_repeats 2 = .ok (.invokevirtual 63, 3) := by decide +kernel
theorem dc_T_repeats_5 : decode bc_T_repeats 5 = .ok (.astore_n 3, 1) := by decide +kernel
theorem dc_T_repeats_6 : decode bc_T_repeats 6 = .ok (.iload_n 2, 1) := by decide +kernel
theorem dc_T_repeats_7 : decode bc_T_repeats 7 = .ok (.invokestatic 165, 3) := by decide +kernel
theorem dc_T_repeats_10 : decode bc_T_repeats 10 = .ok (.aload_n 0, 1) := by decide +kernel
theorem dc_T_repeats_11 : decode bc_T_repeats 11 = .ok (.getfield 42, 3) := by decide +kernel
theorem dc_T_repeats_14 : decode bc_T_repeats 14 = .ok (.aload_n 3, 1) := by decide +kernel
theorem dc_T_repeats_15 : decode bc_T_repeats 15 = .ok (.getfield 81, 3) := by decide +kernel
theorem dc_T_repeats_18 : decode bc_T_repeats 18 = .ok (.iload_n 2, 1) := by decide +kernel
theorem dc_T_repeats_19 : decode bc_T_repeats 19 = .ok (.iconst (-1), 1) := by decide +kernel
theorem dc_T_repeats_20 : decode bc_T_repeats 20 = .ok (.invokevirtual 168, 3) := by decide +kernel
theorem dc_T_repeats_23 : decode bc_T_repeats 23 = .ok (.ireturn, 1) := by decide +kernel
theorem dc_T_refuseUnlessLeast_0 : decode bc_T_refuseUnlessLeast 0 = .ok (.iload_n 0, 1) := by decide +kernel
theorem dc_T_refuseUnlessLeast_1 : decode bc_T_refuseUnlessLeast 1 = .ok (.iconst 1, 1) := by decide +kernel
theorem dc_T_refuseUnlessLeast_2 : decode bc_T_refuseUnlessLeast 2 = .ok (.if_icmp .lt 9, 3) := by decide +kernel
theorem dc_T_refuseUnlessLeast_5 : decode bc_T_refuseUnlessLeast 5 = .ok (.iload_n 0, 1) := by decide +kernel
theorem dc_T_refuseUnlessLeast_6 : decode bc_T_refuseUnlessLeast 6 = .ok (.bipush 19, 2) := by decide +kernel
theorem dc_T_refuseUnlessLeast_8 : decode bc_T_refuseUnlessLeast 8 = .ok (.if_icmp .le 11, 3) := by decide +kernel
theorem dc_T_refuseUnlessLeast_11 : decode bc_T_refuseUnlessLeast 11 = .ok (.new 114, 3) := by decide +kernel
theorem dc_T_refuseUnlessLeast_14 : decode bc_T_refuseUnlessLeast 14 = .ok (.dup, 1) := by decide +kernel
theorem dc_T_refuseUnlessLeast_15 : decode bc_T_refuseUnlessLeast 15 = .ok (.invokespecial 116, 3) := by decide +kernel
theorem dc_T_refuseUnlessLeast_18 : decode bc_T_refuseUnlessLeast 18 = .ok (.athrow, 1) := by decide +kernel
theorem dc_T_refuseUnlessLeast_19 : decode bc_T_refuseUnlessLeast 19 = .ok (.return_, 1) := by decide +kernel
theorem dc_T_repeat_0 : decode bc_T_repeat 0 = .ok (.aload_n 0, 1) := by decide +kernel
theorem dc_T_repeat_1 : decode bc_T_repeat 1 = .ok (.iload_n 1, 1) := by decide +kernel
theorem dc_T_repeat_2 : decode bc_T_repeat 2 = .ok (.invokevirtual 63, 3) := by decide +kernel
theorem dc_T_repeat_5 : decode bc_T_repeat 5 = .ok (.astore 5, 2) := by decide +kernel
theorem dc_T_repeat_7 : decode bc_T_repeat 7 = .ok (.iload_n 2, 1) := by decide +kernel
theorem dc_T_repeat_8 : decode bc_T_repeat 8 = .ok (.invokestatic 165, 3) := by decide +kernel
theorem dc_T_repeat_11 : decode bc_T_repeat 11 = .ok (.iload 4, 2) := by decide +kernel
theorem dc_T_repeat_13 : decode bc_T_repeat 13 = .ok (.ifCond .lt 9, 3) := by decide +kernel
theorem dc_T_repeat_16 : decode bc_T_repeat 16 = .ok (.iload 4, 2) := by decide +kernel
theorem dc_T_repeat_18 : decode bc_T_repeat 18 = .ok (.iconst 2, 1) := by decide +kernel
theorem dc_T_repeat_19 : decode bc_T_repeat 19 = .ok (.if_icmp .le 11, 3) := by decide +kernel
theorem dc_T_repeat_22 : decode bc_T_repeat 22 = .ok (.new 114, 3) := by decide +kernel
theorem dc_T_repeat_25 : decode bc_T_repeat 25 = .ok (.dup, 1) := by decide +kernel
theorem dc_T_repeat_26 : decode bc_T_repeat 26 = .ok (.invokespecial 116, 3) := by decide +kernel
theorem dc_T_repeat_29 : decode bc_T_repeat 29 = .ok (.athrow, 1) := by decide +kernel
theorem dc_T_repeat_30 : decode bc_T_repeat 30 = .ok (.iload_n 3, 1) := by decide +kernel
theorem dc_T_repeat_31 : decode bc_T_repeat 31 = .ok (.ifCond .lt 21, 3) := by decide +kernel
theorem dc_T_repeat_34 : decode bc_T_repeat 34 = .ok (.aload_n 0, 1) := by decide +kernel
theorem dc_T_repeat_35 : decode bc_T_repeat 35 = .ok (.getfield 42, 3) := by decide +kernel
theorem dc_T_repeat_38 : decode bc_T_repeat 38 = .ok (.aload 5, 2) := by decide +kernel
theorem dc_T_repeat_40 : decode bc_T_repeat 40 = .ok (.getfield 81, 3) := by decide +kernel
theorem dc_T_repeat_43 : decode bc_T_repeat 43 = .ok (.iload_n 2, 1) := by decide +kernel
theorem dc_T_repeat_44 : decode bc_T_repeat 44 = .ok (.iload_n 3, 1) := by decide +kernel
theorem dc_T_repeat_45 : decode bc_T_repeat 45 = .ok (.invokevirtual 168, 3) := by decide +kernel
theorem dc_T_repeat_48 : decode bc_T_repeat 48 = .ok (.iload_n 3, 1) := by decide +kernel
theorem dc_T_repeat_49 : decode bc_T_repeat 49 = .ok (.if_icmp .gt 5, 3) := by decide +kernel
theorem dc_T_repeat_52 : decode bc_T_repeat 52 = .ok (.iconst (-1), 1) := by decide +kernel
theorem dc_T_repeat_53 : decode bc_T_repeat 53 = .ok (.ireturn, 1) := by decide +kernel
theorem dc_T_repeat_54 : decode bc_T_repeat 54 = .ok (.iload 4, 2) := by decide +kernel
theorem dc_T_repeat_56 : decode bc_T_repeat 56 = .ok (.lookupswitch 44 #[(0, 28), (1, 36)], 28) := by decide +kernel
theorem dc_T_repeat_84 : decode bc_T_repeat 84 = .ok (.aload_n 0, 1) := by decide +kernel
theorem dc_T_repeat_85 : decode bc_T_repeat 85 = .ok (.getfield 42, 3) := by decide +kernel
theorem dc_T_repeat_88 : decode bc_T_repeat 88 = .ok (.getfield 172, 3) := by decide +kernel
theorem dc_T_repeat_91 : decode bc_T_repeat 91 = .ok (.ireturn, 1) := by decide +kernel
theorem dc_T_repeat_92 : decode bc_T_repeat 92 = .ok (.aload_n 0, 1) := by decide +kernel
theorem dc_T_repeat_93 : decode bc_T_repeat 93 = .ok (.getfield 42, 3) := by decide +kernel
theorem dc_T_repeat_96 : decode bc_T_repeat 96 = .ok (.getfield 175, 3) := by decide +kernel
theorem dc_T_repeat_99 : decode bc_T_repeat 99 = .ok (.ireturn, 1) := by decide +kernel
theorem dc_T_repeat_100 : decode bc_T_repeat 100 = .ok (.aload_n 0, 1) := by decide +kernel
theorem dc_T_repeat_101 : decode bc_T_repeat 101 = .ok (.getfield 42, 3) := by decide +kernel
theorem dc_T_repeat_104 : decode bc_T_repeat 104 = .ok (.getfield 178, 3) := by decide +kernel
theorem dc_T_repeat_107 : decode bc_T_repeat 107 = .ok (.ireturn, 1) := by decide +kernel
theorem dc_T_canon_0 : decode bc_T_canon 0 = .ok (.aload_n 0, 1) := by decide +kernel
theorem dc_T_canon_1 : decode bc_T_canon 1 = .ok (.iload_n 1, 1) := by decide +kernel
theorem dc_T_canon_2 : decode bc_T_canon 2 = .ok (.invokevirtual 63, 3) := by decide +kernel
theorem dc_T_canon_5 : decode bc_T_canon 5 = .ok (.getfield 81, 3) := by decide +kernel
theorem dc_T_canon_8 : decode bc_T_canon 8 = .ok (.astore 4, 2) := by decide +kernel
theorem dc_T_canon_10 : decode bc_T_canon 10 = .ok (.aload_n 0, 1) := by decide +kernel
theorem dc_T_canon_11 : decode bc_T_canon 11 = .ok (.iload_n 2, 1) := by decide +kernel
theorem dc_T_canon_12 : decode bc_T_canon 12 = .ok (.invokevirtual 63, 3) := by decide +kernel
theorem dc_T_canon_15 : decode bc_T_canon 15 = .ok (.getfield 81, 3) := by decide +kernel
theorem dc_T_canon_18 : decode bc_T_canon 18 = .ok (.astore 5, 2) := by decide +kernel
theorem dc_T_canon_20 : decode bc_T_canon 20 = .ok (.iload_n 3, 1) := by decide +kernel
theorem dc_T_canon_21 : decode bc_T_canon 21 = .ok (.iconst 2, 1) := by decide +kernel
theorem dc_T_canon_22 : decode bc_T_canon 22 = .ok (.if_icmp .lt 9, 3) := by decide +kernel
theorem dc_T_canon_25 : decode bc_T_canon 25 = .ok (.iload_n 3, 1) := by decide +kernel
theorem dc_T_canon_26 : decode bc_T_canon 26 = .ok (.bipush 20, 2) := by decide +kernel
theorem dc_T_canon_28 : decode bc_T_canon 28 = .ok (.if_icmp .le 11, 3) := by decide +kernel
theorem dc_T_canon_31 : decode bc_T_canon 31 = .ok (.new 114, 3) := by decide +kernel
theorem dc_T_canon_34 : decode bc_T_canon 34 = .ok (.dup, 1) := by decide +kernel
theorem dc_T_canon_35 : decode bc_T_canon 35 = .ok (.invokespecial 116, 3) := by decide +kernel
theorem dc_T_canon_38 : decode bc_T_canon 38 = .ok (.athrow, 1) := by decide +kernel
theorem dc_T_canon_39 : decode bc_T_canon 39 = .ok (.aload 5, 2) := by decide +kernel
theorem dc_T_canon_41 : decode bc_T_canon 41 = .ok (.getfield 84, 3) := by decide +kernel
theorem dc_T_canon_44 : decode bc_T_canon 44 = .ok (.iload_n 3, 1) := by decide +kernel
theorem dc_T_canon_45 : decode bc_T_canon 45 = .ok (.if_icmp .ge 5, 3) := by decide +kernel
theorem dc_T_canon_48 : decode bc_T_canon 48 = .ok (.iconst (-1), 1) := by decide +kernel
theorem dc_T_canon_49 : decode bc_T_canon 49 = .ok (.ireturn, 1) := by decide +kernel
theorem dc_T_canon_50 : decode bc_T_canon 50 = .ok (.iload_n 1, 1) := by decide +kernel
theorem dc_T_canon_51 : decode bc_T_canon 51 = .ok (.iload_n 2, 1) := by decide +kernel
theorem dc_T_canon_52 : decode bc_T_canon 52 = .ok (.if_icmp .ne 7, 3) := by decide +kernel
theorem dc_T_canon_55 : decode bc_T_canon 55 = .ok (.iconst 1, 1) := by decide +kernel
theorem dc_T_canon_56 : decode bc_T_canon 56 = .ok (.goto 4, 3) := by decide +kernel
theorem dc_T_canon_59 : decode bc_T_canon 59 = .ok (.iconst 0, 1) := by decide +kernel
theorem dc_T_canon_60 : decode bc_T_canon 60 = .ok (.istore 6, 2) := by decide +kernel
theorem dc_T_canon_62 : decode bc_T_canon 62 = .ok (.iload 6, 2) := by decide +kernel
theorem dc_T_canon_64 : decode bc_T_canon 64 = .ok (.iload_n 3, 1) := by decide +kernel
theorem dc_T_canon_65 : decode bc_T_canon 65 = .ok (.iadd, 1) := by decide +kernel
theorem dc_T_canon_66 : decode bc_T_canon 66 = .ok (.aload 4, 2) := by decide +kernel
theorem dc_T_canon_68 : decode bc_T_canon 68 = .ok (.getfield 84, 3) := by decide +kernel
theorem dc_T_canon_71 : decode bc_T_canon 71 = .ok (.if_icmp .gt 38, 3) := by decide +kernel
theorem dc_T_canon_74 : decode bc_T_canon 74 = .ok (.aload 5, 2) := by decide +kernel
theorem dc_T_canon_76 : decode bc_T_canon 76 = .ok (.iload_n 3, 1) := by decide +kernel
theorem dc_T_canon_77 : decode bc_T_canon 77 = .ok (.aload 4, 2) := by decide +kernel
theorem dc_T_canon_79 : decode bc_T_canon 79 = .ok (.iload 6, 2) := by decide +kernel
theorem dc_T_canon_81 : decode bc_T_canon 81 = .ok (.invokestatic 181, 3) := by decide +kernel
theorem dc_T_canon_84 : decode bc_T_canon 84 = .ok (.ifCond .eq 19, 3) := by decide +kernel
theorem dc_T_canon_87 : decode bc_T_canon 87 = .ok (.aload 5, 2) := by decide +kernel
theorem dc_T_canon_89 : decode bc_T_canon 89 = .ok (.iload_n 3, 1) := by decide +kernel
theorem dc_T_canon_90 : decode bc_T_canon 90 = .ok (.aload 4, 2) := by decide +kernel
theorem dc_T_canon_92 : decode bc_T_canon 92 = .ok (.iload 6, 2) := by decide +kernel
theorem dc_T_canon_94 : decode bc_T_canon 94 = .ok (.invokestatic 185, 3) := by decide +kernel
theorem dc_T_canon_97 : decode bc_T_canon 97 = .ok (.ifCond .eq 6, 3) := by decide +kernel
theorem dc_T_canon_100 : decode bc_T_canon 100 = .ok (.iload 6, 2) := by decide +kernel
theorem dc_T_canon_102 : decode bc_T_canon 102 = .ok (.ireturn, 1) := by decide +kernel
theorem dc_T_canon_103 : decode bc_T_canon 103 = .ok (.iinc 6 1, 3) := by decide +kernel
theorem dc_T_canon_106 : decode bc_T_canon 106 = .ok (.goto (-44), 3) := by decide +kernel
theorem dc_T_canon_109 : decode bc_T_canon 109 = .ok (.iconst (-1), 1) := by decide +kernel
theorem dc_T_canon_110 : decode bc_T_canon 110 = .ok (.ireturn, 1) := by decide +kernel
theorem dc_T_sameLengths_0 : decode bc_T_sameLengths 0 = .ok (.iconst 0, 1) := by decide +kernel
theorem dc_T_sameLengths_1 : decode bc_T_sameLengths 1 = .ok (.istore 4, 2) := by decide +kernel
theorem dc_T_sameLengths_3 : decode bc_T_sameLengths 3 = .ok (.iload 4, 2) := by decide +kernel
theorem dc_T_sameLengths_5 : decode bc_T_sameLengths 5 = .ok (.iload_n 1, 1) := by decide +kernel
theorem dc_T_sameLengths_6 : decode bc_T_sameLengths 6 = .ok (.if_icmp .ge 30, 3) := by decide +kernel
theorem dc_T_sameLengths_9 : decode bc_T_sameLengths 9 = .ok (.aload_n 0, 1) := by decide +kernel
theorem dc_T_sameLengths_10 : decode bc_T_sameLengths 10 = .ok (.getfield 250, 3) := by decide +kernel
theorem dc_T_sameLengths_13 : decode bc_T_sameLengths 13 = .ok (.iload 4, 2) := by decide +kernel
theorem dc_T_sameLengths_15 : decode bc_T_sameLengths 15 = .ok (.iaload, 1) := by decide +kernel
theorem dc_T_sameLengths_16 : decode bc_T_sameLengths 16 = .ok (.aload_n 2, 1) := by decide +kernel
theorem dc_T_sameLengths_17 : decode bc_T_sameLengths 17 = .ok (.getfield 250, 3) := by decide +kernel
theorem dc_T_sameLengths_20 : decode bc_T_sameLengths 20 = .ok (.iload_n 3, 1) := by decide +kernel
theorem dc_T_sameLengths_21 : decode bc_T_sameLengths 21 = .ok (.iload 4, 2) := by decide +kernel
theorem dc_T_sameLengths_23 : decode bc_T_sameLengths 23 = .ok (.iadd, 1) := by decide +kernel
theorem dc_T_sameLengths_24 : decode bc_T_sameLengths 24 = .ok (.iaload, 1) := by decide +kernel
theorem dc_T_sameLengths_25 : decode bc_T_sameLengths 25 = .ok (.if_icmp .eq 5, 3) := by decide +kernel
theorem dc_T_sameLengths_28 : decode bc_T_sameLengths 28 = .ok (.iconst 0, 1) := by decide +kernel
theorem dc_T_sameLengths_29 : decode bc_T_sameLengths 29 = .ok (.ireturn, 1) := by decide +kernel
theorem dc_T_sameLengths_30 : decode bc_T_sameLengths 30 = .ok (.iinc 4 1, 3) := by decide +kernel
theorem dc_T_sameLengths_33 : decode bc_T_sameLengths 33 = .ok (.goto (-30), 3) := by decide +kernel
theorem dc_T_sameLengths_36 : decode bc_T_sameLengths 36 = .ok (.iconst 1, 1) := by decide +kernel
theorem dc_T_sameLengths_37 : decode bc_T_sameLengths 37 = .ok (.ireturn, 1) := by decide +kernel
theorem dc_T_opening_0 : decode bc_T_opening 0 = .ok (.aload_n 0, 1) := by decide +kernel
theorem dc_T_opening_1 : decode bc_T_opening 1 = .ok (.iload_n 1, 1) := by decide +kernel
theorem dc_T_opening_2 : decode bc_T_opening 2 = .ok (.invokevirtual 63, 3) := by decide +kernel
theorem dc_T_opening_5 : decode bc_T_opening 5 = .ok (.astore_n 3, 1) := by decide +kernel
theorem dc_T_opening_6 : decode bc_T_opening 6 = .ok (.iconst 0, 1) := by decide +kernel
theorem dc_T_opening_7 : decode bc_T_opening 7 = .ok (.istore 4, 2) := by decide +kernel
theorem dc_T_opening_9 : decode bc_T_opening 9 = .ok (.iload 4, 2) := by decide +kernel
theorem dc_T_opening_11 : decode bc_T_opening 11 = .ok (.bipush 8, 2) := by decide +kernel
theorem dc_T_opening_13 : decode bc_T_opening 13 = .ok (.if_icmp .ge 68, 3) := by decide +kernel
theorem dc_T_opening_16 : decode bc_T_opening 16 = .ok (.iload 4, 2) := by decide +kernel
theorem dc_T_opening_18 : decode bc_T_opening 18 = .ok (.iload_n 1, 1) := by decide +kernel
theorem dc_T_opening_19 : decode bc_T_opening 19 = .ok (.if_icmp .eq 20, 3) := by decide +kernel
theorem dc_T_opening_22 : decode bc_T_opening 22 = .ok (.aload_n 0, 1) := by decide +kernel
theorem dc_T_opening_23 : decode bc_T_opening 23 = .ok (.getfield 11, 3) := by decide +kernel
theorem dc_T_opening_26 : decode bc_T_opening 26 = .ok (.iload 4, 2) := by decide +kernel
theorem dc_T_opening_28 : decode bc_T_opening 28 = .ok (.aaload, 1) := by decide +kernel
theorem dc_T_opening_29 : decode bc_T_opening 29 = .ok (.getfield 74, 3) := by decide +kernel
theorem dc_T_opening_32 : decode bc_T_opening 32 = .ok (.ifCond .eq 7, 3) := by decide +kernel
theorem dc_T_opening_35 : decode bc_T_opening 35 = .ok (.iconst 1, 1) := by decide +kernel
theorem dc_T_opening_36 : decode bc_T_opening 36 = .ok (.goto 4, 3) := by decide +kernel
theorem dc_T_opening_39 : decode bc_T_opening 39 = .ok (.iconst 0, 1) := by decide +kernel
theorem dc_T_opening_40 : decode bc_T_opening 40 = .ok (.istore 5, 2) := by decide +kernel
theorem dc_T_opening_42 : decode bc_T_opening 42 = .ok (.aload_n 0, 1) := by decide +kernel
theorem dc_T_opening_43 : decode bc_T_opening 43 = .ok (.getfield 46, 3) := by decide +kernel
theorem dc_T_opening_46 : decode bc_T_opening 46 = .ok (.iload 4, 2) := by decide +kernel
theorem dc_T_opening_48 : decode bc_T_opening 48 = .ok (.iload 5, 2) := by decide +kernel
theorem dc_T_opening_50 : decode bc_T_opening 50 = .ok (.ifCond .eq 23, 3) := by decide +kernel
theorem dc_T_opening_53 : decode bc_T_opening 53 = .ok (.aload_n 3, 1) := by decide +kernel
theorem dc_T_opening_54 : decode bc_T_opening 54 = .ok (.getfield 81, 3) := by decide +kernel
theorem dc_T_opening_57 : decode bc_T_opening 57 = .ok (.aload_n 0, 1) := by decide +kernel
theorem dc_T_opening_58 : decode bc_T_opening 58 = .ok (.getfield 11, 3) := by decide +kernel
theorem dc_T_opening_61 : decode bc_T_opening 61 = .ok (.iload 4, 2) := by decide +kernel
theorem dc_T_opening_63 : decode bc_T_opening 63 = .ok (.aaload, 1) := by decide +kernel
theorem dc_T_opening_64 : decode bc_T_opening 64 = .ok (.getfield 81, 3) := by decide +kernel
theorem dc_T_opening_67 : decode bc_T_opening 67 = .ok (.invokestatic 188, 3) := by decide +kernel
theorem dc_T_opening_70 : decode bc_T_opening 70 = .ok (.goto 4, 3) := by decide +kernel
theorem dc_T_opening_73 : decode bc_T_opening 73 = .ok (.iconst (-1), 1) := by decide +kernel
theorem dc_T_opening_74 : decode bc_T_opening 74 = .ok (.iastore, 1) := by decide +kernel
theorem dc_T_opening_75 : decode bc_T_opening 75 = .ok (.iinc 4 1, 3) := by decide +kernel
theorem dc_T_opening_78 : decode bc_T_opening 78 = .ok (.goto (-69), 3) := by decide +kernel
theorem dc_T_opening_81 : decode bc_T_opening 81 = .ok (.iconst 0, 1) := by decide +kernel
theorem dc_T_opening_82 : decode bc_T_opening 82 = .ok (.istore 4, 2) := by decide +kernel
theorem dc_T_opening_84 : decode bc_T_opening 84 = .ok (.bipush 19, 2) := by decide +kernel
theorem dc_T_opening_86 : decode bc_T_opening 86 = .ok (.istore 5, 2) := by decide +kernel
theorem dc_T_opening_88 : decode bc_T_opening 88 = .ok (.iload 5, 2) := by decide +kernel
theorem dc_T_opening_90 : decode bc_T_opening 90 = .ok (.ifCond .lt 49, 3) := by decide +kernel
theorem dc_T_opening_93 : decode bc_T_opening 93 = .ok (.iconst 0, 1) := by decide +kernel
theorem dc_T_opening_94 : decode bc_T_opening 94 = .ok (.istore 6, 2) := by decide +kernel
theorem dc_T_opening_96 : decode bc_T_opening 96 = .ok (.iload 6, 2) := by decide +kernel
theorem dc_T_opening_98 : decode bc_T_opening 98 = .ok (.bipush 8, 2) := by decide +kernel
theorem dc_T_opening_100 : decode bc_T_opening 100 = .ok (.if_icmp .ge 33, 3) := by decide +kernel
theorem dc_T_opening_103 : decode bc_T_opening 103 = .ok (.aload_n 0, 1) := by decide +kernel
theorem dc_T_opening_104 : decode bc_T_opening 104 = .ok (.getfield 46, 3) := by decide +kernel
theorem dc_T_opening_107 : decode bc_T_opening 107 = .ok (.iload 6, 2) := by decide +kernel
theorem dc_T_opening_109 : decode bc_T_opening 109 = .ok (.iaload, 1) := by decide +kernel
theorem dc_T_opening_110 : decode bc_T_opening 110 = .ok (.iload 5, 2) := by decide +kernel
theorem dc_T_opening_112 : decode bc_T_opening 112 = .ok (.if_icmp .ne 15, 3) := by decide +kernel
theorem dc_T_opening_115 : decode bc_T_opening 115 = .ok (.iload 4, 2) := by decide +kernel
theorem dc_T_opening_117 : decode bc_T_opening 117 = .ok (.iload_n 2, 1) := by decide +kernel
theorem dc_T_opening_118 : decode bc_T_opening 118 = .ok (.if_icmp .ne 6, 3) := by decide +kernel
theorem dc_T_opening_121 : decode bc_T_opening 121 = .ok (.iload 6, 2) := by decide +kernel
theorem dc_T_opening_123 : decode bc_T_opening 123 = .ok (.ireturn, 1) := by decide +kernel
theorem dc_T_opening_124 : decode bc_T_opening 124 = .ok (.iinc 4 1, 3) := by decide +kernel
theorem dc_T_opening_127 : decode bc_T_opening 127 = .ok (.iinc 6 1, 3) := by decide +kernel
theorem dc_T_opening_130 : decode bc_T_opening 130 = .ok (.goto (-34), 3) := by decide +kernel
theorem dc_T_opening_133 : decode bc_T_opening 133 = .ok (.iinc 5 (-1), 3) := by decide +kernel
theorem dc_T_opening_136 : decode bc_T_opening 136 = .ok (.goto (-48), 3) := by decide +kernel
theorem dc_T_opening_139 : decode bc_T_opening 139 = .ok (.iconst (-1), 1) := by decide +kernel
theorem dc_T_opening_140 : decode bc_T_opening 140 = .ok (.ireturn, 1) := by decide +kernel
theorem dc_T_stepsSharedAtFirst_0 : decode bc_T_stepsSharedAtFirst 0 = .ok (.aload_n 0, 1) := by decide +kernel
theorem dc_T_stepsSharedAtFirst_1 : decode bc_T_stepsSharedAtFirst 1 = .ok (.invokevirtual 117, 3) := by decide +kernel
theorem dc_T_stepsSharedAtFirst_4 : decode bc_T_stepsSharedAtFirst 4 = .ok (.aload_n 1, 1) := by decide +kernel
theorem dc_T_stepsSharedAtFirst_5 : decode bc_T_stepsSharedAtFirst 5 = .ok (.invokevirtual 117, 3) := by decide +kernel
theorem dc_T_stepsSharedAtFirst_8 : decode bc_T_stepsSharedAtFirst 8 = .ok (.invokestatic 253, 3) := by decide +kernel
theorem dc_T_stepsSharedAtFirst_11 : decode bc_T_stepsSharedAtFirst 11 = .ok (.istore_n 2, 1) := by decide +kernel
theorem dc_T_stepsSharedAtFirst_12 : decode bc_T_stepsSharedAtFirst 12 = .ok (.iconst 0, 1) := by decide +kernel
theorem dc_T_stepsSharedAtFirst_13 : decode bc_T_stepsSharedAtFirst 13 = .ok (.istore_n 3, 1) := by decide +kernel
theorem dc_T_stepsSharedAtFirst_14 : decode bc_T_stepsSharedAtFirst 14 = .ok (.iload_n 3, 1) := by decide +kernel
theorem dc_T_stepsSharedAtFirst_15 : decode bc_T_stepsSharedAtFirst 15 = .ok (.iload_n 2, 1) := by decide +kernel
theorem dc_T_stepsSharedAtFirst_16 : decode bc_T_stepsSharedAtFirst 16 = .ok (.if_icmp .ge 24, 3) := by decide +kernel
theorem dc_T_stepsSharedAtFirst_19 : decode bc_T_stepsSharedAtFirst 19 = .ok (.aload_n 0, 1) := by decide +kernel
theorem dc_T_stepsSharedAtFirst_20 : decode bc_T_stepsSharedAtFirst 20 = .ok (.iload_n 3, 1) := by decide +kernel
theorem dc_T_stepsSharedAtFirst_21 : decode bc_T_stepsSharedAtFirst 21 = .ok (.invokevirtual 121, 3) := by decide +kernel
theorem dc_T_stepsSharedAtFirst_24 : decode bc_T_stepsSharedAtFirst 24 = .ok (.aload_n 1, 1) := by decide +kernel
theorem dc_T_stepsSharedAtFirst_25 : decode bc_T_stepsSharedAtFirst 25 = .ok (.iload_n 3, 1) := by decide +kernel
theorem dc_T_stepsSharedAtFirst_26 : decode bc_T_stepsSharedAtFirst 26 = .ok (.invokevirtual 121, 3) := by decide +kernel
theorem dc_T_stepsSharedAtFirst_29 : decode bc_T_stepsSharedAtFirst 29 = .ok (.if_icmp .eq 5, 3) := by decide +kernel
theorem dc_T_stepsSharedAtFirst_32 : decode bc_T_stepsSharedAtFirst 32 = .ok (.iload_n 3, 1) := by decide +kernel
theorem dc_T_stepsSharedAtFirst_33 : decode bc_T_stepsSharedAtFirst 33 = .ok (.ireturn, 1) := by decide +kernel
theorem dc_T_stepsSharedAtFirst_34 : decode bc_T_stepsSharedAtFirst 34 = .ok (.iinc 3 1, 3) := by decide +kernel
theorem dc_T_stepsSharedAtFirst_37 : decode bc_T_stepsSharedAtFirst 37 = .ok (.goto (-23), 3) := by decide +kernel
theorem dc_T_stepsSharedAtFirst_40 : decode bc_T_stepsSharedAtFirst 40 = .ok (.iload_n 2, 1) := by decide +kernel
theorem dc_T_stepsSharedAtFirst_41 : decode bc_T_stepsSharedAtFirst 41 = .ok (.ireturn, 1) := by decide +kernel
end
section
section ZS
/-- all of the first n have e -/
def zp_all (e : Nat → Bool) : Nat → Bool
  | 0 => true
  | n + 1 => zp_all e n && e n
theorem zp_allS (e : Nat → Bool) (n : Nat) : zp_all e (n + 1) = (zp_all e n && e n) := rfl
theorem zp_all_f {e : Nat → Bool} {i n : Nat} (hi : i < n) (h : e i = false) : zp_all e n = false := by
  induction n with
  | zero => omega
  | succ n ih =>
    rw [zp_allS]
    by_cases c : i = n
    · rw [← c, h]; simp
    · rw [ih (by omega)]; rfl
theorem zp_all_iff {e : Nat → Bool} {n : Nat} : zp_all e n = true ↔ ∀ i, i < n → e i = true := by
  induction n with
  | zero => simp [zp_all]
  | succ n ih =>
    rw [zp_allS, Bool.and_eq_true, ih]
    constructor
    · intro ⟨h1, h2⟩ i hi
      by_cases c : i = n
      · rw [c]; exact h2
      · exact h1 i (by omega)
    · intro h
      exact ⟨fun i hi => h i (by omega), h n (by omega)⟩
theorem zn_min {a b : Nat} (ha : a < 2 ^ 31) (hb : b < 2 ^ 31) : (if nI b < nI a then nI b else nI a) = nI (if b < a then b else a) := by
  by_cases c : b < a
  · rw [if_pos c, if_pos ((nI_ltI hb ha).mpr c)]
  · rw [if_neg c, if_neg (fun h => c ((nI_ltI hb ha).mp h))]
set_option maxHeartbeats 4000000 in
set_option maxRecDepth 100000 in
theorem ct_T_sameSteps (l : Launch) (hst : l.stackTraces = false) (z : zv_T) (ad : Nat → Nat) (N : Nat) (g : Nat → va_E) (ri mr rc ni nc pl : Nat) (rp rq p q : Nat → Int32) (hrN : ri + 2 < N) (hnN : ni + 2 < N) (hr : zs_N z ad g ri mr rc rp rq) (hn : zs_N z ad g ni 20 nc p q) (hmr : mr < 2 ^ 31) (len : Nat) (hn1' : 1 ≤ len) (hn2' : len ≤ mr) (hpl : pl + len ≤ 20) : zm_i l mn_T_sameSteps ws_T_sameSteps rm_T_sameSteps z ad N g [.ref (ad ri), .int (nI len), .ref (ad ni), .int (nI pl)] (fun r g1 => r = zb_i (zp_all (fun k => decide (rp (k + 1) - rp k = p (pl + k + 1) - p (pl + k))) (len - 1)) ∧ g1 = g) := by
  obtain ⟨hr0, hr1, hr2⟩ := hr
  obtain ⟨hn0, hn1, hn2⟩ := hn
  refine zm_ofz hst pn_T_sameSteps rfl (Nat.le_of_ble_eq_true rfl) (fun X hX C => ?_)
  subst hX
  show zj_J X 0 0 _ ad N g 0 [(0, .ref (ad ri)), (1, .int (nI len)), (2, .ref (ad ni)), (3, .int (nI pl))] []
  have loop : ∀ (n : Nat) (k : Nat), len - 1 - k = n → k ≤ len - 1 → zp_all (fun k => decide (rp (k + 1) - rp k = p (pl + k + 1) - p (pl + k))) k = true → zj_J X 0 0 (zj_Qi X 0 0 ad N (fun r g1 => r = zb_i (zp_all (fun k => decide (rp (k + 1) - rp k = p (pl + k + 1) - p (pl + k))) (len - 1)) ∧ g1 = g)) ad N g 3 [(4, .int (nI k)), (0, .ref (ad ri)), (1, .int (nI len)), (2, .ref (ad ni)), (3, .int (nI pl))] [] := by
    intro n
    induction n with
    | zero =>
      intro k e1 e2 e3
      refine zj_iload C dc_T_sameSteps_3 0 rfl ?_
      refine zj_iconst (v := 1) C dc_T_sameSteps_5 (by decide) ?_
      refine zj_iadd C dc_T_sameSteps_6 ?_
      refine zj_topi (nI_1 k) ?_
      refine zj_iload_n C dc_T_sameSteps_7 rfl 2 rfl ?_
      refine zj_icmp_ge C dc_T_sameSteps_8 rfl (fun _ => ?_) (fun h => absurd h (not_not_intro ((nI_leI (by omega) (by omega)).mpr (by omega))))
      refine zj_iconst (v := 1) C dc_T_sameSteps_36 (by decide) ?_
      exact zj_zret C dc_T_sameSteps_37 rfl ⟨by rw [show len - 1 = k by omega, e3]; rfl, rfl⟩
    | succ n ih =>
      intro k e1 e2 e3
      refine zj_iload C dc_T_sameSteps_3 0 rfl ?_
      refine zj_iconst (v := 1) C dc_T_sameSteps_5 (by decide) ?_
      refine zj_iadd C dc_T_sameSteps_6 ?_
      refine zj_topi (nI_1 k) ?_
      refine zj_iload_n C dc_T_sameSteps_7 rfl 2 rfl ?_
      refine zj_icmp_ge C dc_T_sameSteps_8 rfl (fun h => absurd h (((zn_nle (by omega) (by omega)).mpr (by omega)))) (fun _ => ?_)
      refine zj_aload_n C dc_T_sameSteps_11 rfl 1 rfl ?_
      refine zj_iload C dc_T_sameSteps_12 0 rfl ?_
      refine zj_Vi C (ct_N_stepBehind _ hst z ad N g ri mr rc rp rq hrN ⟨hr0, hr1, hr2⟩ hmr (k) (by omega)) gv_T_121 rfl rfl rfl hd_N_stepBehind ⟨(Nat.le_of_ble_eq_true rfl), (Nat.le_of_ble_eq_true rfl)⟩ (by omega) hr0 rfl rfl rfl (Nat.le_of_ble_eq_true rfl) ⟨(Nat.le_of_ble_eq_true rfl), (Nat.le_of_ble_eq_true rfl)⟩ dc_T_sameSteps_14 (fun r1 g9 h1 => ?_)
      obtain ⟨rfl, hg9⟩ := h1
      rw [hg9]
      refine zj_aload_n C dc_T_sameSteps_17 rfl 3 rfl ?_
      refine zj_iload_n C dc_T_sameSteps_18 rfl 4 rfl ?_
      refine zj_iload C dc_T_sameSteps_19 0 rfl ?_
      refine zj_iadd C dc_T_sameSteps_21 ?_
      refine zj_topi (nI_add _ _) ?_
      refine zj_Vi C (ct_N_stepBehind _ hst z ad N g ni 20 nc p q hnN ⟨hn0, hn1, hn2⟩ (by decide) (pl + k) (by omega)) gv_T_121 rfl rfl rfl hd_N_stepBehind ⟨(Nat.le_of_ble_eq_true rfl), (Nat.le_of_ble_eq_true rfl)⟩ (by omega) hn0 rfl rfl rfl (Nat.le_of_ble_eq_true rfl) ⟨(Nat.le_of_ble_eq_true rfl), (Nat.le_of_ble_eq_true rfl)⟩ dc_T_sameSteps_22 (fun r2 g9 h1 => ?_)
      obtain ⟨rfl, hg9⟩ := h1
      rw [hg9]
      refine zj_icmp_eq C dc_T_sameSteps_25 rfl (fun h25 => ?_) (fun h25 => ?_)
      · skip
        refine zj_iinc C dc_T_sameSteps_30 0 rfl (zn_inc k) (by decide) rfl ?_
        refine zj_goto C dc_T_sameSteps_33 rfl ?_
        refine zj_loc (L' := [(4, .int (nI (k + 1))), (0, .ref (ad ri)), (1, .int (nI len)), (2, .ref (ad ni)), (3, .int (nI pl))]) [0, 1, 2, 3, 4] rfl ?_
        exact ih (k + 1) (by omega) (by omega) (by rw [zp_allS, e3, decide_eq_true h25]; rfl)
      · skip
        refine zj_iconst (v := 0) C dc_T_sameSteps_28 (by decide) ?_
        exact zj_zret C dc_T_sameSteps_29 rfl ⟨by rw [zp_all_f (i := k) (by omega) (decide_eq_false h25)]; rfl, rfl⟩
  refine zj_iconst (v := 0) C dc_T_sameSteps_0 (by decide) ?_
  refine zj_istore C dc_T_sameSteps_1 (by decide) rfl ?_
  refine zj_loc (L' := [(4, .int (nI 0)), (0, .ref (ad ri)), (1, .int (nI len)), (2, .ref (ad ni)), (3, .int (nI pl))]) [0, 1, 2, 3, 4] rfl ?_
  exact loop (len - 1) 0 rfl (by omega) rfl
set_option maxHeartbeats 4000000 in
set_option maxRecDepth 100000 in
theorem ct_T_sameLengths (l : Launch) (hst : l.stackTraces = false) (z : zv_T) (ad : Nat → Nat) (N : Nat) (g : Nat → va_E) (ri mr rc ni nc pl : Nat) (rp rq p q : Nat → Int32) (hrN : ri + 2 < N) (hnN : ni + 2 < N) (hr : zs_N z ad g ri mr rc rp rq) (hn : zs_N z ad g ni 20 nc p q) (hmr : mr < 2 ^ 31) (len : Nat) (hn2' : len ≤ mr) (hpl : pl + len ≤ 20) : zm_i l mn_T_sameLengths ws_T_sameLengths rm_T_sameLengths z ad N g [.ref (ad ri), .int (nI len), .ref (ad ni), .int (nI pl)] (fun r g1 => r = zb_i (zp_all (fun k => decide (rq k = q (pl + k))) len) ∧ g1 = g) := by
  obtain ⟨hr0, hr1, hr2⟩ := hr
  obtain ⟨hn0, hn1, hn2⟩ := hn
  refine zm_ofz hst pn_T_sameLengths rfl (Nat.le_of_ble_eq_true rfl) (fun X hX C => ?_)
  subst hX
  show zj_J X 0 0 _ ad N g 0 [(0, .ref (ad ri)), (1, .int (nI len)), (2, .ref (ad ni)), (3, .int (nI pl))] []
  have loop : ∀ (n : Nat) (k : Nat), len - k = n → k ≤ len → zp_all (fun k => decide (rq k = q (pl + k))) k = true → zj_J X 0 0 (zj_Qi X 0 0 ad N (fun r g1 => r = zb_i (zp_all (fun k => decide (rq k = q (pl + k))) len) ∧ g1 = g)) ad N g 3 [(4, .int (nI k)), (0, .ref (ad ri)), (1, .int (nI len)), (2, .ref (ad ni)), (3, .int (nI pl))] [] := by
    intro n
    induction n with
    | zero =>
      intro k e1 e2 e3
      refine zj_iload C dc_T_sameLengths_3 0 rfl ?_
      refine zj_iload_n C dc_T_sameLengths_5 rfl 2 rfl ?_
      refine zj_icmp_ge C dc_T_sameLengths_6 rfl (fun _ => ?_) (fun h => absurd h (not_not_intro ((nI_leI (by omega) (by omega)).mpr (by omega))))
      refine zj_iconst (v := 1) C dc_T_sameLengths_36 (by decide) ?_
      exact zj_zret C dc_T_sameLengths_37 rfl ⟨by rw [show len = k by omega, e3]; rfl, rfl⟩
    | succ n ih =>
      intro k e1 e2 e3
      refine zj_iload C dc_T_sameLengths_3 0 rfl ?_
      refine zj_iload_n C dc_T_sameLengths_5 rfl 2 rfl ?_
      refine zj_icmp_ge C dc_T_sameLengths_6 rfl (fun h => absurd h (((zn_nle (by omega) (by omega)).mpr (by omega)))) (fun _ => ?_)
      refine zj_aload_n C dc_T_sameLengths_9 rfl 1 rfl ?_
      refine zj_get (k := 1) C (by omega) hr0 rfl (by decide) fw_N fl_T_250 rfl rfl dc_T_sameLengths_10 ?_
      refine zj_iload C dc_T_sameLengths_13 0 rfl ?_
      refine zj_iald C (by omega) hr2 rfl (by omega) hmr dc_T_sameLengths_15 ?_
      refine zj_aload_n C dc_T_sameLengths_16 rfl 3 rfl ?_
      refine zj_get (k := 1) C (by omega) hn0 rfl (by decide) fw_N fl_T_250 rfl rfl dc_T_sameLengths_17 ?_
      refine zj_iload_n C dc_T_sameLengths_20 rfl 4 rfl ?_
      refine zj_iload C dc_T_sameLengths_21 0 rfl ?_
      refine zj_iadd C dc_T_sameLengths_23 ?_
      refine zj_topi (nI_add _ _) ?_
      refine zj_iald C (by omega) hn2 rfl (by omega) (by decide) dc_T_sameLengths_24 ?_
      refine zj_icmp_eq C dc_T_sameLengths_25 rfl (fun h25 => ?_) (fun h25 => ?_)
      · skip
        refine zj_iinc C dc_T_sameLengths_30 0 rfl (zn_inc k) (by decide) rfl ?_
        refine zj_goto C dc_T_sameLengths_33 rfl ?_
        refine zj_loc (L' := [(4, .int (nI (k + 1))), (0, .ref (ad ri)), (1, .int (nI len)), (2, .ref (ad ni)), (3, .int (nI pl))]) [0, 1, 2, 3, 4] rfl ?_
        exact ih (k + 1) (by omega) (by omega) (by rw [zp_allS, e3, decide_eq_true h25]; rfl)
      · skip
        refine zj_iconst (v := 0) C dc_T_sameLengths_28 (by decide) ?_
        exact zj_zret C dc_T_sameLengths_29 rfl ⟨by rw [zp_all_f (i := k) (by omega) (decide_eq_false h25)]; rfl, rfl⟩
  refine zj_iconst (v := 0) C dc_T_sameLengths_0 (by decide) ?_
  refine zj_istore C dc_T_sameLengths_1 (by decide) rfl ?_
  refine zj_loc (L' := [(4, .int (nI 0)), (0, .ref (ad ri)), (1, .int (nI len)), (2, .ref (ad ni)), (3, .int (nI pl))]) [0, 1, 2, 3, 4] rfl ?_
  exact loop len 0 rfl (by omega) rfl
set_option maxHeartbeats 4000000 in
set_option maxRecDepth 100000 in
theorem ct_T_sameRatio (l : Launch) (hst : l.stackTraces = false) (z : zv_T) (ad : Nat → Nat) (N : Nat) (g : Nat → va_E) (ri mr rc ni nc pl : Nat) (rp rq p q : Nat → Int32) (hrN : ri + 2 < N) (hnN : ni + 2 < N) (hr : zs_N z ad g ri mr rc rp rq) (hn : zs_N z ad g ni 20 nc p q) (hmr : mr < 2 ^ 31) (hc1 : 1 ≤ rc) (hc2 : rc ≤ mr) (hpl : pl + rc ≤ 20) : zm_i l mn_T_sameRatio ws_T_sameRatio rm_T_sameRatio z ad N g [.ref (ad ri), .ref (ad ni), .int (nI pl)] (fun r g1 => r = zb_i (zp_all (fun k => decide (rq (k + 1) * q pl = q (pl + (k + 1)) * rq 0)) (rc - 1)) ∧ g1 = g) := by
  obtain ⟨hr0, hr1, hr2⟩ := hr
  obtain ⟨hn0, hn1, hn2⟩ := hn
  refine zm_ofz hst pn_T_sameRatio rfl (Nat.le_of_ble_eq_true rfl) (fun X hX C => ?_)
  subst hX
  show zj_J X 0 0 _ ad N g 0 [(0, .ref (ad ri)), (1, .ref (ad ni)), (2, .int (nI pl))] []
  have loop : ∀ (n : Nat) (k : Nat), rc - 1 - k = n → k ≤ rc - 1 → zp_all (fun k => decide (rq (k + 1) * q pl = q (pl + (k + 1)) * rq 0)) k = true → zj_J X 0 0 (zj_Qi X 0 0 ad N (fun r g1 => r = zb_i (zp_all (fun k => decide (rq (k + 1) * q pl = q (pl + (k + 1)) * rq 0)) (rc - 1)) ∧ g1 = g)) ad N g 2 [(3, .int (nI (k + 1))), (0, .ref (ad ri)), (1, .ref (ad ni)), (2, .int (nI pl))] [] := by
    intro n
    induction n with
    | zero =>
      intro k e1 e2 e3
      refine zj_iload_n C dc_T_sameRatio_2 rfl 0 rfl ?_
      refine zj_aload_n C dc_T_sameRatio_3 rfl 1 rfl ?_
      refine zj_get (k := 2) C (by omega) hr0 rfl (by decide) fw_N fl_T_84 rfl rfl dc_T_sameRatio_4 ?_
      refine zj_icmp_ge C dc_T_sameRatio_7 rfl (fun _ => ?_) (fun h => absurd h (not_not_intro ((nI_leI (by omega) (by omega)).mpr (by omega))))
      refine zj_iconst (v := 1) C dc_T_sameRatio_49 (by decide) ?_
      exact zj_zret C dc_T_sameRatio_50 rfl ⟨by rw [show rc - 1 = k by omega, e3]; rfl, rfl⟩
    | succ n ih =>
      intro k e1 e2 e3
      refine zj_iload_n C dc_T_sameRatio_2 rfl 0 rfl ?_
      refine zj_aload_n C dc_T_sameRatio_3 rfl 1 rfl ?_
      refine zj_get (k := 2) C (by omega) hr0 rfl (by decide) fw_N fl_T_84 rfl rfl dc_T_sameRatio_4 ?_
      refine zj_icmp_ge C dc_T_sameRatio_7 rfl (fun h => absurd h (((zn_nle (by omega) (by omega)).mpr (by omega)))) (fun _ => ?_)
      refine zj_aload_n C dc_T_sameRatio_10 rfl 1 rfl ?_
      refine zj_get (k := 1) C (by omega) hr0 rfl (by decide) fw_N fl_T_250 rfl rfl dc_T_sameRatio_11 ?_
      refine zj_iload_n C dc_T_sameRatio_14 rfl 0 rfl ?_
      refine zj_iald C (by omega) hr2 rfl (by omega) hmr dc_T_sameRatio_15 ?_
      refine zj_aload_n C dc_T_sameRatio_16 rfl 2 rfl ?_
      refine zj_get (k := 1) C (by omega) hn0 rfl (by decide) fw_N fl_T_250 rfl rfl dc_T_sameRatio_17 ?_
      refine zj_iload_n C dc_T_sameRatio_20 rfl 3 rfl ?_
      refine zj_iald C (by omega) hn2 rfl (by omega) (by decide) dc_T_sameRatio_21 ?_
      refine zj_imul C dc_T_sameRatio_22 ?_
      refine zj_aload_n C dc_T_sameRatio_23 rfl 2 rfl ?_
      refine zj_get (k := 1) C (by omega) hn0 rfl (by decide) fw_N fl_T_250 rfl rfl dc_T_sameRatio_24 ?_
      refine zj_iload_n C dc_T_sameRatio_27 rfl 3 rfl ?_
      refine zj_iload_n C dc_T_sameRatio_28 rfl 0 rfl ?_
      refine zj_iadd C dc_T_sameRatio_29 ?_
      refine zj_topi (nI_add _ _) ?_
      refine zj_iald C (by omega) hn2 rfl (by omega) (by decide) dc_T_sameRatio_30 ?_
      refine zj_aload_n C dc_T_sameRatio_31 rfl 1 rfl ?_
      refine zj_get (k := 1) C (by omega) hr0 rfl (by decide) fw_N fl_T_250 rfl rfl dc_T_sameRatio_32 ?_
      refine zj_iconst (v := 0) C dc_T_sameRatio_35 (by decide) ?_
      refine zj_iald C (by omega) hr2 nI_0.symm (by omega) hmr dc_T_sameRatio_36 ?_
      refine zj_imul C dc_T_sameRatio_37 ?_
      refine zj_icmp_eq C dc_T_sameRatio_38 rfl (fun h38 => ?_) (fun h38 => ?_)
      · skip
        refine zj_iinc C dc_T_sameRatio_43 0 rfl (zn_inc (k + 1)) (by decide) rfl ?_
        refine zj_goto C dc_T_sameRatio_46 rfl ?_
        refine zj_loc (L' := [(3, .int (nI (k + 1 + 1))), (0, .ref (ad ri)), (1, .ref (ad ni)), (2, .int (nI pl))]) [0, 1, 2, 3] rfl ?_
        exact ih (k + 1) (by omega) (by omega) (by rw [zp_allS, e3, decide_eq_true h38]; rfl)
      · skip
        refine zj_iconst (v := 0) C dc_T_sameRatio_41 (by decide) ?_
        exact zj_zret C dc_T_sameRatio_42 rfl ⟨by rw [zp_all_f (i := k) (by omega) (decide_eq_false h38)]; rfl, rfl⟩
  refine zj_iconst (v := 1) C dc_T_sameRatio_0 (by decide) ?_
  refine zj_istore_n C dc_T_sameRatio_1 rfl (by decide) rfl ?_
  refine zj_loc (L' := [(3, .int (nI (0 + 1))), (0, .ref (ad ri)), (1, .ref (ad ni)), (2, .int (nI pl))]) [0, 1, 2, 3] rfl ?_
  exact loop (rc - 1) 0 rfl (by omega) rfl
set_option maxHeartbeats 4000000 in
set_option maxRecDepth 100000 in
theorem ct_T_stepsSharedAtFirst (l : Launch) (hst : l.stackTraces = false) (z : zv_T) (ad : Nat → Nat) (N : Nat) (g : Nat → va_E) (ri rc ni nc : Nat) (rp rq p q : Nat → Int32) (hrN : ri + 2 < N) (hnN : ni + 2 < N) (hr : zs_N z ad g ri 20 rc rp rq) (hn : zs_N z ad g ni 20 nc p q) (hrc : rc ≤ 20) (hnc : nc ≤ 20) : zm_i l mn_T_stepsSharedAtFirst ws_T_stepsSharedAtFirst rm_T_stepsSharedAtFirst z ad N g [.ref (ad ri), .ref (ad ni)] (fun r g1 => (∃ m, r = nI m ∧ zp_ld (fun k => decide (rp (k + 1) - rp k = p (k + 1) - p k)) (if nc - 1 < rc - 1 then nc - 1 else rc - 1) m) ∧ g1 = g) := by
  obtain ⟨hr0, hr1, hr2⟩ := hr
  obtain ⟨hn0, hn1, hn2⟩ := hn
  have hx1 : (if nc - 1 < rc - 1 then nc - 1 else rc - 1) ≤ nc - 1 := by split <;> omega
  have hx2 : (if nc - 1 < rc - 1 then nc - 1 else rc - 1) ≤ rc - 1 := by split <;> omega
  refine zm_ofi hst pn_T_stepsSharedAtFirst rfl (Nat.le_of_ble_eq_true rfl) (fun X hX C => ?_)
  subst hX
  show zj_J X 0 0 _ ad N g 0 [(0, .ref (ad ri)), (1, .ref (ad ni))] []
  have loop : ∀ (n : Nat) (k : Nat), (if nc - 1 < rc - 1 then nc - 1 else rc - 1) - k = n → k ≤ (if nc - 1 < rc - 1 then nc - 1 else rc - 1) → (∀ t, t < k → (fun k => decide (rp (k + 1) - rp k = p (k + 1) - p k)) t = true) → zj_J X 0 0 (zj_Qi X 0 0 ad N (fun r g1 => (∃ m, r = nI m ∧ zp_ld (fun k => decide (rp (k + 1) - rp k = p (k + 1) - p k)) (if nc - 1 < rc - 1 then nc - 1 else rc - 1) m) ∧ g1 = g)) ad N g 14 [(3, .int (nI k)), (2, .int (nI (if nc - 1 < rc - 1 then nc - 1 else rc - 1))), (0, .ref (ad ri)), (1, .ref (ad ni))] [] := by
    intro n
    induction n with
    | zero =>
      intro k e1 e2 e3
      refine zj_iload_n C dc_T_stepsSharedAtFirst_14 rfl 0 rfl ?_
      refine zj_iload_n C dc_T_stepsSharedAtFirst_15 rfl 1 rfl ?_
      refine zj_icmp_ge C dc_T_stepsSharedAtFirst_16 rfl (fun _ => ?_) (fun h => absurd h (not_not_intro ((nI_leI (by omega) (by omega)).mpr (by omega))))
      refine zj_iload_n C dc_T_stepsSharedAtFirst_40 rfl 1 rfl ?_
      exact zj_iret C dc_T_stepsSharedAtFirst_41 ⟨⟨(if nc - 1 < rc - 1 then nc - 1 else rc - 1), rfl, Nat.le_refl _, by rw [show (if nc - 1 < rc - 1 then nc - 1 else rc - 1) = k by omega]; exact e3, fun h => by omega⟩, rfl⟩
    | succ n ih =>
      intro k e1 e2 e3
      refine zj_iload_n C dc_T_stepsSharedAtFirst_14 rfl 0 rfl ?_
      refine zj_iload_n C dc_T_stepsSharedAtFirst_15 rfl 1 rfl ?_
      refine zj_icmp_ge C dc_T_stepsSharedAtFirst_16 rfl (fun h => absurd h (((zn_nle (by omega) (by omega)).mpr (by omega)))) (fun _ => ?_)
      refine zj_aload_n C dc_T_stepsSharedAtFirst_19 rfl 2 rfl ?_
      refine zj_iload_n C dc_T_stepsSharedAtFirst_20 rfl 0 rfl ?_
      refine zj_Vi C (ct_N_stepBehind _ hst z ad N g ri 20 rc rp rq hrN ⟨hr0, hr1, hr2⟩ (by decide) (k) (by omega)) gv_T_121 rfl rfl rfl hd_N_stepBehind ⟨(Nat.le_of_ble_eq_true rfl), (Nat.le_of_ble_eq_true rfl)⟩ (by omega) hr0 rfl rfl rfl (Nat.le_of_ble_eq_true rfl) ⟨(Nat.le_of_ble_eq_true rfl), (Nat.le_of_ble_eq_true rfl)⟩ dc_T_stepsSharedAtFirst_21 (fun r1 g9 h1 => ?_)
      obtain ⟨rfl, hg9⟩ := h1
      rw [hg9]
      refine zj_aload_n C dc_T_stepsSharedAtFirst_24 rfl 3 rfl ?_
      refine zj_iload_n C dc_T_stepsSharedAtFirst_25 rfl 0 rfl ?_
      refine zj_Vi C (ct_N_stepBehind _ hst z ad N g ni 20 nc p q hnN ⟨hn0, hn1, hn2⟩ (by decide) (k) (by omega)) gv_T_121 rfl rfl rfl hd_N_stepBehind ⟨(Nat.le_of_ble_eq_true rfl), (Nat.le_of_ble_eq_true rfl)⟩ (by omega) hn0 rfl rfl rfl (Nat.le_of_ble_eq_true rfl) ⟨(Nat.le_of_ble_eq_true rfl), (Nat.le_of_ble_eq_true rfl)⟩ dc_T_stepsSharedAtFirst_26 (fun r2 g9 h1 => ?_)
      obtain ⟨rfl, hg9⟩ := h1
      rw [hg9]
      refine zj_icmp_eq C dc_T_stepsSharedAtFirst_29 rfl (fun h29 => ?_) (fun h29 => ?_)
      · skip
        refine zj_iinc C dc_T_stepsSharedAtFirst_34 0 rfl (zn_inc k) (by decide) rfl ?_
        refine zj_goto C dc_T_stepsSharedAtFirst_37 rfl ?_
        refine zj_loc (L' := [(3, .int (nI (k + 1))), (2, .int (nI (if nc - 1 < rc - 1 then nc - 1 else rc - 1))), (0, .ref (ad ri)), (1, .ref (ad ni))]) [0, 1, 2, 3] rfl ?_
        exact ih (k + 1) (by omega) (by omega) (fun t ht => if c9 : t = k then (by rw [c9]; exact decide_eq_true h29) else e3 t (by omega))
      · skip
        refine zj_iload_n C dc_T_stepsSharedAtFirst_32 rfl 0 rfl ?_
        exact zj_iret C dc_T_stepsSharedAtFirst_33 ⟨⟨k, rfl, by omega, e3, fun _ => decide_eq_false h29⟩, rfl⟩
  refine zj_aload_n C dc_T_stepsSharedAtFirst_0 rfl 0 rfl ?_
  refine zj_Vi C (ct_N_steps _ hst z ad N g ri 20 rc rp rq hrN ⟨hr0, hr1, hr2⟩ (by decide) (by omega)) gv_T_117 rfl rfl rfl hd_N_steps ⟨(Nat.le_of_ble_eq_true rfl), (Nat.le_of_ble_eq_true rfl)⟩ (by omega) hr0 rfl rfl rfl (Nat.le_of_ble_eq_true rfl) ⟨(Nat.le_of_ble_eq_true rfl), (Nat.le_of_ble_eq_true rfl)⟩ dc_T_stepsSharedAtFirst_1 (fun r1 g9 h1 => ?_)
  obtain ⟨rfl, hg9⟩ := h1
  rw [hg9]
  refine zj_aload_n C dc_T_stepsSharedAtFirst_4 rfl 1 rfl ?_
  refine zj_Vi C (ct_N_steps _ hst z ad N g ni 20 nc p q hnN ⟨hn0, hn1, hn2⟩ (by decide) (by omega)) gv_T_117 rfl rfl rfl hd_N_steps ⟨(Nat.le_of_ble_eq_true rfl), (Nat.le_of_ble_eq_true rfl)⟩ (by omega) hn0 rfl rfl rfl (Nat.le_of_ble_eq_true rfl) ⟨(Nat.le_of_ble_eq_true rfl), (Nat.le_of_ble_eq_true rfl)⟩ dc_T_stepsSharedAtFirst_5 (fun r2 g9 h1 => ?_)
  obtain ⟨rfl, hg9⟩ := h1
  rw [hg9]
  refine zj_mmin C ml_T_253 sm_Math_min ini_Math wk_Math_min ⟨(Nat.le_of_ble_eq_true rfl), (Nat.le_of_ble_eq_true rfl)⟩ ⟨(Nat.le_of_ble_eq_true rfl), (Nat.le_of_ble_eq_true rfl)⟩ dc_T_stepsSharedAtFirst_8 ?_
  refine zj_topi (zn_min (by omega) (by omega)) ?_
  refine zj_istore_n C dc_T_stepsSharedAtFirst_11 rfl (by decide) rfl ?_
  refine zj_iconst (v := 0) C dc_T_stepsSharedAtFirst_12 (by decide) ?_
  refine zj_istore_n C dc_T_stepsSharedAtFirst_13 rfl (by decide) rfl ?_
  refine zj_loc (L' := [(3, .int (nI 0)), (2, .int (nI (if nc - 1 < rc - 1 then nc - 1 else rc - 1))), (0, .ref (ad ri)), (1, .ref (ad ni))]) [0, 1, 2, 3] rfl ?_
  exact loop (if nc - 1 < rc - 1 then nc - 1 else rc - 1) 0 rfl (by omega) (fun t ht => by omega)
end ZS
end
section
section ZC
def xt_ns : List String := ["java/lang/RuntimeException", "java/lang/Exception"]
theorem xt_nf : ∀ n ∈ xt_ns, Bundle.fit n = true := by decide +kernel
theorem xt_fit_IndexOutOfBoundsException : Bundle.fit "java/lang/IndexOutOfBoundsException" = true := by decide +kernel
theorem xt_at_IndexOutOfBoundsException : ∀ w ∈ (vx_at0 cn_T 52 "java/lang/IndexOutOfBoundsException" xt_ns).filter goodWord, w ∈ zt_tbl := by decide +kernel
theorem xt_bd_IndexOutOfBoundsException : ∀ w ∈ (vx_at0 cn_T 52 "java/lang/IndexOutOfBoundsException" xt_ns).filter (fun w => !goodWord w), w ∈ Cond.castable "java/lang/IndexOutOfBoundsException" "java/lang/IndexOutOfBoundsException" :: zb_ds.map Cond.declares := by decide +kernel
theorem xt_ok_IndexOutOfBoundsException : ∀ w ∈ Cond.classLink cn_T 50 "java/lang/IndexOutOfBoundsException" :: Cond.initialized "java/lang/IndexOutOfBoundsException" :: vx_at0 cn_T 52 "java/lang/IndexOutOfBoundsException" xt_ns, vx_ot w = true := by decide +kernel
theorem xt_fit_IllegalStateException : Bundle.fit "java/lang/IllegalStateException" = true := by decide +kernel
theorem xt_at_IllegalStateException : ∀ w ∈ (vx_at0 cn_T 59 "java/lang/IllegalStateException" xt_ns).filter goodWord, w ∈ zt_tbl := by decide +kernel
theorem xt_bd_IllegalStateException : ∀ w ∈ (vx_at0 cn_T 59 "java/lang/IllegalStateException" xt_ns).filter (fun w => !goodWord w), w ∈ Cond.castable "java/lang/IllegalStateException" "java/lang/IllegalStateException" :: zb_ds.map Cond.declares := by decide +kernel
theorem xt_ok_IllegalStateException : ∀ w ∈ Cond.classLink cn_T 57 "java/lang/IllegalStateException" :: Cond.initialized "java/lang/IllegalStateException" :: vx_at0 cn_T 59 "java/lang/IllegalStateException" xt_ns, vx_ot w = true := by decide +kernel
theorem xt_fit_IllegalArgumentException : Bundle.fit "java/lang/IllegalArgumentException" = true := by decide +kernel
theorem xt_at_IllegalArgumentException : ∀ w ∈ (vx_at0 cn_T 116 "java/lang/IllegalArgumentException" xt_ns).filter goodWord, w ∈ zt_tbl := by decide +kernel
theorem xt_bd_IllegalArgumentException : ∀ w ∈ (vx_at0 cn_T 116 "java/lang/IllegalArgumentException" xt_ns).filter (fun w => !goodWord w), w ∈ Cond.castable "java/lang/IllegalArgumentException" "java/lang/IllegalArgumentException" :: zb_ds.map Cond.declares := by decide +kernel
theorem xt_ok_IllegalArgumentException : ∀ w ∈ Cond.classLink cn_T 114 "java/lang/IllegalArgumentException" :: Cond.initialized "java/lang/IllegalArgumentException" :: vx_at0 cn_T 116 "java/lang/IllegalArgumentException" xt_ns, vx_ot w = true := by decide +kernel
/-- a tune: there, shown, its last reading, its notes now, the places replaced and what they held -/
abbrev zu_S : Type := Bool × Bool × Nat × Nat × (Nat → Int32) × (Nat → Int32) × (Nat → Int32) × (Nat → Int32) × (Nat → Int32)
def zu_th (s : zu_S) : Bool := s.1
def zu_sh (s : zu_S) : Bool := s.2.1
def zu_lr (s : zu_S) : Nat := s.2.2.1
def zu_cn (s : zu_S) : Nat := s.2.2.2.1
def zu_p (s : zu_S) : Nat → Int32 := s.2.2.2.2.1
def zu_q (s : zu_S) : Nat → Int32 := s.2.2.2.2.2.1
def zu_pr (s : zu_S) : Nat → Int32 := s.2.2.2.2.2.2.1
def zu_rp (s : zu_S) : Nat → Int32 := s.2.2.2.2.2.2.2.1
def zu_rq (s : zu_S) : Nat → Int32 := s.2.2.2.2.2.2.2.2
def zs_V (z : zv_T) (ad : Nat → Nat) (g : Nat → va_E) (b : Nat) (s : zu_S) : Prop := zs_U z ad g b (zb_i (zu_th s)) (zb_i (zu_sh s)) (zu_lr s) (zu_cn s) (zu_p s) (zu_q s) (zu_pr s) (zu_rp s) (zu_rq s)
/-- the catalogue at the cells 0 .. 65 -/
def zs_A (z : zv_T) (ad : Nat → Nat) (g : Nat → va_E) (ts : Nat → zu_S) : Prop := g 0 = ze_o 6 [.ref (ad 1), .ref (ad 66), .ref (ad 69), .ref (ad 101), .ref (ad 105), .ref (ad 107)] ∧ (∃ f, g 1 = ze_u z 8 f ∧ ∀ t, t < 8 → f t = some (ad (2 + 8 * t))) ∧ ∀ t, t < 8 → zs_V z ad g (2 + 8 * t) (ts t)
/-- the tune that a call names is there -/
def zp_is (ts : Nat → zu_S) (id : Int32) (t : Nat) : Prop := t < 8 ∧ id = nI t ∧ zu_th (ts t) = true
theorem zp_id {x : Int32} (h0 : ¬ x < 0) (h1 : ¬ (8 : Int32) ≤ x) : ∃ t, t < 8 ∧ x = nI t := by
  obtain ⟨j, hj, rfl⟩ := nI_of h0
  exact ⟨j, (zn_nle (a := 8) (by omega) hj).mp h1, rfl⟩
theorem zp_not {ts : Nat → zu_S} {x : Int32} (h : x < 0 ∨ (8 : Int32) ≤ x) : ∀ t, ¬ zp_is ts x t := by
  rintro t ⟨h1, h2, -⟩
  subst h2
  rcases h with h | h
  · exact nI_pos (by omega) h
  · exact (zn_nle (a := 8) (by omega) (by omega)).mpr h1 h
set_option maxHeartbeats 4000000 in
set_option maxRecDepth 100000 in
theorem ct_T_existing (l : Launch) (hst : l.stackTraces = false) (z : zv_T) (ad : Nat → Nat) (N : Nat) (g : Nat → va_E) (ts : Nat → zu_S) (id : Int32) (hN : 108 ≤ N) (hs : zs_A z ad g ts) : zx_r l mn_T_existing ws_T_existing rm_T_existing z ad N g [.ref (ad 0), .int id] 1 6 (fun k g1 => (∃ t, zp_is ts id t ∧ k = 2 + 8 * t) ∧ g1 = g) (fun E g1 => E = "java/lang/IndexOutOfBoundsException" ∧ g1 = g ∧ ∀ t, ¬ zp_is ts id t) := by
  obtain ⟨h0, ⟨f, hA, hf⟩, hts⟩ := hs
  refine zx_ofr hst pn_T_existing rfl (Nat.le_of_ble_eq_true rfl) (fun X hX C hT => ?_)
  subst hX
  show zj_J X 0 0 _ ad N g 0 [(0, .ref (ad 0)), (1, .int id)] []
  refine zj_iload_n C dc_T_existing_0 rfl 1 rfl ?_
  refine zj_if_lt C dc_T_existing_1 rfl (fun a1 => ?_) (fun a1 => ?_)
  · skip
    exact zx_throwr (names := xt_ns) C hT xt_fit_IndexOutOfBoundsException xt_nf cl_T_50 ini_IndexOutOfBoundsException xt_at_IndexOutOfBoundsException xt_bd_IndexOutOfBoundsException ins_IndexOutOfBoundsException xt_ok_IndexOutOfBoundsException dc_T_existing_22 dc_T_existing_25 dc_T_existing_26 dc_T_existing_29 ⟨(Nat.le_of_ble_eq_true rfl), (Nat.le_of_ble_eq_true rfl), (Nat.le_of_ble_eq_true rfl), (Nat.le_of_ble_eq_true rfl)⟩ ⟨(Nat.le_of_ble_eq_true rfl), (Nat.le_of_ble_eq_true rfl)⟩ ⟨rfl, rfl, zp_not (Or.inl a1)⟩
  · skip
    refine zj_iload_n C dc_T_existing_4 rfl 1 rfl ?_
    refine zj_bipush (v := 8) C dc_T_existing_5 (by decide) ?_
    refine zj_icmp_ge C dc_T_existing_7 rfl (fun a2 => ?_) (fun a2 => ?_)
    · skip
      exact zx_throwr (names := xt_ns) C hT xt_fit_IndexOutOfBoundsException xt_nf cl_T_50 ini_IndexOutOfBoundsException xt_at_IndexOutOfBoundsException xt_bd_IndexOutOfBoundsException ins_IndexOutOfBoundsException xt_ok_IndexOutOfBoundsException dc_T_existing_22 dc_T_existing_25 dc_T_existing_26 dc_T_existing_29 ⟨(Nat.le_of_ble_eq_true rfl), (Nat.le_of_ble_eq_true rfl), (Nat.le_of_ble_eq_true rfl), (Nat.le_of_ble_eq_true rfl)⟩ ⟨(Nat.le_of_ble_eq_true rfl), (Nat.le_of_ble_eq_true rfl)⟩ ⟨rfl, rfl, zp_not (Or.inr a2)⟩
    · obtain ⟨t, ht, rfl⟩ := zp_id a1 a2
      refine zj_aload_n C dc_T_existing_10 rfl 0 rfl ?_
      refine zj_get (k := 0) C (by omega) h0 rfl (by decide) fw_T fl_T_11 rfl rfl dc_T_existing_11 ?_
      refine zj_iload_n C dc_T_existing_14 rfl 1 rfl ?_
      refine zj_uald C (by omega) hA rfl ht (by decide) dc_T_existing_15 ?_
      refine zj_topv (congrArg va_rf (hf t ht)) ?_
      refine zj_get (k := 3) C (by omega) (hts t ht).1 rfl (by decide) fw_U fl_T_53 rfl rfl dc_T_existing_16 ?_
      refine zj_if_ne C dc_T_existing_19 rfl (fun a3 => ?_) (fun a3 => ?_)
      · have a3 := zb_i1 a3
        refine zj_aload_n C dc_T_existing_30 rfl 0 rfl ?_
        refine zj_get (k := 0) C (by omega) h0 rfl (by decide) fw_T fl_T_11 rfl rfl dc_T_existing_31 ?_
        refine zj_iload_n C dc_T_existing_34 rfl 1 rfl ?_
        refine zj_uald C (by omega) hA rfl ht (by decide) dc_T_existing_35 ?_
        refine zj_topv (congrArg va_rf (hf t ht)) ?_
        exact zx_aret C ⟨(Nat.le_of_ble_eq_true rfl), (Nat.le_of_ble_eq_true rfl)⟩ dc_T_existing_36 ⟨⟨t, ⟨ht, rfl, a3⟩, rfl⟩, rfl⟩
      · have a3 := zb_i0 a3
        exact zx_throwr (names := xt_ns) C hT xt_fit_IndexOutOfBoundsException xt_nf cl_T_50 ini_IndexOutOfBoundsException xt_at_IndexOutOfBoundsException xt_bd_IndexOutOfBoundsException ins_IndexOutOfBoundsException xt_ok_IndexOutOfBoundsException dc_T_existing_22 dc_T_existing_25 dc_T_existing_26 dc_T_existing_29 ⟨(Nat.le_of_ble_eq_true rfl), (Nat.le_of_ble_eq_true rfl), (Nat.le_of_ble_eq_true rfl), (Nat.le_of_ble_eq_true rfl)⟩ ⟨(Nat.le_of_ble_eq_true rfl), (Nat.le_of_ble_eq_true rfl)⟩ ⟨rfl, rfl, fun u hu => by obtain ⟨u1, u2, u3⟩ := hu; have := (nI_eq (by omega) (by omega)).mp u2; subst this; rw [a3] at u3; cases u3⟩
set_option maxHeartbeats 4000000 in
set_option maxRecDepth 100000 in
theorem ct_T_refuseUnlessPlace (l : Launch) (hst : l.stackTraces = false) (z : zv_T) (ad : Nat → Nat) (N : Nat) (g : Nat → va_E) (b : Nat) (s : zu_S) (hb : b + 7 < N) (hs : zs_V z ad g b s) (x : Int32) (hc : zu_cn s ≤ 20) : zx_v l mn_T_refuseUnlessPlace ws_T_refuseUnlessPlace rm_T_refuseUnlessPlace z ad N g [.ref (ad b), .int x] 1 6 (fun g1 => (∃ k, k < zu_cn s ∧ x = nI k) ∧ g1 = g) (fun E g1 => E = "java/lang/IndexOutOfBoundsException" ∧ g1 = g ∧ ∀ k, k < zu_cn s → ¬ x = nI k) := by
  obtain ⟨hs0, ⟨hn0, hn1, hn2⟩, hs4, hr0, hr1, hr2⟩ := hs
  refine zx_ofv hst pn_T_refuseUnlessPlace rfl (Nat.le_of_ble_eq_true rfl) (fun X hX C hT => ?_)
  subst hX
  show zj_J X 0 0 _ ad N g 0 [(0, .ref (ad b)), (1, .int x)] []
  refine zj_iload_n C dc_T_refuseUnlessPlace_0 rfl 1 rfl ?_
  refine zj_if_lt C dc_T_refuseUnlessPlace_1 rfl (fun a1 => ?_) (fun a1 => ?_)
  · skip
    exact zx_throwv (names := xt_ns) C hT xt_fit_IndexOutOfBoundsException xt_nf cl_T_50 ini_IndexOutOfBoundsException xt_at_IndexOutOfBoundsException xt_bd_IndexOutOfBoundsException ins_IndexOutOfBoundsException xt_ok_IndexOutOfBoundsException dc_T_refuseUnlessPlace_15 dc_T_refuseUnlessPlace_18 dc_T_refuseUnlessPlace_19 dc_T_refuseUnlessPlace_22 ⟨(Nat.le_of_ble_eq_true rfl), (Nat.le_of_ble_eq_true rfl), (Nat.le_of_ble_eq_true rfl), (Nat.le_of_ble_eq_true rfl)⟩ ⟨(Nat.le_of_ble_eq_true rfl), (Nat.le_of_ble_eq_true rfl)⟩ ⟨rfl, rfl, fun k hk e => by subst e; exact nI_pos (by omega) a1⟩
  · skip
    refine zj_iload_n C dc_T_refuseUnlessPlace_4 rfl 1 rfl ?_
    refine zj_aload_n C dc_T_refuseUnlessPlace_5 rfl 0 rfl ?_
    refine zj_get (k := 0) C (by omega) hs0 rfl (by decide) fw_U fl_T_81 rfl rfl dc_T_refuseUnlessPlace_6 ?_
    refine zj_get (k := 2) C (by omega) hn0 rfl (by decide) fw_N fl_T_84 rfl rfl dc_T_refuseUnlessPlace_9 ?_
    refine zj_icmp_lt C dc_T_refuseUnlessPlace_12 rfl (fun a2 => ?_) (fun a2 => ?_)
    · skip
      exact zx_vret C ⟨(Nat.le_of_ble_eq_true rfl), (Nat.le_of_ble_eq_true rfl)⟩ dc_T_refuseUnlessPlace_23 ⟨by obtain ⟨j, hj, rfl⟩ := nI_of a1; exact ⟨j, (nI_ltI hj (by omega)).mp a2, rfl⟩, rfl⟩
    · skip
      exact zx_throwv (names := xt_ns) C hT xt_fit_IndexOutOfBoundsException xt_nf cl_T_50 ini_IndexOutOfBoundsException xt_at_IndexOutOfBoundsException xt_bd_IndexOutOfBoundsException ins_IndexOutOfBoundsException xt_ok_IndexOutOfBoundsException dc_T_refuseUnlessPlace_15 dc_T_refuseUnlessPlace_18 dc_T_refuseUnlessPlace_19 dc_T_refuseUnlessPlace_22 ⟨(Nat.le_of_ble_eq_true rfl), (Nat.le_of_ble_eq_true rfl), (Nat.le_of_ble_eq_true rfl), (Nat.le_of_ble_eq_true rfl)⟩ ⟨(Nat.le_of_ble_eq_true rfl), (Nat.le_of_ble_eq_true rfl)⟩ ⟨rfl, rfl, fun k hk e => by subst e; exact a2 ((nI_ltI (by omega) (by omega)).mpr hk)⟩
set_option maxHeartbeats 4000000 in
set_option maxRecDepth 100000 in
theorem ct_T_refuseUnlessReading (l : Launch) (hst : l.stackTraces = false) (z : zv_T) (ad : Nat → Nat) (N : Nat) (g : Nat → va_E) (b : Nat) (s : zu_S) (hb : b + 7 < N) (hs : zs_V z ad g b s) (x : Int32) (hc : zu_lr s ≤ 8) : zx_v l mn_T_refuseUnlessReading ws_T_refuseUnlessReading rm_T_refuseUnlessReading z ad N g [.ref (ad b), .int x] 1 6 (fun g1 => (∃ k, k ≤ zu_lr s ∧ x = nI k) ∧ g1 = g) (fun E g1 => E = "java/lang/IndexOutOfBoundsException" ∧ g1 = g ∧ ∀ k, k ≤ zu_lr s → ¬ x = nI k) := by
  obtain ⟨hs0, ⟨hn0, hn1, hn2⟩, hs4, hr0, hr1, hr2⟩ := hs
  refine zx_ofv hst pn_T_refuseUnlessReading rfl (Nat.le_of_ble_eq_true rfl) (fun X hX C hT => ?_)
  subst hX
  show zj_J X 0 0 _ ad N g 0 [(0, .ref (ad b)), (1, .int x)] []
  refine zj_iload_n C dc_T_refuseUnlessReading_0 rfl 1 rfl ?_
  refine zj_if_lt C dc_T_refuseUnlessReading_1 rfl (fun a1 => ?_) (fun a1 => ?_)
  · skip
    exact zx_throwv (names := xt_ns) C hT xt_fit_IndexOutOfBoundsException xt_nf cl_T_50 ini_IndexOutOfBoundsException xt_at_IndexOutOfBoundsException xt_bd_IndexOutOfBoundsException ins_IndexOutOfBoundsException xt_ok_IndexOutOfBoundsException dc_T_refuseUnlessReading_12 dc_T_refuseUnlessReading_15 dc_T_refuseUnlessReading_16 dc_T_refuseUnlessReading_19 ⟨(Nat.le_of_ble_eq_true rfl), (Nat.le_of_ble_eq_true rfl), (Nat.le_of_ble_eq_true rfl), (Nat.le_of_ble_eq_true rfl)⟩ ⟨(Nat.le_of_ble_eq_true rfl), (Nat.le_of_ble_eq_true rfl)⟩ ⟨rfl, rfl, fun k hk e => by subst e; exact nI_pos (by omega) a1⟩
  · skip
    refine zj_iload_n C dc_T_refuseUnlessReading_4 rfl 1 rfl ?_
    refine zj_aload_n C dc_T_refuseUnlessReading_5 rfl 0 rfl ?_
    refine zj_get (k := 5) C (by omega) hs0 rfl (by decide) fw_U fl_T_77 rfl rfl dc_T_refuseUnlessReading_6 ?_
    refine zj_icmp_le C dc_T_refuseUnlessReading_9 rfl (fun a2 => ?_) (fun a2 => ?_)
    · skip
      exact zx_vret C ⟨(Nat.le_of_ble_eq_true rfl), (Nat.le_of_ble_eq_true rfl)⟩ dc_T_refuseUnlessReading_20 ⟨by obtain ⟨j, hj, rfl⟩ := nI_of a1; exact ⟨j, (nI_leI hj (by omega)).mp a2, rfl⟩, rfl⟩
    · skip
      exact zx_throwv (names := xt_ns) C hT xt_fit_IndexOutOfBoundsException xt_nf cl_T_50 ini_IndexOutOfBoundsException xt_at_IndexOutOfBoundsException xt_bd_IndexOutOfBoundsException ins_IndexOutOfBoundsException xt_ok_IndexOutOfBoundsException dc_T_refuseUnlessReading_12 dc_T_refuseUnlessReading_15 dc_T_refuseUnlessReading_16 dc_T_refuseUnlessReading_19 ⟨(Nat.le_of_ble_eq_true rfl), (Nat.le_of_ble_eq_true rfl), (Nat.le_of_ble_eq_true rfl), (Nat.le_of_ble_eq_true rfl)⟩ ⟨(Nat.le_of_ble_eq_true rfl), (Nat.le_of_ble_eq_true rfl)⟩ ⟨rfl, rfl, fun k hk e => by subst e; exact a2 ((nI_leI (by omega) (by omega)).mpr hk)⟩
/-- a pitch and a length that a note may have -/
def zp_no (x y : Int32) : Prop := ∃ a b : Nat, a ≤ 127 ∧ 1 ≤ b ∧ b ≤ 64 ∧ x = nI a ∧ y = nI b
theorem zp_no_f {x y : Int32} (h : x < 0 ∨ (127 : Int32) < x ∨ y < 1 ∨ (64 : Int32) < y) : ¬ zp_no x y := by
  rintro ⟨a, b, h1, h2, h3, rfl, rfl⟩
  rcases h with h | h | h | h
  · exact nI_pos (by omega) h
  · have := (nI_ltI (a := 127) (by omega) (by omega)).mp h; omega
  · have := (nI_ltI (b := 1) (by omega) (by omega)).mp h; omega
  · have := (nI_ltI (a := 64) (by omega) (by omega)).mp h; omega
theorem zn_ge1 {y : Int32} (h : ¬ y < 1) : ¬ y < 0 := by
  intro h0
  apply h
  rw [Int32.lt_iff_toInt_lt] at h0 ⊢
  have e1 : Int32.toInt 1 = 1 := by decide
  have e0 : Int32.toInt 0 = 0 := by decide
  omega
theorem zp_no_t {x y : Int32} (h1 : ¬ x < 0) (h2 : ¬ (127 : Int32) < x) (h3 : ¬ y < 1) (h4 : y ≤ 64) : zp_no x y := by
  obtain ⟨a, ha, rfl⟩ := nI_of h1
  obtain ⟨b, hb, rfl⟩ := nI_of (zn_ge1 h3)
  exact ⟨a, b, (zn_nlt (a := 127) (by omega) ha).mp h2, (zn_nlt (b := 1) hb (by omega)).mp h3, (nI_leI (b := 64) hb (by omega)).mp h4, rfl, rfl⟩
set_option maxHeartbeats 4000000 in
set_option maxRecDepth 100000 in
theorem ct_T_refuseUnlessNote (l : Launch) (hst : l.stackTraces = false) (z : zv_T) (ad : Nat → Nat) (N : Nat) (g : Nat → va_E) (x y : Int32) : zx_v l mn_T_refuseUnlessNote ws_T_refuseUnlessNote rm_T_refuseUnlessNote z ad N g [.int x, .int y] 1 6 (fun g1 => zp_no x y ∧ g1 = g) (fun E g1 => E = "java/lang/IllegalArgumentException" ∧ g1 = g ∧ ¬ zp_no x y) := by
  refine zx_ofv hst pn_T_refuseUnlessNote rfl (Nat.le_of_ble_eq_true rfl) (fun X hX C hT => ?_)
  subst hX
  show zj_J X 0 0 _ ad N g 0 [(0, .int x), (1, .int y)] []
  refine zj_iload_n C dc_T_refuseUnlessNote_0 rfl 0 rfl ?_
  refine zj_if_lt C dc_T_refuseUnlessNote_1 rfl (fun a1 => ?_) (fun a1 => ?_)
  · skip
    exact zx_throwv (names := xt_ns) C hT xt_fit_IllegalArgumentException xt_nf cl_T_114 ini_IllegalArgumentException xt_at_IllegalArgumentException xt_bd_IllegalArgumentException ins_IllegalArgumentException xt_ok_IllegalArgumentException dc_T_refuseUnlessNote_21 dc_T_refuseUnlessNote_24 dc_T_refuseUnlessNote_25 dc_T_refuseUnlessNote_28 ⟨(Nat.le_of_ble_eq_true rfl), (Nat.le_of_ble_eq_true rfl), (Nat.le_of_ble_eq_true rfl), (Nat.le_of_ble_eq_true rfl)⟩ ⟨(Nat.le_of_ble_eq_true rfl), (Nat.le_of_ble_eq_true rfl)⟩ ⟨rfl, rfl, zp_no_f (Or.inl a1)⟩
  · skip
    refine zj_iload_n C dc_T_refuseUnlessNote_4 rfl 0 rfl ?_
    refine zj_bipush (v := 127) C dc_T_refuseUnlessNote_5 (by decide) ?_
    refine zj_icmp_gt C dc_T_refuseUnlessNote_7 rfl (fun a2 => ?_) (fun a2 => ?_)
    · skip
      exact zx_throwv (names := xt_ns) C hT xt_fit_IllegalArgumentException xt_nf cl_T_114 ini_IllegalArgumentException xt_at_IllegalArgumentException xt_bd_IllegalArgumentException ins_IllegalArgumentException xt_ok_IllegalArgumentException dc_T_refuseUnlessNote_21 dc_T_refuseUnlessNote_24 dc_T_refuseUnlessNote_25 dc_T_refuseUnlessNote_28 ⟨(Nat.le_of_ble_eq_true rfl), (Nat.le_of_ble_eq_true rfl), (Nat.le_of_ble_eq_true rfl), (Nat.le_of_ble_eq_true rfl)⟩ ⟨(Nat.le_of_ble_eq_true rfl), (Nat.le_of_ble_eq_true rfl)⟩ ⟨rfl, rfl, zp_no_f (Or.inr (Or.inl a2))⟩
    · skip
      refine zj_iload_n C dc_T_refuseUnlessNote_10 rfl 1 rfl ?_
      refine zj_iconst (v := 1) C dc_T_refuseUnlessNote_11 (by decide) ?_
      refine zj_icmp_lt C dc_T_refuseUnlessNote_12 rfl (fun a3 => ?_) (fun a3 => ?_)
      · skip
        exact zx_throwv (names := xt_ns) C hT xt_fit_IllegalArgumentException xt_nf cl_T_114 ini_IllegalArgumentException xt_at_IllegalArgumentException xt_bd_IllegalArgumentException ins_IllegalArgumentException xt_ok_IllegalArgumentException dc_T_refuseUnlessNote_21 dc_T_refuseUnlessNote_24 dc_T_refuseUnlessNote_25 dc_T_refuseUnlessNote_28 ⟨(Nat.le_of_ble_eq_true rfl), (Nat.le_of_ble_eq_true rfl), (Nat.le_of_ble_eq_true rfl), (Nat.le_of_ble_eq_true rfl)⟩ ⟨(Nat.le_of_ble_eq_true rfl), (Nat.le_of_ble_eq_true rfl)⟩ ⟨rfl, rfl, zp_no_f (Or.inr (Or.inr (Or.inl a3)))⟩
      · skip
        refine zj_iload_n C dc_T_refuseUnlessNote_15 rfl 1 rfl ?_
        refine zj_bipush (v := 64) C dc_T_refuseUnlessNote_16 (by decide) ?_
        refine zj_icmp_le C dc_T_refuseUnlessNote_18 rfl (fun a4 => ?_) (fun a4 => ?_)
        · skip
          exact zx_vret C ⟨(Nat.le_of_ble_eq_true rfl), (Nat.le_of_ble_eq_true rfl)⟩ dc_T_refuseUnlessNote_29 ⟨zp_no_t a1 a2 a3 a4, rfl⟩
        · skip
          exact zx_throwv (names := xt_ns) C hT xt_fit_IllegalArgumentException xt_nf cl_T_114 ini_IllegalArgumentException xt_at_IllegalArgumentException xt_bd_IllegalArgumentException ins_IllegalArgumentException xt_ok_IllegalArgumentException dc_T_refuseUnlessNote_21 dc_T_refuseUnlessNote_24 dc_T_refuseUnlessNote_25 dc_T_refuseUnlessNote_28 ⟨(Nat.le_of_ble_eq_true rfl), (Nat.le_of_ble_eq_true rfl), (Nat.le_of_ble_eq_true rfl), (Nat.le_of_ble_eq_true rfl)⟩ ⟨(Nat.le_of_ble_eq_true rfl), (Nat.le_of_ble_eq_true rfl)⟩ ⟨rfl, rfl, zp_no_f (Or.inr (Or.inr (Or.inr (Int32.not_le.mp a4))))⟩
def zp_le19 (x : Int32) : Prop := ∃ a : Nat, 1 ≤ a ∧ a ≤ 19 ∧ x = nI a
theorem zp_le_t {x : Int32} (h1 : ¬ x < 1) (h2 : x ≤ 19) : zp_le19 x := by
  obtain ⟨b, hb, rfl⟩ := nI_of (zn_ge1 h1)
  exact ⟨b, (zn_nlt (b := 1) hb (by omega)).mp h1, (nI_leI (b := 19) hb (by omega)).mp h2, rfl⟩
set_option maxHeartbeats 4000000 in
set_option maxRecDepth 100000 in
theorem ct_T_refuseUnlessLeast (l : Launch) (hst : l.stackTraces = false) (z : zv_T) (ad : Nat → Nat) (N : Nat) (g : Nat → va_E) (x : Int32) : zx_v l mn_T_refuseUnlessLeast ws_T_refuseUnlessLeast rm_T_refuseUnlessLeast z ad N g [.int x] 1 6 (fun g1 => zp_le19 x ∧ g1 = g) (fun E g1 => E = "java/lang/IllegalArgumentException" ∧ g1 = g ∧ ¬ zp_le19 x) := by
  refine zx_ofv hst pn_T_refuseUnlessLeast rfl (Nat.le_of_ble_eq_true rfl) (fun X hX C hT => ?_)
  subst hX
  show zj_J X 0 0 _ ad N g 0 [(0, .int x)] []
  refine zj_iload_n C dc_T_refuseUnlessLeast_0 rfl 0 rfl ?_
  refine zj_iconst (v := 1) C dc_T_refuseUnlessLeast_1 (by decide) ?_
  refine zj_icmp_lt C dc_T_refuseUnlessLeast_2 rfl (fun a1 => ?_) (fun a1 => ?_)
  · skip
    exact zx_throwv (names := xt_ns) C hT xt_fit_IllegalArgumentException xt_nf cl_T_114 ini_IllegalArgumentException xt_at_IllegalArgumentException xt_bd_IllegalArgumentException ins_IllegalArgumentException xt_ok_IllegalArgumentException dc_T_refuseUnlessLeast_11 dc_T_refuseUnlessLeast_14 dc_T_refuseUnlessLeast_15 dc_T_refuseUnlessLeast_18 ⟨(Nat.le_of_ble_eq_true rfl), (Nat.le_of_ble_eq_true rfl), (Nat.le_of_ble_eq_true rfl), (Nat.le_of_ble_eq_true rfl)⟩ ⟨(Nat.le_of_ble_eq_true rfl), (Nat.le_of_ble_eq_true rfl)⟩ ⟨rfl, rfl, by rintro ⟨a, h1, h2, rfl⟩; have := (nI_ltI (b := 1) (by omega) (by omega)).mp a1; omega⟩
  · skip
    refine zj_iload_n C dc_T_refuseUnlessLeast_5 rfl 0 rfl ?_
    refine zj_bipush (v := 19) C dc_T_refuseUnlessLeast_6 (by decide) ?_
    refine zj_icmp_le C dc_T_refuseUnlessLeast_8 rfl (fun a2 => ?_) (fun a2 => ?_)
    · skip
      exact zx_vret C ⟨(Nat.le_of_ble_eq_true rfl), (Nat.le_of_ble_eq_true rfl)⟩ dc_T_refuseUnlessLeast_19 ⟨zp_le_t a1 a2, rfl⟩
    · skip
      exact zx_throwv (names := xt_ns) C hT xt_fit_IllegalArgumentException xt_nf cl_T_114 ini_IllegalArgumentException xt_at_IllegalArgumentException xt_bd_IllegalArgumentException ins_IllegalArgumentException xt_ok_IllegalArgumentException dc_T_refuseUnlessLeast_11 dc_T_refuseUnlessLeast_14 dc_T_refuseUnlessLeast_15 dc_T_refuseUnlessLeast_18 ⟨(Nat.le_of_ble_eq_true rfl), (Nat.le_of_ble_eq_true rfl), (Nat.le_of_ble_eq_true rfl), (Nat.le_of_ble_eq_true rfl)⟩ ⟨(Nat.le_of_ble_eq_true rfl), (Nat.le_of_ble_eq_true rfl)⟩ ⟨rfl, rfl, by rintro ⟨a, h1, h2, rfl⟩; exact a2 ((nI_leI (b := 19) (by omega) (by omega)).mpr h2)⟩
end ZC
end
section
section ZQ
/-! what a search found, as a list: tune, place, span, how much higher, the number of the score -/
abbrev zq_I : Type := Nat × Nat × Nat × Int32 × Nat
def zq_d : zq_I := (0, 0, 1, 0, 0)
def zq_it (x : zq_I) : zs_It := (nI x.1, nI x.2.1, nI x.2.2.1, x.2.2.2.1, nI x.2.2.2.2)
def zq_at (F : List zq_I) (a : Nat) : zq_I := F.getD a zq_d
/-- the score of a is greater than that of b -/
def zq_ld (F : List zq_I) (a b : Nat) : Prop := (zq_at F b).2.2.2.2 * (zq_at F b).2.2.2.2 * (zq_at F a).2.2.1 < (zq_at F a).2.2.2.2 * (zq_at F a).2.2.2.2 * (zq_at F b).2.2.1
def zq_ok (F : List zq_I) : Prop := ∀ x ∈ F, 0 < x.2.2.1 ∧ x.2.2.1 ≤ 20 ∧ 0 < x.2.2.2.2 ∧ x.2.2.2.2 ≤ 8 ∧ x.1 < 8 ∧ x.2.1 < 20
theorem zq_sp {F : List zq_I} (h : zq_ok F) (a : Nat) : 0 < (zq_at F a).2.2.1 := by
  unfold zq_at
  rcases Nat.lt_or_ge a F.length with c | c
  · rw [List.getD_eq_getElem?_getD, List.getElem?_eq_getElem c]
    exact (h _ (List.getElem_mem c)).1
  · rw [List.getD_eq_getElem?_getD, List.getElem?_eq_none c]
    decide
theorem zq_so {F : List zq_I} (h : zq_ok F) : zr_so (zq_ld F) := by
  constructor
  · intro a b h1 h2
    unfold zq_ld at h1 h2
    omega
  · intro a b c h1
    unfold zq_ld at h1 ⊢
    have sa := zq_sp h a
    have sb := zq_sp h b
    have sc := zq_sp h c
    generalize (zq_at F a).2.2.2.2 * (zq_at F a).2.2.2.2 = A at h1 ⊢
    generalize (zq_at F b).2.2.2.2 * (zq_at F b).2.2.2.2 = B at h1 ⊢
    generalize (zq_at F c).2.2.2.2 * (zq_at F c).2.2.2.2 = D at h1 ⊢
    generalize (zq_at F a).2.2.1 = x at h1 sa ⊢
    generalize (zq_at F b).2.2.1 = y at h1 sb ⊢
    generalize (zq_at F c).2.2.1 = w at h1 sc ⊢
    rcases Nat.lt_or_ge (B * x) (A * y) with k1 | k1
    · exact Or.inl k1
    · rcases Nat.lt_or_ge (D * y) (B * w) with k2 | k2
      · exact Or.inr k2
      · exfalso
        have h3 : A * y * w ≤ B * x * w := Nat.mul_le_mul_right w k1
        have h4 : B * w * x ≤ D * y * x := Nat.mul_le_mul_right x k2
        have h5 : D * x * y < A * w * y := Nat.mul_lt_mul_of_pos_right h1 sb
        have e1 : A * y * w = A * w * y := by rw [Nat.mul_assoc, Nat.mul_comm y w, ← Nat.mul_assoc]
        have e2 : B * x * w = B * w * x := by rw [Nat.mul_assoc, Nat.mul_comm x w, ← Nat.mul_assoc]
        have e3 : D * y * x = D * x * y := by rw [Nat.mul_assoc, Nat.mul_comm y x, ← Nat.mul_assoc]
        omega
theorem zq_at_lo {F : List zq_I} {x : zq_I} {a : Nat} (h : a < F.length) : zq_at (F ++ [x]) a = zq_at F a := by
  unfold zq_at
  rw [List.getD_eq_getElem?_getD, List.getD_eq_getElem?_getD, List.getElem?_append_left h]
theorem zq_at_new (F : List zq_I) (x : zq_I) : zq_at (F ++ [x]) F.length = x := by
  unfold zq_at
  rw [List.getD_eq_getElem?_getD, List.getElem?_append_right (Nat.le_refl _)]
  simp
theorem zr_ok_congr {ld ld' : Nat → Nat → Prop} {n m : Nat} {s : Nat → Nat} (h : ∀ a b, a < n → b < n → (ld a b ↔ ld' a b)) (h1 : zr_ok ld n m s) : zr_ok ld' n m s := by
  have key : ∀ a b, a < n → b < n → zr_bf ld a b → zr_bf ld' a b := by
    intro a b ha hb h2
    rcases h2 with h2 | ⟨h2, h3⟩
    · exact Or.inl ((h a b ha hb).mp h2)
    · exact Or.inr ⟨fun h4 => h2 ((h b a hb ha).mpr h4), h3⟩
  exact ⟨h1.1, fun i j hij hj => key _ _ (h1.1 i (by omega)) (h1.1 j hj) (h1.2.1 i j hij hj), fun a ha hn j hj => key _ _ (h1.1 j hj) ha (h1.2.2 a ha hn j hj)⟩
theorem zp_rk_hi {P : Nat → Bool} : ∀ {n i : Nat}, zp_rk P n ≤ i → i < n → P i = false := by
  intro n
  induction n with
  | zero => intro i _ h; omega
  | succ n ih =>
    intro i h1 h2
    cases e : P n
    · rw [zp_rk_f e] at h1
      by_cases c : i = n
      · rw [c]; exact e
      · exact ih h1 (by omega)
    · rw [zp_rk_t e] at h1; omega
theorem zp_rk_lo {P : Nat → Bool} : ∀ {n : Nat}, 0 < zp_rk P n → P (zp_rk P n - 1) = true := by
  intro n
  induction n with
  | zero => intro h; exact absurd h (by show ¬ 0 < 0; omega)
  | succ n ih =>
    intro h
    cases e : P n
    · rw [zp_rk_f e] at h ⊢; exact ih h
    · rw [zp_rk_t e, Nat.add_sub_cancel]; exact e
/-- the object of what was found holds the list F -/
def zq_F (z : zv_T) (ad : Nat → Nat) (g : Nat → va_E) (as : Nat) (F : List zq_I) : Prop := ∃ (pi : Nat → Nat) (it : Nat → zs_It) (s : Nat → Nat), zs_F z ad g as F.length (if 30 < F.length then 30 else F.length) pi it ∧ zr_ok (zq_ld F) F.length (if 30 < F.length then 30 else F.length) s ∧ (F.length ≤ 30 → zr_full F.length F.length s) ∧ ∀ j, j < (if 30 < F.length then 30 else F.length) → it (pi j) = zq_it (zq_at F (s j))
theorem zq_cmp {a b x y : Nat} (ha : a ≤ 8) (hb : b ≤ 8) (hx : x ≤ 20) (hy : y ≤ 20) : nI a * nI a * nI y ≤ nI b * nI b * nI x ↔ a * a * y ≤ b * b * x := by
  have h1 : a * a ≤ 8 * 8 := Nat.mul_le_mul ha ha
  have h2 : b * b ≤ 8 * 8 := Nat.mul_le_mul hb hb
  have h3 : a * a * y ≤ 8 * 8 * 20 := Nat.mul_le_mul h1 hy
  have h4 : b * b * x ≤ 8 * 8 * 20 := Nat.mul_le_mul h2 hx
  rw [pk_mul, pk_mul, pk_mul, pk_mul, nI_leI (by omega) (by omega)]
theorem zq_in {F : List zq_I} {a : Nat} (h : zq_ok F) (ha : a < F.length) : (zq_at F a).2.2.1 ≤ 20 ∧ (zq_at F a).2.2.2.2 ≤ 8 := by
  unfold zq_at
  rw [List.getD_eq_getElem?_getD, List.getElem?_eq_getElem ha]
  have := h _ (List.getElem_mem ha)
  exact ⟨this.2.1, this.2.2.2.1⟩
/-- one more is found -/
theorem zq_add {z : zv_T} {ad : Nat → Nat} {g1 : Nat → va_E} {as : Nat} {F : List zq_I} {x : zq_I} {pi : Nat → Nat} {it : Nat → zs_It} {s : Nat → Nat} {kp : Nat} (hkp : kp = (if 30 < F.length then 30 else F.length)) (hok : zq_ok (F ++ [x]))
    (hp2 : ∀ i j, i < 30 → j < 30 → pi i = pi j → i = j) (hr : zr_ok (zq_ld F) F.length kp s) (hf : F.length ≤ 30 → zr_full F.length F.length s) (hit : ∀ j, j < kp → it (pi j) = zq_it (zq_at F (s j)))
    (h1 : zp_rk (fun i => decide (nI x.2.2.2.2 * nI x.2.2.2.2 * (it (pi i)).2.2.1 ≤ (it (pi i)).2.2.2.2 * (it (pi i)).2.2.2.2 * nI x.2.2.1)) kp < 30 → zs_F z ad g1 as (F.length + 1) ((if 29 < kp then 29 else kp) + 1) (zp_sh pi (zp_rk (fun i => decide (nI x.2.2.2.2 * nI x.2.2.2.2 * (it (pi i)).2.2.1 ≤ (it (pi i)).2.2.2.2 * (it (pi i)).2.2.2.2 * nI x.2.2.1)) kp) (if 29 < kp then 29 else kp)) (fun m => if m = pi (if 29 < kp then 29 else kp) then zq_it x else it m))
    (h2 : 30 ≤ zp_rk (fun i => decide (nI x.2.2.2.2 * nI x.2.2.2.2 * (it (pi i)).2.2.1 ≤ (it (pi i)).2.2.2.2 * (it (pi i)).2.2.2.2 * nI x.2.2.1)) kp → zs_F z ad g1 as (F.length + 1) kp pi it) : zq_F z ad g1 as (F ++ [x]) := by
  have hokF : zq_ok F := fun y hy => hok y (List.mem_append_left _ hy)
  have hx := hok x (List.mem_append_right _ (List.mem_singleton.mpr rfl))
  have hso := zq_so hok
  have hlen : (F ++ [x]).length = F.length + 1 := by simp
  have hr' : zr_ok (zq_ld (F ++ [x])) F.length kp s := zr_ok_congr (fun a b ha hb => by unfold zq_ld; rw [zq_at_lo ha, zq_at_lo hb]) hr
  have hP : ∀ i, i < kp → (decide (nI x.2.2.2.2 * nI x.2.2.2.2 * (it (pi i)).2.2.1 ≤ (it (pi i)).2.2.2.2 * (it (pi i)).2.2.2.2 * nI x.2.2.1) = true ↔ ¬ zq_ld (F ++ [x]) F.length (s i)) := by
    intro i hi
    have hs := hr.1 i hi
    have hb := zq_in hokF hs
    rw [decide_eq_true_iff, hit i hi]
    show nI x.2.2.2.2 * nI x.2.2.2.2 * nI (zq_at F (s i)).2.2.1 ≤ nI (zq_at F (s i)).2.2.2.2 * nI (zq_at F (s i)).2.2.2.2 * nI x.2.2.1 ↔ _
    rw [zq_cmp hx.2.2.2.1 hb.2 hx.2.1 hb.1]
    unfold zq_ld
    rw [zq_at_new, zq_at_lo hs]
    omega
  generalize hPd : (fun i => decide (nI x.2.2.2.2 * nI x.2.2.2.2 * (it (pi i)).2.2.1 ≤ (it (pi i)).2.2.2.2 * (it (pi i)).2.2.2.2 * nI x.2.2.1)) = P at h1 h2
  have hP : ∀ i, i < kp → (P i = true ↔ ¬ zq_ld (F ++ [x]) F.length (s i)) := fun i hi => by rw [← hPd]; exact hP i hi
  have hrl := zp_rk_le P kp
  generalize hrk : zp_rk P kp = r at h1 h2 hrl
  have hb : ∀ j, r ≤ j → j < kp → zq_ld (F ++ [x]) F.length (s j) := fun j a1 a2 => by
    have h9 := zp_rk_hi (P := P) (n := kp) (i := j) (by omega) a2
    refine Classical.byContradiction (fun h10 => ?_)
    rw [(hP j a2).mpr h10] at h9
    cases h9
  have ha : ∀ j, j < r → ¬ zq_ld (F ++ [x]) F.length (s j) := fun j a1 => by
    have h9 : ¬ zq_ld (F ++ [x]) F.length (s (r - 1)) := (hP (r - 1) (by omega)).mp (by rw [← hrk]; exact zp_rk_lo (by omega))
    by_cases c : j = r - 1
    · rw [c]; exact h9
    · intro h10
      rcases hso.2 _ (s (r - 1)) _ h10 with h11 | h11
      · exact h9 h11
      · rcases hr'.2.1 j (r - 1) (by omega) (by omega) with h12 | ⟨h12, -⟩
        · exact hso.1 _ _ h11 h12
        · exact h12 h11
  by_cases c30 : r < 30
  · have hz := h1 c30
    by_cases ck : kp < 30
    · have hFk : F.length = kp := by rw [hkp] at ck ⊢; split at ck <;> split <;> omega
      have e1 : (if 29 < kp then 29 else kp) = kp := by split <;> omega
      have e2 : (if 30 < (F ++ [x]).length then 30 else (F ++ [x]).length) = kp + 1 := by rw [hlen, hFk]; split <;> omega
      rw [e1] at hz
      have hr9 : zr_ok (zq_ld (F ++ [x])) kp kp s := by rw [← hFk] at hr' ⊢; rw [hFk] at hr' ⊢; exact hr'
      have hins := zr_insA (r := r) (hFk ▸ hr9 : zr_ok (zq_ld (F ++ [x])) F.length kp s) (by have := hf (by omega); rw [hFk] at this ⊢; exact this) hrl (fun j hj => ha j hj) hb
      refine ⟨zp_sh pi r kp, (fun m => if m = pi kp then zq_it x else it m), zr_put s r F.length, ?_, ?_, ?_, ?_⟩
      · rw [e2, hlen]; exact hz
      · rw [e2, hlen]; exact hins.1
      · intro _; rw [hlen]; have := hins.2; rw [hFk] at this ⊢; exact this
      · intro j hj
        rw [e2] at hj
        show (if zp_sh pi r kp j = pi kp then zq_it x else it (zp_sh pi r kp j)) = _
        rcases zr_put_c (s := s) (r := r) (a := F.length) j with ⟨d1, d2⟩ | ⟨d1, d2⟩ | ⟨d1, d2⟩
        · have e3 : zp_sh pi r kp j = pi j := by unfold zp_sh; rw [if_pos d1]
          rw [d2, e3, if_neg (fun h => by have := hp2 j kp (by omega) (by omega) h; omega), hit j (by omega), zq_at_lo (hr.1 j (by omega))]
        · have e3 : zp_sh pi r kp j = pi kp := by unfold zp_sh; rw [if_neg (by omega), if_pos d1]
          rw [d2, e3, if_pos rfl, zq_at_new]
        · have e3 : zp_sh pi r kp j = pi (j - 1) := by unfold zp_sh; rw [if_neg (by omega), if_neg (by omega), if_pos (by omega)]
          rw [d2, e3, if_neg (fun h => by have := hp2 (j - 1) kp (by omega) (by omega) h; omega), hit (j - 1) (by omega), zq_at_lo (hr.1 (j - 1) (by omega))]
    · have hk30 : kp = 30 := by rw [hkp] at ck ⊢; split at ck <;> split <;> omega
      subst hk30
      have hFl : 30 ≤ F.length := by split at hkp <;> omega
      have e2 : (if 30 < (F ++ [x]).length then 30 else (F ++ [x]).length) = 30 := by rw [hlen]; split <;> omega
      rw [show (if 29 < 30 then 29 else 30) = 29 from rfl] at hz
      refine ⟨zp_sh pi r 29, (fun m => if m = pi 29 then zq_it x else it m), zr_put s r F.length, ?_, ?_, ?_, ?_⟩
      · rw [e2, hlen]; exact hz
      · rw [e2, hlen]; exact zr_insB hso hr' c30 ha hb
      · intro h9; rw [hlen] at h9; omega
      · intro j hj
        rw [e2] at hj
        show (if zp_sh pi r 29 j = pi 29 then zq_it x else it (zp_sh pi r 29 j)) = _
        rcases zr_put_c (s := s) (r := r) (a := F.length) j with ⟨d1, d2⟩ | ⟨d1, d2⟩ | ⟨d1, d2⟩
        · have e3 : zp_sh pi r 29 j = pi j := by unfold zp_sh; rw [if_pos d1]
          rw [d2, e3, if_neg (fun h => by have := hp2 j 29 (by omega) (by omega) h; omega), hit j (by omega), zq_at_lo (hr.1 j (by omega))]
        · have e3 : zp_sh pi r 29 j = pi 29 := by unfold zp_sh; rw [if_neg (by omega), if_pos d1]
          rw [d2, e3, if_pos rfl, zq_at_new]
        · have e3 : zp_sh pi r 29 j = pi (j - 1) := by unfold zp_sh; rw [if_neg (by omega), if_neg (by omega), if_pos (by omega)]
          rw [d2, e3, if_neg (fun h => by have := hp2 (j - 1) 29 (by omega) (by omega) h; omega), hit (j - 1) (by omega), zq_at_lo (hr.1 (j - 1) (by omega))]
  · have hz := h2 (by omega)
    have hk30 : kp = 30 := by split at hkp <;> omega
    subst hk30
    have hFl : 30 ≤ F.length := by split at hkp <;> omega
    have e2 : (if 30 < (F ++ [x]).length then 30 else (F ++ [x]).length) = 30 := by rw [hlen]; split <;> omega
    refine ⟨pi, it, s, ?_, ?_, ?_, ?_⟩
    · rw [e2, hlen]; exact hz
    · rw [e2, hlen]; exact zr_insC hr' (fun j hj => ha j (by omega))
    · intro h9; rw [hlen] at h9; omega
    · intro j hj
      rw [e2] at hj
      rw [hit j hj, zq_at_lo (hr.1 j hj)]
end ZQ
end
section
section ZG
theorem zj_iushr {X : zj_T} {z : zv_T} {cc : ByteArray} {nL : Nat} {own : String} {rm : Room} {ret : Option FieldType} (C : zj_C X z cc nL own rm ret) {cells slots : Nat} {Q : State → Prop} {ad : Nat → Nat} {N : Nat} {g : Nat → va_E} {pc : Nat} {L : List (Nat × Value)} {st : List Value} {x y : Int32} (d : decode cc pc = .ok (.iushr, 1)) (kk : zj_J X cells slots Q ad N g (pc + 1) L (.int (x.toUInt32 >>> (y.toUInt32 &&& Int32.toUInt32 31)).toInt32 :: st)) : zj_J X cells slots Q ad N g pc L (.int y :: .int x :: st) := by
  obtain ⟨p, l, e, R, s, m, args, below, meth, c, nL', z'⟩ := X
  obtain ⟨⟨hx, hb, hml, hown, hts⟩, hK, hA, hlk, rfl, hr, rfl, rfl, hU, hN, htr, hNb⟩ := C
  intro H locs ls hl hP hD hS
  exact lv_iushr hx hb d rfl (kk H locs ls hl hP hD hS)
theorem zt_Sx {own : String} {idx : Nat} {y : MethodName} {c : Cond} (h1 : Cond.methodLink own idx y ∈ zt_tbl) (h2 : Cond.static y ∈ zt_tbl) (h4 : Cond.initialized y.cls ∈ zt_tbl) (h5 : c ∈ zt_tbl) : GoodIn zt_tbl (va_wsS own idx y (c :: zt_tbl)) := by
  intro w hw
  have hm : w ∈ zt_tbl := by
    simp only [va_wsS, List.mem_append, List.mem_cons, List.not_mem_nil, or_false] at hw
    rcases hw with (rfl | rfl | rfl) | rfl | hw <;> assumption
  exact ⟨hm, zt_good hm⟩
/-- a static method of another class -/
theorem zj_Gi {X : zj_T} {z : zv_T} {cc : ByteArray} {nL : Nat} {own : String} {rm : Room} {ret : Option FieldType} (C : zj_C X z cc nL own rm ret) {cells slots : Nat} {Q : State → Prop} {ad : Nat → Nat} {N : Nat} {g : Nat → va_E} {pc : Nat} {L : List (Nat × Value)} {st st0 : List Value} {rt : FieldType} {y : MethodName} {ws ws' : List Cond} {rc : Room} {bytes : ByteArray} {maxL index n : Nat} {As : List Value} {post : Int32 → (Nat → va_E) → Prop} (hM : zm_i X.2.1 y ws rc z ad N g As post)
    (hG : GoodIn zt_tbl (va_wsS own index y ws)) (hw : ws = Cond.code y bytes maxL (some rt) :: ws') (hrc : rc.cells = 0) (hrs : rc.slots = 0) (hd : y.cls ≠ "java/lang/invoke/MethodHandle" ∧ y.cls ≠ "java/lang/invoke/VarHandle" ∧ (parseMethodDescriptor y.desc).map (fun d => d.parameters.length) = some n) (hR : rc.frames + 1 ≤ rm.frames ∧ 8 + (maxL + 11) + rc.locals ≤ rm.locals)
    (hn : As.length = n) (hst : st0 = As.reverse ++ st) (hW : (st.map fun v => v.category).sum ≤ 8) (hcs : cells ≤ rm.cells ∧ slots ≤ rm.slots) (d : decode cc pc = .ok (.invokestatic index, 3))
    (kk : ∀ (r : Int32) (g1 : Nat → va_E), post r g1 → zj_J X cells slots Q ad N g1 (pc + 3) L (.int r :: st)) : zj_J X cells slots Q ad N g pc L st0 := by
  obtain ⟨p, l, e, R, s, m, args, below, meth, c, nL', z'⟩ := X
  obtain ⟨⟨hx, hb, hml, hown, hts⟩, hK, hA, hlk, rfl, hr, rfl, rfl, hU, hN, htr, hNb⟩ := C
  intro H locs ls hl hP hD hS
  refine va_calli (va_runS (As := As) (rest := st) ⟨hx, hb, hml, hown, hts⟩ hM (va_cwS n hts hG hw hrc hrs hd hR) ⟨zb_blind, fun U h1 h2 => ⟨rfl, zb_end hK hA hU hN hNb hP hD hS h1 h2.alike⟩⟩ rfl hn hl.1 hst (lv_room hW) d hcs) hS (fun q _ h => h) (fun q h => h) (fun r g1 t H1 locs1 ht hvm hq hB hz1 hk1 hS1 => ?_)
  obtain ⟨hP1, hK1, hD1, -⟩ := hB
  rw [ht] at hP1
  exact kk r g1 hq H1 locs1 ls hl hP1 hD1 hS1
/-- the sign of an int, as Integer.signum makes it -/
def zp_sg (x : Int32) : Int32 := (x >>> ((31 : Int32) &&& 31)) ||| ((-x).toUInt32 >>> ((31 : Int32).toUInt32 &&& Int32.toUInt32 31)).toInt32
set_option maxHeartbeats 4000000 in
set_option maxRecDepth 100000 in
theorem ct_G_signum (l : Launch) (hst : l.stackTraces = false) (z : zv_T) (ad : Nat → Nat) (N : Nat) (g : Nat → va_E) (x : Int32) : zm_i l mn_G_signum ws_G_signum rm_G_signum z ad N g [.int x] (fun r g1 => r = zp_sg x ∧ g1 = g) := by
  refine zm_ofi hst pn_G_signum rfl (Nat.le_of_ble_eq_true rfl) (fun X hX C => ?_)
  subst hX
  show zj_J X 0 0 _ ad N g 0 [(0, .int x)] []
  refine zj_iload_n C dc_G_signum_0 rfl 0 rfl ?_
  refine zj_bipush (v := 31) C dc_G_signum_1 (by decide) ?_
  refine zj_ishr C dc_G_signum_3 ?_
  refine zj_iload_n C dc_G_signum_4 rfl 0 rfl ?_
  refine zj_ineg C dc_G_signum_5 ?_
  refine zj_bipush (v := 31) C dc_G_signum_6 (by decide) ?_
  refine zj_iushr C dc_G_signum_8 ?_
  refine zj_ior C dc_G_signum_9 ?_
  exact zj_iret C dc_G_signum_10 ⟨rfl, rfl⟩
set_option maxHeartbeats 4000000 in
set_option maxRecDepth 100000 in
theorem ct_T_sameContour (l : Launch) (hst : l.stackTraces = false) (z : zv_T) (ad : Nat → Nat) (N : Nat) (g : Nat → va_E) (ri mr rc ni nc pl : Nat) (rp rq p q : Nat → Int32) (hrN : ri + 2 < N) (hnN : ni + 2 < N) (hr : zs_N z ad g ri mr rc rp rq) (hn : zs_N z ad g ni 20 nc p q) (hmr : mr < 2 ^ 31) (hc1 : 1 ≤ rc) (hc2 : rc ≤ mr) (hpl : pl + rc ≤ 20) : zm_i l mn_T_sameContour ws_T_sameContour rm_T_sameContour z ad N g [.ref (ad ri), .ref (ad ni), .int (nI pl)] (fun r g1 => r = zb_i (zp_all (fun k => decide (zp_sg (rp (k + 1) - rp k) = zp_sg (p (pl + k + 1) - p (pl + k)))) (rc - 1)) ∧ g1 = g) := by
  obtain ⟨hr0, hr1, hr2⟩ := hr
  obtain ⟨hn0, hn1, hn2⟩ := hn
  refine zm_ofz hst pn_T_sameContour rfl (Nat.le_of_ble_eq_true rfl) (fun X hX C => ?_)
  subst hX
  show zj_J X 0 0 _ ad N g 0 [(0, .ref (ad ri)), (1, .ref (ad ni)), (2, .int (nI pl))] []
  have loop : ∀ (n : Nat) (k : Nat), rc - 1 - k = n → k ≤ rc - 1 → zp_all (fun k => decide (zp_sg (rp (k + 1) - rp k) = zp_sg (p (pl + k + 1) - p (pl + k)))) k = true → zj_J X 0 0 (zj_Qi X 0 0 ad N (fun r g1 => r = zb_i (zp_all (fun k => decide (zp_sg (rp (k + 1) - rp k) = zp_sg (p (pl + k + 1) - p (pl + k)))) (rc - 1)) ∧ g1 = g)) ad N g 2 [(3, .int (nI k)), (0, .ref (ad ri)), (1, .ref (ad ni)), (2, .int (nI pl))] [] := by
    intro n
    induction n with
    | zero =>
      intro k e1 e2 e3
      refine zj_iload_n C dc_T_sameContour_2 rfl 0 rfl ?_
      refine zj_aload_n C dc_T_sameContour_3 rfl 1 rfl ?_
      refine zj_Vi C (ct_N_steps _ hst z ad N g ri mr rc rp rq hrN ⟨hr0, hr1, hr2⟩ hmr (by omega)) gv_T_117 rfl rfl rfl hd_N_steps ⟨(Nat.le_of_ble_eq_true rfl), (Nat.le_of_ble_eq_true rfl)⟩ (by omega) hr0 rfl rfl rfl (Nat.le_of_ble_eq_true rfl) ⟨(Nat.le_of_ble_eq_true rfl), (Nat.le_of_ble_eq_true rfl)⟩ dc_T_sameContour_4 (fun r1 g9 h1 => ?_)
      obtain ⟨rfl, hg9⟩ := h1
      rw [hg9]
      refine zj_icmp_ge C dc_T_sameContour_7 rfl (fun _ => ?_) (fun h => absurd h (not_not_intro ((nI_leI (by omega) (by omega)).mpr (by omega))))
      refine zj_iconst (v := 1) C dc_T_sameContour_39 (by decide) ?_
      exact zj_zret C dc_T_sameContour_40 rfl ⟨by rw [show rc - 1 = k by omega, e3]; rfl, rfl⟩
    | succ n ih =>
      intro k e1 e2 e3
      refine zj_iload_n C dc_T_sameContour_2 rfl 0 rfl ?_
      refine zj_aload_n C dc_T_sameContour_3 rfl 1 rfl ?_
      refine zj_Vi C (ct_N_steps _ hst z ad N g ri mr rc rp rq hrN ⟨hr0, hr1, hr2⟩ hmr (by omega)) gv_T_117 rfl rfl rfl hd_N_steps ⟨(Nat.le_of_ble_eq_true rfl), (Nat.le_of_ble_eq_true rfl)⟩ (by omega) hr0 rfl rfl rfl (Nat.le_of_ble_eq_true rfl) ⟨(Nat.le_of_ble_eq_true rfl), (Nat.le_of_ble_eq_true rfl)⟩ dc_T_sameContour_4 (fun r1 g9 h1 => ?_)
      obtain ⟨rfl, hg9⟩ := h1
      rw [hg9]
      refine zj_icmp_ge C dc_T_sameContour_7 rfl (fun h => absurd h (((zn_nle (by omega) (by omega)).mpr (by omega)))) (fun _ => ?_)
      refine zj_aload_n C dc_T_sameContour_10 rfl 1 rfl ?_
      refine zj_iload_n C dc_T_sameContour_11 rfl 0 rfl ?_
      refine zj_Vi C (ct_N_stepBehind _ hst z ad N g ri mr rc rp rq hrN ⟨hr0, hr1, hr2⟩ hmr (k) (by omega)) gv_T_121 rfl rfl rfl hd_N_stepBehind ⟨(Nat.le_of_ble_eq_true rfl), (Nat.le_of_ble_eq_true rfl)⟩ (by omega) hr0 rfl rfl rfl (Nat.le_of_ble_eq_true rfl) ⟨(Nat.le_of_ble_eq_true rfl), (Nat.le_of_ble_eq_true rfl)⟩ dc_T_sameContour_12 (fun r1 g9 h1 => ?_)
      obtain ⟨rfl, hg9⟩ := h1
      rw [hg9]
      refine zj_Gi C (ct_G_signum _ hst z ad N g _) (zt_Sx ml_T_245 sm_G_signum ini_G wk_G_signum) rfl rfl rfl hd_G_signum.2 ⟨(Nat.le_of_ble_eq_true rfl), (Nat.le_of_ble_eq_true rfl)⟩ rfl rfl (Nat.le_of_ble_eq_true rfl) ⟨(Nat.le_of_ble_eq_true rfl), (Nat.le_of_ble_eq_true rfl)⟩ dc_T_sameContour_15 (fun r9 g9 h9 => ?_)
      obtain ⟨rfl, hg9⟩ := h9
      rw [hg9]
      refine zj_aload_n C dc_T_sameContour_18 rfl 2 rfl ?_
      refine zj_iload_n C dc_T_sameContour_19 rfl 3 rfl ?_
      refine zj_iload_n C dc_T_sameContour_20 rfl 0 rfl ?_
      refine zj_iadd C dc_T_sameContour_21 ?_
      refine zj_topi (nI_add _ _) ?_
      refine zj_Vi C (ct_N_stepBehind _ hst z ad N g ni 20 nc p q hnN ⟨hn0, hn1, hn2⟩ (by decide) (pl + k) (by omega)) gv_T_121 rfl rfl rfl hd_N_stepBehind ⟨(Nat.le_of_ble_eq_true rfl), (Nat.le_of_ble_eq_true rfl)⟩ (by omega) hn0 rfl rfl rfl (Nat.le_of_ble_eq_true rfl) ⟨(Nat.le_of_ble_eq_true rfl), (Nat.le_of_ble_eq_true rfl)⟩ dc_T_sameContour_22 (fun r2 g9 h1 => ?_)
      obtain ⟨rfl, hg9⟩ := h1
      rw [hg9]
      refine zj_Gi C (ct_G_signum _ hst z ad N g _) (zt_Sx ml_T_245 sm_G_signum ini_G wk_G_signum) rfl rfl rfl hd_G_signum.2 ⟨(Nat.le_of_ble_eq_true rfl), (Nat.le_of_ble_eq_true rfl)⟩ rfl rfl (Nat.le_of_ble_eq_true rfl) ⟨(Nat.le_of_ble_eq_true rfl), (Nat.le_of_ble_eq_true rfl)⟩ dc_T_sameContour_25 (fun r9 g9 h9 => ?_)
      obtain ⟨rfl, hg9⟩ := h9
      rw [hg9]
      refine zj_icmp_eq C dc_T_sameContour_28 rfl (fun h28 => ?_) (fun h28 => ?_)
      · skip
        refine zj_iinc C dc_T_sameContour_33 0 rfl (zn_inc k) (by decide) rfl ?_
        refine zj_goto C dc_T_sameContour_36 rfl ?_
        refine zj_loc (L' := [(3, .int (nI (k + 1))), (0, .ref (ad ri)), (1, .ref (ad ni)), (2, .int (nI pl))]) [0, 1, 2, 3] rfl ?_
        exact ih (k + 1) (by omega) (by omega) (by rw [zp_allS, e3, decide_eq_true h28]; rfl)
      · skip
        refine zj_iconst (v := 0) C dc_T_sameContour_31 (by decide) ?_
        exact zj_zret C dc_T_sameContour_32 rfl ⟨by rw [zp_all_f (i := k) (by omega) (decide_eq_false h28)]; rfl, rfl⟩
  refine zj_iconst (v := 0) C dc_T_sameContour_0 (by decide) ?_
  refine zj_istore_n C dc_T_sameContour_1 rfl (by decide) rfl ?_
  refine zj_loc (L' := [(3, .int (nI 0)), (0, .ref (ad ri)), (1, .ref (ad ni)), (2, .int (nI pl))]) [0, 1, 2, 3] rfl ?_
  exact loop (rc - 1) 0 rfl (by omega) rfl
end ZG
end
section
section ZO
set_option maxHeartbeats 4000000 in
set_option maxRecDepth 100000 in
theorem ct_T_offer (l : Launch) (hst : l.stackTraces = false) (z : zv_T) (ad : Nat → Nat) (N : Nat) (g : Nat → va_E) (ts : Nat → zu_S) (t qc : Nat) (qp qq : Nat → Int32) (F : List zq_I) (hN : 108 ≤ N) (hA' : zs_A z ad g ts) (hq : zs_N z ad g 66 8 qc qp qq) (hF : zq_F z ad g qc F) (ht : t < 8) (pl sp c : Nat) (hpl : pl < 20) (hok : zq_ok (F ++ [(t, pl, sp, zu_p (ts t) pl - qp 0, c)])) (hFl : F.length < 2 ^ 30) : zm_v l mn_T_offer ws_T_offer rm_T_offer z ad N g [.ref (ad 0), .int (nI t), .int (nI pl), .int (nI sp), .int (nI c)] (fun g1 => zq_F z ad g1 qc (F ++ [(t, pl, sp, zu_p (ts t) pl - qp 0, c)]) ∧ ∀ j, j < 69 ∨ 101 ≤ j → g1 j = g j) := by
  obtain ⟨h0, ⟨f, hA, hf⟩, hts⟩ := hA'
  obtain ⟨hq0, hq1, hq2⟩ := hq
  obtain ⟨pi, it, s, hs, hr, hfl, hit⟩ := hF
  have hp2 := hs.2.2.2.1
  refine zm_ofv hst pn_T_offer rfl (Nat.le_of_ble_eq_true rfl) (fun X hX C => ?_)
  subst hX
  show zj_J X 0 0 _ ad N g 0 [(0, .ref (ad 0)), (1, .int (nI t)), (2, .int (nI pl)), (3, .int (nI sp)), (4, .int (nI c))] []
  refine zj_aload_n C dc_T_offer_0 rfl 0 rfl ?_
  refine zj_get (k := 0) C (by omega) h0 rfl (by decide) fw_T fl_T_11 rfl rfl dc_T_offer_1 ?_
  refine zj_iload_n C dc_T_offer_4 rfl 1 rfl ?_
  refine zj_uald C (by omega) hA rfl ht (by decide) dc_T_offer_5 ?_
  refine zj_topv (congrArg va_rf (hf t ht)) ?_
  refine zj_get (k := 0) C (by omega) (hts t ht).1 rfl (by decide) fw_U fl_T_81 rfl rfl dc_T_offer_6 ?_
  refine zj_get (k := 0) C (by omega) (hts t ht).2.1.1 rfl (by decide) fw_N fl_T_219 rfl rfl dc_T_offer_9 ?_
  refine zj_iload_n C dc_T_offer_12 rfl 2 rfl ?_
  refine zj_iald C (by omega) (hts t ht).2.1.2.1 rfl hpl (by decide) dc_T_offer_13 ?_
  refine zj_aload_n C dc_T_offer_14 rfl 0 rfl ?_
  refine zj_get (k := 1) C (by omega) h0 rfl (by decide) fw_T fl_T_21 rfl rfl dc_T_offer_15 ?_
  refine zj_get (k := 0) C (by omega) hq0 rfl (by decide) fw_N fl_T_219 rfl rfl dc_T_offer_18 ?_
  refine zj_iconst (v := 0) C dc_T_offer_21 (by decide) ?_
  refine zj_iald C (by omega) hq1 nI_0.symm (by omega) (by decide) dc_T_offer_22 ?_
  refine zj_isub C dc_T_offer_23 ?_
  refine zj_istore C dc_T_offer_24 (by decide) rfl ?_
  refine zj_aload_n C dc_T_offer_26 rfl 1 rfl ?_
  refine zj_get (k := 2) C (by omega) h0 rfl (by decide) fw_T fl_T_28 rfl rfl dc_T_offer_27 ?_
  refine zj_iload_n C dc_T_offer_30 rfl 2 rfl ?_
  refine zj_iload_n C dc_T_offer_31 rfl 3 rfl ?_
  refine zj_iload_n C dc_T_offer_32 rfl 4 rfl ?_
  refine zj_iload C dc_T_offer_33 0 rfl ?_
  refine zj_iload C dc_T_offer_35 5 rfl ?_
  refine zj_Vv C (ct_F_add _ hst z ad N g qc F.length (if 30 < F.length then 30 else F.length) pi it (by omega) hs (nI t) (nI pl) (nI sp) (zu_p (ts t) pl - qp 0) (nI c) (by split <;> omega) hFl) gv_T_241 rfl rfl rfl hd_F_add ⟨(Nat.le_of_ble_eq_true rfl), (Nat.le_of_ble_eq_true rfl)⟩ (by omega) hs.1 rfl rfl rfl (Nat.le_of_ble_eq_true rfl) ⟨(Nat.le_of_ble_eq_true rfl), (Nat.le_of_ble_eq_true rfl)⟩ dc_T_offer_37 (fun g1 h1 => ?_)
  obtain ⟨b1, b2, b3⟩ := h1
  exact zj_vret C dc_T_offer_40 ⟨zq_add (x := (t, pl, sp, zu_p (ts t) pl - qp 0, c)) rfl hok hp2 hr hfl hit b1 b2, b3⟩
theorem zs_N_fr {z : zv_T} {ad : Nat → Nat} {g g2 : Nat → va_E} {i most c : Nat} {p q : Nat → Int32} (h : zs_N z ad g i most c p q) (hf : ∀ j, i ≤ j → j ≤ i + 2 → g2 j = g j) : zs_N z ad g2 i most c p q :=
  ⟨(hf i (by omega) (by omega)).trans h.1, (hf (i + 1) (by omega) (by omega)).trans h.2.1, (hf (i + 2) (by omega) (by omega)).trans h.2.2⟩
theorem zs_V_fr {z : zv_T} {ad : Nat → Nat} {g g2 : Nat → va_E} {b : Nat} {s : zu_S} (h : zs_V z ad g b s) (hf : ∀ j, b ≤ j → j ≤ b + 7 → g2 j = g j) : zs_V z ad g2 b s :=
  ⟨(hf b (by omega) (by omega)).trans h.1, zs_N_fr h.2.1 (fun j h1 h2 => hf j (by omega) (by omega)), (hf (b + 4) (by omega) (by omega)).trans h.2.2.1, zs_N_fr h.2.2.2 (fun j h1 h2 => hf j (by omega) (by omega))⟩
theorem zs_A_fr {z : zv_T} {ad : Nat → Nat} {g g2 : Nat → va_E} {ts : Nat → zu_S} (h : zs_A z ad g ts) (hf : ∀ j, j < 66 → g2 j = g j) : zs_A z ad g2 ts := by
  obtain ⟨h0, ⟨f, hA, hff⟩, hts⟩ := h
  exact ⟨(hf 0 (by omega)).trans h0, ⟨f, (hf 1 (by omega)).trans hA, hff⟩, fun t ht => zs_V_fr (hts t ht) (fun j h1 h2 => hf j (by omega))⟩
theorem zq_pre {A B : List zq_I} (h : zq_ok (A ++ B)) : zq_ok A := fun x hx => h x (List.mem_append_left _ hx)
/-- a passage fits note by note -/
def zp_e1 (qp p : Nat → Int32) (pl : Nat) : Nat → Bool := fun k => decide (qp (k + 1) - qp k = p (pl + k + 1) - p (pl + k))
def zp_e3 (qq q : Nat → Int32) (pl : Nat) : Nat → Bool := fun k => decide (qq (k + 1) * q pl = q (pl + (k + 1)) * qq 0)
def zp_e5 (qp p : Nat → Int32) (pl : Nat) : Nat → Bool := fun k => decide (zp_sg (qp (k + 1) - qp k) = zp_sg (p (pl + k + 1) - p (pl + k)))
def zp_fit (kd qc : Nat) (qp qq p q : Nat → Int32) (pl : Nat) : Bool := match kd with
  | 0 => zp_all (zp_e1 qp p pl) (qc - 1) && zp_all (zp_e3 qq q pl) (qc - 1)
  | 1 => zp_all (zp_e1 qp p pl) (qc - 1)
  | 2 => zp_all (zp_e5 qp p pl) (qc - 1)
  | _ => zp_all (zp_e3 qq q pl) (qc - 1)
set_option maxHeartbeats 4000000 in
set_option maxRecDepth 100000 in
theorem ct_T_fits (l : Launch) (hst : l.stackTraces = false) (z : zv_T) (ad : Nat → Nat) (N : Nat) (g : Nat → va_E) (ni nc pl kd qc : Nat) (qp qq p q : Nat → Int32) (ts : Nat → zu_S) (hN : 108 ≤ N) (hnN : ni + 2 < 66) (hA' : zs_A z ad g ts) (hq : zs_N z ad g 66 8 qc qp qq) (hn : zs_N z ad g ni 20 nc p q) (hqc : 2 ≤ qc) (hqc8 : qc ≤ 8) (hpl : pl + qc ≤ 20) (hkd : kd ≤ 3) : zm_i l mn_T_fits ws_T_fits rm_T_fits z ad N g [.ref (ad 0), .int (nI kd), .ref (ad ni), .int (nI pl)] (fun r g1 => r = zb_i (zp_fit kd qc qp qq p q pl) ∧ g1 = g) := by
  obtain ⟨h0, ⟨f, hA, hf⟩, hts⟩ := hA'
  obtain ⟨hq0, hq1, hq2⟩ := hq
  obtain ⟨hn0, hn1, hn2⟩ := hn
  refine zm_ofz hst pn_T_fits rfl (Nat.le_of_ble_eq_true rfl) (fun X hX C => ?_)
  subst hX
  show zj_J X 0 0 _ ad N g 0 [(0, .ref (ad 0)), (1, .int (nI kd)), (2, .ref (ad ni)), (3, .int (nI pl))] []
  refine zj_iload_n C dc_T_fits_0 rfl 1 rfl ?_
  have hk4 : kd = 0 ∨ kd = 1 ∨ kd = 2 ∨ kd = 3 := by omega
  rcases hk4 with rfl | rfl | rfl | rfl
  · refine zj_tableIn C dc_T_fits_1 (by decide) (by decide) rfl rfl ?_
    refine zj_aload_n C dc_T_fits_28 rfl 0 rfl ?_
    refine zj_get (k := 1) C (by omega) h0 rfl (by decide) fw_T fl_T_21 rfl rfl dc_T_fits_29 ?_
    refine zj_aload_n C dc_T_fits_32 rfl 0 rfl ?_
    refine zj_get (k := 1) C (by omega) h0 rfl (by decide) fw_T fl_T_21 rfl rfl dc_T_fits_33 ?_
    refine zj_get (k := 2) C (by omega) hq0 rfl (by decide) fw_N fl_T_84 rfl rfl dc_T_fits_36 ?_
    refine zj_aload_n C dc_T_fits_39 rfl 2 rfl ?_
    refine zj_iload_n C dc_T_fits_40 rfl 3 rfl ?_
    refine zj_Si C (ct_T_sameSteps _ hst z ad N g 66 8 qc ni nc pl qp qq p q (by omega) (by omega) ⟨hq0, hq1, hq2⟩ ⟨hn0, hn1, hn2⟩ (by decide) qc (by omega) (by omega) hpl) gv_T_181 rfl rfl rfl hd_T_sameSteps ⟨(Nat.le_of_ble_eq_true rfl), (Nat.le_of_ble_eq_true rfl)⟩ rfl rfl (Nat.le_of_ble_eq_true rfl) ⟨(Nat.le_of_ble_eq_true rfl), (Nat.le_of_ble_eq_true rfl)⟩ dc_T_fits_41 (fun r1 g9 h1 => ?_)
    obtain ⟨rfl, hg9⟩ := h1
    rw [hg9]
    refine zj_if_eq C dc_T_fits_44 rfl (fun h44 => ?_) (fun h44 => ?_)
    · have h44 := zb_i0 h44
      refine zj_iconst (v := 0) C dc_T_fits_63 (by decide) ?_
      exact zj_zret C dc_T_fits_64 rfl ⟨(by show _ = zb_i (zp_all (zp_e1 qp p pl) (qc - 1) && _); rw [show zp_all (zp_e1 qp p pl) (qc - 1) = false from h44]; rfl), rfl⟩
    · have h44 := zb_i1 h44
      refine zj_aload_n C dc_T_fits_47 rfl 0 rfl ?_
      refine zj_get (k := 1) C (by omega) h0 rfl (by decide) fw_T fl_T_21 rfl rfl dc_T_fits_48 ?_
      refine zj_aload_n C dc_T_fits_51 rfl 2 rfl ?_
      refine zj_iload_n C dc_T_fits_52 rfl 3 rfl ?_
      refine zj_Si C (ct_T_sameRatio _ hst z ad N g 66 8 qc ni nc pl qp qq p q (by omega) (by omega) ⟨hq0, hq1, hq2⟩ ⟨hn0, hn1, hn2⟩ (by decide) (by omega) (by omega) hpl) gv_T_209 rfl rfl rfl hd_T_sameRatio ⟨(Nat.le_of_ble_eq_true rfl), (Nat.le_of_ble_eq_true rfl)⟩ rfl rfl (Nat.le_of_ble_eq_true rfl) ⟨(Nat.le_of_ble_eq_true rfl), (Nat.le_of_ble_eq_true rfl)⟩ dc_T_fits_53 (fun r2 g9 h1 => ?_)
      obtain ⟨rfl, hg9⟩ := h1
      rw [hg9]
      refine zj_if_eq C dc_T_fits_56 rfl (fun h56 => ?_) (fun h56 => ?_)
      · have h56 := zb_i0 h56
        refine zj_iconst (v := 0) C dc_T_fits_63 (by decide) ?_
        exact zj_zret C dc_T_fits_64 rfl ⟨(by show _ = zb_i (_ && zp_all (zp_e3 qq q pl) (qc - 1)); rw [show zp_all (zp_e3 qq q pl) (qc - 1) = false from h56, Bool.and_false]; rfl), rfl⟩
      · have h56 := zb_i1 h56
        refine zj_iconst (v := 1) C dc_T_fits_59 (by decide) ?_
        refine zj_goto C dc_T_fits_60 rfl ?_
        exact zj_zret C dc_T_fits_64 rfl ⟨(by show _ = zb_i (zp_all (zp_e1 qp p pl) (qc - 1) && zp_all (zp_e3 qq q pl) (qc - 1)); rw [show zp_all (zp_e1 qp p pl) (qc - 1) = true from h44, show zp_all (zp_e3 qq q pl) (qc - 1) = true from h56]; rfl), rfl⟩
  · refine zj_tableIn C dc_T_fits_1 (by decide) (by decide) rfl rfl ?_
    refine zj_aload_n C dc_T_fits_65 rfl 0 rfl ?_
    refine zj_get (k := 1) C (by omega) h0 rfl (by decide) fw_T fl_T_21 rfl rfl dc_T_fits_66 ?_
    refine zj_aload_n C dc_T_fits_69 rfl 0 rfl ?_
    refine zj_get (k := 1) C (by omega) h0 rfl (by decide) fw_T fl_T_21 rfl rfl dc_T_fits_70 ?_
    refine zj_get (k := 2) C (by omega) hq0 rfl (by decide) fw_N fl_T_84 rfl rfl dc_T_fits_73 ?_
    refine zj_aload_n C dc_T_fits_76 rfl 2 rfl ?_
    refine zj_iload_n C dc_T_fits_77 rfl 3 rfl ?_
    refine zj_Si C (ct_T_sameSteps _ hst z ad N g 66 8 qc ni nc pl qp qq p q (by omega) (by omega) ⟨hq0, hq1, hq2⟩ ⟨hn0, hn1, hn2⟩ (by decide) qc (by omega) (by omega) hpl) gv_T_181 rfl rfl rfl hd_T_sameSteps ⟨(Nat.le_of_ble_eq_true rfl), (Nat.le_of_ble_eq_true rfl)⟩ rfl rfl (Nat.le_of_ble_eq_true rfl) ⟨(Nat.le_of_ble_eq_true rfl), (Nat.le_of_ble_eq_true rfl)⟩ dc_T_fits_78 (fun r1 g9 h1 => ?_)
    obtain ⟨rfl, hg9⟩ := h1
    rw [hg9]
    exact zj_zret C dc_T_fits_81 (by first | rfl | (unfold zb_i; split <;> rfl)) ⟨rfl, rfl⟩
  · refine zj_tableIn C dc_T_fits_1 (by decide) (by decide) rfl rfl ?_
    refine zj_aload_n C dc_T_fits_82 rfl 0 rfl ?_
    refine zj_get (k := 1) C (by omega) h0 rfl (by decide) fw_T fl_T_21 rfl rfl dc_T_fits_83 ?_
    refine zj_aload_n C dc_T_fits_86 rfl 2 rfl ?_
    refine zj_iload_n C dc_T_fits_87 rfl 3 rfl ?_
    refine zj_Si C (ct_T_sameContour _ hst z ad N g 66 8 qc ni nc pl qp qq p q (by omega) (by omega) ⟨hq0, hq1, hq2⟩ ⟨hn0, hn1, hn2⟩ (by decide) (by omega) (by omega) hpl) gv_T_213 rfl rfl rfl hd_T_sameContour ⟨(Nat.le_of_ble_eq_true rfl), (Nat.le_of_ble_eq_true rfl)⟩ rfl rfl (Nat.le_of_ble_eq_true rfl) ⟨(Nat.le_of_ble_eq_true rfl), (Nat.le_of_ble_eq_true rfl)⟩ dc_T_fits_88 (fun r1 g9 h1 => ?_)
    obtain ⟨rfl, hg9⟩ := h1
    rw [hg9]
    exact zj_zret C dc_T_fits_91 (by first | rfl | (unfold zb_i; split <;> rfl)) ⟨rfl, rfl⟩
  · refine zj_tableOut C dc_T_fits_1 (Or.inr (by decide)) rfl ?_
    refine zj_aload_n C dc_T_fits_92 rfl 0 rfl ?_
    refine zj_get (k := 1) C (by omega) h0 rfl (by decide) fw_T fl_T_21 rfl rfl dc_T_fits_93 ?_
    refine zj_aload_n C dc_T_fits_96 rfl 2 rfl ?_
    refine zj_iload_n C dc_T_fits_97 rfl 3 rfl ?_
    refine zj_Si C (ct_T_sameRatio _ hst z ad N g 66 8 qc ni nc pl qp qq p q (by omega) (by omega) ⟨hq0, hq1, hq2⟩ ⟨hn0, hn1, hn2⟩ (by decide) (by omega) (by omega) hpl) gv_T_209 rfl rfl rfl hd_T_sameRatio ⟨(Nat.le_of_ble_eq_true rfl), (Nat.le_of_ble_eq_true rfl)⟩ rfl rfl (Nat.le_of_ble_eq_true rfl) ⟨(Nat.le_of_ble_eq_true rfl), (Nat.le_of_ble_eq_true rfl)⟩ dc_T_fits_98 (fun r2 g9 h1 => ?_)
    obtain ⟨rfl, hg9⟩ := h1
    rw [hg9]
    exact zj_zret C dc_T_fits_101 (by first | rfl | (unfold zb_i; split <;> rfl)) ⟨rfl, rfl⟩
/-- those of the places pl, pl + 1 .. that fit -/
def zq_nn (fit : Nat → Bool) (mk : Nat → zq_I) : Nat → Nat → List zq_I
  | _, 0 => []
  | pl, n + 1 => (if fit pl then [mk pl] else []) ++ zq_nn fit mk (pl + 1) n
theorem zq_nnS (fit : Nat → Bool) (mk : Nat → zq_I) (pl n : Nat) : zq_nn fit mk pl (n + 1) = (if fit pl then [mk pl] else []) ++ zq_nn fit mk (pl + 1) n := rfl
set_option maxHeartbeats 4000000 in
set_option maxRecDepth 100000 in
theorem ct_T_searchNoteByNote (l : Launch) (hst : l.stackTraces = false) (z : zv_T) (ad : Nat → Nat) (N : Nat) (g : Nat → va_E) (ts : Nat → zu_S) (t qc : Nat) (qp qq : Nat → Int32) (F : List zq_I) (hN : 108 ≤ N) (hA' : zs_A z ad g ts) (hq : zs_N z ad g 66 8 qc qp qq) (hF : zq_F z ad g qc F) (ht : t < 8) (kd : Nat) (hkd : kd ≤ 3) (hqc : 2 ≤ qc) (hqc8 : qc ≤ 8) (hcn : zu_cn (ts t) ≤ 20) (hok : zq_ok (F ++ zq_nn (zp_fit kd qc qp qq (zu_p (ts t)) (zu_q (ts t))) (fun pl => ((t, pl, qc, zu_p (ts t) pl - qp 0, qc) : zq_I)) 0 (zu_cn (ts t) + 1 - qc))) (hFl : (F ++ zq_nn (zp_fit kd qc qp qq (zu_p (ts t)) (zu_q (ts t))) (fun pl => ((t, pl, qc, zu_p (ts t) pl - qp 0, qc) : zq_I)) 0 (zu_cn (ts t) + 1 - qc)).length < 2 ^ 30) : zm_v l mn_T_searchNoteByNote ws_T_searchNoteByNote rm_T_searchNoteByNote z ad N g [.ref (ad 0), .int (nI t), .int (nI kd)] (fun g1 => zq_F z ad g1 qc (F ++ zq_nn (zp_fit kd qc qp qq (zu_p (ts t)) (zu_q (ts t))) (fun pl => ((t, pl, qc, zu_p (ts t) pl - qp 0, qc) : zq_I)) 0 (zu_cn (ts t) + 1 - qc)) ∧ ∀ j, j < 69 ∨ 101 ≤ j → g1 j = g j) := by
  have hA9 := hA'
  have hq9 := hq
  obtain ⟨h0, ⟨f, hA, hf⟩, hts⟩ := hA'
  obtain ⟨hq0, hq1, hq2⟩ := hq
  refine zm_ofv hst pn_T_searchNoteByNote rfl (Nat.le_of_ble_eq_true rfl) (fun X hX C => ?_)
  subst hX
  show zj_J X 0 0 _ ad N g 0 [(0, .ref (ad 0)), (1, .int (nI t)), (2, .int (nI kd))] []
  have loop : ∀ (n : Nat) (pl : Nat) (g2 : Nat → va_E) (F2 : List zq_I), zu_cn (ts t) + 1 - qc - pl = n → pl ≤ 21 → zq_F z ad g2 qc F2 → (∀ j, j < 69 ∨ 101 ≤ j → g2 j = g j) → (F ++ zq_nn (zp_fit kd qc qp qq (zu_p (ts t)) (zu_q (ts t))) (fun pl => ((t, pl, qc, zu_p (ts t) pl - qp 0, qc) : zq_I)) 0 (zu_cn (ts t) + 1 - qc)) = F2 ++ zq_nn (zp_fit kd qc qp qq (zu_p (ts t)) (zu_q (ts t))) (fun pl => ((t, pl, qc, zu_p (ts t) pl - qp 0, qc) : zq_I)) pl (zu_cn (ts t) + 1 - qc - pl) → zj_J X 0 0 (zj_Qv X 0 0 ad N (fun g1 => zq_F z ad g1 qc (F ++ zq_nn (zp_fit kd qc qp qq (zu_p (ts t)) (zu_q (ts t))) (fun pl => ((t, pl, qc, zu_p (ts t) pl - qp 0, qc) : zq_I)) 0 (zu_cn (ts t) + 1 - qc)) ∧ ∀ j, j < 69 ∨ 101 ≤ j → g1 j = g j)) ad N g2 13 [(4, .int (nI pl)), (3, .ref (ad (2 + 8 * t + 1))), (0, .ref (ad 0)), (1, .int (nI t)), (2, .int (nI kd))] [] := by
    intro n
    induction n with
    | zero =>
      intro pl g2 F2 e1 e2 hF2 hfr hE
      refine zj_iload C dc_T_searchNoteByNote_13 0 rfl ?_
      refine zj_aload_n C dc_T_searchNoteByNote_15 rfl 2 rfl ?_
      refine zj_get (k := 1) C (by omega) ((hfr 0 (by omega)).trans h0) rfl (by decide) fw_T fl_T_21 rfl rfl dc_T_searchNoteByNote_16 ?_
      refine zj_get (k := 2) C (by omega) ((hfr 66 (by omega)).trans hq0) rfl (by decide) fw_N fl_T_84 rfl rfl dc_T_searchNoteByNote_19 ?_
      refine zj_iadd C dc_T_searchNoteByNote_22 ?_
      refine zj_topi (nI_add _ _) ?_
      refine zj_aload_n C dc_T_searchNoteByNote_23 rfl 1 rfl ?_
      refine zj_get (k := 2) C (by omega) ((hfr (2 + 8 * t + 1) (by omega)).trans (hts t ht).2.1.1) rfl (by decide) fw_N fl_T_84 rfl rfl dc_T_searchNoteByNote_24 ?_
      refine zj_icmp_gt C dc_T_searchNoteByNote_27 rfl (fun _ => ?_) (fun h => absurd h (not_not_intro ((nI_ltI (by omega) (by omega)).mpr (by omega))))
      exact zj_vret C dc_T_searchNoteByNote_68 ⟨by rw [hE, show zu_cn (ts t) + 1 - qc - pl = 0 by omega]; show zq_F z ad g2 qc (F2 ++ []); rw [List.append_nil]; exact hF2, hfr⟩
    | succ n ih =>
      intro pl g2 F2 e1 e2 hF2 hfr hE
      refine zj_iload C dc_T_searchNoteByNote_13 0 rfl ?_
      refine zj_aload_n C dc_T_searchNoteByNote_15 rfl 2 rfl ?_
      refine zj_get (k := 1) C (by omega) ((hfr 0 (by omega)).trans h0) rfl (by decide) fw_T fl_T_21 rfl rfl dc_T_searchNoteByNote_16 ?_
      refine zj_get (k := 2) C (by omega) ((hfr 66 (by omega)).trans hq0) rfl (by decide) fw_N fl_T_84 rfl rfl dc_T_searchNoteByNote_19 ?_
      refine zj_iadd C dc_T_searchNoteByNote_22 ?_
      refine zj_topi (nI_add _ _) ?_
      refine zj_aload_n C dc_T_searchNoteByNote_23 rfl 1 rfl ?_
      refine zj_get (k := 2) C (by omega) ((hfr (2 + 8 * t + 1) (by omega)).trans (hts t ht).2.1.1) rfl (by decide) fw_N fl_T_84 rfl rfl dc_T_searchNoteByNote_24 ?_
      refine zj_icmp_gt C dc_T_searchNoteByNote_27 rfl (fun h => absurd h (((zn_nlt (by omega) (by omega)).mpr (by omega)))) (fun _ => ?_)
      refine zj_aload_n C dc_T_searchNoteByNote_30 rfl 2 rfl ?_
      refine zj_iload_n C dc_T_searchNoteByNote_31 rfl 4 rfl ?_
      refine zj_aload_n C dc_T_searchNoteByNote_32 rfl 1 rfl ?_
      refine zj_iload C dc_T_searchNoteByNote_33 0 rfl ?_
      refine zj_Vi C (ct_T_fits _ hst z ad N g2 (2 + 8 * t + 1) (zu_cn (ts t)) pl kd qc qp qq (zu_p (ts t)) (zu_q (ts t)) ts hN (by omega) (zs_A_fr hA9 (fun j hj => hfr j (by omega))) (zs_N_fr hq9 (fun j h1 h2 => hfr j (by omega))) (zs_N_fr (hts t ht).2.1 (fun j h1 h2 => hfr j (by omega))) hqc hqc8 (by omega) hkd) gv_T_201 rfl rfl rfl hd_T_fits ⟨(Nat.le_of_ble_eq_true rfl), (Nat.le_of_ble_eq_true rfl)⟩ (by omega) ((hfr 0 (by omega)).trans h0) rfl rfl rfl (Nat.le_of_ble_eq_true rfl) ⟨(Nat.le_of_ble_eq_true rfl), (Nat.le_of_ble_eq_true rfl)⟩ dc_T_searchNoteByNote_35 (fun r1 g9 h1 => ?_)
      obtain ⟨rfl, hg9⟩ := h1
      rw [hg9]
      have hE2 := hE
      rw [show zu_cn (ts t) + 1 - qc - pl = (zu_cn (ts t) + 1 - qc - (pl + 1)) + 1 by omega, zq_nnS] at hE2
      refine zj_if_eq C dc_T_searchNoteByNote_38 rfl (fun h38 => ?_) (fun h38 => ?_)
      · have h38 := zb_i0 h38
        refine zj_iinc C dc_T_searchNoteByNote_62 0 rfl (zn_inc pl) (by decide) rfl ?_
        refine zj_goto C dc_T_searchNoteByNote_65 rfl ?_
        refine zj_loc (L' := [(4, .int (nI (pl + 1))), (3, .ref (ad (2 + 8 * t + 1))), (0, .ref (ad 0)), (1, .int (nI t)), (2, .int (nI kd))]) [0, 1, 2, 3, 4] rfl ?_
        exact ih (pl + 1) g2 F2 (by omega) (by omega) hF2 hfr (by rw [hE2, if_neg (by rw [h38]; exact Bool.false_ne_true)]; rfl)
      · have h38 := zb_i1 h38
        rw [if_pos h38] at hE2
        have hE3 : (F ++ zq_nn (zp_fit kd qc qp qq (zu_p (ts t)) (zu_q (ts t))) (fun pl => ((t, pl, qc, zu_p (ts t) pl - qp 0, qc) : zq_I)) 0 (zu_cn (ts t) + 1 - qc)) = (F2 ++ [(fun pl => ((t, pl, qc, zu_p (ts t) pl - qp 0, qc) : zq_I)) pl]) ++ zq_nn (zp_fit kd qc qp qq (zu_p (ts t)) (zu_q (ts t))) (fun pl => ((t, pl, qc, zu_p (ts t) pl - qp 0, qc) : zq_I)) (pl + 1) (zu_cn (ts t) + 1 - qc - (pl + 1)) := by rw [hE2, List.append_assoc]
        refine zj_aload_n C dc_T_searchNoteByNote_41 rfl 2 rfl ?_
        refine zj_iload_n C dc_T_searchNoteByNote_42 rfl 3 rfl ?_
        refine zj_iload C dc_T_searchNoteByNote_43 0 rfl ?_
        refine zj_aload_n C dc_T_searchNoteByNote_45 rfl 2 rfl ?_
        refine zj_get (k := 1) C (by omega) ((hfr 0 (by omega)).trans h0) rfl (by decide) fw_T fl_T_21 rfl rfl dc_T_searchNoteByNote_46 ?_
        refine zj_get (k := 2) C (by omega) ((hfr 66 (by omega)).trans hq0) rfl (by decide) fw_N fl_T_84 rfl rfl dc_T_searchNoteByNote_49 ?_
        refine zj_aload_n C dc_T_searchNoteByNote_52 rfl 2 rfl ?_
        refine zj_get (k := 1) C (by omega) ((hfr 0 (by omega)).trans h0) rfl (by decide) fw_T fl_T_21 rfl rfl dc_T_searchNoteByNote_53 ?_
        refine zj_get (k := 2) C (by omega) ((hfr 66 (by omega)).trans hq0) rfl (by decide) fw_N fl_T_84 rfl rfl dc_T_searchNoteByNote_56 ?_
        refine zj_Vv C (ct_T_offer _ hst z ad N g2 ts t qc qp qq F2 hN (zs_A_fr hA9 (fun j hj => hfr j (by omega))) (zs_N_fr hq9 (fun j h1 h2 => hfr j (by omega))) hF2 ht pl qc qc (by omega) (by rw [hE3] at hok; exact zq_pre hok) (by have h9 := congrArg List.length hE; simp only [List.length_append] at h9 hFl; omega)) gv_T_205 rfl rfl rfl hd_T_offer ⟨(Nat.le_of_ble_eq_true rfl), (Nat.le_of_ble_eq_true rfl)⟩ (by omega) ((hfr 0 (by omega)).trans h0) rfl rfl rfl (Nat.le_of_ble_eq_true rfl) ⟨(Nat.le_of_ble_eq_true rfl), (Nat.le_of_ble_eq_true rfl)⟩ dc_T_searchNoteByNote_59 (fun g3 h1 => ?_)
        obtain ⟨b1, b2⟩ := h1
        refine zj_iinc C dc_T_searchNoteByNote_62 0 rfl (zn_inc pl) (by decide) rfl ?_
        refine zj_goto C dc_T_searchNoteByNote_65 rfl ?_
        refine zj_loc (L' := [(4, .int (nI (pl + 1))), (3, .ref (ad (2 + 8 * t + 1))), (0, .ref (ad 0)), (1, .int (nI t)), (2, .int (nI kd))]) [0, 1, 2, 3, 4] rfl ?_
        exact ih (pl + 1) g3 (F2 ++ [(fun pl => ((t, pl, qc, zu_p (ts t) pl - qp 0, qc) : zq_I)) pl]) (by omega) (by omega) b1 (fun j hj => (b2 j hj).trans (hfr j hj)) hE3
  refine zj_aload_n C dc_T_searchNoteByNote_0 rfl 0 rfl ?_
  refine zj_get (k := 0) C (by omega) h0 rfl (by decide) fw_T fl_T_11 rfl rfl dc_T_searchNoteByNote_1 ?_
  refine zj_iload_n C dc_T_searchNoteByNote_4 rfl 1 rfl ?_
  refine zj_uald C (by omega) hA rfl ht (by decide) dc_T_searchNoteByNote_5 ?_
  refine zj_topv (congrArg va_rf (hf t ht)) ?_
  refine zj_get (k := 0) C (by omega) (hts t ht).1 rfl (by decide) fw_U fl_T_81 rfl rfl dc_T_searchNoteByNote_6 ?_
  refine zj_astore_n C dc_T_searchNoteByNote_9 rfl (by decide) rfl ?_
  refine zj_iconst (v := 0) C dc_T_searchNoteByNote_10 (by decide) ?_
  refine zj_istore C dc_T_searchNoteByNote_11 (by decide) rfl ?_
  refine zj_loc (L' := [(4, .int (nI 0)), (3, .ref (ad (2 + 8 * t + 1))), (0, .ref (ad 0)), (1, .int (nI t)), (2, .int (nI kd))]) [0, 1, 2, 3, 4] rfl ?_
  exact loop (zu_cn (ts t) + 1 - qc) 0 g F rfl (by omega) hF (fun j hj => rfl) rfl
end ZO
end
section
section ZO2
def zo_re (e : Int32) : Nat → Int32
  | 0 => 0
  | d + 1 => zo_re e d ||| (e <<< (nI (d + 1) &&& 31))
/-- the places where the i-th note of an outline from pl on can be, a bit each -/
def zo_en (c : Nat) (p qp : Nat → Int32) (pl kk : Nat) : Nat → Int32
  | 0 => (1 : Int32) <<< (nI pl &&& 31)
  | i + 1 => zo_re (zo_en c p qp pl kk i) (kk + 1) &&& zp_bits p (qp (i + 1) + (p pl - qp 0)) c
set_option maxHeartbeats 4000000 in
set_option maxRecDepth 100000 in
theorem ct_T_outlineEnds (l : Launch) (hst : l.stackTraces = false) (z : zv_T) (ad : Nat → Nat) (N : Nat) (g : Nat → va_E) (ni nc pl kk qc : Nat) (qp qq p q : Nat → Int32) (ts : Nat → zu_S) (hN : 108 ≤ N) (hnN : ni + 2 < 66) (hA' : zs_A z ad g ts) (hq : zs_N z ad g 66 8 qc qp qq) (hn : zs_N z ad g ni 20 nc p q) (hqc : 2 ≤ qc) (hqc8 : qc ≤ 8) (hpl : pl < 20) (hnc : nc ≤ 20) (hkk : kk ≤ 4) : zm_i l mn_T_outlineEnds ws_T_outlineEnds rm_T_outlineEnds z ad N g [.ref (ad 0), .ref (ad ni), .int (nI pl), .int (nI kk)] (fun r g1 => r = (zo_en nc p qp pl kk (qc - 1)) ∧ g1 = g) := by
  obtain ⟨h0, ⟨f, hA, hf⟩, hts⟩ := hA'
  obtain ⟨hq0, hq1, hq2⟩ := hq
  obtain ⟨hn0, hn1, hn2⟩ := hn
  refine zm_ofi hst pn_T_outlineEnds rfl (Nat.le_of_ble_eq_true rfl) (fun X hX C => ?_)
  subst hX
  show zj_J X 0 0 _ ad N g 0 [(0, .ref (ad 0)), (1, .ref (ad ni)), (2, .int (nI pl)), (3, .int (nI kk))] []
  have inner : ∀ (n : Nat) (d i : Nat), kk + 1 - d = n → d ≤ kk + 1 → i + 1 < qc → (zj_J X 0 0 (zj_Qi X 0 0 ad N (fun r g1 => r = (zo_en nc p qp pl kk (qc - 1)) ∧ g1 = g)) ad N g 68 [(8, .int (nI ((kk + 1) + 1))), (7, .int (zo_re (zo_en nc p qp pl kk i) (kk + 1))), (6, .int (nI (i + 1))), (5, .int (zo_en nc p qp pl kk i)), (4, .int (p pl - qp 0)), (0, .ref (ad 0)), (1, .ref (ad ni)), (2, .int (nI pl)), (3, .int (nI kk))] []) → zj_J X 0 0 (zj_Qi X 0 0 ad N (fun r g1 => r = (zo_en nc p qp pl kk (qc - 1)) ∧ g1 = g)) ad N g 44 [(8, .int (nI (d + 1))), (7, .int (zo_re (zo_en nc p qp pl kk i) d)), (6, .int (nI (i + 1))), (5, .int (zo_en nc p qp pl kk i)), (4, .int (p pl - qp 0)), (0, .ref (ad 0)), (1, .ref (ad ni)), (2, .int (nI pl)), (3, .int (nI kk))] [] := by
    intro n
    induction n with
    | zero =>
      intro d i e1 e2 e3 K
      refine zj_iload C dc_T_outlineEnds_44 0 rfl ?_
      refine zj_iload_n C dc_T_outlineEnds_46 rfl 8 rfl ?_
      refine zj_iconst (v := 1) C dc_T_outlineEnds_47 (by decide) ?_
      refine zj_iadd C dc_T_outlineEnds_48 ?_
      refine zj_topi (nI_1 _) ?_
      refine zj_icmp_gt C dc_T_outlineEnds_49 rfl (fun _ => ?_) (fun h => absurd h (not_not_intro ((nI_ltI (by omega) (by omega)).mpr (by omega))))
      refine zj_loc [0, 1, 2, 3, 4, 5, 6, 7, 8] rfl ?_
      exact (show d = kk + 1 by omega) ▸ K
    | succ n ih =>
      intro d i e1 e2 e3 K
      refine zj_iload C dc_T_outlineEnds_44 0 rfl ?_
      refine zj_iload_n C dc_T_outlineEnds_46 rfl 8 rfl ?_
      refine zj_iconst (v := 1) C dc_T_outlineEnds_47 (by decide) ?_
      refine zj_iadd C dc_T_outlineEnds_48 ?_
      refine zj_topi (nI_1 _) ?_
      refine zj_icmp_gt C dc_T_outlineEnds_49 rfl (fun h => absurd h (((zn_nlt (by omega) (by omega)).mpr (by omega)))) (fun _ => ?_)
      refine zj_iload C dc_T_outlineEnds_52 1 rfl ?_
      refine zj_iload C dc_T_outlineEnds_54 3 rfl ?_
      refine zj_iload C dc_T_outlineEnds_56 0 rfl ?_
      refine zj_ishl C dc_T_outlineEnds_58 ?_
      refine zj_ior C dc_T_outlineEnds_59 ?_
      refine zj_istore C dc_T_outlineEnds_60 (by decide) rfl ?_
      refine zj_iinc C dc_T_outlineEnds_62 1 rfl (zn_inc (d + 1)) (by decide) rfl ?_
      refine zj_goto C dc_T_outlineEnds_65 rfl ?_
      refine zj_loc (L' := [(8, .int (nI ((d + 1) + 1))), (7, .int (zo_re (zo_en nc p qp pl kk i) (d + 1))), (6, .int (nI (i + 1))), (5, .int (zo_en nc p qp pl kk i)), (4, .int (p pl - qp 0)), (0, .ref (ad 0)), (1, .ref (ad ni)), (2, .int (nI pl)), (3, .int (nI kk))]) [0, 1, 2, 3, 4, 5, 6, 7, 8] rfl ?_
      exact ih (d + 1) i (by omega) (by omega) e3 K
  have outer : ∀ (n : Nat) (i : Nat), qc - 1 - i = n → i + 1 ≤ qc → zj_J X 0 0 (zj_Qi X 0 0 ad N (fun r g1 => r = (zo_en nc p qp pl kk (qc - 1)) ∧ g1 = g)) ad N g 26 [(6, .int (nI (i + 1))), (5, .int (zo_en nc p qp pl kk i)), (4, .int (p pl - qp 0)), (0, .ref (ad 0)), (1, .ref (ad ni)), (2, .int (nI pl)), (3, .int (nI kk))] [] := by
    intro n
    induction n with
    | zero =>
      intro i e1 e2
      refine zj_iload C dc_T_outlineEnds_26 0 rfl ?_
      refine zj_aload_n C dc_T_outlineEnds_28 rfl 3 rfl ?_
      refine zj_get (k := 1) C (by omega) h0 rfl (by decide) fw_T fl_T_21 rfl rfl dc_T_outlineEnds_29 ?_
      refine zj_get (k := 2) C (by omega) hq0 rfl (by decide) fw_N fl_T_84 rfl rfl dc_T_outlineEnds_32 ?_
      refine zj_icmp_ge C dc_T_outlineEnds_35 rfl (fun _ => ?_) (fun h => absurd h (not_not_intro ((nI_leI (by omega) (by omega)).mpr (by omega))))
      refine zj_iload C dc_T_outlineEnds_96 1 rfl ?_
      exact zj_iret C dc_T_outlineEnds_98 ⟨by rw [show qc - 1 = i by omega], rfl⟩
    | succ n ih =>
      intro i e1 e2
      refine zj_iload C dc_T_outlineEnds_26 0 rfl ?_
      refine zj_aload_n C dc_T_outlineEnds_28 rfl 3 rfl ?_
      refine zj_get (k := 1) C (by omega) h0 rfl (by decide) fw_T fl_T_21 rfl rfl dc_T_outlineEnds_29 ?_
      refine zj_get (k := 2) C (by omega) hq0 rfl (by decide) fw_N fl_T_84 rfl rfl dc_T_outlineEnds_32 ?_
      refine zj_icmp_ge C dc_T_outlineEnds_35 rfl (fun h => absurd h (((zn_nle (by omega) (by omega)).mpr (by omega)))) (fun _ => ?_)
      refine zj_iconst (v := 0) C dc_T_outlineEnds_38 (by decide) ?_
      refine zj_istore C dc_T_outlineEnds_39 (by decide) rfl ?_
      refine zj_iconst (v := 1) C dc_T_outlineEnds_41 (by decide) ?_
      refine zj_istore C dc_T_outlineEnds_42 (by decide) rfl ?_
      refine zj_loc (L' := [(8, .int (nI (0 + 1))), (7, .int (zo_re (zo_en nc p qp pl kk i) 0)), (6, .int (nI (i + 1))), (5, .int (zo_en nc p qp pl kk i)), (4, .int (p pl - qp 0)), (0, .ref (ad 0)), (1, .ref (ad ni)), (2, .int (nI pl)), (3, .int (nI kk))]) [0, 1, 2, 3, 4, 5, 6, 7, 8] rfl ?_
      refine inner (kk + 1) 0 i rfl (by omega) (by omega) ?_
      refine zj_iload C dc_T_outlineEnds_68 1 rfl ?_
      refine zj_aload_n C dc_T_outlineEnds_70 rfl 6 rfl ?_
      refine zj_aload_n C dc_T_outlineEnds_71 rfl 5 rfl ?_
      refine zj_get (k := 1) C (by omega) h0 rfl (by decide) fw_T fl_T_21 rfl rfl dc_T_outlineEnds_72 ?_
      refine zj_get (k := 0) C (by omega) hq0 rfl (by decide) fw_N fl_T_219 rfl rfl dc_T_outlineEnds_75 ?_
      refine zj_iload C dc_T_outlineEnds_78 2 rfl ?_
      refine zj_iald C (by omega) hq1 rfl (by omega) (by decide) dc_T_outlineEnds_80 ?_
      refine zj_iload C dc_T_outlineEnds_81 4 rfl ?_
      refine zj_iadd C dc_T_outlineEnds_83 ?_
      refine zj_Vi C (ct_N_placesOfPitch _ hst z ad N g ni 20 nc p q (by omega) ⟨hn0, hn1, hn2⟩ (by decide) _ hnc) gv_T_222 rfl rfl rfl hd_N_placesOfPitch ⟨(Nat.le_of_ble_eq_true rfl), (Nat.le_of_ble_eq_true rfl)⟩ (by omega) hn0 rfl rfl rfl (Nat.le_of_ble_eq_true rfl) ⟨(Nat.le_of_ble_eq_true rfl), (Nat.le_of_ble_eq_true rfl)⟩ dc_T_outlineEnds_84 (fun r1 g9 h1 => ?_)
      obtain ⟨rfl, hg9⟩ := h1
      rw [hg9]
      refine zj_iand C dc_T_outlineEnds_87 ?_
      refine zj_istore C dc_T_outlineEnds_88 (by decide) rfl ?_
      refine zj_iinc C dc_T_outlineEnds_90 3 rfl (zn_inc (i + 1)) (by decide) rfl ?_
      refine zj_goto C dc_T_outlineEnds_93 rfl ?_
      refine zj_loc (L' := [(6, .int (nI ((i + 1) + 1))), (5, .int (zo_en nc p qp pl kk (i + 1))), (4, .int (p pl - qp 0)), (0, .ref (ad 0)), (1, .ref (ad ni)), (2, .int (nI pl)), (3, .int (nI kk))]) [0, 1, 4, 5, 6, 7, 8] rfl ?_
      exact ih (i + 1) (by omega) (by omega)
  refine zj_aload_n C dc_T_outlineEnds_0 rfl 1 rfl ?_
  refine zj_get (k := 0) C (by omega) hn0 rfl (by decide) fw_N fl_T_219 rfl rfl dc_T_outlineEnds_1 ?_
  refine zj_iload_n C dc_T_outlineEnds_4 rfl 2 rfl ?_
  refine zj_iald C (by omega) hn1 rfl hpl (by decide) dc_T_outlineEnds_5 ?_
  refine zj_aload_n C dc_T_outlineEnds_6 rfl 0 rfl ?_
  refine zj_get (k := 1) C (by omega) h0 rfl (by decide) fw_T fl_T_21 rfl rfl dc_T_outlineEnds_7 ?_
  refine zj_get (k := 0) C (by omega) hq0 rfl (by decide) fw_N fl_T_219 rfl rfl dc_T_outlineEnds_10 ?_
  refine zj_iconst (v := 0) C dc_T_outlineEnds_13 (by decide) ?_
  refine zj_iald C (by omega) hq1 nI_0.symm (by omega) (by decide) dc_T_outlineEnds_14 ?_
  refine zj_isub C dc_T_outlineEnds_15 ?_
  refine zj_istore C dc_T_outlineEnds_16 (by decide) rfl ?_
  refine zj_iconst (v := 1) C dc_T_outlineEnds_18 (by decide) ?_
  refine zj_iload_n C dc_T_outlineEnds_19 rfl 3 rfl ?_
  refine zj_ishl C dc_T_outlineEnds_20 ?_
  refine zj_istore C dc_T_outlineEnds_21 (by decide) rfl ?_
  refine zj_iconst (v := 1) C dc_T_outlineEnds_23 (by decide) ?_
  refine zj_istore C dc_T_outlineEnds_24 (by decide) rfl ?_
  refine zj_loc (L' := [(6, .int (nI (0 + 1))), (5, .int (zo_en nc p qp pl kk 0)), (4, .int (p pl - qp 0)), (0, .ref (ad 0)), (1, .ref (ad ni)), (2, .int (nI pl)), (3, .int (nI kk))]) [0, 1, 2, 3, 4, 5, 6] rfl ?_
  exact outer (qc - 1) 0 rfl (by omega)
def zq_cc (f : Nat → List zq_I) : Nat → Nat → List zq_I
  | _, 0 => []
  | pl, n + 1 => f pl ++ zq_cc f (pl + 1) n
theorem zq_ccS (f : Nat → List zq_I) (pl n : Nat) : zq_cc f pl (n + 1) = f pl ++ zq_cc f (pl + 1) n := rfl
/-- the outlines that begin at a place -/
def zq_ol (c qc kk t : Nat) (p qp : Nat → Int32) : Nat → List zq_I := fun pl => zq_nn (fun e => decide ((zo_en c p qp pl kk (qc - 1) >>> (nI e &&& 31)) &&& 1 = 1)) (fun e => (t, pl, e - pl + 1, p pl - qp 0, qc)) (pl + 1) (c - (pl + 1))
set_option maxHeartbeats 4000000 in
set_option maxRecDepth 100000 in
theorem ct_T_searchOutline (l : Launch) (hst : l.stackTraces = false) (z : zv_T) (ad : Nat → Nat) (N : Nat) (g : Nat → va_E) (ts : Nat → zu_S) (t qc : Nat) (qp qq : Nat → Int32) (F : List zq_I) (hN : 108 ≤ N) (hA' : zs_A z ad g ts) (hq : zs_N z ad g 66 8 qc qp qq) (hF : zq_F z ad g qc F) (ht : t < 8) (kk : Nat) (hkk : kk ≤ 4) (hqc : 2 ≤ qc) (hqc8 : qc ≤ 8) (hcn : zu_cn (ts t) ≤ 20) (hok : zq_ok (F ++ zq_cc (zq_ol (zu_cn (ts t)) qc kk t (zu_p (ts t)) qp) 0 (zu_cn (ts t) + 1 - qc))) (hFl : (F ++ zq_cc (zq_ol (zu_cn (ts t)) qc kk t (zu_p (ts t)) qp) 0 (zu_cn (ts t) + 1 - qc)).length < 2 ^ 30) : zm_v l mn_T_searchOutline ws_T_searchOutline rm_T_searchOutline z ad N g [.ref (ad 0), .int (nI t), .int (nI kk)] (fun g1 => zq_F z ad g1 qc (F ++ zq_cc (zq_ol (zu_cn (ts t)) qc kk t (zu_p (ts t)) qp) 0 (zu_cn (ts t) + 1 - qc)) ∧ ∀ j, j < 69 ∨ 101 ≤ j → g1 j = g j) := by
  have hA9 := hA'
  have hq9 := hq
  obtain ⟨h0, ⟨f, hA, hf⟩, hts⟩ := hA'
  obtain ⟨hq0, hq1, hq2⟩ := hq
  refine zm_ofv hst pn_T_searchOutline rfl (Nat.le_of_ble_eq_true rfl) (fun X hX C => ?_)
  subst hX
  show zj_J X 0 0 _ ad N g 0 [(0, .ref (ad 0)), (1, .int (nI t)), (2, .int (nI kk))] []
  have inner : ∀ (n : Nat) (e pl : Nat) (g2 : Nat → va_E) (F2 Fr : List zq_I), zu_cn (ts t) - e = n → pl < e → e ≤ 21 → pl < 20 → zq_F z ad g2 qc F2 → (∀ j, j < 69 ∨ 101 ≤ j → g2 j = g j) → (F ++ zq_cc (zq_ol (zu_cn (ts t)) qc kk t (zu_p (ts t)) qp) 0 (zu_cn (ts t) + 1 - qc)) = F2 ++ (zq_nn (fun e => decide (((zo_en (zu_cn (ts t)) (zu_p (ts t)) qp pl kk (qc - 1)) >>> (nI e &&& 31)) &&& 1 = 1)) (fun e => ((t, pl, e - pl + 1, zu_p (ts t) pl - qp 0, qc) : zq_I)) e (zu_cn (ts t) - e) ++ Fr) → (∀ (e : Nat) (g2 : Nat → va_E) (F2 : List zq_I), zq_F z ad g2 qc F2 → (∀ j, j < 69 ∨ 101 ≤ j → g2 j = g j) → (F ++ zq_cc (zq_ol (zu_cn (ts t)) qc kk t (zu_p (ts t)) qp) 0 (zu_cn (ts t) + 1 - qc)) = F2 ++ Fr → zj_J X 0 0 (zj_Qv X 0 0 ad N (fun g1 => zq_F z ad g1 qc (F ++ zq_cc (zq_ol (zu_cn (ts t)) qc kk t (zu_p (ts t)) qp) 0 (zu_cn (ts t) + 1 - qc)) ∧ ∀ j, j < 69 ∨ 101 ≤ j → g1 j = g j)) ad N g2 93 [(6, .int (nI e)), (5, .int (zo_en (zu_cn (ts t)) (zu_p (ts t)) qp pl kk (qc - 1))), (4, .int (nI pl)), (3, .ref (ad (2 + 8 * t + 1))), (0, .ref (ad 0)), (1, .int (nI t)), (2, .int (nI kk))] []) → zj_J X 0 0 (zj_Qv X 0 0 ad N (fun g1 => zq_F z ad g1 qc (F ++ zq_cc (zq_ol (zu_cn (ts t)) qc kk t (zu_p (ts t)) qp) 0 (zu_cn (ts t) + 1 - qc)) ∧ ∀ j, j < 69 ∨ 101 ≤ j → g1 j = g j)) ad N g2 46 [(6, .int (nI e)), (5, .int (zo_en (zu_cn (ts t)) (zu_p (ts t)) qp pl kk (qc - 1))), (4, .int (nI pl)), (3, .ref (ad (2 + 8 * t + 1))), (0, .ref (ad 0)), (1, .int (nI t)), (2, .int (nI kk))] [] := by
    intro n
    induction n with
    | zero =>
      intro e pl g2 F2 Fr e1 e2 e2b e2c hF2 hfr hE K
      refine zj_iload C dc_T_searchOutline_46 0 rfl ?_
      refine zj_aload_n C dc_T_searchOutline_48 rfl 3 rfl ?_
      refine zj_get (k := 2) C (by omega) ((hfr (2 + 8 * t + 1) (by omega)).trans (hts t ht).2.1.1) rfl (by decide) fw_N fl_T_84 rfl rfl dc_T_searchOutline_49 ?_
      refine zj_icmp_ge C dc_T_searchOutline_52 rfl (fun _ => ?_) (fun h => absurd h (not_not_intro ((nI_leI (by omega) (by omega)).mpr (by omega))))
      refine zj_loc [0, 1, 2, 3, 4, 5, 6] rfl ?_
      exact K e g2 F2 hF2 hfr (by rw [hE, show zu_cn (ts t) - e = 0 by omega]; rfl)
    | succ n ih =>
      intro e pl g2 F2 Fr e1 e2 e2b e2c hF2 hfr hE K
      refine zj_iload C dc_T_searchOutline_46 0 rfl ?_
      refine zj_aload_n C dc_T_searchOutline_48 rfl 3 rfl ?_
      refine zj_get (k := 2) C (by omega) ((hfr (2 + 8 * t + 1) (by omega)).trans (hts t ht).2.1.1) rfl (by decide) fw_N fl_T_84 rfl rfl dc_T_searchOutline_49 ?_
      refine zj_icmp_ge C dc_T_searchOutline_52 rfl (fun h => absurd h (((zn_nle (by omega) (by omega)).mpr (by omega)))) (fun _ => ?_)
      refine zj_iload C dc_T_searchOutline_55 1 rfl ?_
      refine zj_iload C dc_T_searchOutline_57 0 rfl ?_
      refine zj_ishr C dc_T_searchOutline_59 ?_
      refine zj_iconst (v := 1) C dc_T_searchOutline_60 (by decide) ?_
      refine zj_iand C dc_T_searchOutline_61 ?_
      refine zj_iconst (v := 1) C dc_T_searchOutline_62 (by decide) ?_
      refine zj_icmp_ne C dc_T_searchOutline_63 rfl (fun h63 => ?_) (fun h63 => ?_)
      · have hE2 := hE
        rw [show zu_cn (ts t) - e = (zu_cn (ts t) - (e + 1)) + 1 by omega, zq_nnS, if_neg (by rw [decide_eq_false h63]; exact Bool.false_ne_true)] at hE2
        refine zj_iinc C dc_T_searchOutline_87 0 rfl (zn_inc e) (by decide) rfl ?_
        refine zj_goto C dc_T_searchOutline_90 rfl ?_
        refine zj_loc (L' := [(6, .int (nI (e + 1))), (5, .int (zo_en (zu_cn (ts t)) (zu_p (ts t)) qp pl kk (qc - 1))), (4, .int (nI pl)), (3, .ref (ad (2 + 8 * t + 1))), (0, .ref (ad 0)), (1, .int (nI t)), (2, .int (nI kk))]) [0, 1, 2, 3, 4, 5, 6] rfl ?_
        exact ih (e + 1) pl g2 F2 Fr (by omega) (by omega) (by omega) e2c hF2 hfr hE2 K
      · have hE2 := hE
        rw [show zu_cn (ts t) - e = (zu_cn (ts t) - (e + 1)) + 1 by omega, zq_nnS, if_pos (decide_eq_true h63)] at hE2
        have hE3 : (F ++ zq_cc (zq_ol (zu_cn (ts t)) qc kk t (zu_p (ts t)) qp) 0 (zu_cn (ts t) + 1 - qc)) = (F2 ++ [(fun e => ((t, pl, e - pl + 1, zu_p (ts t) pl - qp 0, qc) : zq_I)) e]) ++ (zq_nn (fun e => decide (((zo_en (zu_cn (ts t)) (zu_p (ts t)) qp pl kk (qc - 1)) >>> (nI e &&& 31)) &&& 1 = 1)) (fun e => ((t, pl, e - pl + 1, zu_p (ts t) pl - qp 0, qc) : zq_I)) (e + 1) (zu_cn (ts t) - (e + 1)) ++ Fr) := by rw [hE2]; simp only [List.append_assoc]
        refine zj_aload_n C dc_T_searchOutline_66 rfl 4 rfl ?_
        refine zj_iload_n C dc_T_searchOutline_67 rfl 5 rfl ?_
        refine zj_iload C dc_T_searchOutline_68 2 rfl ?_
        refine zj_iload C dc_T_searchOutline_70 0 rfl ?_
        refine zj_iload C dc_T_searchOutline_72 2 rfl ?_
        refine zj_isub C dc_T_searchOutline_74 ?_
        refine zj_topi (pk_sub (by omega)) ?_
        refine zj_iconst (v := 1) C dc_T_searchOutline_75 (by decide) ?_
        refine zj_iadd C dc_T_searchOutline_76 ?_
        refine zj_topi (nI_1 _) ?_
        refine zj_aload_n C dc_T_searchOutline_77 rfl 4 rfl ?_
        refine zj_get (k := 1) C (by omega) ((hfr 0 (by omega)).trans h0) rfl (by decide) fw_T fl_T_21 rfl rfl dc_T_searchOutline_78 ?_
        refine zj_get (k := 2) C (by omega) ((hfr 66 (by omega)).trans hq0) rfl (by decide) fw_N fl_T_84 rfl rfl dc_T_searchOutline_81 ?_
        refine zj_Vv C (ct_T_offer _ hst z ad N g2 ts t qc qp qq F2 hN (zs_A_fr hA9 (fun j hj => hfr j (by omega))) (zs_N_fr hq9 (fun j h1 h2 => hfr j (by omega))) hF2 ht pl (e - pl + 1) qc e2c (by rw [hE3] at hok; exact zq_pre hok) (by have h9 := congrArg List.length hE; simp only [List.length_append] at h9 hFl; omega)) gv_T_205 rfl rfl rfl hd_T_offer ⟨(Nat.le_of_ble_eq_true rfl), (Nat.le_of_ble_eq_true rfl)⟩ (by omega) ((hfr 0 (by omega)).trans h0) rfl rfl rfl (Nat.le_of_ble_eq_true rfl) ⟨(Nat.le_of_ble_eq_true rfl), (Nat.le_of_ble_eq_true rfl)⟩ dc_T_searchOutline_84 (fun g3 h1 => ?_)
        obtain ⟨b1, b2⟩ := h1
        refine zj_iinc C dc_T_searchOutline_87 0 rfl (zn_inc e) (by decide) rfl ?_
        refine zj_goto C dc_T_searchOutline_90 rfl ?_
        refine zj_loc (L' := [(6, .int (nI (e + 1))), (5, .int (zo_en (zu_cn (ts t)) (zu_p (ts t)) qp pl kk (qc - 1))), (4, .int (nI pl)), (3, .ref (ad (2 + 8 * t + 1))), (0, .ref (ad 0)), (1, .int (nI t)), (2, .int (nI kk))]) [0, 1, 2, 3, 4, 5, 6] rfl ?_
        exact ih (e + 1) pl g3 (F2 ++ [(fun e => ((t, pl, e - pl + 1, zu_p (ts t) pl - qp 0, qc) : zq_I)) e]) Fr (by omega) (by omega) (by omega) e2c b1 (fun j hj => (b2 j hj).trans (hfr j hj)) hE3 K
  have outer : ∀ (n : Nat) (pl : Nat) (g2 : Nat → va_E) (F2 : List zq_I), zu_cn (ts t) + 1 - qc - pl = n → pl ≤ 21 → zq_F z ad g2 qc F2 → (∀ j, j < 69 ∨ 101 ≤ j → g2 j = g j) → (F ++ zq_cc (zq_ol (zu_cn (ts t)) qc kk t (zu_p (ts t)) qp) 0 (zu_cn (ts t) + 1 - qc)) = F2 ++ zq_cc (zq_ol (zu_cn (ts t)) qc kk t (zu_p (ts t)) qp) pl (zu_cn (ts t) + 1 - qc - pl) → zj_J X 0 0 (zj_Qv X 0 0 ad N (fun g1 => zq_F z ad g1 qc (F ++ zq_cc (zq_ol (zu_cn (ts t)) qc kk t (zu_p (ts t)) qp) 0 (zu_cn (ts t) + 1 - qc)) ∧ ∀ j, j < 69 ∨ 101 ≤ j → g1 j = g j)) ad N g2 13 [(4, .int (nI pl)), (3, .ref (ad (2 + 8 * t + 1))), (0, .ref (ad 0)), (1, .int (nI t)), (2, .int (nI kk))] [] := by
    intro n
    induction n with
    | zero =>
      intro pl g2 F2 e1 e2 hF2 hfr hE
      refine zj_iload C dc_T_searchOutline_13 0 rfl ?_
      refine zj_aload_n C dc_T_searchOutline_15 rfl 2 rfl ?_
      refine zj_get (k := 1) C (by omega) ((hfr 0 (by omega)).trans h0) rfl (by decide) fw_T fl_T_21 rfl rfl dc_T_searchOutline_16 ?_
      refine zj_get (k := 2) C (by omega) ((hfr 66 (by omega)).trans hq0) rfl (by decide) fw_N fl_T_84 rfl rfl dc_T_searchOutline_19 ?_
      refine zj_iadd C dc_T_searchOutline_22 ?_
      refine zj_topi (nI_add _ _) ?_
      refine zj_aload_n C dc_T_searchOutline_23 rfl 1 rfl ?_
      refine zj_get (k := 2) C (by omega) ((hfr (2 + 8 * t + 1) (by omega)).trans (hts t ht).2.1.1) rfl (by decide) fw_N fl_T_84 rfl rfl dc_T_searchOutline_24 ?_
      refine zj_icmp_gt C dc_T_searchOutline_27 rfl (fun _ => ?_) (fun h => absurd h (not_not_intro ((nI_ltI (by omega) (by omega)).mpr (by omega))))
      exact zj_vret C dc_T_searchOutline_99 ⟨by rw [hE, show zu_cn (ts t) + 1 - qc - pl = 0 by omega]; show zq_F z ad g2 qc (F2 ++ []); rw [List.append_nil]; exact hF2, hfr⟩
    | succ n ih =>
      intro pl g2 F2 e1 e2 hF2 hfr hE
      refine zj_iload C dc_T_searchOutline_13 0 rfl ?_
      refine zj_aload_n C dc_T_searchOutline_15 rfl 2 rfl ?_
      refine zj_get (k := 1) C (by omega) ((hfr 0 (by omega)).trans h0) rfl (by decide) fw_T fl_T_21 rfl rfl dc_T_searchOutline_16 ?_
      refine zj_get (k := 2) C (by omega) ((hfr 66 (by omega)).trans hq0) rfl (by decide) fw_N fl_T_84 rfl rfl dc_T_searchOutline_19 ?_
      refine zj_iadd C dc_T_searchOutline_22 ?_
      refine zj_topi (nI_add _ _) ?_
      refine zj_aload_n C dc_T_searchOutline_23 rfl 1 rfl ?_
      refine zj_get (k := 2) C (by omega) ((hfr (2 + 8 * t + 1) (by omega)).trans (hts t ht).2.1.1) rfl (by decide) fw_N fl_T_84 rfl rfl dc_T_searchOutline_24 ?_
      refine zj_icmp_gt C dc_T_searchOutline_27 rfl (fun h => absurd h (((zn_nlt (by omega) (by omega)).mpr (by omega)))) (fun _ => ?_)
      refine zj_aload_n C dc_T_searchOutline_30 rfl 2 rfl ?_
      refine zj_aload_n C dc_T_searchOutline_31 rfl 1 rfl ?_
      refine zj_iload C dc_T_searchOutline_32 0 rfl ?_
      refine zj_iload_n C dc_T_searchOutline_34 rfl 4 rfl ?_
      refine zj_Vi C (ct_T_outlineEnds _ hst z ad N g2 (2 + 8 * t + 1) (zu_cn (ts t)) pl kk qc qp qq (zu_p (ts t)) (zu_q (ts t)) ts hN (by omega) (zs_A_fr hA9 (fun j hj => hfr j (by omega))) (zs_N_fr hq9 (fun j h1 h2 => hfr j (by omega))) (zs_N_fr (hts t ht).2.1 (fun j h1 h2 => hfr j (by omega))) hqc hqc8 (by omega) hcn hkk) gv_T_216 rfl rfl rfl hd_T_outlineEnds ⟨(Nat.le_of_ble_eq_true rfl), (Nat.le_of_ble_eq_true rfl)⟩ (by omega) ((hfr 0 (by omega)).trans h0) rfl rfl rfl (Nat.le_of_ble_eq_true rfl) ⟨(Nat.le_of_ble_eq_true rfl), (Nat.le_of_ble_eq_true rfl)⟩ dc_T_searchOutline_35 (fun r1 g9 h1 => ?_)
      obtain ⟨rfl, hg9⟩ := h1
      rw [hg9]
      have hE2 : (F ++ zq_cc (zq_ol (zu_cn (ts t)) qc kk t (zu_p (ts t)) qp) 0 (zu_cn (ts t) + 1 - qc)) = F2 ++ (zq_nn (fun e => decide (((zo_en (zu_cn (ts t)) (zu_p (ts t)) qp pl kk (qc - 1)) >>> (nI e &&& 31)) &&& 1 = 1)) (fun e => ((t, pl, e - pl + 1, zu_p (ts t) pl - qp 0, qc) : zq_I)) (pl + 1) (zu_cn (ts t) - (pl + 1)) ++ zq_cc (zq_ol (zu_cn (ts t)) qc kk t (zu_p (ts t)) qp) (pl + 1) (zu_cn (ts t) + 1 - qc - (pl + 1))) := by rw [hE, show zu_cn (ts t) + 1 - qc - pl = (zu_cn (ts t) + 1 - qc - (pl + 1)) + 1 by omega, zq_ccS]; rfl
      refine zj_istore C dc_T_searchOutline_38 (by decide) rfl ?_
      refine zj_iload C dc_T_searchOutline_40 1 rfl ?_
      refine zj_iconst (v := 1) C dc_T_searchOutline_42 (by decide) ?_
      refine zj_iadd C dc_T_searchOutline_43 ?_
      refine zj_topi (nI_1 _) ?_
      refine zj_istore C dc_T_searchOutline_44 (by decide) rfl ?_
      refine zj_loc [0, 1, 2, 3, 4, 5, 6] rfl ?_
      refine inner (zu_cn (ts t) - (pl + 1)) (pl + 1) pl g2 F2 _ rfl (by omega) (by omega) (by omega) hF2 hfr hE2 (fun e g2 F2 hF2 hfr hE => ?_)
      refine zj_iinc C dc_T_searchOutline_93 2 rfl (zn_inc pl) (by decide) rfl ?_
      refine zj_goto C dc_T_searchOutline_96 rfl ?_
      refine zj_loc (L' := [(4, .int (nI (pl + 1))), (3, .ref (ad (2 + 8 * t + 1))), (0, .ref (ad 0)), (1, .int (nI t)), (2, .int (nI kk))]) [0, 3, 4, 5, 6] rfl ?_
      exact ih (pl + 1) g2 F2 (by omega) (by omega) hF2 hfr hE
  refine zj_aload_n C dc_T_searchOutline_0 rfl 0 rfl ?_
  refine zj_get (k := 0) C (by omega) h0 rfl (by decide) fw_T fl_T_11 rfl rfl dc_T_searchOutline_1 ?_
  refine zj_iload_n C dc_T_searchOutline_4 rfl 1 rfl ?_
  refine zj_uald C (by omega) hA rfl ht (by decide) dc_T_searchOutline_5 ?_
  refine zj_topv (congrArg va_rf (hf t ht)) ?_
  refine zj_get (k := 0) C (by omega) (hts t ht).1 rfl (by decide) fw_U fl_T_81 rfl rfl dc_T_searchOutline_6 ?_
  refine zj_astore_n C dc_T_searchOutline_9 rfl (by decide) rfl ?_
  refine zj_iconst (v := 0) C dc_T_searchOutline_10 (by decide) ?_
  refine zj_istore C dc_T_searchOutline_11 (by decide) rfl ?_
  refine zj_loc (L' := [(4, .int (nI 0)), (3, .ref (ad (2 + 8 * t + 1))), (0, .ref (ad 0)), (1, .int (nI t)), (2, .int (nI kk))]) [0, 1, 2, 3, 4] rfl ?_
  exact outer (zu_cn (ts t) + 1 - qc) 0 g F rfl (by omega) hF (fun j hj => rfl) rfl
end ZO2
end
section
section ZO3
/-- a row of the distances from a place on, by the spans -/
def zq_row (qc lo c : Nat) (qp p : Nat → Int32) (pl : Nat) (f : Nat → Int32) : Prop := ∀ s, 2 ≤ s → s ≤ lo → pl + s ≤ c → f s = zi_I (zp_w (zp_dp (zp_sm qp p pl) (qc - 1) (s - 1)))
def zq_nr (qc kk : Nat) (qp p : Nat → Int32) (pl s : Nat) : Bool := decide ((zp_dp (zp_sm qp p pl) (qc - 1) (s - 1)).1 ≤ kk ∧ (s = 2 ∨ (¬ (zp_dp (zp_sm qp p pl) (qc - 1) (s - 1 - 1)).1 ≤ kk ∧ ¬ (zp_dp (zp_sm qp p (pl + 1)) (qc - 1) (s - 1 - 1)).1 ≤ kk)))
theorem zq_le (same : Nat → Nat → Bool) {qc j kk : Nat} (hqc : qc ≤ 8) (hj : j ≤ 30) (hk : kk ≤ 4) : zi_I (zp_w (zp_dp same (qc - 1) j)) ≤ nI (kk * 16) ↔ (zp_dp same (qc - 1) j).1 ≤ kk := by
  have h1 := zp_w_lo same (qc - 1) j (by omega)
  have h2 := zp_dp_up same (qc - 1) j
  have h3 := zp_w_near same (qc - 1) j kk (by omega)
  have h4 : zp_w (zp_dp same (qc - 1) j) ≤ 1000 := by unfold zp_w; omega
  rw [zi_n, zi_le (by omega) (by omega) (by omega) (by omega), ← h3]
  have e : ((kk * 16 : Nat) : Int) = 16 * (kk : Int) := by omega
  rw [e]
theorem zq_nr_ok {qc kk lo c pl s : Nat} {qp p hr bh : Nat → Int32} (hqc8 : qc ≤ 8) (hkk : kk ≤ 4) (hs : 2 ≤ s) (hs2 : s ≤ lo) (hs3 : pl + s ≤ c) (hlo : lo ≤ 12) (h1 : zq_row qc lo c qp p pl hr) (h2 : zq_row qc lo c qp p (pl + 1) bh) : (if hr s ≤ nI (kk * 16) ∧ (s = 2 ∨ (¬ hr (s - 1) ≤ nI (kk * 16) ∧ ¬ bh (s - 1) ≤ nI (kk * 16))) then (1 : Int32) else 0) = zb_i (zq_nr qc kk qp p pl s) := by
  have key : (hr s ≤ nI (kk * 16) ∧ (s = 2 ∨ (¬ hr (s - 1) ≤ nI (kk * 16) ∧ ¬ bh (s - 1) ≤ nI (kk * 16)))) ↔ zq_nr qc kk qp p pl s = true := by
    unfold zq_nr
    rw [decide_eq_true_iff, h1 s hs hs2 hs3, zq_le _ hqc8 (by omega) hkk]
    by_cases c2 : s = 2
    · simp [c2]
    · rw [h1 (s - 1) (by omega) (by omega) (by omega), h2 (s - 1) (by omega) (by omega) (by omega), zq_le _ hqc8 (by omega) hkk, zq_le _ hqc8 (by omega) hkk]
  by_cases c3 : zq_nr qc kk qp p pl s = true
  · rw [if_pos (key.mpr c3), c3]; rfl
  · rw [if_neg (fun h => c3 (key.mp h)), Bool.eq_false_iff.mpr c3]; rfl
/-- those that are near, from a place on -/
def zq_nl (c qc kk t : Nat) (p qp : Nat → Int32) : Nat → List zq_I := fun pl => zq_nn (zq_nr qc kk qp p pl) (fun s => (t, pl, s, p pl - qp 0, (zp_dp (zp_sm qp p pl) (qc - 1) (s - 1)).2 + 1)) 2 ((if qc + kk < c - pl then qc + kk else c - pl) + 1 - 2)
theorem zs_R_fr {z : zv_T} {ad : Nat → Nat} {g g2 : Nat → va_E} {hh ee mo lo : Nat} {wt hr bh : Nat → Int32} (h : zs_R z ad g hh ee mo lo wt hr bh) (hf : ∀ j, 101 ≤ j → j ≤ 104 → g2 j = g j) : zs_R z ad g2 hh ee mo lo wt hr bh := by
  obtain ⟨h1, h2, h3, h4, h5⟩ := h
  exact ⟨(hf 101 (by omega) (by omega)).trans h1, (hf 102 (by omega) (by omega)).trans h2, (hf hh (by omega) (by omega)).trans h3, (hf ee (by omega) (by omega)).trans h4, h5⟩
theorem zq_F_fr {z : zv_T} {ad : Nat → Nat} {g g2 : Nat → va_E} {as : Nat} {F : List zq_I} (h : zq_F z ad g as F) (hf : ∀ j, 69 ≤ j → j ≤ 100 → g2 j = g j) : zq_F z ad g2 as F := by
  obtain ⟨pi, it, s, ⟨h1, ⟨f, h2, h3⟩, h4, h5, h6⟩, h7⟩ := h
  exact ⟨pi, it, s, ⟨(hf 69 (by omega) (by omega)).trans h1, ⟨f, (hf 70 (by omega) (by omega)).trans h2, h3⟩, h4, h5, fun m m1 m2 => (hf m (by omega) (by omega)).trans (h6 m m1 m2)⟩, h7⟩
set_option maxHeartbeats 4000000 in
set_option maxRecDepth 100000 in
theorem ct_T_searchNear (l : Launch) (hst : l.stackTraces = false) (z : zv_T) (ad : Nat → Nat) (N : Nat) (g : Nat → va_E) (ts : Nat → zu_S) (t qc : Nat) (qp qq : Nat → Int32) (F : List zq_I) (hN : 108 ≤ N) (hA' : zs_A z ad g ts) (hq : zs_N z ad g 66 8 qc qp qq) (hF : zq_F z ad g qc F) (ht : t < 8) (kk hh ee mo lo : Nat) (wt hr bh : Nat → Int32) (hR : zs_R z ad g hh ee mo lo wt hr bh) (hkk : kk ≤ 4) (hqc : 2 ≤ qc) (hqc8 : qc ≤ 8) (hcn : zu_cn (ts t) ≤ 20) (hok : zq_ok (F ++ zq_cc (zq_nl (zu_cn (ts t)) qc kk t (zu_p (ts t)) qp) 0 (zu_cn (ts t) - 1))) (hFl : (F ++ zq_cc (zq_nl (zu_cn (ts t)) qc kk t (zu_p (ts t)) qp) 0 (zu_cn (ts t) - 1)).length < 2 ^ 30) : zm_v l mn_T_searchNear ws_T_searchNear rm_T_searchNear z ad N g [.ref (ad 0), .int (nI t), .int (nI kk)] (fun g1 => zq_F z ad g1 qc (F ++ zq_cc (zq_nl (zu_cn (ts t)) qc kk t (zu_p (ts t)) qp) 0 (zu_cn (ts t) - 1)) ∧ (∃ hh ee mo lo wt hr bh, zs_R z ad g1 hh ee mo lo wt hr bh) ∧ ∀ j, j < 69 ∨ 105 ≤ j → g1 j = g j) := by
  have hA9 := hA'
  have hq9 := hq
  obtain ⟨h0, ⟨f, hA, hf⟩, hts⟩ := hA'
  obtain ⟨hq0, hq1, hq2⟩ := hq
  refine zm_ofv hst pn_T_searchNear rfl (Nat.le_of_ble_eq_true rfl) (fun X hX C => ?_)
  subst hX
  show zj_J X 0 0 _ ad N g 0 [(0, .ref (ad 0)), (1, .int (nI t)), (2, .int (nI kk))] []
  have inner : ∀ (n : Nat) (s pl hh ee : Nat) (g2 : Nat → va_E) (F2 Fr : List zq_I) (wt hr bh : Nat → Int32), qc + kk + 1 - s = n → 2 ≤ s → s ≤ 13 → pl < 20 → zq_F z ad g2 qc F2 → zs_R z ad g2 hh ee (kk * 16) (qc + kk) wt hr bh → zq_row qc (qc + kk) (zu_cn (ts t)) qp (zu_p (ts t)) pl hr → zq_row qc (qc + kk) (zu_cn (ts t)) qp (zu_p (ts t)) (pl + 1) bh → (∀ j, j < 69 ∨ 105 ≤ j → g2 j = g j) → (F ++ zq_cc (zq_nl (zu_cn (ts t)) qc kk t (zu_p (ts t)) qp) 0 (zu_cn (ts t) - 1)) = F2 ++ (zq_nn (zq_nr qc kk qp (zu_p (ts t)) pl) (fun s => ((t, pl, s, (zu_p (ts t)) pl - qp 0, (zp_dp (zp_sm qp (zu_p (ts t)) pl) (qc - 1) (s - 1)).2 + 1) : zq_I)) s ((if qc + kk < zu_cn (ts t) - pl then qc + kk else zu_cn (ts t) - pl) + 1 - s) ++ Fr) → (∀ (s : Nat) (g2 : Nat → va_E) (F2 : List zq_I), zq_F z ad g2 qc F2 → zs_R z ad g2 hh ee (kk * 16) (qc + kk) wt hr bh → (∀ j, j < 69 ∨ 105 ≤ j → g2 j = g j) → (F ++ zq_cc (zq_nl (zu_cn (ts t)) qc kk t (zu_p (ts t)) qp) 0 (zu_cn (ts t) - 1)) = F2 ++ Fr → zj_J X 0 0 (zj_Qv X 0 0 ad N (fun g1 => zq_F z ad g1 qc (F ++ zq_cc (zq_nl (zu_cn (ts t)) qc kk t (zu_p (ts t)) qp) 0 (zu_cn (ts t) - 1)) ∧ (∃ hh ee mo lo wt hr bh, zs_R z ad g1 hh ee mo lo wt hr bh) ∧ ∀ j, j < 69 ∨ 105 ≤ j → g1 j = g j)) ad N g2 116 [(5, .int (nI s)), (4, .int (nI pl)), (3, .ref (ad (2 + 8 * t + 1))), (0, .ref (ad 0)), (1, .int (nI t)), (2, .int (nI kk))] []) → zj_J X 0 0 (zj_Qv X 0 0 ad N (fun g1 => zq_F z ad g1 qc (F ++ zq_cc (zq_nl (zu_cn (ts t)) qc kk t (zu_p (ts t)) qp) 0 (zu_cn (ts t) - 1)) ∧ (∃ hh ee mo lo wt hr bh, zs_R z ad g1 hh ee mo lo wt hr bh) ∧ ∀ j, j < 69 ∨ 105 ≤ j → g1 j = g j)) ad N g2 54 [(5, .int (nI s)), (4, .int (nI pl)), (3, .ref (ad (2 + 8 * t + 1))), (0, .ref (ad 0)), (1, .int (nI t)), (2, .int (nI kk))] [] := by
    intro n
    induction n with
    | zero =>
      intro s pl hh ee g2 F2 Fr wt hr bh e1 e2 e3 e4 hF2 hR2 hw1 hw2 hfr hE K
      have hx1 : (if qc + kk < zu_cn (ts t) - pl then qc + kk else zu_cn (ts t) - pl) ≤ qc + kk := by split <;> omega
      have hx2 : (if qc + kk < zu_cn (ts t) - pl then qc + kk else zu_cn (ts t) - pl) ≤ zu_cn (ts t) - pl := by split <;> omega
      have hx3 : (if qc + kk < zu_cn (ts t) - pl then qc + kk else zu_cn (ts t) - pl) = qc + kk ∨ (if qc + kk < zu_cn (ts t) - pl then qc + kk else zu_cn (ts t) - pl) = zu_cn (ts t) - pl := by split <;> simp
      refine zj_iload C dc_T_searchNear_54 0 rfl ?_
      refine zj_aload_n C dc_T_searchNear_56 rfl 3 rfl ?_
      refine zj_get (k := 3) C (by omega) ((hfr 0 (by omega)).trans h0) rfl (by decide) fw_T fl_T_35 rfl rfl dc_T_searchNear_57 ?_
      refine zj_get (k := 4) C (by omega) hR2.1 rfl (by decide) fw_R fl_T_231 rfl rfl dc_T_searchNear_60 ?_
      refine zj_icmp_gt C dc_T_searchNear_63 rfl (fun _ => ?_) (fun h => absurd h (not_not_intro ((nI_ltI (by omega) (by omega)).mpr (by omega))))
      refine zj_loc [0, 1, 2, 3, 4, 5] rfl ?_
      exact K s g2 F2 hF2 hR2 hfr (by rw [hE, show (if qc + kk < zu_cn (ts t) - pl then qc + kk else zu_cn (ts t) - pl) + 1 - s = 0 by omega]; rfl)
    | succ n ih =>
      intro s pl hh ee g2 F2 Fr wt hr bh e1 e2 e3 e4 hF2 hR2 hw1 hw2 hfr hE K
      have hx1 : (if qc + kk < zu_cn (ts t) - pl then qc + kk else zu_cn (ts t) - pl) ≤ qc + kk := by split <;> omega
      have hx2 : (if qc + kk < zu_cn (ts t) - pl then qc + kk else zu_cn (ts t) - pl) ≤ zu_cn (ts t) - pl := by split <;> omega
      have hx3 : (if qc + kk < zu_cn (ts t) - pl then qc + kk else zu_cn (ts t) - pl) = qc + kk ∨ (if qc + kk < zu_cn (ts t) - pl then qc + kk else zu_cn (ts t) - pl) = zu_cn (ts t) - pl := by split <;> simp
      refine zj_iload C dc_T_searchNear_54 0 rfl ?_
      refine zj_aload_n C dc_T_searchNear_56 rfl 3 rfl ?_
      refine zj_get (k := 3) C (by omega) ((hfr 0 (by omega)).trans h0) rfl (by decide) fw_T fl_T_35 rfl rfl dc_T_searchNear_57 ?_
      refine zj_get (k := 4) C (by omega) hR2.1 rfl (by decide) fw_R fl_T_231 rfl rfl dc_T_searchNear_60 ?_
      refine zj_icmp_gt C dc_T_searchNear_63 rfl (fun h => absurd h (((zn_nlt (by omega) (by omega)).mpr (by omega)))) (fun _ => ?_)
      refine zj_iload C dc_T_searchNear_66 1 rfl ?_
      refine zj_iload C dc_T_searchNear_68 0 rfl ?_
      refine zj_iadd C dc_T_searchNear_70 ?_
      refine zj_topi (nI_add _ _) ?_
      refine zj_aload_n C dc_T_searchNear_71 rfl 2 rfl ?_
      refine zj_get (k := 2) C (by omega) ((hfr (2 + 8 * t + 1) (by omega)).trans (hts t ht).2.1.1) rfl (by decide) fw_N fl_T_84 rfl rfl dc_T_searchNear_72 ?_
      refine zj_icmp_gt C dc_T_searchNear_75 rfl (fun h75 => ?_) (fun h75 => ?_)
      · have h75 := (nI_ltI (by omega) (by omega)).mp h75
        refine zj_loc [0, 1, 2, 3, 4, 5] rfl ?_
        exact K s g2 F2 hF2 hR2 hfr (by rw [hE, show (if qc + kk < zu_cn (ts t) - pl then qc + kk else zu_cn (ts t) - pl) + 1 - s = 0 by omega]; rfl)
      · have h75 := (zn_nlt (by omega) (by omega)).mp h75
        have hE2 := hE
        rw [show (if qc + kk < zu_cn (ts t) - pl then qc + kk else zu_cn (ts t) - pl) + 1 - s = ((if qc + kk < zu_cn (ts t) - pl then qc + kk else zu_cn (ts t) - pl) + 1 - (s + 1)) + 1 by omega, zq_nnS] at hE2
        refine zj_aload_n C dc_T_searchNear_78 rfl 3 rfl ?_
        refine zj_get (k := 3) C (by omega) ((hfr 0 (by omega)).trans h0) rfl (by decide) fw_T fl_T_35 rfl rfl dc_T_searchNear_79 ?_
        refine zj_iload C dc_T_searchNear_82 0 rfl ?_
        refine zj_Vi C (ct_R_holds _ hst z ad N g2 (by omega) hh ee (kk * 16) (qc + kk) wt hr bh hR2 s (by omega) (by omega)) gv_T_234 rfl rfl rfl hd_R_holds ⟨(Nat.le_of_ble_eq_true rfl), (Nat.le_of_ble_eq_true rfl)⟩ (by omega) hR2.1 rfl rfl rfl (Nat.le_of_ble_eq_true rfl) ⟨(Nat.le_of_ble_eq_true rfl), (Nat.le_of_ble_eq_true rfl)⟩ dc_T_searchNear_84 (fun r1 g9 h1 => ?_)
        obtain ⟨rfl, hg9⟩ := h1
        rw [hg9, zq_nr_ok hqc8 hkk (by omega) (by omega) h75 (by omega) hw1 hw2]
        refine zj_if_eq C dc_T_searchNear_87 rfl (fun h87 => ?_) (fun h87 => ?_)
        · have h87 := zb_i0 h87
          rw [if_neg (by rw [h87]; exact Bool.false_ne_true)] at hE2
          refine zj_iinc C dc_T_searchNear_110 0 rfl (zn_inc s) (by decide) rfl ?_
          refine zj_goto C dc_T_searchNear_113 rfl ?_
          refine zj_loc (L' := [(5, .int (nI (s + 1))), (4, .int (nI pl)), (3, .ref (ad (2 + 8 * t + 1))), (0, .ref (ad 0)), (1, .int (nI t)), (2, .int (nI kk))]) [0, 1, 2, 3, 4, 5] rfl ?_
          exact ih (s + 1) pl hh ee g2 F2 Fr wt hr bh (by omega) (by omega) (by omega) e4 hF2 hR2 hw1 hw2 hfr hE2 K
        · have h87 := zb_i1 h87
          rw [if_pos h87] at hE2
          have hE3 : (F ++ zq_cc (zq_nl (zu_cn (ts t)) qc kk t (zu_p (ts t)) qp) 0 (zu_cn (ts t) - 1)) = (F2 ++ [(fun s => ((t, pl, s, (zu_p (ts t)) pl - qp 0, (zp_dp (zp_sm qp (zu_p (ts t)) pl) (qc - 1) (s - 1)).2 + 1) : zq_I)) s]) ++ (zq_nn (zq_nr qc kk qp (zu_p (ts t)) pl) (fun s => ((t, pl, s, (zu_p (ts t)) pl - qp 0, (zp_dp (zp_sm qp (zu_p (ts t)) pl) (qc - 1) (s - 1)).2 + 1) : zq_I)) (s + 1) ((if qc + kk < zu_cn (ts t) - pl then qc + kk else zu_cn (ts t) - pl) + 1 - (s + 1)) ++ Fr) := by rw [hE2]; simp only [List.append_assoc]
          have hxa := zp_w_lo (zp_sm qp (zu_p (ts t)) pl) (qc - 1) (s - 1) (by omega)
          have hxb := zp_dp_up (zp_sm qp (zu_p (ts t)) pl) (qc - 1) (s - 1)
          have hxc := zp_w_stay (zp_sm qp (zu_p (ts t)) pl) (qc - 1) (s - 1) (by omega)
          refine zj_aload_n C dc_T_searchNear_90 rfl 3 rfl ?_
          refine zj_iload_n C dc_T_searchNear_91 rfl 4 rfl ?_
          refine zj_iload C dc_T_searchNear_92 1 rfl ?_
          refine zj_iload C dc_T_searchNear_94 0 rfl ?_
          refine zj_aload_n C dc_T_searchNear_96 rfl 3 rfl ?_
          refine zj_get (k := 3) C (by omega) ((hfr 0 (by omega)).trans h0) rfl (by decide) fw_T fl_T_35 rfl rfl dc_T_searchNear_97 ?_
          refine zj_iload C dc_T_searchNear_100 0 rfl ?_
          refine zj_Vi C (ct_R_staying _ hst z ad N g2 (by omega) hh ee (kk * 16) (qc + kk) wt hr bh hR2 s (by omega) (by omega) _ (hw1 s (by omega) (by omega) h75) (by omega) (by unfold zp_w; omega)) gv_T_238 rfl rfl rfl hd_R_staying ⟨(Nat.le_of_ble_eq_true rfl), (Nat.le_of_ble_eq_true rfl)⟩ (by omega) hR2.1 rfl rfl rfl (Nat.le_of_ble_eq_true rfl) ⟨(Nat.le_of_ble_eq_true rfl), (Nat.le_of_ble_eq_true rfl)⟩ dc_T_searchNear_102 (fun r1 g9 h1 => ?_)
          obtain ⟨rfl, hg9⟩ := h1
          rw [hg9, hxc, ← zi_n]
          refine zj_iconst (v := 1) C dc_T_searchNear_105 (by decide) ?_
          refine zj_iadd C dc_T_searchNear_106 ?_
          refine zj_topi (nI_1 _) ?_
          refine zj_Vv C (ct_T_offer _ hst z ad N g2 ts t qc qp qq F2 hN (zs_A_fr hA9 (fun j hj => hfr j (by omega))) (zs_N_fr hq9 (fun j h1 h2 => hfr j (by omega))) hF2 ht pl s _ e4 (by rw [hE3] at hok; exact zq_pre hok) (by have h9 := congrArg List.length hE; simp only [List.length_append] at h9 hFl; omega)) gv_T_205 rfl rfl rfl hd_T_offer ⟨(Nat.le_of_ble_eq_true rfl), (Nat.le_of_ble_eq_true rfl)⟩ (by omega) ((hfr 0 (by omega)).trans h0) rfl rfl rfl (Nat.le_of_ble_eq_true rfl) ⟨(Nat.le_of_ble_eq_true rfl), (Nat.le_of_ble_eq_true rfl)⟩ dc_T_searchNear_107 (fun g3 h1 => ?_)
          obtain ⟨b1, b2⟩ := h1
          refine zj_iinc C dc_T_searchNear_110 0 rfl (zn_inc s) (by decide) rfl ?_
          refine zj_goto C dc_T_searchNear_113 rfl ?_
          refine zj_loc (L' := [(5, .int (nI (s + 1))), (4, .int (nI pl)), (3, .ref (ad (2 + 8 * t + 1))), (0, .ref (ad 0)), (1, .int (nI t)), (2, .int (nI kk))]) [0, 1, 2, 3, 4, 5] rfl ?_
          exact ih (s + 1) pl hh ee g3 (F2 ++ [(fun s => ((t, pl, s, (zu_p (ts t)) pl - qp 0, (zp_dp (zp_sm qp (zu_p (ts t)) pl) (qc - 1) (s - 1)).2 + 1) : zq_I)) s]) Fr wt hr bh (by omega) (by omega) (by omega) e4 b1 (zs_R_fr hR2 (fun j h1 h2 => b2 j (by omega))) hw1 hw2 (fun j hj => (b2 j (by omega)).trans (hfr j hj)) hE3 K
  have outer : ∀ (n : Nat) (pl hh ee : Nat) (g2 : Nat → va_E) (F2 : List zq_I) (wt hr bh : Nat → Int32), zu_cn (ts t) - 1 - pl = n → pl ≤ 20 → zq_F z ad g2 qc F2 → zs_R z ad g2 hh ee (kk * 16) (qc + kk) wt hr bh → zq_row qc (qc + kk) (zu_cn (ts t)) qp (zu_p (ts t)) pl bh → (∀ j, j < 69 ∨ 105 ≤ j → g2 j = g j) → (F ++ zq_cc (zq_nl (zu_cn (ts t)) qc kk t (zu_p (ts t)) qp) 0 (zu_cn (ts t) - 1)) = F2 ++ zq_cc (zq_nl (zu_cn (ts t)) qc kk t (zu_p (ts t)) qp) pl (zu_cn (ts t) - 1 - pl) → zj_J X 0 0 (zj_Qv X 0 0 ad N (fun g1 => zq_F z ad g1 qc (F ++ zq_cc (zq_nl (zu_cn (ts t)) qc kk t (zu_p (ts t)) qp) 0 (zu_cn (ts t) - 1)) ∧ (∃ hh ee mo lo wt hr bh, zs_R z ad g1 hh ee mo lo wt hr bh) ∧ ∀ j, j < 69 ∨ 105 ≤ j → g1 j = g j)) ad N g2 26 [(4, .int (nI pl)), (3, .ref (ad (2 + 8 * t + 1))), (0, .ref (ad 0)), (1, .int (nI t)), (2, .int (nI kk))] [] := by
    intro n
    induction n with
    | zero =>
      intro pl hh ee g2 F2 wt hr bh e1 e2 hF2 hR2 hrow hfr hE
      refine zj_iload C dc_T_searchNear_26 0 rfl ?_
      refine zj_iconst (v := 2) C dc_T_searchNear_28 (by decide) ?_
      refine zj_iadd C dc_T_searchNear_29 ?_
      refine zj_topi (show nI pl + nI 2 = nI (pl + 2) from nI_add _ _) ?_
      refine zj_aload_n C dc_T_searchNear_30 rfl 1 rfl ?_
      refine zj_get (k := 2) C (by omega) ((hfr (2 + 8 * t + 1) (by omega)).trans (hts t ht).2.1.1) rfl (by decide) fw_N fl_T_84 rfl rfl dc_T_searchNear_31 ?_
      refine zj_icmp_gt C dc_T_searchNear_34 rfl (fun _ => ?_) (fun h => absurd h (not_not_intro ((nI_ltI (by omega) (by omega)).mpr (by omega))))
      exact zj_vret C dc_T_searchNear_122 ⟨by rw [hE, show zu_cn (ts t) - 1 - pl = 0 by omega]; show zq_F z ad g2 qc (F2 ++ []); rw [List.append_nil]; exact hF2, ⟨_, _, _, _, _, _, _, hR2⟩, hfr⟩
    | succ n ih =>
      intro pl hh ee g2 F2 wt hr bh e1 e2 hF2 hR2 hrow hfr hE
      refine zj_iload C dc_T_searchNear_26 0 rfl ?_
      refine zj_iconst (v := 2) C dc_T_searchNear_28 (by decide) ?_
      refine zj_iadd C dc_T_searchNear_29 ?_
      refine zj_topi (show nI pl + nI 2 = nI (pl + 2) from nI_add _ _) ?_
      refine zj_aload_n C dc_T_searchNear_30 rfl 1 rfl ?_
      refine zj_get (k := 2) C (by omega) ((hfr (2 + 8 * t + 1) (by omega)).trans (hts t ht).2.1.1) rfl (by decide) fw_N fl_T_84 rfl rfl dc_T_searchNear_31 ?_
      refine zj_icmp_gt C dc_T_searchNear_34 rfl (fun h => absurd h (((zn_nlt (by omega) (by omega)).mpr (by omega)))) (fun _ => ?_)
      refine zj_aload_n C dc_T_searchNear_37 rfl 2 rfl ?_
      refine zj_get (k := 3) C (by omega) ((hfr 0 (by omega)).trans h0) rfl (by decide) fw_T fl_T_35 rfl rfl dc_T_searchNear_38 ?_
      refine zj_aload_n C dc_T_searchNear_41 rfl 2 rfl ?_
      refine zj_get (k := 1) C (by omega) ((hfr 0 (by omega)).trans h0) rfl (by decide) fw_T fl_T_21 rfl rfl dc_T_searchNear_42 ?_
      refine zj_aload_n C dc_T_searchNear_45 rfl 1 rfl ?_
      refine zj_iload C dc_T_searchNear_46 0 rfl ?_
      refine zj_Vv C (ct_R_goOn _ hst z ad N g2 qc qp qq (zs_N_fr hq9 (fun j h1 h2 => hfr j (by omega))) hqc hqc8 (by omega) hh ee (kk * 16) (qc + kk) wt hr bh hR2 (2 + 8 * t + 1) (zu_cn (ts t)) (zu_p (ts t)) (zu_q (ts t)) (zs_N_fr (hts t ht).2.1 (fun j h1 h2 => hfr j (by omega))) (by omega) hcn pl (by omega) (by omega)) gv_T_228 rfl rfl rfl hd_R_goOn ⟨(Nat.le_of_ble_eq_true rfl), (Nat.le_of_ble_eq_true rfl)⟩ (by omega) hR2.1 rfl rfl rfl (Nat.le_of_ble_eq_true rfl) ⟨(Nat.le_of_ble_eq_true rfl), (Nat.le_of_ble_eq_true rfl)⟩ dc_T_searchNear_48 (fun g3 h1 => ?_)
      have hhe := hR2.2.2.2.2
      obtain ⟨w3, b3, hR3, hrow3, hf3⟩ := h1
      have hfr3 : ∀ j, j < 69 ∨ 105 ≤ j → g3 j = g j := fun j hj => (hf3 j (by omega) (by omega) (by omega)).trans (hfr j hj)
      have hF3 := zq_F_fr hF2 (fun j h1 h2 => hf3 j (by omega) (by omega) (by omega))
      have hE2 : (F ++ zq_cc (zq_nl (zu_cn (ts t)) qc kk t (zu_p (ts t)) qp) 0 (zu_cn (ts t) - 1)) = F2 ++ (zq_nn (zq_nr qc kk qp (zu_p (ts t)) pl) (fun s => ((t, pl, s, (zu_p (ts t)) pl - qp 0, (zp_dp (zp_sm qp (zu_p (ts t)) pl) (qc - 1) (s - 1)).2 + 1) : zq_I)) 2 ((if qc + kk < zu_cn (ts t) - pl then qc + kk else zu_cn (ts t) - pl) + 1 - 2) ++ zq_cc (zq_nl (zu_cn (ts t)) qc kk t (zu_p (ts t)) qp) (pl + 1) (zu_cn (ts t) - 1 - (pl + 1))) := by rw [hE, show zu_cn (ts t) - 1 - pl = (zu_cn (ts t) - 1 - (pl + 1)) + 1 by omega, zq_ccS]; rfl
      refine zj_iconst (v := 2) C dc_T_searchNear_51 (by decide) ?_
      refine zj_istore C dc_T_searchNear_52 (by decide) rfl ?_
      refine zj_loc (L' := [(5, .int (nI 2)), (4, .int (nI pl)), (3, .ref (ad (2 + 8 * t + 1))), (0, .ref (ad 0)), (1, .int (nI t)), (2, .int (nI kk))]) [0, 1, 2, 3, 4, 5] rfl ?_
      refine inner (qc + kk + 1 - 2) 2 pl ee hh g3 F2 _ w3 bh b3 rfl (by omega) (by omega) (by omega) hF3 hR3 hrow hrow3 hfr3 hE2 (fun s g2 F2 hF2 hR2 hfr hE => ?_)
      refine zj_iinc C dc_T_searchNear_116 1 rfl (zn_inc pl) (by decide) rfl ?_
      refine zj_goto C dc_T_searchNear_119 rfl ?_
      refine zj_loc (L' := [(4, .int (nI (pl + 1))), (3, .ref (ad (2 + 8 * t + 1))), (0, .ref (ad 0)), (1, .int (nI t)), (2, .int (nI kk))]) [0, 2, 3, 4, 5] rfl ?_
      exact ih (pl + 1) ee hh g2 F2 _ _ _ (by omega) (by omega) hF2 hR2 hrow3 hfr hE
  refine zj_aload_n C dc_T_searchNear_0 rfl 0 rfl ?_
  refine zj_get (k := 0) C (by omega) h0 rfl (by decide) fw_T fl_T_11 rfl rfl dc_T_searchNear_1 ?_
  refine zj_iload_n C dc_T_searchNear_4 rfl 1 rfl ?_
  refine zj_uald C (by omega) hA rfl ht (by decide) dc_T_searchNear_5 ?_
  refine zj_topv (congrArg va_rf (hf t ht)) ?_
  refine zj_get (k := 0) C (by omega) (hts t ht).1 rfl (by decide) fw_U fl_T_81 rfl rfl dc_T_searchNear_6 ?_
  refine zj_astore_n C dc_T_searchNear_9 rfl (by decide) rfl ?_
  refine zj_aload_n C dc_T_searchNear_10 rfl 1 rfl ?_
  refine zj_get (k := 3) C (by omega) h0 rfl (by decide) fw_T fl_T_35 rfl rfl dc_T_searchNear_11 ?_
  refine zj_aload_n C dc_T_searchNear_14 rfl 1 rfl ?_
  refine zj_get (k := 1) C (by omega) h0 rfl (by decide) fw_T fl_T_21 rfl rfl dc_T_searchNear_15 ?_
  refine zj_aload_n C dc_T_searchNear_18 rfl 0 rfl ?_
  refine zj_iload_n C dc_T_searchNear_19 rfl 3 rfl ?_
  refine zj_Vv C (ct_R_begin _ hst z ad N g qc qp qq ⟨hq0, hq1, hq2⟩ hqc hqc8 (by omega) hh ee mo lo wt hr bh hR (2 + 8 * t + 1) (zu_cn (ts t)) (zu_p (ts t)) (zu_q (ts t)) (hts t ht).2.1 (by omega) hcn kk hkk) gv_T_225 rfl rfl rfl hd_R_begin ⟨(Nat.le_of_ble_eq_true rfl), (Nat.le_of_ble_eq_true rfl)⟩ (by omega) hR.1 rfl rfl rfl (Nat.le_of_ble_eq_true rfl) ⟨(Nat.le_of_ble_eq_true rfl), (Nat.le_of_ble_eq_true rfl)⟩ dc_T_searchNear_20 (fun g2 h1 => ?_)
  have hhe := hR.2.2.2.2
  obtain ⟨w2, b2, hR2, hrow, hfr2⟩ := h1
  have hfr : ∀ j, j < 69 ∨ 105 ≤ j → g2 j = g j := fun j hj => hfr2 j (by omega) (by omega) (by omega)
  have hF2 := zq_F_fr hF (fun j h1 h2 => hfr2 j (by omega) (by omega) (by omega))
  refine zj_iconst (v := 0) C dc_T_searchNear_23 (by decide) ?_
  refine zj_istore C dc_T_searchNear_24 (by decide) rfl ?_
  refine zj_loc (L' := [(4, .int (nI 0)), (3, .ref (ad (2 + 8 * t + 1))), (0, .ref (ad 0)), (1, .int (nI t)), (2, .int (nI kk))]) [0, 1, 2, 3, 4] rfl ?_
  exact outer (zu_cn (ts t) - 1) 0 hh ee g2 F w2 hr b2 rfl (by omega) hF2 hR2 (fun s h1 h2 h3 => hrow s h1 h2 h3) hfr rfl
end ZO3
end
section
section ZP1
def zp_ts (ts : Nat → zu_S) (t : Nat) (s : zu_S) : Nat → zu_S := fun u => if u = t then s else ts u
theorem zs_A_put {z : zv_T} {ad : Nat → Nat} {g g1 : Nat → va_E} {ts : Nat → zu_S} {t : Nat} {s : zu_S} (h : zs_A z ad g ts) (ht : t < 8) (hv : zs_V z ad g1 (2 + 8 * t) s) (hf : ∀ j, j < 2 + 8 * t ∨ 2 + 8 * t + 8 ≤ j → g1 j = g j) : zs_A z ad g1 (zp_ts ts t s) := by
  obtain ⟨h0, ⟨f, hA, hff⟩, hts⟩ := h
  refine ⟨(hf 0 (by omega)).trans h0, ⟨f, (hf 1 (by omega)).trans hA, hff⟩, fun u hu => ?_⟩
  unfold zp_ts
  by_cases c : u = t
  · rw [if_pos c, c]; exact hv
  · rw [if_neg c]
    exact zs_V_fr (hts u hu) (fun j h1 h2 => hf j (by omega))
theorem zb_inj {a b : Bool} : zb_i a = zb_i b ↔ a = b := by cases a <;> cases b <;> decide
theorem zp_sw3 (w : Int32) : w = nI 0 ∨ w = nI 1 ∨ w = nI 2 ∨ (w.toInt < 0 ∨ 2 < w.toInt) := by
  by_cases h : w.toInt < 0
  · exact Or.inr (Or.inr (Or.inr (Or.inl h)))
  · have h1 : ¬ w < 0 := fun h2 => h (by rw [Int32.lt_iff_toInt_lt] at h2; exact h2)
    obtain ⟨j, hj, rfl⟩ := nI_of h1
    rw [nI_toInt hj]
    rcases (by omega : j = 0 ∨ j = 1 ∨ j = 2 ∨ 2 < j) with c | c | c | c
    · exact Or.inl (by rw [c])
    · exact Or.inr (Or.inl (by rw [c]))
    · exact Or.inr (Or.inr (Or.inl (by rw [c])))
    · exact Or.inr (Or.inr (Or.inr (Or.inr (by omega))))
theorem zp_sw3n {w : Int32} (h : w.toInt < 0 ∨ 2 < w.toInt) : ∀ k, k < 3 → ¬ w = nI k := by
  intro k hk e
  subst e
  rw [nI_toInt (by omega)] at h
  omega
set_option maxHeartbeats 4000000 in
set_option maxRecDepth 100000 in
theorem ct_T_tune (l : Launch) (hst : l.stackTraces = false) (z : zv_T) (ad : Nat → Nat) (N : Nat) (g : Nat → va_E) (ts : Nat → zu_S) (id : Int32) (hN : 108 ≤ N) (hs : zs_A z ad g ts) : zx_v l mn_T_tune ws_T_tune rm_T_tune z ad N g [.ref (ad 0), .int id] 1 6 (fun g1 => ∃ t, t < 8 ∧ id = nI t ∧ zu_th (ts t) = false ∧ zs_A z ad g1 (zp_ts ts t (true, false, 0, 0, zu_p (ts t), zu_q (ts t), zu_pr (ts t), zu_rp (ts t), zu_rq (ts t))) ∧ ∀ j, 66 ≤ j → g1 j = g j) (fun E g1 => g1 = g ∧ ((E = "java/lang/IndexOutOfBoundsException" ∧ ∀ t, t < 8 → ¬ id = nI t) ∨ (E = "java/lang/IllegalStateException" ∧ ∃ t, t < 8 ∧ id = nI t ∧ zu_th (ts t) = true))) := by
  have hA9 := hs
  obtain ⟨h0, ⟨f, hA, hf⟩, hts⟩ := hs
  refine zx_ofv hst pn_T_tune rfl (Nat.le_of_ble_eq_true rfl) (fun X hX C hT => ?_)
  subst hX
  show zj_J X 0 0 _ ad N g 0 [(0, .ref (ad 0)), (1, .int id)] []
  refine zj_iload_n C dc_T_tune_0 rfl 1 rfl ?_
  refine zj_if_lt C dc_T_tune_1 rfl (fun a1 => ?_) (fun a1 => ?_)
  · skip
    exact zx_throwv (names := xt_ns) C hT xt_fit_IndexOutOfBoundsException xt_nf cl_T_50 ini_IndexOutOfBoundsException xt_at_IndexOutOfBoundsException xt_bd_IndexOutOfBoundsException ins_IndexOutOfBoundsException xt_ok_IndexOutOfBoundsException dc_T_tune_10 dc_T_tune_13 dc_T_tune_14 dc_T_tune_17 ⟨(Nat.le_of_ble_eq_true rfl), (Nat.le_of_ble_eq_true rfl), (Nat.le_of_ble_eq_true rfl), (Nat.le_of_ble_eq_true rfl)⟩ ⟨(Nat.le_of_ble_eq_true rfl), (Nat.le_of_ble_eq_true rfl)⟩ ⟨rfl, Or.inl ⟨rfl, fun t ht e => by subst e; exact nI_pos (by omega) a1⟩⟩
  · skip
    refine zj_iload_n C dc_T_tune_4 rfl 1 rfl ?_
    refine zj_bipush (v := 8) C dc_T_tune_5 (by decide) ?_
    refine zj_icmp_lt C dc_T_tune_7 rfl (fun a2 => ?_) (fun a2 => ?_)
    · obtain ⟨t, ht, rfl⟩ := zp_id a1 (fun h => absurd a2 (Int32.not_lt.mpr h))
      refine zj_aload_n C dc_T_tune_18 rfl 0 rfl ?_
      refine zj_get (k := 0) C (by omega) h0 rfl (by decide) fw_T fl_T_11 rfl rfl dc_T_tune_19 ?_
      refine zj_iload_n C dc_T_tune_22 rfl 1 rfl ?_
      refine zj_uald C (by omega) hA rfl ht (by decide) dc_T_tune_23 ?_
      refine zj_topv (congrArg va_rf (hf t ht)) ?_
      refine zj_get (k := 3) C (by omega) (hts t ht).1 rfl (by decide) fw_U fl_T_53 rfl rfl dc_T_tune_24 ?_
      refine zj_if_eq C dc_T_tune_27 rfl (fun a3 => ?_) (fun a3 => ?_)
      · have a3 := zb_i0 a3
        refine zj_aload_n C dc_T_tune_38 rfl 0 rfl ?_
        refine zj_get (k := 0) C (by omega) h0 rfl (by decide) fw_T fl_T_11 rfl rfl dc_T_tune_39 ?_
        refine zj_iload_n C dc_T_tune_42 rfl 1 rfl ?_
        refine zj_uald C (by omega) hA rfl ht (by decide) dc_T_tune_43 ?_
        refine zj_topv (congrArg va_rf (hf t ht)) ?_
        refine zj_Vv C (ct_U_begin _ hst z ad N g (2 + 8 * t) _ _ _ _ _ _ _ _ _ (by omega) (hts t ht)) gv_T_60 rfl rfl rfl hd_U_begin ⟨(Nat.le_of_ble_eq_true rfl), (Nat.le_of_ble_eq_true rfl)⟩ (by omega) (hts t ht).1 rfl rfl rfl (Nat.le_of_ble_eq_true rfl) ⟨(Nat.le_of_ble_eq_true rfl), (Nat.le_of_ble_eq_true rfl)⟩ dc_T_tune_44 (fun g1 h1 => ?_)
        obtain ⟨b1, b2⟩ := h1
        exact zx_vret C ⟨(Nat.le_of_ble_eq_true rfl), (Nat.le_of_ble_eq_true rfl)⟩ dc_T_tune_47 ⟨t, ht, rfl, a3, zs_A_put hA9 ht b1 (fun j hj => b2 j (by omega) (by omega)), fun j hj => b2 j (by omega) (by omega)⟩
      · have a3 := zb_i1 a3
        exact zx_throwv (names := xt_ns) C hT xt_fit_IllegalStateException xt_nf cl_T_57 ini_IllegalStateException xt_at_IllegalStateException xt_bd_IllegalStateException ins_IllegalStateException xt_ok_IllegalStateException dc_T_tune_30 dc_T_tune_33 dc_T_tune_34 dc_T_tune_37 ⟨(Nat.le_of_ble_eq_true rfl), (Nat.le_of_ble_eq_true rfl), (Nat.le_of_ble_eq_true rfl), (Nat.le_of_ble_eq_true rfl)⟩ ⟨(Nat.le_of_ble_eq_true rfl), (Nat.le_of_ble_eq_true rfl)⟩ ⟨rfl, Or.inr ⟨rfl, t, ht, rfl, a3⟩⟩
    · skip
      exact zx_throwv (names := xt_ns) C hT xt_fit_IndexOutOfBoundsException xt_nf cl_T_50 ini_IndexOutOfBoundsException xt_at_IndexOutOfBoundsException xt_bd_IndexOutOfBoundsException ins_IndexOutOfBoundsException xt_ok_IndexOutOfBoundsException dc_T_tune_10 dc_T_tune_13 dc_T_tune_14 dc_T_tune_17 ⟨(Nat.le_of_ble_eq_true rfl), (Nat.le_of_ble_eq_true rfl), (Nat.le_of_ble_eq_true rfl), (Nat.le_of_ble_eq_true rfl)⟩ ⟨(Nat.le_of_ble_eq_true rfl), (Nat.le_of_ble_eq_true rfl)⟩ ⟨rfl, Or.inl ⟨rfl, fun t ht e => by subst e; exact a2 ((nI_ltI (b := 8) (by omega) (by omega)).mpr ht)⟩⟩
set_option maxHeartbeats 4000000 in
set_option maxRecDepth 100000 in
theorem ct_T_drop (l : Launch) (hst : l.stackTraces = false) (z : zv_T) (ad : Nat → Nat) (N : Nat) (g : Nat → va_E) (ts : Nat → zu_S) (id : Int32) (hN : 108 ≤ N) (hs : zs_A z ad g ts) : zx_v l mn_T_drop ws_T_drop rm_T_drop z ad N g [.ref (ad 0), .int id] 1 6 (fun g1 => ∃ t, zp_is ts id t ∧ zs_A z ad g1 (zp_ts ts t (false, false, (ts t).2.2)) ∧ ∀ j, 66 ≤ j → g1 j = g j) (fun E g1 => g1 = g ∧ E = "java/lang/IndexOutOfBoundsException" ∧ ∀ t, ¬ zp_is ts id t) := by
  have hA9 := hs
  obtain ⟨h0, ⟨f, hA, hf⟩, hts⟩ := hs
  refine zx_ofv hst pn_T_drop rfl (Nat.le_of_ble_eq_true rfl) (fun X hX C hT => ?_)
  subst hX
  show zj_J X 0 0 _ ad N g 0 [(0, .ref (ad 0)), (1, .int id)] []
  refine zj_aload_n C dc_T_drop_0 rfl 0 rfl ?_
  refine zj_iload_n C dc_T_drop_1 rfl 1 rfl ?_
  refine zx_Vr C (ct_T_existing _ hst z ad N g ts _ hN hA9) gv_T_63 rfl rfl rfl hd_T_existing ⟨(Nat.le_of_ble_eq_true rfl), (Nat.le_of_ble_eq_true rfl)⟩ (by omega) h0 rfl rfl rfl (Nat.le_of_ble_eq_true rfl) ⟨(Nat.le_of_ble_eq_true rfl), (Nat.le_of_ble_eq_true rfl)⟩ dc_T_drop_2 (fun E9 g9 h9 => zx_passv C hT ⟨(Nat.le_of_ble_eq_true rfl), (Nat.le_of_ble_eq_true rfl)⟩ ⟨h9.2.1, h9.1, h9.2.2⟩) (fun k1 g1 h1 => ?_)
  obtain ⟨⟨t, ⟨ht, rfl, hth⟩, rfl⟩, hg1⟩ := h1
  rw [hg1]
  refine zj_Vv C (ct_U_end _ hst z ad N g (2 + 8 * t) _ _ _ _ _ _ _ _ _ (by omega) (hts t ht)) gv_T_67 rfl rfl rfl hd_U_end ⟨(Nat.le_of_ble_eq_true rfl), (Nat.le_of_ble_eq_true rfl)⟩ (by omega) (hts t ht).1 rfl rfl rfl (Nat.le_of_ble_eq_true rfl) ⟨(Nat.le_of_ble_eq_true rfl), (Nat.le_of_ble_eq_true rfl)⟩ dc_T_drop_5 (fun g1 h1 => ?_)
  obtain ⟨b1, b2⟩ := h1
  exact zx_vret C ⟨(Nat.le_of_ble_eq_true rfl), (Nat.le_of_ble_eq_true rfl)⟩ dc_T_drop_8 ⟨t, ⟨ht, rfl, hth⟩, zs_A_put hA9 ht b1 (fun j hj => b2 j (by omega)), fun j hj => b2 j (by omega)⟩
set_option maxHeartbeats 4000000 in
set_option maxRecDepth 100000 in
theorem ct_T_note (l : Launch) (hst : l.stackTraces = false) (z : zv_T) (ad : Nat → Nat) (N : Nat) (g : Nat → va_E) (ts : Nat → zu_S) (id : Int32) (hN : 108 ≤ N) (hs : zs_A z ad g ts) (x y : Int32) (hcn : ∀ t, t < 8 → zu_cn (ts t) ≤ 20) (hlr : ∀ t, t < 8 → zu_lr (ts t) ≤ 8) : zx_i l mn_T_note ws_T_note rm_T_note z ad N g [.ref (ad 0), .int id, .int x, .int y] 3 18 (fun r g1 => ∃ t, zp_is ts id t ∧ zp_no x y ∧ zu_sh (ts t) = false ∧ zu_lr (ts t) = 0 ∧ zu_cn (ts t) < 20 ∧ r = nI (zu_cn (ts t) + 1) ∧ zs_A z ad g1 (zp_ts ts t ((ts t).1, (ts t).2.1, zu_lr (ts t), zu_cn (ts t) + 1, upd (zu_p (ts t)) (zu_cn (ts t)) x, upd (zu_q (ts t)) (zu_cn (ts t)) y, (ts t).2.2.2.2.2.2)) ∧ ∀ j, 66 ≤ j → g1 j = g j) (fun E g1 => g1 = g ∧ ((E = "java/lang/IndexOutOfBoundsException" ∧ ∀ t, ¬ zp_is ts id t) ∨ (E = "java/lang/IllegalArgumentException" ∧ (∃ t, zp_is ts id t) ∧ ¬ zp_no x y) ∨ (E = "java/lang/IllegalStateException" ∧ (∃ t, zp_is ts id t ∧ (zu_sh (ts t) = true ∨ 0 < zu_lr (ts t) ∨ 20 ≤ zu_cn (ts t))) ∧ zp_no x y))) := by
  have hA9 := hs
  obtain ⟨h0, ⟨f, hA, hf⟩, hts⟩ := hs
  refine zx_ofi hst pn_T_note rfl (Nat.le_of_ble_eq_true rfl) (fun X hX C hT => ?_)
  subst hX
  show zj_J X 0 0 _ ad N g 0 [(0, .ref (ad 0)), (1, .int id), (2, .int x), (3, .int y)] []
  refine zj_aload_n C dc_T_note_0 rfl 0 rfl ?_
  refine zj_iload_n C dc_T_note_1 rfl 1 rfl ?_
  refine zx_Vr C (ct_T_existing _ hst z ad N g ts _ hN hA9) gv_T_63 rfl rfl rfl hd_T_existing ⟨(Nat.le_of_ble_eq_true rfl), (Nat.le_of_ble_eq_true rfl)⟩ (by omega) h0 rfl rfl rfl (Nat.le_of_ble_eq_true rfl) ⟨(Nat.le_of_ble_eq_true rfl), (Nat.le_of_ble_eq_true rfl)⟩ dc_T_note_2 (fun E9 g9 h9 => zx_passi C hT ⟨(Nat.le_of_ble_eq_true rfl), (Nat.le_of_ble_eq_true rfl)⟩ ⟨h9.2.1, Or.inl ⟨h9.1, h9.2.2⟩⟩) (fun k1 g1 h1 => ?_)
  obtain ⟨⟨t, ⟨ht, rfl, hth⟩, rfl⟩, hg1⟩ := h1
  rw [hg1]
  refine zj_astore C dc_T_note_5 (by decide) rfl ?_
  refine zj_iload_n C dc_T_note_7 rfl 3 rfl ?_
  refine zj_iload_n C dc_T_note_8 rfl 4 rfl ?_
  refine zx_Sv C (ct_T_refuseUnlessNote _ hst z ad N g x y) gv_T_70 rfl rfl rfl hd_T_refuseUnlessNote ⟨(Nat.le_of_ble_eq_true rfl), (Nat.le_of_ble_eq_true rfl)⟩ rfl rfl (Nat.le_of_ble_eq_true rfl) ⟨(Nat.le_of_ble_eq_true rfl), (Nat.le_of_ble_eq_true rfl)⟩ dc_T_note_9 (fun E9 g9 h9 => zx_passi C hT ⟨(Nat.le_of_ble_eq_true rfl), (Nat.le_of_ble_eq_true rfl)⟩ ⟨h9.2.1, Or.inr (Or.inl ⟨h9.1, ⟨t, ht, rfl, hth⟩, h9.2.2⟩)⟩) (fun g1 h1 => ?_)
  obtain ⟨hno, hg1⟩ := h1
  rw [hg1]
  have hc9 := hcn t ht
  have hl9 := hlr t ht
  refine zj_aload C dc_T_note_12 0 rfl ?_
  refine zj_get (k := 4) C (by omega) (hts t ht).1 rfl (by decide) fw_U fl_T_74 rfl rfl dc_T_note_14 ?_
  refine zj_if_ne C dc_T_note_17 rfl (fun a1 => ?_) (fun a1 => ?_)
  · have a1 := zb_i1 a1
    exact zx_throwi (names := xt_ns) C hT xt_fit_IllegalStateException xt_nf cl_T_57 ini_IllegalStateException xt_at_IllegalStateException xt_bd_IllegalStateException ins_IllegalStateException xt_ok_IllegalStateException dc_T_note_41 dc_T_note_44 dc_T_note_45 dc_T_note_48 ⟨(Nat.le_of_ble_eq_true rfl), (Nat.le_of_ble_eq_true rfl), (Nat.le_of_ble_eq_true rfl), (Nat.le_of_ble_eq_true rfl)⟩ ⟨(Nat.le_of_ble_eq_true rfl), (Nat.le_of_ble_eq_true rfl)⟩ ⟨rfl, Or.inr (Or.inr ⟨rfl, ⟨t, ⟨ht, rfl, hth⟩, Or.inl a1⟩, hno⟩)⟩
  · have a1 := zb_i0 a1
    refine zj_aload C dc_T_note_20 0 rfl ?_
    refine zj_get (k := 5) C (by omega) (hts t ht).1 rfl (by decide) fw_U fl_T_77 rfl rfl dc_T_note_22 ?_
    refine zj_if_gt C dc_T_note_25 rfl (fun a2 => ?_) (fun a2 => ?_)
    · have a2 := (zn_lt0 (by omega)).mp a2
      exact zx_throwi (names := xt_ns) C hT xt_fit_IllegalStateException xt_nf cl_T_57 ini_IllegalStateException xt_at_IllegalStateException xt_bd_IllegalStateException ins_IllegalStateException xt_ok_IllegalStateException dc_T_note_41 dc_T_note_44 dc_T_note_45 dc_T_note_48 ⟨(Nat.le_of_ble_eq_true rfl), (Nat.le_of_ble_eq_true rfl), (Nat.le_of_ble_eq_true rfl), (Nat.le_of_ble_eq_true rfl)⟩ ⟨(Nat.le_of_ble_eq_true rfl), (Nat.le_of_ble_eq_true rfl)⟩ ⟨rfl, Or.inr (Or.inr ⟨rfl, ⟨t, ⟨ht, rfl, hth⟩, Or.inr (Or.inl a2)⟩, hno⟩)⟩
    · have a2 : zu_lr (ts t) = 0 := Nat.eq_zero_of_not_pos (fun e => a2 ((zn_lt0 (by omega)).mpr e))
      refine zj_aload C dc_T_note_28 0 rfl ?_
      refine zj_get (k := 0) C (by omega) (hts t ht).1 rfl (by decide) fw_U fl_T_81 rfl rfl dc_T_note_30 ?_
      refine zj_get (k := 2) C (by omega) (hts t ht).2.1.1 rfl (by decide) fw_N fl_T_84 rfl rfl dc_T_note_33 ?_
      refine zj_bipush (v := 20) C dc_T_note_36 (by decide) ?_
      refine zj_icmp_lt C dc_T_note_38 rfl (fun a3 => ?_) (fun a3 => ?_)
      · have a3 := (nI_ltI (b := 20) (by omega) (by omega)).mp a3
        refine zj_aload C dc_T_note_49 0 rfl ?_
        refine zj_get (k := 0) C (by omega) (hts t ht).1 rfl (by decide) fw_U fl_T_81 rfl rfl dc_T_note_51 ?_
        refine zj_iload_n C dc_T_note_54 rfl 3 rfl ?_
        refine zj_iload_n C dc_T_note_55 rfl 4 rfl ?_
        refine zj_Vi C (ct_N_append _ hst z ad N g (2 + 8 * t + 1) 20 _ _ _ (by omega) (hts t ht).2.1 (by decide) x y a3) gv_T_87 rfl rfl rfl hd_N_append ⟨(Nat.le_of_ble_eq_true rfl), (Nat.le_of_ble_eq_true rfl)⟩ (by omega) (hts t ht).2.1.1 rfl rfl rfl (Nat.le_of_ble_eq_true rfl) ⟨(Nat.le_of_ble_eq_true rfl), (Nat.le_of_ble_eq_true rfl)⟩ dc_T_note_56 (fun r1 g1 h1 => ?_)
        obtain ⟨rfl, rfl⟩ := h1
        exact zx_iret C ⟨(Nat.le_of_ble_eq_true rfl), (Nat.le_of_ble_eq_true rfl)⟩ dc_T_note_59 ⟨t, ⟨ht, rfl, hth⟩, hno, a1, a2, a3, rfl, zs_A_put hA9 ht ⟨(by (repeat rw [va_up_ne _ _ (by omega)]); exact (hts t ht).1), ⟨va_up_self _ _ _, (by (repeat rw [va_up_ne _ _ (by omega)]); exact va_up_self _ _ _), (by (repeat rw [va_up_ne _ _ (by omega)]); exact va_up_self _ _ _)⟩, (by (repeat rw [va_up_ne _ _ (by omega)]); exact (hts t ht).2.2.1), (by (repeat rw [va_up_ne _ _ (by omega)]); exact (hts t ht).2.2.2.1), (by (repeat rw [va_up_ne _ _ (by omega)]); exact (hts t ht).2.2.2.2.1), (by (repeat rw [va_up_ne _ _ (by omega)]); exact (hts t ht).2.2.2.2.2)⟩ (fun j hj => by (repeat rw [va_up_ne _ _ (by omega)])), fun j hj => by (repeat rw [va_up_ne _ _ (by omega)])⟩
      · have a3 := (zn_nlt (b := 20) (by omega) (by omega)).mp a3
        exact zx_throwi (names := xt_ns) C hT xt_fit_IllegalStateException xt_nf cl_T_57 ini_IllegalStateException xt_at_IllegalStateException xt_bd_IllegalStateException ins_IllegalStateException xt_ok_IllegalStateException dc_T_note_41 dc_T_note_44 dc_T_note_45 dc_T_note_48 ⟨(Nat.le_of_ble_eq_true rfl), (Nat.le_of_ble_eq_true rfl), (Nat.le_of_ble_eq_true rfl), (Nat.le_of_ble_eq_true rfl)⟩ ⟨(Nat.le_of_ble_eq_true rfl), (Nat.le_of_ble_eq_true rfl)⟩ ⟨rfl, Or.inr (Or.inr ⟨rfl, ⟨t, ⟨ht, rfl, hth⟩, Or.inr (Or.inr a3)⟩, hno⟩)⟩
set_option maxHeartbeats 4000000 in
set_option maxRecDepth 100000 in
theorem ct_T_show (l : Launch) (hst : l.stackTraces = false) (z : zv_T) (ad : Nat → Nat) (N : Nat) (g : Nat → va_E) (ts : Nat → zu_S) (id : Int32) (hN : 108 ≤ N) (hs : zs_A z ad g ts) (on : Bool) (hcn : ∀ t, t < 8 → zu_cn (ts t) ≤ 20) : zx_v l mn_T_show ws_T_show rm_T_show z ad N g [.ref (ad 0), .int id, .int (zb_i on)] 2 12 (fun g1 => ∃ t, zp_is ts id t ∧ ¬ zu_sh (ts t) = on ∧ 2 ≤ zu_cn (ts t) ∧ zs_A z ad g1 (zp_ts ts t ((ts t).1, on, (ts t).2.2)) ∧ ∀ j, 66 ≤ j → g1 j = g j) (fun E g1 => g1 = g ∧ ((E = "java/lang/IndexOutOfBoundsException" ∧ ∀ t, ¬ zp_is ts id t) ∨ (E = "java/lang/IllegalStateException" ∧ ∃ t, zp_is ts id t ∧ (zu_sh (ts t) = on ∨ zu_cn (ts t) < 2)))) := by
  have hA9 := hs
  obtain ⟨h0, ⟨f, hA, hf⟩, hts⟩ := hs
  refine zx_ofv hst pn_T_show rfl (Nat.le_of_ble_eq_true rfl) (fun X hX C hT => ?_)
  subst hX
  show zj_J X 0 0 _ ad N g 0 [(0, .ref (ad 0)), (1, .int id), (2, .int (zb_i on))] []
  refine zj_aload_n C dc_T_show_0 rfl 0 rfl ?_
  refine zj_iload_n C dc_T_show_1 rfl 1 rfl ?_
  refine zx_Vr C (ct_T_existing _ hst z ad N g ts _ hN hA9) gv_T_63 rfl rfl rfl hd_T_existing ⟨(Nat.le_of_ble_eq_true rfl), (Nat.le_of_ble_eq_true rfl)⟩ (by omega) h0 rfl rfl rfl (Nat.le_of_ble_eq_true rfl) ⟨(Nat.le_of_ble_eq_true rfl), (Nat.le_of_ble_eq_true rfl)⟩ dc_T_show_2 (fun E9 g9 h9 => zx_passv C hT ⟨(Nat.le_of_ble_eq_true rfl), (Nat.le_of_ble_eq_true rfl)⟩ ⟨h9.2.1, Or.inl ⟨h9.1, h9.2.2⟩⟩) (fun k1 g1 h1 => ?_)
  obtain ⟨⟨t, ⟨ht, rfl, hth⟩, rfl⟩, hg1⟩ := h1
  rw [hg1]
  have hc9 := hcn t ht
  refine zj_astore_n C dc_T_show_5 rfl (by decide) rfl ?_
  refine zj_aload_n C dc_T_show_6 rfl 0 rfl ?_
  refine zj_get (k := 4) C (by omega) (hts t ht).1 rfl (by decide) fw_U fl_T_74 rfl rfl dc_T_show_7 ?_
  refine zj_iload_n C dc_T_show_10 rfl 3 rfl ?_
  refine zj_icmp_eq C dc_T_show_11 rfl (fun a1 => ?_) (fun a1 => ?_)
  · have a1 := zb_inj.mp a1
    exact zx_throwv (names := xt_ns) C hT xt_fit_IllegalStateException xt_nf cl_T_57 ini_IllegalStateException xt_at_IllegalStateException xt_bd_IllegalStateException ins_IllegalStateException xt_ok_IllegalStateException dc_T_show_25 dc_T_show_28 dc_T_show_29 dc_T_show_32 ⟨(Nat.le_of_ble_eq_true rfl), (Nat.le_of_ble_eq_true rfl), (Nat.le_of_ble_eq_true rfl), (Nat.le_of_ble_eq_true rfl)⟩ ⟨(Nat.le_of_ble_eq_true rfl), (Nat.le_of_ble_eq_true rfl)⟩ ⟨rfl, Or.inr ⟨rfl, t, ⟨ht, rfl, hth⟩, Or.inl a1⟩⟩
  · have a1 := fun e => a1 (zb_inj.mpr e)
    refine zj_aload_n C dc_T_show_14 rfl 0 rfl ?_
    refine zj_get (k := 0) C (by omega) (hts t ht).1 rfl (by decide) fw_U fl_T_81 rfl rfl dc_T_show_15 ?_
    refine zj_get (k := 2) C (by omega) (hts t ht).2.1.1 rfl (by decide) fw_N fl_T_84 rfl rfl dc_T_show_18 ?_
    refine zj_iconst (v := 2) C dc_T_show_21 (by decide) ?_
    refine zj_icmp_ge C dc_T_show_22 rfl (fun a2 => ?_) (fun a2 => ?_)
    · have a2 := (nI_leI (a := 2) (by omega) (by omega)).mp a2
      refine zj_aload_n C dc_T_show_33 rfl 0 rfl ?_
      refine zj_iload_n C dc_T_show_34 rfl 3 rfl ?_
      refine zj_put (k := 4) C (by omega) (hts t ht).1 rfl (by decide) fw_U fl_T_74 rfl fy_U fk_U fn_U rfl (by cases on <;> rfl) (by cases on <;> rfl) (Nat.le_of_ble_eq_true rfl) rfl dc_T_show_35 ?_
      exact zx_vret C ⟨(Nat.le_of_ble_eq_true rfl), (Nat.le_of_ble_eq_true rfl)⟩ dc_T_show_38 ⟨t, ⟨ht, rfl, hth⟩, a1, a2, zs_A_put hA9 ht ⟨va_up_self _ _ _, zs_N_fr (hts t ht).2.1 (fun j h1 h2 => va_up_ne _ _ (by omega)), (by (repeat rw [va_up_ne _ _ (by omega)]); exact (hts t ht).2.2.1), zs_N_fr (hts t ht).2.2.2 (fun j h1 h2 => va_up_ne _ _ (by omega))⟩ (fun j hj => va_up_ne _ _ (by omega)), fun j hj => va_up_ne _ _ (by omega)⟩
    · have a2 := (zn_nle (a := 2) (by omega) (by omega)).mp a2
      exact zx_throwv (names := xt_ns) C hT xt_fit_IllegalStateException xt_nf cl_T_57 ini_IllegalStateException xt_at_IllegalStateException xt_bd_IllegalStateException ins_IllegalStateException xt_ok_IllegalStateException dc_T_show_25 dc_T_show_28 dc_T_show_29 dc_T_show_32 ⟨(Nat.le_of_ble_eq_true rfl), (Nat.le_of_ble_eq_true rfl), (Nat.le_of_ble_eq_true rfl), (Nat.le_of_ble_eq_true rfl)⟩ ⟨(Nat.le_of_ble_eq_true rfl), (Nat.le_of_ble_eq_true rfl)⟩ ⟨rfl, Or.inr ⟨rfl, t, ⟨ht, rfl, hth⟩, Or.inr a2⟩⟩
set_option maxHeartbeats 4000000 in
set_option maxRecDepth 100000 in
theorem ct_T_correct (l : Launch) (hst : l.stackTraces = false) (z : zv_T) (ad : Nat → Nat) (N : Nat) (g : Nat → va_E) (ts : Nat → zu_S) (id : Int32) (hN : 108 ≤ N) (hs : zs_A z ad g ts) (pl x y : Int32) (hcn : ∀ t, t < 8 → zu_cn (ts t) ≤ 20) (hlr : ∀ t, t < 8 → zu_lr (ts t) ≤ 8) : zx_i l mn_T_correct ws_T_correct rm_T_correct z ad N g [.ref (ad 0), .int id, .int pl, .int x, .int y] 4 24 (fun r g1 => ∃ t k, zp_is ts id t ∧ k < zu_cn (ts t) ∧ pl = nI k ∧ zp_no x y ∧ zu_lr (ts t) < 8 ∧ r = nI (zu_lr (ts t) + 1) ∧ zs_A z ad g1 (zp_ts ts t ((ts t).1, (ts t).2.1, zu_lr (ts t) + 1, zu_cn (ts t), upd (zu_p (ts t)) k x, upd (zu_q (ts t)) k y, upd (zu_pr (ts t)) (zu_lr (ts t)) (nI k), upd (zu_rp (ts t)) (zu_lr (ts t)) (zu_p (ts t) k), upd (zu_rq (ts t)) (zu_lr (ts t)) (zu_q (ts t) k))) ∧ ∀ j, 66 ≤ j → g1 j = g j) (fun E g1 => g1 = g ∧ ((E = "java/lang/IndexOutOfBoundsException" ∧ ((∀ t, ¬ zp_is ts id t) ∨ ∃ t, zp_is ts id t ∧ ∀ k, k < zu_cn (ts t) → ¬ pl = nI k)) ∨ (E = "java/lang/IllegalArgumentException" ∧ (∃ t k, zp_is ts id t ∧ k < zu_cn (ts t) ∧ pl = nI k) ∧ ¬ zp_no x y) ∨ (E = "java/lang/IllegalStateException" ∧ ∃ t k, zp_is ts id t ∧ k < zu_cn (ts t) ∧ pl = nI k ∧ zp_no x y ∧ zu_lr (ts t) = 8))) := by
  have hA9 := hs
  obtain ⟨h0, ⟨f, hA, hf⟩, hts⟩ := hs
  refine zx_ofi hst pn_T_correct rfl (Nat.le_of_ble_eq_true rfl) (fun X hX C hT => ?_)
  subst hX
  show zj_J X 0 0 _ ad N g 0 [(0, .ref (ad 0)), (1, .int id), (2, .int pl), (3, .int x), (4, .int y)] []
  refine zj_aload_n C dc_T_correct_0 rfl 0 rfl ?_
  refine zj_iload_n C dc_T_correct_1 rfl 1 rfl ?_
  refine zx_Vr C (ct_T_existing _ hst z ad N g ts _ hN hA9) gv_T_63 rfl rfl rfl hd_T_existing ⟨(Nat.le_of_ble_eq_true rfl), (Nat.le_of_ble_eq_true rfl)⟩ (by omega) h0 rfl rfl rfl (Nat.le_of_ble_eq_true rfl) ⟨(Nat.le_of_ble_eq_true rfl), (Nat.le_of_ble_eq_true rfl)⟩ dc_T_correct_2 (fun E9 g9 h9 => zx_passi C hT ⟨(Nat.le_of_ble_eq_true rfl), (Nat.le_of_ble_eq_true rfl)⟩ ⟨h9.2.1, Or.inl ⟨h9.1, Or.inl h9.2.2⟩⟩) (fun k1 g1 h1 => ?_)
  obtain ⟨⟨t, ⟨ht, rfl, hth⟩, rfl⟩, hg1⟩ := h1
  rw [hg1]
  have hc9 := hcn t ht
  have hl9 := hlr t ht
  refine zj_astore C dc_T_correct_5 (by decide) rfl ?_
  refine zj_aload C dc_T_correct_7 0 rfl ?_
  refine zj_iload_n C dc_T_correct_9 rfl 3 rfl ?_
  refine zx_Sv C (ct_T_refuseUnlessPlace _ hst z ad N g (2 + 8 * t) (ts t) (by omega) (hts t ht) pl hc9) gv_T_91 rfl rfl rfl hd_T_refuseUnlessPlace ⟨(Nat.le_of_ble_eq_true rfl), (Nat.le_of_ble_eq_true rfl)⟩ rfl rfl (Nat.le_of_ble_eq_true rfl) ⟨(Nat.le_of_ble_eq_true rfl), (Nat.le_of_ble_eq_true rfl)⟩ dc_T_correct_10 (fun E9 g9 h9 => zx_passi C hT ⟨(Nat.le_of_ble_eq_true rfl), (Nat.le_of_ble_eq_true rfl)⟩ ⟨h9.2.1, Or.inl ⟨h9.1, Or.inr ⟨t, ⟨ht, rfl, hth⟩, h9.2.2⟩⟩⟩) (fun g1 h1 => ?_)
  obtain ⟨⟨k, hk, rfl⟩, hg2⟩ := h1
  rw [hg2]
  refine zj_iload_n C dc_T_correct_13 rfl 4 rfl ?_
  refine zj_iload C dc_T_correct_14 5 rfl ?_
  refine zx_Sv C (ct_T_refuseUnlessNote _ hst z ad N g x y) gv_T_70 rfl rfl rfl hd_T_refuseUnlessNote ⟨(Nat.le_of_ble_eq_true rfl), (Nat.le_of_ble_eq_true rfl)⟩ rfl rfl (Nat.le_of_ble_eq_true rfl) ⟨(Nat.le_of_ble_eq_true rfl), (Nat.le_of_ble_eq_true rfl)⟩ dc_T_correct_16 (fun E9 g9 h9 => zx_passi C hT ⟨(Nat.le_of_ble_eq_true rfl), (Nat.le_of_ble_eq_true rfl)⟩ ⟨h9.2.1, Or.inr (Or.inl ⟨h9.1, ⟨t, k, ⟨ht, rfl, hth⟩, hk, rfl⟩, h9.2.2⟩)⟩) (fun g1 h1 => ?_)
  obtain ⟨hno, hg3⟩ := h1
  rw [hg3]
  refine zj_aload C dc_T_correct_19 0 rfl ?_
  refine zj_get (k := 5) C (by omega) (hts t ht).1 rfl (by decide) fw_U fl_T_77 rfl rfl dc_T_correct_21 ?_
  refine zj_iconst (v := 1) C dc_T_correct_24 (by decide) ?_
  refine zj_iadd C dc_T_correct_25 ?_
  refine zj_topi (nI_1 _) ?_
  refine zj_bipush (v := 9) C dc_T_correct_26 (by decide) ?_
  refine zj_icmp_lt C dc_T_correct_28 rfl (fun a1 => ?_) (fun a1 => ?_)
  · have a1 := (nI_ltI (b := 9) (by omega) (by omega)).mp a1
    refine zj_aload C dc_T_correct_39 0 rfl ?_
    refine zj_iload_n C dc_T_correct_41 rfl 3 rfl ?_
    refine zj_iload_n C dc_T_correct_42 rfl 4 rfl ?_
    refine zj_iload C dc_T_correct_43 5 rfl ?_
    refine zj_Vi C (ct_U_replace _ hst z ad N g (2 + 8 * t) _ _ _ _ _ _ _ _ _ (by omega) (hts t ht) k x y (by omega) (by omega)) gv_T_95 rfl rfl rfl hd_U_replace ⟨(Nat.le_of_ble_eq_true rfl), (Nat.le_of_ble_eq_true rfl)⟩ (by omega) (hts t ht).1 rfl rfl rfl (Nat.le_of_ble_eq_true rfl) ⟨(Nat.le_of_ble_eq_true rfl), (Nat.le_of_ble_eq_true rfl)⟩ dc_T_correct_45 (fun r1 g1 h1 => ?_)
    obtain ⟨rfl, b1, b2⟩ := h1
    exact zx_iret C ⟨(Nat.le_of_ble_eq_true rfl), (Nat.le_of_ble_eq_true rfl)⟩ dc_T_correct_48 ⟨t, k, ⟨ht, rfl, hth⟩, hk, rfl, hno, by omega, rfl, zs_A_put hA9 ht b1 (fun j hj => b2 j (by omega)), fun j hj => b2 j (by omega)⟩
  · have a1 := (zn_nlt (b := 9) (by omega) (by omega)).mp a1
    exact zx_throwi (names := xt_ns) C hT xt_fit_IllegalStateException xt_nf cl_T_57 ini_IllegalStateException xt_at_IllegalStateException xt_bd_IllegalStateException ins_IllegalStateException xt_ok_IllegalStateException dc_T_correct_31 dc_T_correct_34 dc_T_correct_35 dc_T_correct_38 ⟨(Nat.le_of_ble_eq_true rfl), (Nat.le_of_ble_eq_true rfl), (Nat.le_of_ble_eq_true rfl), (Nat.le_of_ble_eq_true rfl)⟩ ⟨(Nat.le_of_ble_eq_true rfl), (Nat.le_of_ble_eq_true rfl)⟩ ⟨rfl, Or.inr (Or.inr ⟨rfl, t, k, ⟨ht, rfl, hth⟩, hk, rfl, hno, by omega⟩)⟩
set_option maxHeartbeats 4000000 in
set_option maxRecDepth 100000 in
theorem ct_T_restore (l : Launch) (hst : l.stackTraces = false) (z : zv_T) (ad : Nat → Nat) (N : Nat) (g : Nat → va_E) (ts : Nat → zu_S) (id : Int32) (hN : 108 ≤ N) (hs : zs_A z ad g ts) (rd : Int32) (hlr : ∀ t, t < 8 → zu_lr (ts t) ≤ 8) (hpl : ∀ t, t < 8 → ∀ j, j < zu_lr (ts t) → ∃ k, k < 20 ∧ zu_pr (ts t) j = nI k) : zx_v l mn_T_restore ws_T_restore rm_T_restore z ad N g [.ref (ad 0), .int id, .int rd] 2 12 (fun g1 => ∃ t r, zp_is ts id t ∧ r ≤ zu_lr (ts t) ∧ rd = nI r ∧ zs_A z ad g1 (zp_ts ts t ((ts t).1, (ts t).2.1, r, zu_cn (ts t), zp_bk (zu_p (ts t)) (zu_pr (ts t)) (zu_rp (ts t)) (zu_lr (ts t)) (zu_lr (ts t) - r), zp_bk (zu_q (ts t)) (zu_pr (ts t)) (zu_rq (ts t)) (zu_lr (ts t)) (zu_lr (ts t) - r), (ts t).2.2.2.2.2.2)) ∧ ∀ j, 66 ≤ j → g1 j = g j) (fun E g1 => g1 = g ∧ E = "java/lang/IndexOutOfBoundsException" ∧ ((∀ t, ¬ zp_is ts id t) ∨ ∃ t, zp_is ts id t ∧ ∀ k, k ≤ zu_lr (ts t) → ¬ rd = nI k)) := by
  have hA9 := hs
  obtain ⟨h0, ⟨f, hA, hf⟩, hts⟩ := hs
  refine zx_ofv hst pn_T_restore rfl (Nat.le_of_ble_eq_true rfl) (fun X hX C hT => ?_)
  subst hX
  show zj_J X 0 0 _ ad N g 0 [(0, .ref (ad 0)), (1, .int id), (2, .int rd)] []
  refine zj_aload_n C dc_T_restore_0 rfl 0 rfl ?_
  refine zj_iload_n C dc_T_restore_1 rfl 1 rfl ?_
  refine zx_Vr C (ct_T_existing _ hst z ad N g ts _ hN hA9) gv_T_63 rfl rfl rfl hd_T_existing ⟨(Nat.le_of_ble_eq_true rfl), (Nat.le_of_ble_eq_true rfl)⟩ (by omega) h0 rfl rfl rfl (Nat.le_of_ble_eq_true rfl) ⟨(Nat.le_of_ble_eq_true rfl), (Nat.le_of_ble_eq_true rfl)⟩ dc_T_restore_2 (fun E9 g9 h9 => zx_passv C hT ⟨(Nat.le_of_ble_eq_true rfl), (Nat.le_of_ble_eq_true rfl)⟩ ⟨h9.2.1, h9.1, Or.inl h9.2.2⟩) (fun k1 g1 h1 => ?_)
  obtain ⟨⟨t, ⟨ht, rfl, hth⟩, rfl⟩, hg1⟩ := h1
  rw [hg1]
  refine zj_astore_n C dc_T_restore_5 rfl (by decide) rfl ?_
  refine zj_aload_n C dc_T_restore_6 rfl 0 rfl ?_
  refine zj_iload_n C dc_T_restore_7 rfl 3 rfl ?_
  refine zx_Sv C (ct_T_refuseUnlessReading _ hst z ad N g (2 + 8 * t) (ts t) (by omega) (hts t ht) rd (hlr t ht)) gv_T_99 rfl rfl rfl hd_T_refuseUnlessReading ⟨(Nat.le_of_ble_eq_true rfl), (Nat.le_of_ble_eq_true rfl)⟩ rfl rfl (Nat.le_of_ble_eq_true rfl) ⟨(Nat.le_of_ble_eq_true rfl), (Nat.le_of_ble_eq_true rfl)⟩ dc_T_restore_8 (fun E9 g9 h9 => zx_passv C hT ⟨(Nat.le_of_ble_eq_true rfl), (Nat.le_of_ble_eq_true rfl)⟩ ⟨h9.2.1, h9.1, Or.inr ⟨t, ⟨ht, rfl, hth⟩, h9.2.2⟩⟩) (fun g1 h1 => ?_)
  obtain ⟨⟨r, hr, rfl⟩, hg2⟩ := h1
  rw [hg2]
  refine zj_aload_n C dc_T_restore_11 rfl 0 rfl ?_
  refine zj_iload_n C dc_T_restore_12 rfl 3 rfl ?_
  refine zj_Vv C (ct_U_goBack _ hst z ad N g (2 + 8 * t) _ _ _ _ _ _ _ _ _ (by omega) (hts t ht) r hr (hlr t ht) (hpl t ht)) gv_T_102 rfl rfl rfl hd_U_goBack ⟨(Nat.le_of_ble_eq_true rfl), (Nat.le_of_ble_eq_true rfl)⟩ (by omega) (hts t ht).1 rfl rfl rfl (Nat.le_of_ble_eq_true rfl) ⟨(Nat.le_of_ble_eq_true rfl), (Nat.le_of_ble_eq_true rfl)⟩ dc_T_restore_13 (fun g1 h1 => ?_)
  obtain ⟨b1, b2⟩ := h1
  exact zx_vret C ⟨(Nat.le_of_ble_eq_true rfl), (Nat.le_of_ble_eq_true rfl)⟩ dc_T_restore_16 ⟨t, r, ⟨ht, rfl, hth⟩, hr, rfl, zs_A_put hA9 ht b1 (fun j hj => b2 j (by omega)), fun j hj => b2 j (by omega)⟩
set_option maxHeartbeats 4000000 in
set_option maxRecDepth 100000 in
theorem ct_T_about (l : Launch) (hst : l.stackTraces = false) (z : zv_T) (ad : Nat → Nat) (N : Nat) (g : Nat → va_E) (ts : Nat → zu_S) (id : Int32) (hN : 108 ≤ N) (hs : zs_A z ad g ts) (w : Int32) : zx_i l mn_T_about ws_T_about rm_T_about z ad N g [.ref (ad 0), .int id, .int w] 2 12 (fun r g1 => ∃ t, zp_is ts id t ∧ ((w = nI 0 ∧ r = nI (zu_cn (ts t))) ∨ (w = nI 1 ∧ r = zb_i (zu_sh (ts t))) ∨ (w = nI 2 ∧ r = nI (zu_lr (ts t) + 1))) ∧ g1 = g) (fun E g1 => g1 = g ∧ ((E = "java/lang/IndexOutOfBoundsException" ∧ ∀ t, ¬ zp_is ts id t) ∨ (E = "java/lang/IllegalArgumentException" ∧ (∃ t, zp_is ts id t) ∧ ∀ k, k < 3 → ¬ w = nI k))) := by
  have hA9 := hs
  obtain ⟨h0, ⟨f, hA, hf⟩, hts⟩ := hs
  refine zx_ofi hst pn_T_about rfl (Nat.le_of_ble_eq_true rfl) (fun X hX C hT => ?_)
  subst hX
  show zj_J X 0 0 _ ad N g 0 [(0, .ref (ad 0)), (1, .int id), (2, .int w)] []
  refine zj_aload_n C dc_T_about_0 rfl 0 rfl ?_
  refine zj_iload_n C dc_T_about_1 rfl 1 rfl ?_
  refine zx_Vr C (ct_T_existing _ hst z ad N g ts _ hN hA9) gv_T_63 rfl rfl rfl hd_T_existing ⟨(Nat.le_of_ble_eq_true rfl), (Nat.le_of_ble_eq_true rfl)⟩ (by omega) h0 rfl rfl rfl (Nat.le_of_ble_eq_true rfl) ⟨(Nat.le_of_ble_eq_true rfl), (Nat.le_of_ble_eq_true rfl)⟩ dc_T_about_2 (fun E9 g9 h9 => zx_passi C hT ⟨(Nat.le_of_ble_eq_true rfl), (Nat.le_of_ble_eq_true rfl)⟩ ⟨h9.2.1, Or.inl ⟨h9.1, h9.2.2⟩⟩) (fun k1 g1 h1 => ?_)
  obtain ⟨⟨t, ⟨ht, rfl, hth⟩, rfl⟩, hg1⟩ := h1
  rw [hg1]
  refine zj_astore_n C dc_T_about_5 rfl (by decide) rfl ?_
  refine zj_iload_n C dc_T_about_6 rfl 3 rfl ?_
  rcases zp_sw3 w with rfl | rfl | rfl | hw
  · refine zj_tableIn C dc_T_about_7 (by decide) (by decide) rfl rfl ?_
    refine zj_aload_n C dc_T_about_32 rfl 0 rfl ?_
    refine zj_get (k := 0) C (by omega) (hts t ht).1 rfl (by decide) fw_U fl_T_81 rfl rfl dc_T_about_33 ?_
    refine zj_get (k := 2) C (by omega) (hts t ht).2.1.1 rfl (by decide) fw_N fl_T_84 rfl rfl dc_T_about_36 ?_
    exact zx_iret C ⟨(Nat.le_of_ble_eq_true rfl), (Nat.le_of_ble_eq_true rfl)⟩ dc_T_about_39 ⟨t, ⟨ht, rfl, hth⟩, Or.inl ⟨rfl, rfl⟩, rfl⟩
  · refine zj_tableIn C dc_T_about_7 (by decide) (by decide) rfl rfl ?_
    refine zj_aload_n C dc_T_about_40 rfl 0 rfl ?_
    refine zj_get (k := 4) C (by omega) (hts t ht).1 rfl (by decide) fw_U fl_T_74 rfl rfl dc_T_about_41 ?_
    refine zj_if_eq C dc_T_about_44 rfl (fun a1 => ?_) (fun a1 => ?_)
    · have a1 := zb_i0 a1
      refine zj_iconst (v := 0) C dc_T_about_51 (by decide) ?_
      exact zx_iret C ⟨(Nat.le_of_ble_eq_true rfl), (Nat.le_of_ble_eq_true rfl)⟩ dc_T_about_52 ⟨t, ⟨ht, rfl, hth⟩, Or.inr (Or.inl ⟨rfl, by rw [a1]; rfl⟩), rfl⟩
    · have a1 := zb_i1 a1
      refine zj_iconst (v := 1) C dc_T_about_47 (by decide) ?_
      refine zj_goto C dc_T_about_48 rfl ?_
      exact zx_iret C ⟨(Nat.le_of_ble_eq_true rfl), (Nat.le_of_ble_eq_true rfl)⟩ dc_T_about_52 ⟨t, ⟨ht, rfl, hth⟩, Or.inr (Or.inl ⟨rfl, by rw [a1]; rfl⟩), rfl⟩
  · refine zj_tableIn C dc_T_about_7 (by decide) (by decide) rfl rfl ?_
    refine zj_aload_n C dc_T_about_53 rfl 0 rfl ?_
    refine zj_get (k := 5) C (by omega) (hts t ht).1 rfl (by decide) fw_U fl_T_77 rfl rfl dc_T_about_54 ?_
    refine zj_iconst (v := 1) C dc_T_about_57 (by decide) ?_
    refine zj_iadd C dc_T_about_58 ?_
    refine zj_topi (nI_1 _) ?_
    exact zx_iret C ⟨(Nat.le_of_ble_eq_true rfl), (Nat.le_of_ble_eq_true rfl)⟩ dc_T_about_59 ⟨t, ⟨ht, rfl, hth⟩, Or.inr (Or.inr ⟨rfl, rfl⟩), rfl⟩
  · refine zj_tableOut C dc_T_about_7 hw rfl ?_
    exact zx_throwi (names := xt_ns) C hT xt_fit_IllegalArgumentException xt_nf cl_T_114 ini_IllegalArgumentException xt_at_IllegalArgumentException xt_bd_IllegalArgumentException ins_IllegalArgumentException xt_ok_IllegalArgumentException dc_T_about_60 dc_T_about_63 dc_T_about_64 dc_T_about_67 ⟨(Nat.le_of_ble_eq_true rfl), (Nat.le_of_ble_eq_true rfl), (Nat.le_of_ble_eq_true rfl), (Nat.le_of_ble_eq_true rfl)⟩ ⟨(Nat.le_of_ble_eq_true rfl), (Nat.le_of_ble_eq_true rfl)⟩ ⟨rfl, Or.inr ⟨rfl, ⟨t, ht, rfl, hth⟩, zp_sw3n hw⟩⟩
end ZP1
end
section
section ZP2
set_option maxHeartbeats 4000000 in
set_option maxRecDepth 100000 in
theorem ct_T_at (l : Launch) (hst : l.stackTraces = false) (z : zv_T) (ad : Nat → Nat) (N : Nat) (g : Nat → va_E) (ts : Nat → zu_S) (id : Int32) (hN : 108 ≤ N) (hs : zs_A z ad g ts) (pl w rd : Int32) (hcn : ∀ t, t < 8 → zu_cn (ts t) ≤ 20) (hlr : ∀ t, t < 8 → zu_lr (ts t) ≤ 8) : zx_i l mn_T_at ws_T_at rm_T_at z ad N g [.ref (ad 0), .int id, .int pl, .int w, .int rd] 4 24 (fun v g1 => ∃ t k r, zp_is ts id t ∧ k < zu_cn (ts t) ∧ pl = nI k ∧ r ≤ zu_lr (ts t) ∧ ((rd = -1 ∧ r = zu_lr (ts t)) ∨ rd = nI r) ∧ ((w = nI 0 ∧ v = zp_in (zu_p (ts t)) (zu_rp (ts t)) (zp_ra (zu_pr (ts t)) (nI (k)) r (zu_lr (ts t) - r)) (k)) ∨ (w = nI 1 ∧ v = zp_in (zu_q (ts t)) (zu_rq (ts t)) (zp_ra (zu_pr (ts t)) (nI (k)) r (zu_lr (ts t) - r)) (k)) ∨ (w = nI 2 ∧ v = (if k + 1 < zu_cn (ts t) then zp_in (zu_p (ts t)) (zu_rp (ts t)) (zp_ra (zu_pr (ts t)) (nI (k + 1)) r (zu_lr (ts t) - r)) (k + 1) - zp_in (zu_p (ts t)) (zu_rp (ts t)) (zp_ra (zu_pr (ts t)) (nI (k)) r (zu_lr (ts t) - r)) (k) else 0))) ∧ g1 = g) (fun E g1 => g1 = g ∧ ((E = "java/lang/IndexOutOfBoundsException" ∧ ((∀ t, ¬ zp_is ts id t) ∨ (∃ t, zp_is ts id t ∧ ∀ k, k < zu_cn (ts t) → ¬ pl = nI k) ∨ ∃ t k, zp_is ts id t ∧ k < zu_cn (ts t) ∧ pl = nI k ∧ ¬ rd = -1 ∧ ∀ r, r ≤ zu_lr (ts t) → ¬ rd = nI r)) ∨ (E = "java/lang/IllegalArgumentException" ∧ (∃ t k r, zp_is ts id t ∧ k < zu_cn (ts t) ∧ pl = nI k ∧ r ≤ zu_lr (ts t) ∧ ((rd = -1 ∧ r = zu_lr (ts t)) ∨ rd = nI r)) ∧ ∀ k, k < 3 → ¬ w = nI k))) := by
  have hA9 := hs
  obtain ⟨h0, ⟨f, hA, hf⟩, hts⟩ := hs
  refine zx_ofi hst pn_T_at rfl (Nat.le_of_ble_eq_true rfl) (fun X hX C hT => ?_)
  subst hX
  show zj_J X 0 0 _ ad N g 0 [(0, .ref (ad 0)), (1, .int id), (2, .int pl), (3, .int w), (4, .int rd)] []
  refine zj_aload_n C dc_T_at_0 rfl 0 rfl ?_
  refine zj_iload_n C dc_T_at_1 rfl 1 rfl ?_
  refine zx_Vr C (ct_T_existing _ hst z ad N g ts _ hN hA9) gv_T_63 rfl rfl rfl hd_T_existing ⟨(Nat.le_of_ble_eq_true rfl), (Nat.le_of_ble_eq_true rfl)⟩ (by omega) h0 rfl rfl rfl (Nat.le_of_ble_eq_true rfl) ⟨(Nat.le_of_ble_eq_true rfl), (Nat.le_of_ble_eq_true rfl)⟩ dc_T_at_2 (fun E9 g9 h9 => zx_passi C hT ⟨(Nat.le_of_ble_eq_true rfl), (Nat.le_of_ble_eq_true rfl)⟩ ⟨h9.2.1, Or.inl ⟨h9.1, Or.inl h9.2.2⟩⟩) (fun k1 g1 h1 => ?_)
  obtain ⟨⟨t, ⟨ht, rfl, hth⟩, rfl⟩, hg1⟩ := h1
  rw [hg1]
  have hc9 := hcn t ht
  have hl9 := hlr t ht
  refine zj_astore C dc_T_at_5 (by decide) rfl ?_
  refine zj_aload C dc_T_at_7 0 rfl ?_
  refine zj_iload_n C dc_T_at_9 rfl 3 rfl ?_
  refine zx_Sv C (ct_T_refuseUnlessPlace _ hst z ad N g (2 + 8 * t) (ts t) (by omega) (hts t ht) pl hc9) gv_T_91 rfl rfl rfl hd_T_refuseUnlessPlace ⟨(Nat.le_of_ble_eq_true rfl), (Nat.le_of_ble_eq_true rfl)⟩ rfl rfl (Nat.le_of_ble_eq_true rfl) ⟨(Nat.le_of_ble_eq_true rfl), (Nat.le_of_ble_eq_true rfl)⟩ dc_T_at_10 (fun E9 g9 h9 => zx_passi C hT ⟨(Nat.le_of_ble_eq_true rfl), (Nat.le_of_ble_eq_true rfl)⟩ ⟨h9.2.1, Or.inl ⟨h9.1, Or.inr (Or.inl ⟨t, ⟨ht, rfl, hth⟩, h9.2.2⟩)⟩⟩) (fun g1 h1 => ?_)
  obtain ⟨⟨k, hk, rfl⟩, hg2⟩ := h1
  rw [hg2]
  refine zj_iload C dc_T_at_13 5 rfl ?_
  refine zj_iconst (v := -1) C dc_T_at_15 (by decide) ?_
  refine zj_icmp_ne C dc_T_at_16 rfl (fun a1 => ?_) (fun a1 => ?_)
  · skip
    refine zj_iload C dc_T_at_27 5 rfl ?_
    refine zj_istore C dc_T_at_29 (by decide) rfl ?_
    refine zj_aload C dc_T_at_31 1 rfl ?_
    refine zj_iload C dc_T_at_33 0 rfl ?_
    refine zx_Sv C (ct_T_refuseUnlessReading _ hst z ad N g (2 + 8 * t) (ts t) (by omega) (hts t ht) _ hl9) gv_T_99 rfl rfl rfl hd_T_refuseUnlessReading ⟨(Nat.le_of_ble_eq_true rfl), (Nat.le_of_ble_eq_true rfl)⟩ rfl rfl (Nat.le_of_ble_eq_true rfl) ⟨(Nat.le_of_ble_eq_true rfl), (Nat.le_of_ble_eq_true rfl)⟩ dc_T_at_35 (fun E9 g9 h9 => zx_passi C hT ⟨(Nat.le_of_ble_eq_true rfl), (Nat.le_of_ble_eq_true rfl)⟩ ⟨h9.2.1, Or.inl ⟨h9.1, Or.inr (Or.inr ⟨t, k, ⟨ht, rfl, hth⟩, hk, rfl, a1, h9.2.2⟩)⟩⟩) (fun g1 h1 => ?_)
    obtain ⟨⟨r, hr, rfl⟩, hg3⟩ := h1
    rw [hg3]
    have hrd : (nI r = -1 ∧ r = zu_lr (ts t)) ∨ nI r = nI r := Or.inr rfl
    refine zj_iload_n C dc_T_at_38 rfl 5 rfl ?_
    rcases zp_sw3 w with rfl | rfl | rfl | hw
    · refine zj_tableIn C dc_T_at_39 (by decide) (by decide) rfl rfl ?_
      refine zj_aload C dc_T_at_64 1 rfl ?_
      refine zj_iload C dc_T_at_66 0 rfl ?_
      refine zj_iload_n C dc_T_at_68 rfl 4 rfl ?_
      refine zj_Vi C (ct_U_pitchIn _ hst z ad N g (2 + 8 * t) _ _ _ _ _ _ _ _ _ (by omega) (hts t ht) r k hr hl9 (by omega)) gv_T_105 rfl rfl rfl hd_U_pitchIn ⟨(Nat.le_of_ble_eq_true rfl), (Nat.le_of_ble_eq_true rfl)⟩ (by omega) (hts t ht).1 rfl rfl rfl (Nat.le_of_ble_eq_true rfl) ⟨(Nat.le_of_ble_eq_true rfl), (Nat.le_of_ble_eq_true rfl)⟩ dc_T_at_69 (fun r1 g9 h1 => ?_)
      obtain ⟨rfl, hg9⟩ := h1
      rw [hg9]
      exact zx_iret C ⟨(Nat.le_of_ble_eq_true rfl), (Nat.le_of_ble_eq_true rfl)⟩ dc_T_at_72 ⟨t, k, r, ⟨ht, rfl, hth⟩, hk, rfl, hr, hrd, Or.inl ⟨rfl, rfl⟩, rfl⟩
    · refine zj_tableIn C dc_T_at_39 (by decide) (by decide) rfl rfl ?_
      refine zj_aload C dc_T_at_73 1 rfl ?_
      refine zj_iload C dc_T_at_75 0 rfl ?_
      refine zj_iload_n C dc_T_at_77 rfl 4 rfl ?_
      refine zj_Vi C (ct_U_lengthIn _ hst z ad N g (2 + 8 * t) _ _ _ _ _ _ _ _ _ (by omega) (hts t ht) r k hr hl9 (by omega)) gv_T_108 rfl rfl rfl hd_U_lengthIn ⟨(Nat.le_of_ble_eq_true rfl), (Nat.le_of_ble_eq_true rfl)⟩ (by omega) (hts t ht).1 rfl rfl rfl (Nat.le_of_ble_eq_true rfl) ⟨(Nat.le_of_ble_eq_true rfl), (Nat.le_of_ble_eq_true rfl)⟩ dc_T_at_78 (fun r1 g9 h1 => ?_)
      obtain ⟨rfl, hg9⟩ := h1
      rw [hg9]
      exact zx_iret C ⟨(Nat.le_of_ble_eq_true rfl), (Nat.le_of_ble_eq_true rfl)⟩ dc_T_at_81 ⟨t, k, r, ⟨ht, rfl, hth⟩, hk, rfl, hr, hrd, Or.inr (Or.inl ⟨rfl, rfl⟩), rfl⟩
    · refine zj_tableIn C dc_T_at_39 (by decide) (by decide) rfl rfl ?_
      refine zj_aload C dc_T_at_82 1 rfl ?_
      refine zj_iload C dc_T_at_84 0 rfl ?_
      refine zj_iload_n C dc_T_at_86 rfl 4 rfl ?_
      refine zj_Vi C (ct_U_stepIn _ hst z ad N g (2 + 8 * t) _ _ _ _ _ _ _ _ _ (by omega) (hts t ht) r k hr hl9 (by omega) hc9) gv_T_111 rfl rfl rfl hd_U_stepIn ⟨(Nat.le_of_ble_eq_true rfl), (Nat.le_of_ble_eq_true rfl)⟩ (by omega) (hts t ht).1 rfl rfl rfl (Nat.le_of_ble_eq_true rfl) ⟨(Nat.le_of_ble_eq_true rfl), (Nat.le_of_ble_eq_true rfl)⟩ dc_T_at_87 (fun r1 g9 h1 => ?_)
      obtain ⟨rfl, hg9⟩ := h1
      rw [hg9]
      exact zx_iret C ⟨(Nat.le_of_ble_eq_true rfl), (Nat.le_of_ble_eq_true rfl)⟩ dc_T_at_90 ⟨t, k, r, ⟨ht, rfl, hth⟩, hk, rfl, hr, hrd, Or.inr (Or.inr ⟨rfl, rfl⟩), rfl⟩
    · refine zj_tableOut C dc_T_at_39 hw rfl ?_
      exact zx_throwi (names := xt_ns) C hT xt_fit_IllegalArgumentException xt_nf cl_T_114 ini_IllegalArgumentException xt_at_IllegalArgumentException xt_bd_IllegalArgumentException ins_IllegalArgumentException xt_ok_IllegalArgumentException dc_T_at_91 dc_T_at_94 dc_T_at_95 dc_T_at_98 ⟨(Nat.le_of_ble_eq_true rfl), (Nat.le_of_ble_eq_true rfl), (Nat.le_of_ble_eq_true rfl), (Nat.le_of_ble_eq_true rfl)⟩ ⟨(Nat.le_of_ble_eq_true rfl), (Nat.le_of_ble_eq_true rfl)⟩ ⟨rfl, Or.inr ⟨rfl, ⟨t, k, r, ⟨ht, rfl, hth⟩, hk, rfl, hr, hrd⟩, zp_sw3n hw⟩⟩
  · skip
    refine zj_aload C dc_T_at_19 0 rfl ?_
    refine zj_get (k := 5) C (by omega) (hts t ht).1 rfl (by decide) fw_U fl_T_77 rfl rfl dc_T_at_21 ?_
    refine zj_goto C dc_T_at_24 rfl ?_
    refine zj_istore C dc_T_at_29 (by decide) rfl ?_
    refine zj_aload C dc_T_at_31 1 rfl ?_
    refine zj_iload C dc_T_at_33 0 rfl ?_
    refine zx_Sv C (ct_T_refuseUnlessReading _ hst z ad N g (2 + 8 * t) (ts t) (by omega) (hts t ht) _ hl9) gv_T_99 rfl rfl rfl hd_T_refuseUnlessReading ⟨(Nat.le_of_ble_eq_true rfl), (Nat.le_of_ble_eq_true rfl)⟩ rfl rfl (Nat.le_of_ble_eq_true rfl) ⟨(Nat.le_of_ble_eq_true rfl), (Nat.le_of_ble_eq_true rfl)⟩ dc_T_at_35 (fun E9 g9 h9 => zx_passi C hT ⟨(Nat.le_of_ble_eq_true rfl), (Nat.le_of_ble_eq_true rfl)⟩ ⟨h9.2.1, Or.inl ⟨h9.1, Or.inr (Or.inr ⟨t, k, ⟨ht, rfl, hth⟩, hk, rfl, absurd rfl (h9.2.2 _ (Nat.le_refl _)), absurd rfl (h9.2.2 _ (Nat.le_refl _))⟩)⟩⟩) (fun g1 h1 => ?_)
    obtain ⟨⟨r, hr, hr2⟩, hg3⟩ := h1
    rw [hg3]
    rw [hr2]
    have hrd : (rd = -1 ∧ r = zu_lr (ts t)) ∨ rd = nI r := Or.inl ⟨a1, ((nI_eq (by omega) (by omega)).mp hr2).symm⟩
    refine zj_iload_n C dc_T_at_38 rfl 5 rfl ?_
    rcases zp_sw3 w with rfl | rfl | rfl | hw
    · refine zj_tableIn C dc_T_at_39 (by decide) (by decide) rfl rfl ?_
      refine zj_aload C dc_T_at_64 1 rfl ?_
      refine zj_iload C dc_T_at_66 0 rfl ?_
      refine zj_iload_n C dc_T_at_68 rfl 4 rfl ?_
      refine zj_Vi C (ct_U_pitchIn _ hst z ad N g (2 + 8 * t) _ _ _ _ _ _ _ _ _ (by omega) (hts t ht) r k hr hl9 (by omega)) gv_T_105 rfl rfl rfl hd_U_pitchIn ⟨(Nat.le_of_ble_eq_true rfl), (Nat.le_of_ble_eq_true rfl)⟩ (by omega) (hts t ht).1 rfl rfl rfl (Nat.le_of_ble_eq_true rfl) ⟨(Nat.le_of_ble_eq_true rfl), (Nat.le_of_ble_eq_true rfl)⟩ dc_T_at_69 (fun r1 g9 h1 => ?_)
      obtain ⟨rfl, hg9⟩ := h1
      rw [hg9]
      exact zx_iret C ⟨(Nat.le_of_ble_eq_true rfl), (Nat.le_of_ble_eq_true rfl)⟩ dc_T_at_72 ⟨t, k, r, ⟨ht, rfl, hth⟩, hk, rfl, hr, hrd, Or.inl ⟨rfl, rfl⟩, rfl⟩
    · refine zj_tableIn C dc_T_at_39 (by decide) (by decide) rfl rfl ?_
      refine zj_aload C dc_T_at_73 1 rfl ?_
      refine zj_iload C dc_T_at_75 0 rfl ?_
      refine zj_iload_n C dc_T_at_77 rfl 4 rfl ?_
      refine zj_Vi C (ct_U_lengthIn _ hst z ad N g (2 + 8 * t) _ _ _ _ _ _ _ _ _ (by omega) (hts t ht) r k hr hl9 (by omega)) gv_T_108 rfl rfl rfl hd_U_lengthIn ⟨(Nat.le_of_ble_eq_true rfl), (Nat.le_of_ble_eq_true rfl)⟩ (by omega) (hts t ht).1 rfl rfl rfl (Nat.le_of_ble_eq_true rfl) ⟨(Nat.le_of_ble_eq_true rfl), (Nat.le_of_ble_eq_true rfl)⟩ dc_T_at_78 (fun r1 g9 h1 => ?_)
      obtain ⟨rfl, hg9⟩ := h1
      rw [hg9]
      exact zx_iret C ⟨(Nat.le_of_ble_eq_true rfl), (Nat.le_of_ble_eq_true rfl)⟩ dc_T_at_81 ⟨t, k, r, ⟨ht, rfl, hth⟩, hk, rfl, hr, hrd, Or.inr (Or.inl ⟨rfl, rfl⟩), rfl⟩
    · refine zj_tableIn C dc_T_at_39 (by decide) (by decide) rfl rfl ?_
      refine zj_aload C dc_T_at_82 1 rfl ?_
      refine zj_iload C dc_T_at_84 0 rfl ?_
      refine zj_iload_n C dc_T_at_86 rfl 4 rfl ?_
      refine zj_Vi C (ct_U_stepIn _ hst z ad N g (2 + 8 * t) _ _ _ _ _ _ _ _ _ (by omega) (hts t ht) r k hr hl9 (by omega) hc9) gv_T_111 rfl rfl rfl hd_U_stepIn ⟨(Nat.le_of_ble_eq_true rfl), (Nat.le_of_ble_eq_true rfl)⟩ (by omega) (hts t ht).1 rfl rfl rfl (Nat.le_of_ble_eq_true rfl) ⟨(Nat.le_of_ble_eq_true rfl), (Nat.le_of_ble_eq_true rfl)⟩ dc_T_at_87 (fun r1 g9 h1 => ?_)
      obtain ⟨rfl, hg9⟩ := h1
      rw [hg9]
      exact zx_iret C ⟨(Nat.le_of_ble_eq_true rfl), (Nat.le_of_ble_eq_true rfl)⟩ dc_T_at_90 ⟨t, k, r, ⟨ht, rfl, hth⟩, hk, rfl, hr, hrd, Or.inr (Or.inr ⟨rfl, rfl⟩), rfl⟩
    · refine zj_tableOut C dc_T_at_39 hw rfl ?_
      exact zx_throwi (names := xt_ns) C hT xt_fit_IllegalArgumentException xt_nf cl_T_114 ini_IllegalArgumentException xt_at_IllegalArgumentException xt_bd_IllegalArgumentException ins_IllegalArgumentException xt_ok_IllegalArgumentException dc_T_at_91 dc_T_at_94 dc_T_at_95 dc_T_at_98 ⟨(Nat.le_of_ble_eq_true rfl), (Nat.le_of_ble_eq_true rfl), (Nat.le_of_ble_eq_true rfl), (Nat.le_of_ble_eq_true rfl)⟩ ⟨(Nat.le_of_ble_eq_true rfl), (Nat.le_of_ble_eq_true rfl)⟩ ⟨rfl, Or.inr ⟨rfl, ⟨t, k, r, ⟨ht, rfl, hth⟩, hk, rfl, hr, hrd⟩, zp_sw3n hw⟩⟩
set_option maxHeartbeats 4000000 in
set_option maxRecDepth 100000 in
theorem ct_T_contour (l : Launch) (hst : l.stackTraces = false) (z : zv_T) (ad : Nat → Nat) (N : Nat) (g : Nat → va_E) (ts : Nat → zu_S) (id : Int32) (hN : 108 ≤ N) (hs : zs_A z ad g ts) (i : Int32) (hcn : ∀ t, t < 8 → zu_cn (ts t) ≤ 20) : zx_i l mn_T_contour ws_T_contour rm_T_contour z ad N g [.ref (ad 0), .int id, .int i] 1 6 (fun r g1 => ∃ t, zp_is ts id t ∧ (((∀ k, k + 1 < zu_cn (ts t) → ¬ i = nI k) ∧ r = -1) ∨ ∃ k, k + 1 < zu_cn (ts t) ∧ i = nI k ∧ r = (if zu_p (ts t) (k + 1) - zu_p (ts t) k = 0 then 115 else if 0 < zu_p (ts t) (k + 1) - zu_p (ts t) k then 117 else 100)) ∧ g1 = g) (fun E g1 => g1 = g ∧ E = "java/lang/IndexOutOfBoundsException" ∧ ∀ t, ¬ zp_is ts id t) := by
  have hA9 := hs
  obtain ⟨h0, ⟨f, hA, hf⟩, hts⟩ := hs
  refine zx_ofi hst pn_T_contour rfl (Nat.le_of_ble_eq_true rfl) (fun X hX C hT => ?_)
  subst hX
  show zj_J X 0 0 _ ad N g 0 [(0, .ref (ad 0)), (1, .int id), (2, .int i)] []
  refine zj_aload_n C dc_T_contour_0 rfl 0 rfl ?_
  refine zj_iload_n C dc_T_contour_1 rfl 1 rfl ?_
  refine zx_Vr C (ct_T_existing _ hst z ad N g ts _ hN hA9) gv_T_63 rfl rfl rfl hd_T_existing ⟨(Nat.le_of_ble_eq_true rfl), (Nat.le_of_ble_eq_true rfl)⟩ (by omega) h0 rfl rfl rfl (Nat.le_of_ble_eq_true rfl) ⟨(Nat.le_of_ble_eq_true rfl), (Nat.le_of_ble_eq_true rfl)⟩ dc_T_contour_2 (fun E9 g9 h9 => zx_passi C hT ⟨(Nat.le_of_ble_eq_true rfl), (Nat.le_of_ble_eq_true rfl)⟩ ⟨h9.2.1, h9.1, h9.2.2⟩) (fun k1 g1 h1 => ?_)
  obtain ⟨⟨t, ⟨ht, rfl, hth⟩, rfl⟩, hg1⟩ := h1
  rw [hg1]
  have hc9 := hcn t ht
  refine zj_get (k := 0) C (by omega) (hts t ht).1 rfl (by decide) fw_U fl_T_81 rfl rfl dc_T_contour_5 ?_
  refine zj_astore_n C dc_T_contour_8 rfl (by decide) rfl ?_
  refine zj_iload_n C dc_T_contour_9 rfl 3 rfl ?_
  refine zj_if_lt C dc_T_contour_10 rfl (fun a1 => ?_) (fun a1 => ?_)
  · skip
    refine zj_iconst (v := -1) C dc_T_contour_21 (by decide) ?_
    exact zx_iret C ⟨(Nat.le_of_ble_eq_true rfl), (Nat.le_of_ble_eq_true rfl)⟩ dc_T_contour_22 ⟨t, ⟨ht, rfl, hth⟩, Or.inl ⟨fun k hk e => by subst e; exact nI_pos (by omega) a1, rfl⟩, rfl⟩
  · skip
    refine zj_iload_n C dc_T_contour_13 rfl 3 rfl ?_
    refine zj_aload_n C dc_T_contour_14 rfl 0 rfl ?_
    refine zj_Vi C (ct_N_steps _ hst z ad N g (2 + 8 * t + 1) 20 _ _ _ (by omega) (hts t ht).2.1 (by decide) (by omega)) gv_T_117 rfl rfl rfl hd_N_steps ⟨(Nat.le_of_ble_eq_true rfl), (Nat.le_of_ble_eq_true rfl)⟩ (by omega) (hts t ht).2.1.1 rfl rfl rfl (Nat.le_of_ble_eq_true rfl) ⟨(Nat.le_of_ble_eq_true rfl), (Nat.le_of_ble_eq_true rfl)⟩ dc_T_contour_15 (fun r1 g9 h1 => ?_)
    obtain ⟨rfl, hg9⟩ := h1
    rw [hg9]
    refine zj_icmp_lt C dc_T_contour_18 rfl (fun a2 => ?_) (fun a2 => ?_)
    · obtain ⟨k, hk, rfl⟩ := nI_of a1
      have a2 := (nI_ltI hk (by omega)).mp a2
      refine zj_aload_n C dc_T_contour_23 rfl 0 rfl ?_
      refine zj_iload_n C dc_T_contour_24 rfl 3 rfl ?_
      refine zj_Vi C (ct_N_stepBehind _ hst z ad N g (2 + 8 * t + 1) 20 _ _ _ (by omega) (hts t ht).2.1 (by decide) k (by omega)) gv_T_121 rfl rfl rfl hd_N_stepBehind ⟨(Nat.le_of_ble_eq_true rfl), (Nat.le_of_ble_eq_true rfl)⟩ (by omega) (hts t ht).2.1.1 rfl rfl rfl (Nat.le_of_ble_eq_true rfl) ⟨(Nat.le_of_ble_eq_true rfl), (Nat.le_of_ble_eq_true rfl)⟩ dc_T_contour_25 (fun r1 g9 h1 => ?_)
      obtain ⟨rfl, hg9⟩ := h1
      rw [hg9]
      refine zj_istore C dc_T_contour_28 (by decide) rfl ?_
      refine zj_iload C dc_T_contour_30 0 rfl ?_
      refine zj_if_ne C dc_T_contour_32 rfl (fun a3 => ?_) (fun a3 => ?_)
      · skip
        refine zj_iload C dc_T_contour_38 0 rfl ?_
        refine zj_if_le C dc_T_contour_40 rfl (fun a4 => ?_) (fun a4 => ?_)
        · skip
          refine zj_bipush (v := 100) C dc_T_contour_48 (by decide) ?_
          exact zx_iret C ⟨(Nat.le_of_ble_eq_true rfl), (Nat.le_of_ble_eq_true rfl)⟩ dc_T_contour_50 ⟨t, ⟨ht, rfl, hth⟩, Or.inr ⟨k, by omega, rfl, by rw [if_neg a3, if_neg (Int32.not_lt.mpr a4)]⟩, rfl⟩
        · skip
          refine zj_bipush (v := 117) C dc_T_contour_43 (by decide) ?_
          refine zj_goto C dc_T_contour_45 rfl ?_
          exact zx_iret C ⟨(Nat.le_of_ble_eq_true rfl), (Nat.le_of_ble_eq_true rfl)⟩ dc_T_contour_50 ⟨t, ⟨ht, rfl, hth⟩, Or.inr ⟨k, by omega, rfl, by rw [if_neg a3, if_pos (Int32.not_le.mp a4)]⟩, rfl⟩
      · skip
        refine zj_bipush (v := 115) C dc_T_contour_35 (by decide) ?_
        exact zx_iret C ⟨(Nat.le_of_ble_eq_true rfl), (Nat.le_of_ble_eq_true rfl)⟩ dc_T_contour_37 ⟨t, ⟨ht, rfl, hth⟩, Or.inr ⟨k, by omega, rfl, by rw [if_pos a3]⟩, rfl⟩
    · skip
      refine zj_iconst (v := -1) C dc_T_contour_21 (by decide) ?_
      exact zx_iret C ⟨(Nat.le_of_ble_eq_true rfl), (Nat.le_of_ble_eq_true rfl)⟩ dc_T_contour_22 ⟨t, ⟨ht, rfl, hth⟩, Or.inl ⟨fun k hk e => by subst e; exact a2 ((nI_ltI (by omega) (by omega)).mpr (by omega)), rfl⟩, rfl⟩
set_option maxHeartbeats 4000000 in
set_option maxRecDepth 100000 in
theorem ct_T_ask (l : Launch) (hst : l.stackTraces = false) (z : zv_T) (ad : Nat → Nat) (N : Nat) (g : Nat → va_E) (ts : Nat → zu_S) (qc : Nat) (qp qq : Nat → Int32) (hN : 108 ≤ N) (hs : zs_A z ad g ts) (hq : zs_N z ad g 66 8 qc qp qq) (x y : Int32) (hqc : qc ≤ 8) : zx_i l mn_T_ask ws_T_ask rm_T_ask z ad N g [.ref (ad 0), .int x, .int y] 2 12 (fun r g1 => zp_no x y ∧ qc < 8 ∧ r = nI (qc + 1) ∧ zs_N z ad g1 66 8 (qc + 1) (upd qp qc x) (upd qq qc y) ∧ ∀ j, j < 66 ∨ 69 ≤ j → g1 j = g j) (fun E g1 => g1 = g ∧ ((E = "java/lang/IllegalArgumentException" ∧ ¬ zp_no x y) ∨ (E = "java/lang/IllegalStateException" ∧ zp_no x y ∧ qc = 8))) := by
  obtain ⟨h0, ⟨f, hA, hf⟩, hts⟩ := hs
  have hq9 := hq
  obtain ⟨hq0, hq1, hq2⟩ := hq
  refine zx_ofi hst pn_T_ask rfl (Nat.le_of_ble_eq_true rfl) (fun X hX C hT => ?_)
  subst hX
  show zj_J X 0 0 _ ad N g 0 [(0, .ref (ad 0)), (1, .int x), (2, .int y)] []
  refine zj_iload_n C dc_T_ask_0 rfl 1 rfl ?_
  refine zj_iload_n C dc_T_ask_1 rfl 2 rfl ?_
  refine zx_Sv C (ct_T_refuseUnlessNote _ hst z ad N g x y) gv_T_70 rfl rfl rfl hd_T_refuseUnlessNote ⟨(Nat.le_of_ble_eq_true rfl), (Nat.le_of_ble_eq_true rfl)⟩ rfl rfl (Nat.le_of_ble_eq_true rfl) ⟨(Nat.le_of_ble_eq_true rfl), (Nat.le_of_ble_eq_true rfl)⟩ dc_T_ask_2 (fun E9 g9 h9 => zx_passi C hT ⟨(Nat.le_of_ble_eq_true rfl), (Nat.le_of_ble_eq_true rfl)⟩ ⟨h9.2.1, Or.inl ⟨h9.1, h9.2.2⟩⟩) (fun g1 h1 => ?_)
  obtain ⟨hno, hg1⟩ := h1
  rw [hg1]
  refine zj_aload_n C dc_T_ask_5 rfl 0 rfl ?_
  refine zj_get (k := 1) C (by omega) h0 rfl (by decide) fw_T fl_T_21 rfl rfl dc_T_ask_6 ?_
  refine zj_get (k := 2) C (by omega) hq0 rfl (by decide) fw_N fl_T_84 rfl rfl dc_T_ask_9 ?_
  refine zj_bipush (v := 8) C dc_T_ask_12 (by decide) ?_
  refine zj_icmp_lt C dc_T_ask_14 rfl (fun a1 => ?_) (fun a1 => ?_)
  · have a1 := (nI_ltI (b := 8) (by omega) (by omega)).mp a1
    refine zj_aload_n C dc_T_ask_25 rfl 0 rfl ?_
    refine zj_get (k := 1) C (by omega) h0 rfl (by decide) fw_T fl_T_21 rfl rfl dc_T_ask_26 ?_
    refine zj_iload_n C dc_T_ask_29 rfl 1 rfl ?_
    refine zj_iload_n C dc_T_ask_30 rfl 2 rfl ?_
    refine zj_Vi C (ct_N_append _ hst z ad N g 66 8 qc qp qq (by omega) hq9 (by decide) x y a1) gv_T_87 rfl rfl rfl hd_N_append ⟨(Nat.le_of_ble_eq_true rfl), (Nat.le_of_ble_eq_true rfl)⟩ (by omega) hq0 rfl rfl rfl (Nat.le_of_ble_eq_true rfl) ⟨(Nat.le_of_ble_eq_true rfl), (Nat.le_of_ble_eq_true rfl)⟩ dc_T_ask_31 (fun r1 g1 h1 => ?_)
    obtain ⟨rfl, rfl⟩ := h1
    exact zx_iret C ⟨(Nat.le_of_ble_eq_true rfl), (Nat.le_of_ble_eq_true rfl)⟩ dc_T_ask_34 ⟨hno, a1, rfl, ⟨va_up_self _ _ _, by (repeat rw [va_up_ne _ _ (by omega)]); exact va_up_self _ _ _, by (repeat rw [va_up_ne _ _ (by omega)]); exact va_up_self _ _ _⟩, fun j hj => by (repeat rw [va_up_ne _ _ (by omega)])⟩
  · have a1 := (zn_nlt (b := 8) (by omega) (by omega)).mp a1
    exact zx_throwi (names := xt_ns) C hT xt_fit_IllegalStateException xt_nf cl_T_57 ini_IllegalStateException xt_at_IllegalStateException xt_bd_IllegalStateException ins_IllegalStateException xt_ok_IllegalStateException dc_T_ask_17 dc_T_ask_20 dc_T_ask_21 dc_T_ask_24 ⟨(Nat.le_of_ble_eq_true rfl), (Nat.le_of_ble_eq_true rfl), (Nat.le_of_ble_eq_true rfl), (Nat.le_of_ble_eq_true rfl)⟩ ⟨(Nat.le_of_ble_eq_true rfl), (Nat.le_of_ble_eq_true rfl)⟩ ⟨rfl, Or.inr ⟨rfl, hno, by omega⟩⟩
set_option maxHeartbeats 4000000 in
set_option maxRecDepth 100000 in
theorem ct_T_forget (l : Launch) (hst : l.stackTraces = false) (z : zv_T) (ad : Nat → Nat) (N : Nat) (g : Nat → va_E) (ts : Nat → zu_S) (qc : Nat) (qp qq : Nat → Int32) (hN : 108 ≤ N) (hs : zs_A z ad g ts) (hq : zs_N z ad g 66 8 qc qp qq) : zm_v l mn_T_forget ws_T_forget rm_T_forget z ad N g [.ref (ad 0)] (fun g1 => zs_N z ad g1 66 8 0 qp qq ∧ ∀ j, j ≠ 66 → g1 j = g j) := by
  obtain ⟨h0, ⟨f, hA, hf⟩, hts⟩ := hs
  have hq9 := hq
  obtain ⟨hq0, hq1, hq2⟩ := hq
  refine zm_ofv hst pn_T_forget rfl (Nat.le_of_ble_eq_true rfl) (fun X hX C => ?_)
  subst hX
  show zj_J X 0 0 _ ad N g 0 [(0, .ref (ad 0))] []
  refine zj_aload_n C dc_T_forget_0 rfl 0 rfl ?_
  refine zj_get (k := 1) C (by omega) h0 rfl (by decide) fw_T fl_T_21 rfl rfl dc_T_forget_1 ?_
  refine zj_Vv C (ct_N_clear _ hst z ad N g 66 8 qc qp qq (by omega) hq9 (by decide)) gv_T_125 rfl rfl rfl hd_N_clear ⟨(Nat.le_of_ble_eq_true rfl), (Nat.le_of_ble_eq_true rfl)⟩ (by omega) hq0 rfl rfl rfl (Nat.le_of_ble_eq_true rfl) ⟨(Nat.le_of_ble_eq_true rfl), (Nat.le_of_ble_eq_true rfl)⟩ dc_T_forget_4 (fun g1 h1 => ?_)
  subst h1
  exact zj_vret C dc_T_forget_7 ⟨⟨va_up_self _ _ _, by (repeat rw [va_up_ne _ _ (by omega)]); exact hq1, by (repeat rw [va_up_ne _ _ (by omega)]); exact hq2⟩, fun j hj => va_up_ne _ _ hj⟩
end ZP2
end
section
section ZP3
def zq_tl (kd kk qc : Nat) (qp qq : Nat → Int32) (t : Nat) (s : zu_S) : List zq_I := match kd with
  | 4 => zq_cc (zq_ol (zu_cn s) qc kk t (zu_p s) qp) 0 (zu_cn s + 1 - qc)
  | 5 => zq_cc (zq_nl (zu_cn s) qc kk t (zu_p s) qp) 0 (zu_cn s - 1)
  | k => zq_nn (zp_fit k qc qp qq (zu_p s) (zu_q s)) (fun pl => (t, pl, qc, zu_p s pl - qp 0, qc)) 0 (zu_cn s + 1 - qc)
def zq_al (ts : Nat → zu_S) (kd kk qc : Nat) (qp qq : Nat → Int32) : Nat → Nat → List zq_I
  | _, 0 => []
  | t, n + 1 => (if zu_sh (ts t) then zq_tl kd kk qc qp qq t (ts t) else []) ++ zq_al ts kd kk qc qp qq (t + 1) n
theorem zq_alS (ts : Nat → zu_S) (kd kk qc : Nat) (qp qq : Nat → Int32) (t n : Nat) : zq_al ts kd kk qc qp qq t (n + 1) = (if zu_sh (ts t) then zq_tl kd kk qc qp qq t (ts t) else []) ++ zq_al ts kd kk qc qp qq (t + 1) n := rfl
theorem zq_nn_mem {fit : Nat → Bool} {mk : Nat → zq_I} {x : zq_I} : ∀ {n pl : Nat}, x ∈ zq_nn fit mk pl n → ∃ k, pl ≤ k ∧ k < pl + n ∧ fit k = true ∧ x = mk k := by
  intro n
  induction n with
  | zero => intro pl h; cases h
  | succ n ih =>
    intro pl h
    rw [zq_nnS] at h
    rcases List.mem_append.mp h with h | h
    · split at h
      · rename_i hf
        exact ⟨pl, Nat.le_refl _, by omega, hf, List.mem_singleton.mp h⟩
      · cases h
    · obtain ⟨k, h1, h2, h3⟩ := ih h
      exact ⟨k, by omega, by omega, h3⟩
theorem zq_nn_len {fit : Nat → Bool} {mk : Nat → zq_I} : ∀ {n pl : Nat}, (zq_nn fit mk pl n).length ≤ n := by
  intro n
  induction n with
  | zero => intro pl; exact Nat.le_refl _
  | succ n ih =>
    intro pl
    rw [zq_nnS, List.length_append]
    have := ih (pl := pl + 1)
    split <;> simp <;> omega
theorem zq_cc_mem {f : Nat → List zq_I} {x : zq_I} : ∀ {n pl : Nat}, x ∈ zq_cc f pl n → ∃ k, pl ≤ k ∧ k < pl + n ∧ x ∈ f k := by
  intro n
  induction n with
  | zero => intro pl h; cases h
  | succ n ih =>
    intro pl h
    rw [zq_ccS] at h
    rcases List.mem_append.mp h with h | h
    · exact ⟨pl, Nat.le_refl _, by omega, h⟩
    · obtain ⟨k, h1, h2, h3⟩ := ih h
      exact ⟨k, by omega, by omega, h3⟩
theorem zq_cc_len {f : Nat → List zq_I} {m : Nat} (h : ∀ k, (f k).length ≤ m) : ∀ {n pl : Nat}, (zq_cc f pl n).length ≤ n * m := by
  intro n
  induction n with
  | zero => intro pl; exact Nat.zero_le _
  | succ n ih =>
    intro pl
    rw [zq_ccS, List.length_append, Nat.succ_mul]
    have := ih (pl := pl + 1)
    have := h pl
    omega
theorem zq_tl_ok {kd kk qc t : Nat} {qp qq : Nat → Int32} {s : zu_S} (ht : t < 8) (hqc : 2 ≤ qc) (hqc8 : qc ≤ 8) (hkk : kk ≤ 4) (hcn : zu_cn s ≤ 20) : zq_ok (zq_tl kd kk qc qp qq t s) := by
  intro x hx
  unfold zq_tl at hx
  split at hx
  · obtain ⟨k, h1, h2, h3⟩ := zq_cc_mem hx
    obtain ⟨e, h4, h5, -, rfl⟩ := zq_nn_mem h3
    exact ⟨by show 0 < e - k + 1; omega, by show e - k + 1 ≤ 20; omega, by show 0 < qc; omega, hqc8, ht, by show k < 20; omega⟩
  · obtain ⟨k, h1, h2, h3⟩ := zq_cc_mem hx
    obtain ⟨e, h4, h5, -, rfl⟩ := zq_nn_mem h3
    have h6 := zp_dp_le (zp_sm qp (zu_p s) k) (qc - 1) (e - 1)
    have h7 : (if qc + kk < zu_cn s - k then qc + kk else zu_cn s - k) ≤ 20 := by split <;> omega
    exact ⟨by show 0 < e; omega, by show e ≤ 20; omega, by show 0 < _ + 1; omega, by show _ + 1 ≤ 8; omega, ht, by show k < 20; omega⟩
  · obtain ⟨e, h4, h5, -, rfl⟩ := zq_nn_mem hx
    exact ⟨by show 0 < qc; omega, by show qc ≤ 20; omega, by show 0 < qc; omega, hqc8, ht, by show e < 20; omega⟩
theorem zq_tl_len {kd kk qc t : Nat} {qp qq : Nat → Int32} {s : zu_S} (hqc : 2 ≤ qc) (hqc8 : qc ≤ 8) (hkk : kk ≤ 4) (hcn : zu_cn s ≤ 20) : (zq_tl kd kk qc qp qq t s).length ≤ 400 := by
  unfold zq_tl
  split
  · refine Nat.le_trans (zq_cc_len (m := 20) (fun k => Nat.le_trans zq_nn_len (by omega))) ?_
    have : zu_cn s + 1 - qc ≤ 20 := by omega
    exact Nat.mul_le_mul this (Nat.le_refl 20)
  · refine Nat.le_trans (zq_cc_len (m := 20) (fun k => Nat.le_trans zq_nn_len (by split <;> omega))) ?_
    have : zu_cn s - 1 ≤ 20 := by omega
    exact Nat.mul_le_mul this (Nat.le_refl 20)
  · exact Nat.le_trans zq_nn_len (by omega)
theorem zq_al_ok {ts : Nat → zu_S} {kd kk qc : Nat} {qp qq : Nat → Int32} (hqc : 2 ≤ qc) (hqc8 : qc ≤ 8) (hkk : kk ≤ 4) (hcn : ∀ t, t < 8 → zu_cn (ts t) ≤ 20) : ∀ {n t : Nat}, t + n ≤ 8 → zq_ok (zq_al ts kd kk qc qp qq t n) ∧ (zq_al ts kd kk qc qp qq t n).length ≤ n * 400 := by
  intro n
  induction n with
  | zero => intro t _; exact ⟨fun x hx => (by cases hx), Nat.zero_le _⟩
  | succ n ih =>
    intro t h
    obtain ⟨h1, h2⟩ := ih (t := t + 1) (by omega)
    have h3 := zq_tl_len (kd := kd) (t := t) (qp := qp) (qq := qq) hqc hqc8 hkk (hcn t (by omega))
    rw [zq_alS]
    constructor
    · intro x hx
      rcases List.mem_append.mp hx with hx | hx
      · split at hx
        · exact zq_tl_ok (by omega) hqc hqc8 hkk (hcn t (by omega)) x hx
        · cases hx
      · exact h1 x hx
    · rw [List.length_append, Nat.succ_mul, Nat.add_comm (n * 400)]
      split
      · exact Nat.add_le_add h3 h2
      · exact Nat.add_le_add (Nat.zero_le _) h2
theorem zq_r0 (s : Nat → Nat) : zr_ok (zq_ld []) 0 0 s := zr_0 _ _ _
theorem zq_f0 (s : Nat → Nat) : zr_full 0 0 s := fun a ha => absurd ha (by omega)
set_option maxHeartbeats 4000000 in
set_option maxRecDepth 100000 in
theorem ct_T_searchTune (l : Launch) (hst : l.stackTraces = false) (z : zv_T) (ad : Nat → Nat) (N : Nat) (g : Nat → va_E) (ts : Nat → zu_S) (t qc : Nat) (qp qq : Nat → Int32) (F : List zq_I) (hN : 108 ≤ N) (hA' : zs_A z ad g ts) (hq : zs_N z ad g 66 8 qc qp qq) (hF : zq_F z ad g qc F) (ht : t < 8) (kd kk : Nat) (hh ee mo lo : Nat) (wt hr bh : Nat → Int32) (hR : zs_R z ad g hh ee mo lo wt hr bh) (hkd : kd ≤ 5) (hkk : kk ≤ 4) (hqc : 2 ≤ qc) (hqc8 : qc ≤ 8) (hcn : zu_cn (ts t) ≤ 20) (hok : zq_ok (F ++ (zq_tl kd kk qc qp qq t (ts t)))) (hFl : (F ++ (zq_tl kd kk qc qp qq t (ts t))).length < 2 ^ 30) : zm_v l mn_T_searchTune ws_T_searchTune rm_T_searchTune z ad N g [.ref (ad 0), .int (nI t), .int (nI kd), .int (nI kk)] (fun g1 => zq_F z ad g1 qc (F ++ (zq_tl kd kk qc qp qq t (ts t))) ∧ (∃ hh ee mo lo wt hr bh, zs_R z ad g1 hh ee mo lo wt hr bh) ∧ ∀ j, j < 69 ∨ 105 ≤ j → g1 j = g j) := by
  refine zm_ofv hst pn_T_searchTune rfl (Nat.le_of_ble_eq_true rfl) (fun X hX C => ?_)
  subst hX
  show zj_J X 0 0 _ ad N g 0 [(0, .ref (ad 0)), (1, .int (nI t)), (2, .int (nI kd)), (3, .int (nI kk))] []
  refine zj_iload_n C dc_T_searchTune_0 rfl 2 rfl ?_
  have hk6 : kd = 0 ∨ kd = 1 ∨ kd = 2 ∨ kd = 3 ∨ kd = 4 ∨ kd = 5 := by omega
  rcases hk6 with rfl | rfl | rfl | rfl | rfl | rfl
  · refine zj_lookup C dc_T_searchTune_1 rfl rfl rfl ?_
    refine zj_aload_n C dc_T_searchTune_46 rfl 0 rfl ?_
    refine zj_iload_n C dc_T_searchTune_47 rfl 1 rfl ?_
    refine zj_iload_n C dc_T_searchTune_48 rfl 2 rfl ?_
    refine zj_Vv C (ct_T_searchNoteByNote _ hst z ad N g ts t qc qp qq F hN hA' hq hF ht _ (by decide) hqc hqc8 hcn hok hFl) gv_T_198 rfl rfl rfl hd_T_searchNoteByNote ⟨(Nat.le_of_ble_eq_true rfl), (Nat.le_of_ble_eq_true rfl)⟩ (by omega) hA'.1 rfl rfl rfl (Nat.le_of_ble_eq_true rfl) ⟨(Nat.le_of_ble_eq_true rfl), (Nat.le_of_ble_eq_true rfl)⟩ dc_T_searchTune_49 (fun g1 h1 => ?_)
    obtain ⟨b1, b2⟩ := h1
    have b3 : ∃ hh ee mo lo wt hr bh, zs_R z ad g1 hh ee mo lo wt hr bh := ⟨_, _, _, _, _, _, _, zs_R_fr hR (fun j h1 h2 => b2 j (by omega))⟩
    exact zj_vret C dc_T_searchTune_52 ⟨b1, b3, fun j hj => b2 j (by omega)⟩
  · refine zj_lookup C dc_T_searchTune_1 rfl rfl rfl ?_
    refine zj_aload_n C dc_T_searchTune_46 rfl 0 rfl ?_
    refine zj_iload_n C dc_T_searchTune_47 rfl 1 rfl ?_
    refine zj_iload_n C dc_T_searchTune_48 rfl 2 rfl ?_
    refine zj_Vv C (ct_T_searchNoteByNote _ hst z ad N g ts t qc qp qq F hN hA' hq hF ht _ (by decide) hqc hqc8 hcn hok hFl) gv_T_198 rfl rfl rfl hd_T_searchNoteByNote ⟨(Nat.le_of_ble_eq_true rfl), (Nat.le_of_ble_eq_true rfl)⟩ (by omega) hA'.1 rfl rfl rfl (Nat.le_of_ble_eq_true rfl) ⟨(Nat.le_of_ble_eq_true rfl), (Nat.le_of_ble_eq_true rfl)⟩ dc_T_searchTune_49 (fun g1 h1 => ?_)
    obtain ⟨b1, b2⟩ := h1
    have b3 : ∃ hh ee mo lo wt hr bh, zs_R z ad g1 hh ee mo lo wt hr bh := ⟨_, _, _, _, _, _, _, zs_R_fr hR (fun j h1 h2 => b2 j (by omega))⟩
    exact zj_vret C dc_T_searchTune_52 ⟨b1, b3, fun j hj => b2 j (by omega)⟩
  · refine zj_lookup C dc_T_searchTune_1 rfl rfl rfl ?_
    refine zj_aload_n C dc_T_searchTune_46 rfl 0 rfl ?_
    refine zj_iload_n C dc_T_searchTune_47 rfl 1 rfl ?_
    refine zj_iload_n C dc_T_searchTune_48 rfl 2 rfl ?_
    refine zj_Vv C (ct_T_searchNoteByNote _ hst z ad N g ts t qc qp qq F hN hA' hq hF ht _ (by decide) hqc hqc8 hcn hok hFl) gv_T_198 rfl rfl rfl hd_T_searchNoteByNote ⟨(Nat.le_of_ble_eq_true rfl), (Nat.le_of_ble_eq_true rfl)⟩ (by omega) hA'.1 rfl rfl rfl (Nat.le_of_ble_eq_true rfl) ⟨(Nat.le_of_ble_eq_true rfl), (Nat.le_of_ble_eq_true rfl)⟩ dc_T_searchTune_49 (fun g1 h1 => ?_)
    obtain ⟨b1, b2⟩ := h1
    have b3 : ∃ hh ee mo lo wt hr bh, zs_R z ad g1 hh ee mo lo wt hr bh := ⟨_, _, _, _, _, _, _, zs_R_fr hR (fun j h1 h2 => b2 j (by omega))⟩
    exact zj_vret C dc_T_searchTune_52 ⟨b1, b3, fun j hj => b2 j (by omega)⟩
  · refine zj_lookup C dc_T_searchTune_1 rfl rfl rfl ?_
    refine zj_aload_n C dc_T_searchTune_46 rfl 0 rfl ?_
    refine zj_iload_n C dc_T_searchTune_47 rfl 1 rfl ?_
    refine zj_iload_n C dc_T_searchTune_48 rfl 2 rfl ?_
    refine zj_Vv C (ct_T_searchNoteByNote _ hst z ad N g ts t qc qp qq F hN hA' hq hF ht _ (by decide) hqc hqc8 hcn hok hFl) gv_T_198 rfl rfl rfl hd_T_searchNoteByNote ⟨(Nat.le_of_ble_eq_true rfl), (Nat.le_of_ble_eq_true rfl)⟩ (by omega) hA'.1 rfl rfl rfl (Nat.le_of_ble_eq_true rfl) ⟨(Nat.le_of_ble_eq_true rfl), (Nat.le_of_ble_eq_true rfl)⟩ dc_T_searchTune_49 (fun g1 h1 => ?_)
    obtain ⟨b1, b2⟩ := h1
    have b3 : ∃ hh ee mo lo wt hr bh, zs_R z ad g1 hh ee mo lo wt hr bh := ⟨_, _, _, _, _, _, _, zs_R_fr hR (fun j h1 h2 => b2 j (by omega))⟩
    exact zj_vret C dc_T_searchTune_52 ⟨b1, b3, fun j hj => b2 j (by omega)⟩
  · refine zj_lookup C dc_T_searchTune_1 rfl rfl rfl ?_
    refine zj_aload_n C dc_T_searchTune_28 rfl 0 rfl ?_
    refine zj_iload_n C dc_T_searchTune_29 rfl 1 rfl ?_
    refine zj_iload_n C dc_T_searchTune_30 rfl 3 rfl ?_
    refine zj_Vv C (ct_T_searchOutline _ hst z ad N g ts t qc qp qq F hN hA' hq hF ht kk hkk hqc hqc8 hcn hok hFl) gv_T_192 rfl rfl rfl hd_T_searchOutline ⟨(Nat.le_of_ble_eq_true rfl), (Nat.le_of_ble_eq_true rfl)⟩ (by omega) hA'.1 rfl rfl rfl (Nat.le_of_ble_eq_true rfl) ⟨(Nat.le_of_ble_eq_true rfl), (Nat.le_of_ble_eq_true rfl)⟩ dc_T_searchTune_31 (fun g1 h1 => ?_)
    obtain ⟨b1, b2⟩ := h1
    have b3 : ∃ hh ee mo lo wt hr bh, zs_R z ad g1 hh ee mo lo wt hr bh := ⟨_, _, _, _, _, _, _, zs_R_fr hR (fun j h1 h2 => b2 j (by omega))⟩
    refine zj_goto C dc_T_searchTune_34 rfl ?_
    exact zj_vret C dc_T_searchTune_52 ⟨b1, b3, fun j hj => b2 j (by omega)⟩
  · refine zj_lookup C dc_T_searchTune_1 rfl rfl rfl ?_
    refine zj_aload_n C dc_T_searchTune_37 rfl 0 rfl ?_
    refine zj_iload_n C dc_T_searchTune_38 rfl 1 rfl ?_
    refine zj_iload_n C dc_T_searchTune_39 rfl 3 rfl ?_
    refine zj_Vv C (ct_T_searchNear _ hst z ad N g ts t qc qp qq F hN hA' hq hF ht kk hh ee mo lo wt hr bh hR hkk hqc hqc8 hcn hok hFl) gv_T_195 rfl rfl rfl hd_T_searchNear ⟨(Nat.le_of_ble_eq_true rfl), (Nat.le_of_ble_eq_true rfl)⟩ (by omega) hA'.1 rfl rfl rfl (Nat.le_of_ble_eq_true rfl) ⟨(Nat.le_of_ble_eq_true rfl), (Nat.le_of_ble_eq_true rfl)⟩ dc_T_searchTune_40 (fun g1 h1 => ?_)
    obtain ⟨b1, b3, b2⟩ := h1
    refine zj_goto C dc_T_searchTune_43 rfl ?_
    exact zj_vret C dc_T_searchTune_52 ⟨b1, b3, fun j hj => b2 j (by omega)⟩
/-- a kind and a number of notes or changes that a search may have -/
def zp_kk (x y : Int32) : Prop := ∃ kd kk : Nat, kd ≤ 5 ∧ kk ≤ 4 ∧ x = nI kd ∧ y = nI kk
theorem zp_kk_f {x y : Int32} (h : x < 0 ∨ (5 : Int32) < x ∨ y < 0 ∨ (4 : Int32) < y) : ¬ zp_kk x y := by
  rintro ⟨a, b, h1, h2, rfl, rfl⟩
  rcases h with h | h | h | h
  · exact nI_pos (by omega) h
  · have := (nI_ltI (a := 5) (by omega) (by omega)).mp h; omega
  · exact nI_pos (by omega) h
  · have := (nI_ltI (a := 4) (by omega) (by omega)).mp h; omega
theorem zp_kk_t {x y : Int32} (h1 : ¬ x < 0) (h2 : ¬ (5 : Int32) < x) (h3 : ¬ y < 0) (h4 : y ≤ 4) : ∃ kd kk : Nat, kd ≤ 5 ∧ kk ≤ 4 ∧ x = nI kd ∧ y = nI kk := by
  obtain ⟨a, ha, rfl⟩ := nI_of h1
  obtain ⟨b, hb, rfl⟩ := nI_of h3
  exact ⟨a, b, (zn_nlt (a := 5) (by omega) ha).mp h2, (nI_leI (b := 4) hb (by omega)).mp h4, rfl, rfl⟩
set_option maxHeartbeats 4000000 in
set_option maxRecDepth 100000 in
theorem ct_T_search (l : Launch) (hst : l.stackTraces = false) (z : zv_T) (ad : Nat → Nat) (N : Nat) (g : Nat → va_E) (ts : Nat → zu_S) (qc as0 : Nat) (qp qq : Nat → Int32) (F0 : List zq_I) (x y : Int32) (hN : 108 ≤ N) (hA' : zs_A z ad g ts) (hq : zs_N z ad g 66 8 qc qp qq) (hF : zq_F z ad g as0 F0) (hh ee mo lo : Nat) (wt hr bh : Nat → Int32) (hR : zs_R z ad g hh ee mo lo wt hr bh) (hqc8 : qc ≤ 8) (hcn : ∀ t, t < 8 → zu_cn (ts t) ≤ 20) : zx_i l mn_T_search ws_T_search rm_T_search z ad N g [.ref (ad 0), .int x, .int y] 1 6 (fun r g1 => ∃ kd kk, kd ≤ 5 ∧ kk ≤ 4 ∧ x = nI kd ∧ y = nI kk ∧ 2 ≤ qc ∧ r = nI (zq_al ts kd kk qc qp qq 0 8).length ∧ zq_F z ad g1 qc (zq_al ts kd kk qc qp qq 0 8) ∧ (∃ hh ee mo lo wt hr bh, zs_R z ad g1 hh ee mo lo wt hr bh) ∧ ∀ j, j < 69 ∨ 105 ≤ j → g1 j = g j) (fun E g1 => g1 = g ∧ ((E = "java/lang/IllegalArgumentException" ∧ ¬ zp_kk x y) ∨ (E = "java/lang/IllegalStateException" ∧ zp_kk x y ∧ qc < 2))) := by
  obtain ⟨f, hA, hf⟩ := hA'.2.1
  have hts := hA'.2.2
  have hF9 := hF
  obtain ⟨pi, it, s, hsF, -, -, -⟩ := hF
  refine zx_ofi hst pn_T_search rfl (Nat.le_of_ble_eq_true rfl) (fun X hX C hT => ?_)
  subst hX
  show zj_J X 0 0 _ ad N g 0 [(0, .ref (ad 0)), (1, .int x), (2, .int y)] []
  have loop : ∀ (n : Nat) (t kd kk : Nat) (g2 : Nat → va_E) (F2 : List zq_I), 8 - t = n → t ≤ 8 → kd ≤ 5 → kk ≤ 4 → 2 ≤ qc → x = nI kd → y = nI kk → zq_F z ad g2 qc F2 → (∃ hh ee mo lo wt hr bh, zs_R z ad g2 hh ee mo lo wt hr bh) → (∀ j, j < 69 ∨ 105 ≤ j → g2 j = g j) → (zq_al ts kd kk qc qp qq 0 8) = F2 ++ zq_al ts kd kk qc qp qq t (8 - t) → zj_J X 0 0 (zx_Qi X 1 6 ad N (fun r g1 => ∃ kd kk, kd ≤ 5 ∧ kk ≤ 4 ∧ x = nI kd ∧ y = nI kk ∧ 2 ≤ qc ∧ r = nI (zq_al ts kd kk qc qp qq 0 8).length ∧ zq_F z ad g1 qc (zq_al ts kd kk qc qp qq 0 8) ∧ (∃ hh ee mo lo wt hr bh, zs_R z ad g1 hh ee mo lo wt hr bh) ∧ ∀ j, j < 69 ∨ 105 ≤ j → g1 j = g j) (fun E g1 => g1 = g ∧ ((E = "java/lang/IllegalArgumentException" ∧ ¬ zp_kk x y) ∨ (E = "java/lang/IllegalStateException" ∧ zp_kk x y ∧ qc < 2)))) ad N g2 61 [(3, .int (nI t)), (0, .ref (ad 0)), (1, .int (nI kd)), (2, .int (nI kk))] [] := by
    intro n
    induction n with
    | zero =>
      intro t kd kk g2 F2 e1 e2 hkd hkk hqc hx hy hF2 hR2 hfr hE
      obtain ⟨hh2, ee2, mo2, lo2, wt2, hr2, bh2, hR2⟩ := hR2
      obtain ⟨pi2, it2, s2, hsF2, hz2⟩ := hF2
      have hF2 : zq_F z ad g2 qc F2 := ⟨pi2, it2, s2, hsF2, hz2⟩
      refine zj_iload_n C dc_T_search_61 rfl 0 rfl ?_
      refine zj_bipush (v := 8) C dc_T_search_62 (by decide) ?_
      refine zj_icmp_ge C dc_T_search_64 rfl (fun _ => ?_) (fun h => absurd h (not_not_intro ((nI_leI (a := 8) (by omega) (by omega)).mpr (by omega))))
      refine zj_aload_n C dc_T_search_92 rfl 1 rfl ?_
      refine zj_get (k := 2) C (by omega) ((hfr 0 (by omega)).trans hA'.1) rfl (by decide) fw_T fl_T_28 rfl rfl dc_T_search_93 ?_
      refine zj_get (k := 2) C (by omega) hsF2.1 rfl (by decide) fw_F fl_T_134 rfl rfl dc_T_search_96 ?_
      exact zx_iret C ⟨(Nat.le_of_ble_eq_true rfl), (Nat.le_of_ble_eq_true rfl)⟩ dc_T_search_99 ⟨kd, kk, hkd, hkk, hx, hy, hqc, by rw [hE, show 8 - t = 0 by omega]; show _ = nI (F2 ++ []).length; rw [List.append_nil], by rw [hE, show 8 - t = 0 by omega]; show zq_F z ad g2 qc (F2 ++ []); rw [List.append_nil]; exact hF2, ⟨_, _, _, _, _, _, _, hR2⟩, hfr⟩
    | succ n ih =>
      intro t kd kk g2 F2 e1 e2 hkd hkk hqc hx hy hF2 hR2 hfr hE
      obtain ⟨hh2, ee2, mo2, lo2, wt2, hr2, bh2, hR2⟩ := hR2
      obtain ⟨pi2, it2, s2, hsF2, hz2⟩ := hF2
      have hF2 : zq_F z ad g2 qc F2 := ⟨pi2, it2, s2, hsF2, hz2⟩
      refine zj_iload_n C dc_T_search_61 rfl 0 rfl ?_
      refine zj_bipush (v := 8) C dc_T_search_62 (by decide) ?_
      refine zj_icmp_ge C dc_T_search_64 rfl (fun h => absurd h (((zn_nle (a := 8) (by omega) (by omega)).mpr (by omega)))) (fun _ => ?_)
      refine zj_aload_n C dc_T_search_67 rfl 1 rfl ?_
      refine zj_get (k := 0) C (by omega) ((hfr 0 (by omega)).trans hA'.1) rfl (by decide) fw_T fl_T_11 rfl rfl dc_T_search_68 ?_
      refine zj_iload_n C dc_T_search_71 rfl 0 rfl ?_
      refine zj_uald C (by omega) ((hfr 1 (by omega)).trans hA) rfl (by omega) (by decide) dc_T_search_72 ?_
      refine zj_topv (congrArg va_rf (hf t (by omega))) ?_
      refine zj_get (k := 4) C (by omega) ((hfr (2 + 8 * t) (by omega)).trans (hts t (by omega)).1) rfl (by decide) fw_U fl_T_74 rfl rfl dc_T_search_73 ?_
      refine zj_if_eq C dc_T_search_76 rfl (fun a6 => ?_) (fun a6 => ?_)
      · have a6 := zb_i0 a6
        rw [show 8 - t = (8 - (t + 1)) + 1 by omega, zq_alS ts kd kk qc qp qq t (8 - (t + 1)), if_neg (by rw [a6]; exact Bool.false_ne_true), List.nil_append] at hE
        refine zj_iinc C dc_T_search_86 0 rfl (zn_inc t) (by decide) rfl ?_
        refine zj_goto C dc_T_search_89 rfl ?_
        refine zj_loc (L' := [(3, .int (nI (t + 1))), (0, .ref (ad 0)), (1, .int (nI kd)), (2, .int (nI kk))]) [0, 1, 2, 3] rfl ?_
        exact ih (t + 1) kd kk g2 F2 (by omega) (by omega) hkd hkk hqc hx hy hF2 ⟨_, _, _, _, _, _, _, hR2⟩ hfr hE
      · have a6 := zb_i1 a6
        rw [show 8 - t = (8 - (t + 1)) + 1 by omega, zq_alS ts kd kk qc qp qq t (8 - (t + 1)), if_pos a6] at hE
        have hE3 : (zq_al ts kd kk qc qp qq 0 8) = (F2 ++ zq_tl kd kk qc qp qq t (ts t)) ++ zq_al ts kd kk qc qp qq (t + 1) (8 - (t + 1)) := by rw [hE, List.append_assoc]
        refine zj_aload_n C dc_T_search_79 rfl 1 rfl ?_
        refine zj_iload_n C dc_T_search_80 rfl 0 rfl ?_
        refine zj_iload_n C dc_T_search_81 rfl 2 rfl ?_
        refine zj_iload_n C dc_T_search_82 rfl 3 rfl ?_
        refine zj_Vv C (ct_T_searchTune _ hst z ad N g2 ts t qc qp qq F2 hN (zs_A_fr hA' (fun j hj => hfr j (by omega))) (zs_N_fr hq (fun j h1 h2 => hfr j (by omega))) hF2 (by omega) kd kk hh2 ee2 mo2 lo2 wt2 hr2 bh2 hR2 hkd hkk hqc hqc8 (hcn t (by omega)) (by have h9 := (zq_al_ok (ts := ts) (kd := kd) (qp := qp) (qq := qq) hqc hqc8 hkk hcn (n := 8) (t := 0) (by omega)).1; rw [hE3] at h9; exact zq_pre h9) (by have h9 := (zq_al_ok (ts := ts) (kd := kd) (qp := qp) (qq := qq) hqc hqc8 hkk hcn (n := 8) (t := 0) (by omega)).2; rw [hE3, List.length_append] at h9; omega)) gv_T_130 rfl rfl rfl hd_T_searchTune ⟨(Nat.le_of_ble_eq_true rfl), (Nat.le_of_ble_eq_true rfl)⟩ (by omega) ((hfr 0 (by omega)).trans hA'.1) rfl rfl rfl (Nat.le_of_ble_eq_true rfl) ⟨(Nat.le_of_ble_eq_true rfl), (Nat.le_of_ble_eq_true rfl)⟩ dc_T_search_83 (fun g3 h1 => ?_)
        obtain ⟨b1, b3, b2⟩ := h1
        refine zj_iinc C dc_T_search_86 0 rfl (zn_inc t) (by decide) rfl ?_
        refine zj_goto C dc_T_search_89 rfl ?_
        refine zj_loc (L' := [(3, .int (nI (t + 1))), (0, .ref (ad 0)), (1, .int (nI kd)), (2, .int (nI kk))]) [0, 1, 2, 3] rfl ?_
        exact ih (t + 1) kd kk g3 _ (by omega) (by omega) hkd hkk hqc hx hy b1 b3 (fun j hj => (b2 j hj).trans (hfr j hj)) hE3
  refine zj_iload_n C dc_T_search_0 rfl 1 rfl ?_
  refine zj_if_lt C dc_T_search_1 rfl (fun a1 => ?_) (fun a1 => ?_)
  · skip
    exact zx_throwi (names := xt_ns) C hT xt_fit_IllegalArgumentException xt_nf cl_T_114 ini_IllegalArgumentException xt_at_IllegalArgumentException xt_bd_IllegalArgumentException ins_IllegalArgumentException xt_ok_IllegalArgumentException dc_T_search_18 dc_T_search_21 dc_T_search_22 dc_T_search_25 ⟨(Nat.le_of_ble_eq_true rfl), (Nat.le_of_ble_eq_true rfl), (Nat.le_of_ble_eq_true rfl), (Nat.le_of_ble_eq_true rfl)⟩ ⟨(Nat.le_of_ble_eq_true rfl), (Nat.le_of_ble_eq_true rfl)⟩ ⟨rfl, Or.inl ⟨rfl, zp_kk_f (Or.inl a1)⟩⟩
  · skip
    refine zj_iload_n C dc_T_search_4 rfl 1 rfl ?_
    refine zj_iconst (v := 5) C dc_T_search_5 (by decide) ?_
    refine zj_icmp_gt C dc_T_search_6 rfl (fun a2 => ?_) (fun a2 => ?_)
    · skip
      exact zx_throwi (names := xt_ns) C hT xt_fit_IllegalArgumentException xt_nf cl_T_114 ini_IllegalArgumentException xt_at_IllegalArgumentException xt_bd_IllegalArgumentException ins_IllegalArgumentException xt_ok_IllegalArgumentException dc_T_search_18 dc_T_search_21 dc_T_search_22 dc_T_search_25 ⟨(Nat.le_of_ble_eq_true rfl), (Nat.le_of_ble_eq_true rfl), (Nat.le_of_ble_eq_true rfl), (Nat.le_of_ble_eq_true rfl)⟩ ⟨(Nat.le_of_ble_eq_true rfl), (Nat.le_of_ble_eq_true rfl)⟩ ⟨rfl, Or.inl ⟨rfl, zp_kk_f (Or.inr (Or.inl a2))⟩⟩
    · skip
      refine zj_iload_n C dc_T_search_9 rfl 2 rfl ?_
      refine zj_if_lt C dc_T_search_10 rfl (fun a3 => ?_) (fun a3 => ?_)
      · skip
        exact zx_throwi (names := xt_ns) C hT xt_fit_IllegalArgumentException xt_nf cl_T_114 ini_IllegalArgumentException xt_at_IllegalArgumentException xt_bd_IllegalArgumentException ins_IllegalArgumentException xt_ok_IllegalArgumentException dc_T_search_18 dc_T_search_21 dc_T_search_22 dc_T_search_25 ⟨(Nat.le_of_ble_eq_true rfl), (Nat.le_of_ble_eq_true rfl), (Nat.le_of_ble_eq_true rfl), (Nat.le_of_ble_eq_true rfl)⟩ ⟨(Nat.le_of_ble_eq_true rfl), (Nat.le_of_ble_eq_true rfl)⟩ ⟨rfl, Or.inl ⟨rfl, zp_kk_f (Or.inr (Or.inr (Or.inl a3)))⟩⟩
      · skip
        refine zj_iload_n C dc_T_search_13 rfl 2 rfl ?_
        refine zj_iconst (v := 4) C dc_T_search_14 (by decide) ?_
        refine zj_icmp_le C dc_T_search_15 rfl (fun a4 => ?_) (fun a4 => ?_)
        · obtain ⟨kd, kk, hkd, hkk, rfl, rfl⟩ := zp_kk_t a1 a2 a3 a4
          refine zj_aload_n C dc_T_search_26 rfl 0 rfl ?_
          refine zj_get (k := 1) C (by omega) hA'.1 rfl (by decide) fw_T fl_T_21 rfl rfl dc_T_search_27 ?_
          refine zj_get (k := 2) C (by omega) hq.1 rfl (by decide) fw_N fl_T_84 rfl rfl dc_T_search_30 ?_
          refine zj_iconst (v := 2) C dc_T_search_33 (by decide) ?_
          refine zj_icmp_ge C dc_T_search_34 rfl (fun a5 => ?_) (fun a5 => ?_)
          · have hqc := (nI_leI (a := 2) (by omega) (by omega)).mp a5
            refine zj_aload_n C dc_T_search_45 rfl 0 rfl ?_
            refine zj_get (k := 2) C (by omega) hA'.1 rfl (by decide) fw_T fl_T_28 rfl rfl dc_T_search_46 ?_
            refine zj_aload_n C dc_T_search_49 rfl 0 rfl ?_
            refine zj_get (k := 1) C (by omega) hA'.1 rfl (by decide) fw_T fl_T_21 rfl rfl dc_T_search_50 ?_
            refine zj_get (k := 2) C (by omega) hq.1 rfl (by decide) fw_N fl_T_84 rfl rfl dc_T_search_53 ?_
            refine zj_Vv C (ct_F_begin _ hst z ad N g as0 _ _ pi it (by omega) hsF qc) gv_T_128 rfl rfl rfl hd_F_begin ⟨(Nat.le_of_ble_eq_true rfl), (Nat.le_of_ble_eq_true rfl)⟩ (by omega) hsF.1 rfl rfl rfl (Nat.le_of_ble_eq_true rfl) ⟨(Nat.le_of_ble_eq_true rfl), (Nat.le_of_ble_eq_true rfl)⟩ dc_T_search_56 (fun g2 h1 => ?_)
            subst h1
            refine zj_iconst (v := 0) C dc_T_search_59 (by decide) ?_
            refine zj_istore_n C dc_T_search_60 rfl (by decide) rfl ?_
            refine zj_loc (L' := [(3, .int (nI 0)), (0, .ref (ad 0)), (1, .int (nI kd)), (2, .int (nI kk))]) [0, 1, 2, 3] rfl ?_
            exact loop 8 0 kd kk _ [] rfl (by omega) hkd hkk hqc rfl rfl ⟨pi, it, s, ⟨va_up_self _ _ _, (by obtain ⟨f9, h8, h9⟩ := hsF.2.1; exact ⟨f9, (va_up_ne _ _ (by omega)).trans h8, h9⟩), hsF.2.2.1, hsF.2.2.2.1, fun m h1 h2 => (va_up_ne _ _ (by omega)).trans (hsF.2.2.2.2 m h1 h2)⟩, zq_r0 s, fun _ => zq_f0 s, fun j hj => absurd hj (Nat.not_lt_zero j)⟩ ⟨_, _, _, _, _, _, _, zs_R_fr hR (fun j h1 h2 => va_up_ne _ _ (by omega))⟩ (fun j hj => va_up_ne _ _ (by omega)) rfl
          · have hqc := (zn_nle (a := 2) (by omega) (by omega)).mp a5
            exact zx_throwi (names := xt_ns) C hT xt_fit_IllegalStateException xt_nf cl_T_57 ini_IllegalStateException xt_at_IllegalStateException xt_bd_IllegalStateException ins_IllegalStateException xt_ok_IllegalStateException dc_T_search_37 dc_T_search_40 dc_T_search_41 dc_T_search_44 ⟨(Nat.le_of_ble_eq_true rfl), (Nat.le_of_ble_eq_true rfl), (Nat.le_of_ble_eq_true rfl), (Nat.le_of_ble_eq_true rfl)⟩ ⟨(Nat.le_of_ble_eq_true rfl), (Nat.le_of_ble_eq_true rfl)⟩ ⟨rfl, Or.inr ⟨rfl, ⟨kd, kk, hkd, hkk, rfl, rfl⟩, hqc⟩⟩
        · skip
          exact zx_throwi (names := xt_ns) C hT xt_fit_IllegalArgumentException xt_nf cl_T_114 ini_IllegalArgumentException xt_at_IllegalArgumentException xt_bd_IllegalArgumentException ins_IllegalArgumentException xt_ok_IllegalArgumentException dc_T_search_18 dc_T_search_21 dc_T_search_22 dc_T_search_25 ⟨(Nat.le_of_ble_eq_true rfl), (Nat.le_of_ble_eq_true rfl), (Nat.le_of_ble_eq_true rfl), (Nat.le_of_ble_eq_true rfl)⟩ ⟨(Nat.le_of_ble_eq_true rfl), (Nat.le_of_ble_eq_true rfl)⟩ ⟨rfl, Or.inl ⟨rfl, zp_kk_f (Or.inr (Or.inr (Or.inr (Int32.not_le.mp a4))))⟩⟩
end ZP3
end
