section ZMO
/-- the model's state now, and nothing else has changed since g0 -/
def zm_M (z : zv_T) (ad : Nat → Nat) (g0 g : Nat → va_E) (c as fo kp : Int32) (a : Nat → Nat → Int32) : Prop := zs_M z ad g c as fo kp a ∧ ∀ j, j < 108 ∨ 126 ≤ j → g j = g0 j
theorem zm_T {z : zv_T} {ad : Nat → Nat} {g0 g g1 : Nat → va_E} {c as fo kp c' as' fo' kp' : Int32} {a a' : Nat → Nat → Int32} (h : zm_M z ad g0 g c as fo kp a) (h1 : zm_M z ad g g1 c' as' fo' kp' a') : zm_M z ad g0 g1 c' as' fo' kp' a' := ⟨h1.1, fun j hj => (h1.2 j hj).trans (h.2 j hj)⟩
/-- what the rows there, shown, sizes and readings say -/
def zm_A (a : Nat → Nat → Int32) (th sh : Nat → Bool) (Cn Rn : Nat → Nat) : Prop := ∀ t, t < 8 → a 0 t = zb_i (th t) ∧ a 1 t = zb_i (sh t) ∧ a 2 t = nI (Cn t) ∧ a 3 t = nI (Rn t) ∧ Cn t ≤ 20 ∧ Rn t ≤ 9 ∧ (th t = true → 1 ≤ Rn t)
def zm_is (th : Nat → Bool) (id : Int32) (t : Nat) : Prop := t < 8 ∧ id = nI t ∧ th t = true
def zm_nt (th : Nat → Bool) (id : Int32) (b : Bool) : Prop := (b = true ∧ ∀ t, ¬ zm_is th id t) ∨ (b = false ∧ ∃ t, zm_is th id t)
theorem zm_ntf {th : Nat → Bool} {id : Int32} {b : Bool} (h : b = false) (hb : zm_nt th id b) : ∃ t, t < 8 ∧ id = nI t ∧ th t = true := by
  subst h
  rcases hb with ⟨h, -⟩ | ⟨-, h⟩
  · cases h
  · exact h
theorem zm_ntt {th : Nat → Bool} {id : Int32} {b : Bool} (h : b = true) (hb : zm_nt th id b) : ∀ t, ¬ zm_is th id t := by
  subst h
  rcases hb with ⟨-, h⟩ | ⟨h, -⟩
  · exact h
  · cases h
theorem zm_id {x : Int32} (h0 : ¬ x < 0) (h1 : ¬ (7 : Int32) < x) : ∃ t, t < 8 ∧ x = nI t := by
  obtain ⟨j, hj, rfl⟩ := nI_of h0
  have := (zn_nlt (a := 7) (by omega) hj).mp h1
  exact ⟨j, by omega, rfl⟩
theorem zm_nid {x : Int32} (h : x < 0 ∨ (7 : Int32) < x) : ∀ t, t < 8 → ¬ x = nI t := by
  intro t ht e
  subst e
  rcases h with h | h
  · exact nI_pos (by omega) h
  · have := (nI_ltI (a := 7) (by omega) (by omega)).mp h
    omega
theorem zp_no_d {x y : Int32} : zp_no x y ↔ ¬ x < 0 ∧ ¬ (127 : Int32) < x ∧ ¬ y < 1 ∧ y ≤ 64 := by
  constructor
  · rintro ⟨p, q, h1, h2, h3, rfl, rfl⟩
    exact ⟨nI_pos (by omega), (zn_nlt (a := 127) (by omega) (by omega)).mpr h1, (zn_nlt (b := 1) (by omega) (by omega)).mpr h2, (nI_leI (b := 64) (by omega) (by omega)).mpr h3⟩
  · rintro ⟨h1, h2, h3, h4⟩
    obtain ⟨p, hp, rfl⟩ := nI_of h1
    obtain ⟨q, hq, rfl⟩ := nI_of (zn_ge1 h3)
    exact ⟨p, q, (zn_nlt (a := 127) (by omega) hp).mp h2, (zn_nlt (b := 1) hq (by omega)).mp h3, (nI_leI (b := 64) hq (by omega)).mp h4, rfl, rfl⟩
def zm_sg (x : Int32) : Int32 := if 0 < x then 1 else if x < 0 then -1 else 0
theorem zM_kc {X : zj_T} {cells slots N : Nat} {Q : State → Prop} {pc : Nat} {L : List (Nat × Value)} {st : List Value} {z : zv_T} {ad : Nat → Nat} {g0 g : Nat → va_E} {c as fo kp v : Int32} {a : Nat → Nat → Int32} (hM : zm_M z ad g0 g c as fo kp a) (k : ∀ g1, zm_M z ad g0 g1 v as fo kp a → zj_J X cells slots Q ad N g1 pc L st) : zj_J X cells slots Q ad N (va_up g 108 (ze_o 7 (List.set [.int c, .ref (ad 109), .ref (ad 110), .ref (ad 111), .ref (ad 112), .ref (ad 113), .ref (ad 114), .int as, .ref (ad 115), .ref (ad 116), .int fo, .ref (ad 117), .ref (ad 118), .ref (ad 119), .ref (ad 120), .ref (ad 121), .int kp, .ref (ad 122), .ref (ad 123), .ref (ad 124), .ref (ad 125)] 0 (.int v)))) pc L st := by
  refine k _ ⟨⟨va_up_self _ _ _, ?_⟩, fun j hj => (va_up_ne _ _ (by omega)).trans (hM.2 j hj)⟩
  (repeat rw [va_up_ne _ _ (by decide)])
  exact hM.1.2
theorem zM_ka {X : zj_T} {cells slots N : Nat} {Q : State → Prop} {pc : Nat} {L : List (Nat × Value)} {st : List Value} {z : zv_T} {ad : Nat → Nat} {g0 g : Nat → va_E} {c as fo kp v : Int32} {a : Nat → Nat → Int32} (hM : zm_M z ad g0 g c as fo kp a) (k : ∀ g1, zm_M z ad g0 g1 c v fo kp a → zj_J X cells slots Q ad N g1 pc L st) : zj_J X cells slots Q ad N (va_up g 108 (ze_o 7 (List.set [.int c, .ref (ad 109), .ref (ad 110), .ref (ad 111), .ref (ad 112), .ref (ad 113), .ref (ad 114), .int as, .ref (ad 115), .ref (ad 116), .int fo, .ref (ad 117), .ref (ad 118), .ref (ad 119), .ref (ad 120), .ref (ad 121), .int kp, .ref (ad 122), .ref (ad 123), .ref (ad 124), .ref (ad 125)] 7 (.int v)))) pc L st := by
  refine k _ ⟨⟨va_up_self _ _ _, ?_⟩, fun j hj => (va_up_ne _ _ (by omega)).trans (hM.2 j hj)⟩
  (repeat rw [va_up_ne _ _ (by decide)])
  exact hM.1.2
theorem zM_kf {X : zj_T} {cells slots N : Nat} {Q : State → Prop} {pc : Nat} {L : List (Nat × Value)} {st : List Value} {z : zv_T} {ad : Nat → Nat} {g0 g : Nat → va_E} {c as fo kp v : Int32} {a : Nat → Nat → Int32} (hM : zm_M z ad g0 g c as fo kp a) (k : ∀ g1, zm_M z ad g0 g1 c as v kp a → zj_J X cells slots Q ad N g1 pc L st) : zj_J X cells slots Q ad N (va_up g 108 (ze_o 7 (List.set [.int c, .ref (ad 109), .ref (ad 110), .ref (ad 111), .ref (ad 112), .ref (ad 113), .ref (ad 114), .int as, .ref (ad 115), .ref (ad 116), .int fo, .ref (ad 117), .ref (ad 118), .ref (ad 119), .ref (ad 120), .ref (ad 121), .int kp, .ref (ad 122), .ref (ad 123), .ref (ad 124), .ref (ad 125)] 10 (.int v)))) pc L st := by
  refine k _ ⟨⟨va_up_self _ _ _, ?_⟩, fun j hj => (va_up_ne _ _ (by omega)).trans (hM.2 j hj)⟩
  (repeat rw [va_up_ne _ _ (by decide)])
  exact hM.1.2
theorem zM_kk {X : zj_T} {cells slots N : Nat} {Q : State → Prop} {pc : Nat} {L : List (Nat × Value)} {st : List Value} {z : zv_T} {ad : Nat → Nat} {g0 g : Nat → va_E} {c as fo kp v : Int32} {a : Nat → Nat → Int32} (hM : zm_M z ad g0 g c as fo kp a) (k : ∀ g1, zm_M z ad g0 g1 c as fo v a → zj_J X cells slots Q ad N g1 pc L st) : zj_J X cells slots Q ad N (va_up g 108 (ze_o 7 (List.set [.int c, .ref (ad 109), .ref (ad 110), .ref (ad 111), .ref (ad 112), .ref (ad 113), .ref (ad 114), .int as, .ref (ad 115), .ref (ad 116), .int fo, .ref (ad 117), .ref (ad 118), .ref (ad 119), .ref (ad 120), .ref (ad 121), .int kp, .ref (ad 122), .ref (ad 123), .ref (ad 124), .ref (ad 125)] 16 (.int v)))) pc L st := by
  refine k _ ⟨⟨va_up_self _ _ _, ?_⟩, fun j hj => (va_up_ne _ _ (by omega)).trans (hM.2 j hj)⟩
  (repeat rw [va_up_ne _ _ (by decide)])
  exact hM.1.2
theorem zM_k0 {X : zj_T} {cells slots N : Nat} {Q : State → Prop} {pc : Nat} {L : List (Nat × Value)} {st : List Value} {z : zv_T} {ad : Nat → Nat} {g0 g : Nat → va_E} {c as fo kp : Int32} {a : Nat → Nat → Int32} {x : Nat → Int32} (hM : zm_M z ad g0 g c as fo kp a) (k : ∀ g1, zm_M z ad g0 g1 c as fo kp (va_up a 0 x) → zj_J X cells slots Q ad N g1 pc L st) : zj_J X cells slots Q ad N (va_up g 109 (ze_z z 8 x)) pc L st :=
  k _ ⟨⟨(va_up_ne _ _ (by decide)).trans hM.1.1, (va_up_self _ _ _), (va_up_ne _ _ (by decide)).trans (hM.1.2.2.1), (va_up_ne _ _ (by decide)).trans (hM.1.2.2.2.1), (va_up_ne _ _ (by decide)).trans (hM.1.2.2.2.2.1), (va_up_ne _ _ (by decide)).trans (hM.1.2.2.2.2.2.1), (va_up_ne _ _ (by decide)).trans (hM.1.2.2.2.2.2.2.1), (va_up_ne _ _ (by decide)).trans (hM.1.2.2.2.2.2.2.2.1), (va_up_ne _ _ (by decide)).trans (hM.1.2.2.2.2.2.2.2.2.1), (va_up_ne _ _ (by decide)).trans (hM.1.2.2.2.2.2.2.2.2.2.1), (va_up_ne _ _ (by decide)).trans (hM.1.2.2.2.2.2.2.2.2.2.2.1), (va_up_ne _ _ (by decide)).trans (hM.1.2.2.2.2.2.2.2.2.2.2.2.1), (va_up_ne _ _ (by decide)).trans (hM.1.2.2.2.2.2.2.2.2.2.2.2.2.1), (va_up_ne _ _ (by decide)).trans (hM.1.2.2.2.2.2.2.2.2.2.2.2.2.2.1), (va_up_ne _ _ (by decide)).trans (hM.1.2.2.2.2.2.2.2.2.2.2.2.2.2.2.1), (va_up_ne _ _ (by decide)).trans (hM.1.2.2.2.2.2.2.2.2.2.2.2.2.2.2.2.1), (va_up_ne _ _ (by decide)).trans (hM.1.2.2.2.2.2.2.2.2.2.2.2.2.2.2.2.2.1), (va_up_ne _ _ (by decide)).trans (hM.1.2.2.2.2.2.2.2.2.2.2.2.2.2.2.2.2.2)⟩, fun j hj => (va_up_ne _ _ (by omega)).trans (hM.2 j hj)⟩
theorem zM_k1 {X : zj_T} {cells slots N : Nat} {Q : State → Prop} {pc : Nat} {L : List (Nat × Value)} {st : List Value} {z : zv_T} {ad : Nat → Nat} {g0 g : Nat → va_E} {c as fo kp : Int32} {a : Nat → Nat → Int32} {x : Nat → Int32} (hM : zm_M z ad g0 g c as fo kp a) (k : ∀ g1, zm_M z ad g0 g1 c as fo kp (va_up a 1 x) → zj_J X cells slots Q ad N g1 pc L st) : zj_J X cells slots Q ad N (va_up g 110 (ze_z z 8 x)) pc L st :=
  k _ ⟨⟨(va_up_ne _ _ (by decide)).trans hM.1.1, (va_up_ne _ _ (by decide)).trans (hM.1.2.1), (va_up_self _ _ _), (va_up_ne _ _ (by decide)).trans (hM.1.2.2.2.1), (va_up_ne _ _ (by decide)).trans (hM.1.2.2.2.2.1), (va_up_ne _ _ (by decide)).trans (hM.1.2.2.2.2.2.1), (va_up_ne _ _ (by decide)).trans (hM.1.2.2.2.2.2.2.1), (va_up_ne _ _ (by decide)).trans (hM.1.2.2.2.2.2.2.2.1), (va_up_ne _ _ (by decide)).trans (hM.1.2.2.2.2.2.2.2.2.1), (va_up_ne _ _ (by decide)).trans (hM.1.2.2.2.2.2.2.2.2.2.1), (va_up_ne _ _ (by decide)).trans (hM.1.2.2.2.2.2.2.2.2.2.2.1), (va_up_ne _ _ (by decide)).trans (hM.1.2.2.2.2.2.2.2.2.2.2.2.1), (va_up_ne _ _ (by decide)).trans (hM.1.2.2.2.2.2.2.2.2.2.2.2.2.1), (va_up_ne _ _ (by decide)).trans (hM.1.2.2.2.2.2.2.2.2.2.2.2.2.2.1), (va_up_ne _ _ (by decide)).trans (hM.1.2.2.2.2.2.2.2.2.2.2.2.2.2.2.1), (va_up_ne _ _ (by decide)).trans (hM.1.2.2.2.2.2.2.2.2.2.2.2.2.2.2.2.1), (va_up_ne _ _ (by decide)).trans (hM.1.2.2.2.2.2.2.2.2.2.2.2.2.2.2.2.2.1), (va_up_ne _ _ (by decide)).trans (hM.1.2.2.2.2.2.2.2.2.2.2.2.2.2.2.2.2.2)⟩, fun j hj => (va_up_ne _ _ (by omega)).trans (hM.2 j hj)⟩
theorem zM_k2 {X : zj_T} {cells slots N : Nat} {Q : State → Prop} {pc : Nat} {L : List (Nat × Value)} {st : List Value} {z : zv_T} {ad : Nat → Nat} {g0 g : Nat → va_E} {c as fo kp : Int32} {a : Nat → Nat → Int32} {x : Nat → Int32} (hM : zm_M z ad g0 g c as fo kp a) (k : ∀ g1, zm_M z ad g0 g1 c as fo kp (va_up a 2 x) → zj_J X cells slots Q ad N g1 pc L st) : zj_J X cells slots Q ad N (va_up g 111 (ze_i z 8 x)) pc L st :=
  k _ ⟨⟨(va_up_ne _ _ (by decide)).trans hM.1.1, (va_up_ne _ _ (by decide)).trans (hM.1.2.1), (va_up_ne _ _ (by decide)).trans (hM.1.2.2.1), (va_up_self _ _ _), (va_up_ne _ _ (by decide)).trans (hM.1.2.2.2.2.1), (va_up_ne _ _ (by decide)).trans (hM.1.2.2.2.2.2.1), (va_up_ne _ _ (by decide)).trans (hM.1.2.2.2.2.2.2.1), (va_up_ne _ _ (by decide)).trans (hM.1.2.2.2.2.2.2.2.1), (va_up_ne _ _ (by decide)).trans (hM.1.2.2.2.2.2.2.2.2.1), (va_up_ne _ _ (by decide)).trans (hM.1.2.2.2.2.2.2.2.2.2.1), (va_up_ne _ _ (by decide)).trans (hM.1.2.2.2.2.2.2.2.2.2.2.1), (va_up_ne _ _ (by decide)).trans (hM.1.2.2.2.2.2.2.2.2.2.2.2.1), (va_up_ne _ _ (by decide)).trans (hM.1.2.2.2.2.2.2.2.2.2.2.2.2.1), (va_up_ne _ _ (by decide)).trans (hM.1.2.2.2.2.2.2.2.2.2.2.2.2.2.1), (va_up_ne _ _ (by decide)).trans (hM.1.2.2.2.2.2.2.2.2.2.2.2.2.2.2.1), (va_up_ne _ _ (by decide)).trans (hM.1.2.2.2.2.2.2.2.2.2.2.2.2.2.2.2.1), (va_up_ne _ _ (by decide)).trans (hM.1.2.2.2.2.2.2.2.2.2.2.2.2.2.2.2.2.1), (va_up_ne _ _ (by decide)).trans (hM.1.2.2.2.2.2.2.2.2.2.2.2.2.2.2.2.2.2)⟩, fun j hj => (va_up_ne _ _ (by omega)).trans (hM.2 j hj)⟩
theorem zM_k3 {X : zj_T} {cells slots N : Nat} {Q : State → Prop} {pc : Nat} {L : List (Nat × Value)} {st : List Value} {z : zv_T} {ad : Nat → Nat} {g0 g : Nat → va_E} {c as fo kp : Int32} {a : Nat → Nat → Int32} {x : Nat → Int32} (hM : zm_M z ad g0 g c as fo kp a) (k : ∀ g1, zm_M z ad g0 g1 c as fo kp (va_up a 3 x) → zj_J X cells slots Q ad N g1 pc L st) : zj_J X cells slots Q ad N (va_up g 112 (ze_i z 8 x)) pc L st :=
  k _ ⟨⟨(va_up_ne _ _ (by decide)).trans hM.1.1, (va_up_ne _ _ (by decide)).trans (hM.1.2.1), (va_up_ne _ _ (by decide)).trans (hM.1.2.2.1), (va_up_ne _ _ (by decide)).trans (hM.1.2.2.2.1), (va_up_self _ _ _), (va_up_ne _ _ (by decide)).trans (hM.1.2.2.2.2.2.1), (va_up_ne _ _ (by decide)).trans (hM.1.2.2.2.2.2.2.1), (va_up_ne _ _ (by decide)).trans (hM.1.2.2.2.2.2.2.2.1), (va_up_ne _ _ (by decide)).trans (hM.1.2.2.2.2.2.2.2.2.1), (va_up_ne _ _ (by decide)).trans (hM.1.2.2.2.2.2.2.2.2.2.1), (va_up_ne _ _ (by decide)).trans (hM.1.2.2.2.2.2.2.2.2.2.2.1), (va_up_ne _ _ (by decide)).trans (hM.1.2.2.2.2.2.2.2.2.2.2.2.1), (va_up_ne _ _ (by decide)).trans (hM.1.2.2.2.2.2.2.2.2.2.2.2.2.1), (va_up_ne _ _ (by decide)).trans (hM.1.2.2.2.2.2.2.2.2.2.2.2.2.2.1), (va_up_ne _ _ (by decide)).trans (hM.1.2.2.2.2.2.2.2.2.2.2.2.2.2.2.1), (va_up_ne _ _ (by decide)).trans (hM.1.2.2.2.2.2.2.2.2.2.2.2.2.2.2.2.1), (va_up_ne _ _ (by decide)).trans (hM.1.2.2.2.2.2.2.2.2.2.2.2.2.2.2.2.2.1), (va_up_ne _ _ (by decide)).trans (hM.1.2.2.2.2.2.2.2.2.2.2.2.2.2.2.2.2.2)⟩, fun j hj => (va_up_ne _ _ (by omega)).trans (hM.2 j hj)⟩
theorem zM_k4 {X : zj_T} {cells slots N : Nat} {Q : State → Prop} {pc : Nat} {L : List (Nat × Value)} {st : List Value} {z : zv_T} {ad : Nat → Nat} {g0 g : Nat → va_E} {c as fo kp : Int32} {a : Nat → Nat → Int32} {x : Nat → Int32} (hM : zm_M z ad g0 g c as fo kp a) (k : ∀ g1, zm_M z ad g0 g1 c as fo kp (va_up a 4 x) → zj_J X cells slots Q ad N g1 pc L st) : zj_J X cells slots Q ad N (va_up g 113 (ze_i z 1440 x)) pc L st :=
  k _ ⟨⟨(va_up_ne _ _ (by decide)).trans hM.1.1, (va_up_ne _ _ (by decide)).trans (hM.1.2.1), (va_up_ne _ _ (by decide)).trans (hM.1.2.2.1), (va_up_ne _ _ (by decide)).trans (hM.1.2.2.2.1), (va_up_ne _ _ (by decide)).trans (hM.1.2.2.2.2.1), (va_up_self _ _ _), (va_up_ne _ _ (by decide)).trans (hM.1.2.2.2.2.2.2.1), (va_up_ne _ _ (by decide)).trans (hM.1.2.2.2.2.2.2.2.1), (va_up_ne _ _ (by decide)).trans (hM.1.2.2.2.2.2.2.2.2.1), (va_up_ne _ _ (by decide)).trans (hM.1.2.2.2.2.2.2.2.2.2.1), (va_up_ne _ _ (by decide)).trans (hM.1.2.2.2.2.2.2.2.2.2.2.1), (va_up_ne _ _ (by decide)).trans (hM.1.2.2.2.2.2.2.2.2.2.2.2.1), (va_up_ne _ _ (by decide)).trans (hM.1.2.2.2.2.2.2.2.2.2.2.2.2.1), (va_up_ne _ _ (by decide)).trans (hM.1.2.2.2.2.2.2.2.2.2.2.2.2.2.1), (va_up_ne _ _ (by decide)).trans (hM.1.2.2.2.2.2.2.2.2.2.2.2.2.2.2.1), (va_up_ne _ _ (by decide)).trans (hM.1.2.2.2.2.2.2.2.2.2.2.2.2.2.2.2.1), (va_up_ne _ _ (by decide)).trans (hM.1.2.2.2.2.2.2.2.2.2.2.2.2.2.2.2.2.1), (va_up_ne _ _ (by decide)).trans (hM.1.2.2.2.2.2.2.2.2.2.2.2.2.2.2.2.2.2)⟩, fun j hj => (va_up_ne _ _ (by omega)).trans (hM.2 j hj)⟩
theorem zM_k5 {X : zj_T} {cells slots N : Nat} {Q : State → Prop} {pc : Nat} {L : List (Nat × Value)} {st : List Value} {z : zv_T} {ad : Nat → Nat} {g0 g : Nat → va_E} {c as fo kp : Int32} {a : Nat → Nat → Int32} {x : Nat → Int32} (hM : zm_M z ad g0 g c as fo kp a) (k : ∀ g1, zm_M z ad g0 g1 c as fo kp (va_up a 5 x) → zj_J X cells slots Q ad N g1 pc L st) : zj_J X cells slots Q ad N (va_up g 114 (ze_i z 1440 x)) pc L st :=
  k _ ⟨⟨(va_up_ne _ _ (by decide)).trans hM.1.1, (va_up_ne _ _ (by decide)).trans (hM.1.2.1), (va_up_ne _ _ (by decide)).trans (hM.1.2.2.1), (va_up_ne _ _ (by decide)).trans (hM.1.2.2.2.1), (va_up_ne _ _ (by decide)).trans (hM.1.2.2.2.2.1), (va_up_ne _ _ (by decide)).trans (hM.1.2.2.2.2.2.1), (va_up_self _ _ _), (va_up_ne _ _ (by decide)).trans (hM.1.2.2.2.2.2.2.2.1), (va_up_ne _ _ (by decide)).trans (hM.1.2.2.2.2.2.2.2.2.1), (va_up_ne _ _ (by decide)).trans (hM.1.2.2.2.2.2.2.2.2.2.1), (va_up_ne _ _ (by decide)).trans (hM.1.2.2.2.2.2.2.2.2.2.2.1), (va_up_ne _ _ (by decide)).trans (hM.1.2.2.2.2.2.2.2.2.2.2.2.1), (va_up_ne _ _ (by decide)).trans (hM.1.2.2.2.2.2.2.2.2.2.2.2.2.1), (va_up_ne _ _ (by decide)).trans (hM.1.2.2.2.2.2.2.2.2.2.2.2.2.2.1), (va_up_ne _ _ (by decide)).trans (hM.1.2.2.2.2.2.2.2.2.2.2.2.2.2.2.1), (va_up_ne _ _ (by decide)).trans (hM.1.2.2.2.2.2.2.2.2.2.2.2.2.2.2.2.1), (va_up_ne _ _ (by decide)).trans (hM.1.2.2.2.2.2.2.2.2.2.2.2.2.2.2.2.2.1), (va_up_ne _ _ (by decide)).trans (hM.1.2.2.2.2.2.2.2.2.2.2.2.2.2.2.2.2.2)⟩, fun j hj => (va_up_ne _ _ (by omega)).trans (hM.2 j hj)⟩
theorem zM_k6 {X : zj_T} {cells slots N : Nat} {Q : State → Prop} {pc : Nat} {L : List (Nat × Value)} {st : List Value} {z : zv_T} {ad : Nat → Nat} {g0 g : Nat → va_E} {c as fo kp : Int32} {a : Nat → Nat → Int32} {x : Nat → Int32} (hM : zm_M z ad g0 g c as fo kp a) (k : ∀ g1, zm_M z ad g0 g1 c as fo kp (va_up a 6 x) → zj_J X cells slots Q ad N g1 pc L st) : zj_J X cells slots Q ad N (va_up g 115 (ze_i z 8 x)) pc L st :=
  k _ ⟨⟨(va_up_ne _ _ (by decide)).trans hM.1.1, (va_up_ne _ _ (by decide)).trans (hM.1.2.1), (va_up_ne _ _ (by decide)).trans (hM.1.2.2.1), (va_up_ne _ _ (by decide)).trans (hM.1.2.2.2.1), (va_up_ne _ _ (by decide)).trans (hM.1.2.2.2.2.1), (va_up_ne _ _ (by decide)).trans (hM.1.2.2.2.2.2.1), (va_up_ne _ _ (by decide)).trans (hM.1.2.2.2.2.2.2.1), (va_up_self _ _ _), (va_up_ne _ _ (by decide)).trans (hM.1.2.2.2.2.2.2.2.2.1), (va_up_ne _ _ (by decide)).trans (hM.1.2.2.2.2.2.2.2.2.2.1), (va_up_ne _ _ (by decide)).trans (hM.1.2.2.2.2.2.2.2.2.2.2.1), (va_up_ne _ _ (by decide)).trans (hM.1.2.2.2.2.2.2.2.2.2.2.2.1), (va_up_ne _ _ (by decide)).trans (hM.1.2.2.2.2.2.2.2.2.2.2.2.2.1), (va_up_ne _ _ (by decide)).trans (hM.1.2.2.2.2.2.2.2.2.2.2.2.2.2.1), (va_up_ne _ _ (by decide)).trans (hM.1.2.2.2.2.2.2.2.2.2.2.2.2.2.2.1), (va_up_ne _ _ (by decide)).trans (hM.1.2.2.2.2.2.2.2.2.2.2.2.2.2.2.2.1), (va_up_ne _ _ (by decide)).trans (hM.1.2.2.2.2.2.2.2.2.2.2.2.2.2.2.2.2.1), (va_up_ne _ _ (by decide)).trans (hM.1.2.2.2.2.2.2.2.2.2.2.2.2.2.2.2.2.2)⟩, fun j hj => (va_up_ne _ _ (by omega)).trans (hM.2 j hj)⟩
theorem zM_k7 {X : zj_T} {cells slots N : Nat} {Q : State → Prop} {pc : Nat} {L : List (Nat × Value)} {st : List Value} {z : zv_T} {ad : Nat → Nat} {g0 g : Nat → va_E} {c as fo kp : Int32} {a : Nat → Nat → Int32} {x : Nat → Int32} (hM : zm_M z ad g0 g c as fo kp a) (k : ∀ g1, zm_M z ad g0 g1 c as fo kp (va_up a 7 x) → zj_J X cells slots Q ad N g1 pc L st) : zj_J X cells slots Q ad N (va_up g 116 (ze_i z 8 x)) pc L st :=
  k _ ⟨⟨(va_up_ne _ _ (by decide)).trans hM.1.1, (va_up_ne _ _ (by decide)).trans (hM.1.2.1), (va_up_ne _ _ (by decide)).trans (hM.1.2.2.1), (va_up_ne _ _ (by decide)).trans (hM.1.2.2.2.1), (va_up_ne _ _ (by decide)).trans (hM.1.2.2.2.2.1), (va_up_ne _ _ (by decide)).trans (hM.1.2.2.2.2.2.1), (va_up_ne _ _ (by decide)).trans (hM.1.2.2.2.2.2.2.1), (va_up_ne _ _ (by decide)).trans (hM.1.2.2.2.2.2.2.2.1), (va_up_self _ _ _), (va_up_ne _ _ (by decide)).trans (hM.1.2.2.2.2.2.2.2.2.2.1), (va_up_ne _ _ (by decide)).trans (hM.1.2.2.2.2.2.2.2.2.2.2.1), (va_up_ne _ _ (by decide)).trans (hM.1.2.2.2.2.2.2.2.2.2.2.2.1), (va_up_ne _ _ (by decide)).trans (hM.1.2.2.2.2.2.2.2.2.2.2.2.2.1), (va_up_ne _ _ (by decide)).trans (hM.1.2.2.2.2.2.2.2.2.2.2.2.2.2.1), (va_up_ne _ _ (by decide)).trans (hM.1.2.2.2.2.2.2.2.2.2.2.2.2.2.2.1), (va_up_ne _ _ (by decide)).trans (hM.1.2.2.2.2.2.2.2.2.2.2.2.2.2.2.2.1), (va_up_ne _ _ (by decide)).trans (hM.1.2.2.2.2.2.2.2.2.2.2.2.2.2.2.2.2.1), (va_up_ne _ _ (by decide)).trans (hM.1.2.2.2.2.2.2.2.2.2.2.2.2.2.2.2.2.2)⟩, fun j hj => (va_up_ne _ _ (by omega)).trans (hM.2 j hj)⟩
theorem zM_k8 {X : zj_T} {cells slots N : Nat} {Q : State → Prop} {pc : Nat} {L : List (Nat × Value)} {st : List Value} {z : zv_T} {ad : Nat → Nat} {g0 g : Nat → va_E} {c as fo kp : Int32} {a : Nat → Nat → Int32} {x : Nat → Int32} (hM : zm_M z ad g0 g c as fo kp a) (k : ∀ g1, zm_M z ad g0 g1 c as fo kp (va_up a 8 x) → zj_J X cells slots Q ad N g1 pc L st) : zj_J X cells slots Q ad N (va_up g 117 (ze_i z 1520 x)) pc L st :=
  k _ ⟨⟨(va_up_ne _ _ (by decide)).trans hM.1.1, (va_up_ne _ _ (by decide)).trans (hM.1.2.1), (va_up_ne _ _ (by decide)).trans (hM.1.2.2.1), (va_up_ne _ _ (by decide)).trans (hM.1.2.2.2.1), (va_up_ne _ _ (by decide)).trans (hM.1.2.2.2.2.1), (va_up_ne _ _ (by decide)).trans (hM.1.2.2.2.2.2.1), (va_up_ne _ _ (by decide)).trans (hM.1.2.2.2.2.2.2.1), (va_up_ne _ _ (by decide)).trans (hM.1.2.2.2.2.2.2.2.1), (va_up_ne _ _ (by decide)).trans (hM.1.2.2.2.2.2.2.2.2.1), (va_up_self _ _ _), (va_up_ne _ _ (by decide)).trans (hM.1.2.2.2.2.2.2.2.2.2.2.1), (va_up_ne _ _ (by decide)).trans (hM.1.2.2.2.2.2.2.2.2.2.2.2.1), (va_up_ne _ _ (by decide)).trans (hM.1.2.2.2.2.2.2.2.2.2.2.2.2.1), (va_up_ne _ _ (by decide)).trans (hM.1.2.2.2.2.2.2.2.2.2.2.2.2.2.1), (va_up_ne _ _ (by decide)).trans (hM.1.2.2.2.2.2.2.2.2.2.2.2.2.2.2.1), (va_up_ne _ _ (by decide)).trans (hM.1.2.2.2.2.2.2.2.2.2.2.2.2.2.2.2.1), (va_up_ne _ _ (by decide)).trans (hM.1.2.2.2.2.2.2.2.2.2.2.2.2.2.2.2.2.1), (va_up_ne _ _ (by decide)).trans (hM.1.2.2.2.2.2.2.2.2.2.2.2.2.2.2.2.2.2)⟩, fun j hj => (va_up_ne _ _ (by omega)).trans (hM.2 j hj)⟩
theorem zM_k9 {X : zj_T} {cells slots N : Nat} {Q : State → Prop} {pc : Nat} {L : List (Nat × Value)} {st : List Value} {z : zv_T} {ad : Nat → Nat} {g0 g : Nat → va_E} {c as fo kp : Int32} {a : Nat → Nat → Int32} {x : Nat → Int32} (hM : zm_M z ad g0 g c as fo kp a) (k : ∀ g1, zm_M z ad g0 g1 c as fo kp (va_up a 9 x) → zj_J X cells slots Q ad N g1 pc L st) : zj_J X cells slots Q ad N (va_up g 118 (ze_i z 1520 x)) pc L st :=
  k _ ⟨⟨(va_up_ne _ _ (by decide)).trans hM.1.1, (va_up_ne _ _ (by decide)).trans (hM.1.2.1), (va_up_ne _ _ (by decide)).trans (hM.1.2.2.1), (va_up_ne _ _ (by decide)).trans (hM.1.2.2.2.1), (va_up_ne _ _ (by decide)).trans (hM.1.2.2.2.2.1), (va_up_ne _ _ (by decide)).trans (hM.1.2.2.2.2.2.1), (va_up_ne _ _ (by decide)).trans (hM.1.2.2.2.2.2.2.1), (va_up_ne _ _ (by decide)).trans (hM.1.2.2.2.2.2.2.2.1), (va_up_ne _ _ (by decide)).trans (hM.1.2.2.2.2.2.2.2.2.1), (va_up_ne _ _ (by decide)).trans (hM.1.2.2.2.2.2.2.2.2.2.1), (va_up_self _ _ _), (va_up_ne _ _ (by decide)).trans (hM.1.2.2.2.2.2.2.2.2.2.2.2.1), (va_up_ne _ _ (by decide)).trans (hM.1.2.2.2.2.2.2.2.2.2.2.2.2.1), (va_up_ne _ _ (by decide)).trans (hM.1.2.2.2.2.2.2.2.2.2.2.2.2.2.1), (va_up_ne _ _ (by decide)).trans (hM.1.2.2.2.2.2.2.2.2.2.2.2.2.2.2.1), (va_up_ne _ _ (by decide)).trans (hM.1.2.2.2.2.2.2.2.2.2.2.2.2.2.2.2.1), (va_up_ne _ _ (by decide)).trans (hM.1.2.2.2.2.2.2.2.2.2.2.2.2.2.2.2.2.1), (va_up_ne _ _ (by decide)).trans (hM.1.2.2.2.2.2.2.2.2.2.2.2.2.2.2.2.2.2)⟩, fun j hj => (va_up_ne _ _ (by omega)).trans (hM.2 j hj)⟩
theorem zM_k10 {X : zj_T} {cells slots N : Nat} {Q : State → Prop} {pc : Nat} {L : List (Nat × Value)} {st : List Value} {z : zv_T} {ad : Nat → Nat} {g0 g : Nat → va_E} {c as fo kp : Int32} {a : Nat → Nat → Int32} {x : Nat → Int32} (hM : zm_M z ad g0 g c as fo kp a) (k : ∀ g1, zm_M z ad g0 g1 c as fo kp (va_up a 10 x) → zj_J X cells slots Q ad N g1 pc L st) : zj_J X cells slots Q ad N (va_up g 119 (ze_i z 1520 x)) pc L st :=
  k _ ⟨⟨(va_up_ne _ _ (by decide)).trans hM.1.1, (va_up_ne _ _ (by decide)).trans (hM.1.2.1), (va_up_ne _ _ (by decide)).trans (hM.1.2.2.1), (va_up_ne _ _ (by decide)).trans (hM.1.2.2.2.1), (va_up_ne _ _ (by decide)).trans (hM.1.2.2.2.2.1), (va_up_ne _ _ (by decide)).trans (hM.1.2.2.2.2.2.1), (va_up_ne _ _ (by decide)).trans (hM.1.2.2.2.2.2.2.1), (va_up_ne _ _ (by decide)).trans (hM.1.2.2.2.2.2.2.2.1), (va_up_ne _ _ (by decide)).trans (hM.1.2.2.2.2.2.2.2.2.1), (va_up_ne _ _ (by decide)).trans (hM.1.2.2.2.2.2.2.2.2.2.1), (va_up_ne _ _ (by decide)).trans (hM.1.2.2.2.2.2.2.2.2.2.2.1), (va_up_self _ _ _), (va_up_ne _ _ (by decide)).trans (hM.1.2.2.2.2.2.2.2.2.2.2.2.2.1), (va_up_ne _ _ (by decide)).trans (hM.1.2.2.2.2.2.2.2.2.2.2.2.2.2.1), (va_up_ne _ _ (by decide)).trans (hM.1.2.2.2.2.2.2.2.2.2.2.2.2.2.2.1), (va_up_ne _ _ (by decide)).trans (hM.1.2.2.2.2.2.2.2.2.2.2.2.2.2.2.2.1), (va_up_ne _ _ (by decide)).trans (hM.1.2.2.2.2.2.2.2.2.2.2.2.2.2.2.2.2.1), (va_up_ne _ _ (by decide)).trans (hM.1.2.2.2.2.2.2.2.2.2.2.2.2.2.2.2.2.2)⟩, fun j hj => (va_up_ne _ _ (by omega)).trans (hM.2 j hj)⟩
theorem zM_k11 {X : zj_T} {cells slots N : Nat} {Q : State → Prop} {pc : Nat} {L : List (Nat × Value)} {st : List Value} {z : zv_T} {ad : Nat → Nat} {g0 g : Nat → va_E} {c as fo kp : Int32} {a : Nat → Nat → Int32} {x : Nat → Int32} (hM : zm_M z ad g0 g c as fo kp a) (k : ∀ g1, zm_M z ad g0 g1 c as fo kp (va_up a 11 x) → zj_J X cells slots Q ad N g1 pc L st) : zj_J X cells slots Q ad N (va_up g 120 (ze_i z 1520 x)) pc L st :=
  k _ ⟨⟨(va_up_ne _ _ (by decide)).trans hM.1.1, (va_up_ne _ _ (by decide)).trans (hM.1.2.1), (va_up_ne _ _ (by decide)).trans (hM.1.2.2.1), (va_up_ne _ _ (by decide)).trans (hM.1.2.2.2.1), (va_up_ne _ _ (by decide)).trans (hM.1.2.2.2.2.1), (va_up_ne _ _ (by decide)).trans (hM.1.2.2.2.2.2.1), (va_up_ne _ _ (by decide)).trans (hM.1.2.2.2.2.2.2.1), (va_up_ne _ _ (by decide)).trans (hM.1.2.2.2.2.2.2.2.1), (va_up_ne _ _ (by decide)).trans (hM.1.2.2.2.2.2.2.2.2.1), (va_up_ne _ _ (by decide)).trans (hM.1.2.2.2.2.2.2.2.2.2.1), (va_up_ne _ _ (by decide)).trans (hM.1.2.2.2.2.2.2.2.2.2.2.1), (va_up_ne _ _ (by decide)).trans (hM.1.2.2.2.2.2.2.2.2.2.2.2.1), (va_up_self _ _ _), (va_up_ne _ _ (by decide)).trans (hM.1.2.2.2.2.2.2.2.2.2.2.2.2.2.1), (va_up_ne _ _ (by decide)).trans (hM.1.2.2.2.2.2.2.2.2.2.2.2.2.2.2.1), (va_up_ne _ _ (by decide)).trans (hM.1.2.2.2.2.2.2.2.2.2.2.2.2.2.2.2.1), (va_up_ne _ _ (by decide)).trans (hM.1.2.2.2.2.2.2.2.2.2.2.2.2.2.2.2.2.1), (va_up_ne _ _ (by decide)).trans (hM.1.2.2.2.2.2.2.2.2.2.2.2.2.2.2.2.2.2)⟩, fun j hj => (va_up_ne _ _ (by omega)).trans (hM.2 j hj)⟩
theorem zM_k12 {X : zj_T} {cells slots N : Nat} {Q : State → Prop} {pc : Nat} {L : List (Nat × Value)} {st : List Value} {z : zv_T} {ad : Nat → Nat} {g0 g : Nat → va_E} {c as fo kp : Int32} {a : Nat → Nat → Int32} {x : Nat → Int32} (hM : zm_M z ad g0 g c as fo kp a) (k : ∀ g1, zm_M z ad g0 g1 c as fo kp (va_up a 12 x) → zj_J X cells slots Q ad N g1 pc L st) : zj_J X cells slots Q ad N (va_up g 121 (ze_z z 1520 x)) pc L st :=
  k _ ⟨⟨(va_up_ne _ _ (by decide)).trans hM.1.1, (va_up_ne _ _ (by decide)).trans (hM.1.2.1), (va_up_ne _ _ (by decide)).trans (hM.1.2.2.1), (va_up_ne _ _ (by decide)).trans (hM.1.2.2.2.1), (va_up_ne _ _ (by decide)).trans (hM.1.2.2.2.2.1), (va_up_ne _ _ (by decide)).trans (hM.1.2.2.2.2.2.1), (va_up_ne _ _ (by decide)).trans (hM.1.2.2.2.2.2.2.1), (va_up_ne _ _ (by decide)).trans (hM.1.2.2.2.2.2.2.2.1), (va_up_ne _ _ (by decide)).trans (hM.1.2.2.2.2.2.2.2.2.1), (va_up_ne _ _ (by decide)).trans (hM.1.2.2.2.2.2.2.2.2.2.1), (va_up_ne _ _ (by decide)).trans (hM.1.2.2.2.2.2.2.2.2.2.2.1), (va_up_ne _ _ (by decide)).trans (hM.1.2.2.2.2.2.2.2.2.2.2.2.1), (va_up_ne _ _ (by decide)).trans (hM.1.2.2.2.2.2.2.2.2.2.2.2.2.1), (va_up_self _ _ _), (va_up_ne _ _ (by decide)).trans (hM.1.2.2.2.2.2.2.2.2.2.2.2.2.2.2.1), (va_up_ne _ _ (by decide)).trans (hM.1.2.2.2.2.2.2.2.2.2.2.2.2.2.2.2.1), (va_up_ne _ _ (by decide)).trans (hM.1.2.2.2.2.2.2.2.2.2.2.2.2.2.2.2.2.1), (va_up_ne _ _ (by decide)).trans (hM.1.2.2.2.2.2.2.2.2.2.2.2.2.2.2.2.2.2)⟩, fun j hj => (va_up_ne _ _ (by omega)).trans (hM.2 j hj)⟩
theorem zM_k13 {X : zj_T} {cells slots N : Nat} {Q : State → Prop} {pc : Nat} {L : List (Nat × Value)} {st : List Value} {z : zv_T} {ad : Nat → Nat} {g0 g : Nat → va_E} {c as fo kp : Int32} {a : Nat → Nat → Int32} {x : Nat → Int32} (hM : zm_M z ad g0 g c as fo kp a) (k : ∀ g1, zm_M z ad g0 g1 c as fo kp (va_up a 13 x) → zj_J X cells slots Q ad N g1 pc L st) : zj_J X cells slots Q ad N (va_up g 122 (ze_i z 180 x)) pc L st :=
  k _ ⟨⟨(va_up_ne _ _ (by decide)).trans hM.1.1, (va_up_ne _ _ (by decide)).trans (hM.1.2.1), (va_up_ne _ _ (by decide)).trans (hM.1.2.2.1), (va_up_ne _ _ (by decide)).trans (hM.1.2.2.2.1), (va_up_ne _ _ (by decide)).trans (hM.1.2.2.2.2.1), (va_up_ne _ _ (by decide)).trans (hM.1.2.2.2.2.2.1), (va_up_ne _ _ (by decide)).trans (hM.1.2.2.2.2.2.2.1), (va_up_ne _ _ (by decide)).trans (hM.1.2.2.2.2.2.2.2.1), (va_up_ne _ _ (by decide)).trans (hM.1.2.2.2.2.2.2.2.2.1), (va_up_ne _ _ (by decide)).trans (hM.1.2.2.2.2.2.2.2.2.2.1), (va_up_ne _ _ (by decide)).trans (hM.1.2.2.2.2.2.2.2.2.2.2.1), (va_up_ne _ _ (by decide)).trans (hM.1.2.2.2.2.2.2.2.2.2.2.2.1), (va_up_ne _ _ (by decide)).trans (hM.1.2.2.2.2.2.2.2.2.2.2.2.2.1), (va_up_ne _ _ (by decide)).trans (hM.1.2.2.2.2.2.2.2.2.2.2.2.2.2.1), (va_up_self _ _ _), (va_up_ne _ _ (by decide)).trans (hM.1.2.2.2.2.2.2.2.2.2.2.2.2.2.2.2.1), (va_up_ne _ _ (by decide)).trans (hM.1.2.2.2.2.2.2.2.2.2.2.2.2.2.2.2.2.1), (va_up_ne _ _ (by decide)).trans (hM.1.2.2.2.2.2.2.2.2.2.2.2.2.2.2.2.2.2)⟩, fun j hj => (va_up_ne _ _ (by omega)).trans (hM.2 j hj)⟩
theorem zM_k14 {X : zj_T} {cells slots N : Nat} {Q : State → Prop} {pc : Nat} {L : List (Nat × Value)} {st : List Value} {z : zv_T} {ad : Nat → Nat} {g0 g : Nat → va_E} {c as fo kp : Int32} {a : Nat → Nat → Int32} {x : Nat → Int32} (hM : zm_M z ad g0 g c as fo kp a) (k : ∀ g1, zm_M z ad g0 g1 c as fo kp (va_up a 14 x) → zj_J X cells slots Q ad N g1 pc L st) : zj_J X cells slots Q ad N (va_up g 123 (ze_i z 160 x)) pc L st :=
  k _ ⟨⟨(va_up_ne _ _ (by decide)).trans hM.1.1, (va_up_ne _ _ (by decide)).trans (hM.1.2.1), (va_up_ne _ _ (by decide)).trans (hM.1.2.2.1), (va_up_ne _ _ (by decide)).trans (hM.1.2.2.2.1), (va_up_ne _ _ (by decide)).trans (hM.1.2.2.2.2.1), (va_up_ne _ _ (by decide)).trans (hM.1.2.2.2.2.2.1), (va_up_ne _ _ (by decide)).trans (hM.1.2.2.2.2.2.2.1), (va_up_ne _ _ (by decide)).trans (hM.1.2.2.2.2.2.2.2.1), (va_up_ne _ _ (by decide)).trans (hM.1.2.2.2.2.2.2.2.2.1), (va_up_ne _ _ (by decide)).trans (hM.1.2.2.2.2.2.2.2.2.2.1), (va_up_ne _ _ (by decide)).trans (hM.1.2.2.2.2.2.2.2.2.2.2.1), (va_up_ne _ _ (by decide)).trans (hM.1.2.2.2.2.2.2.2.2.2.2.2.1), (va_up_ne _ _ (by decide)).trans (hM.1.2.2.2.2.2.2.2.2.2.2.2.2.1), (va_up_ne _ _ (by decide)).trans (hM.1.2.2.2.2.2.2.2.2.2.2.2.2.2.1), (va_up_ne _ _ (by decide)).trans (hM.1.2.2.2.2.2.2.2.2.2.2.2.2.2.2.1), (va_up_self _ _ _), (va_up_ne _ _ (by decide)).trans (hM.1.2.2.2.2.2.2.2.2.2.2.2.2.2.2.2.2.1), (va_up_ne _ _ (by decide)).trans (hM.1.2.2.2.2.2.2.2.2.2.2.2.2.2.2.2.2.2)⟩, fun j hj => (va_up_ne _ _ (by omega)).trans (hM.2 j hj)⟩
theorem zM_k15 {X : zj_T} {cells slots N : Nat} {Q : State → Prop} {pc : Nat} {L : List (Nat × Value)} {st : List Value} {z : zv_T} {ad : Nat → Nat} {g0 g : Nat → va_E} {c as fo kp : Int32} {a : Nat → Nat → Int32} {x : Nat → Int32} (hM : zm_M z ad g0 g c as fo kp a) (k : ∀ g1, zm_M z ad g0 g1 c as fo kp (va_up a 15 x) → zj_J X cells slots Q ad N g1 pc L st) : zj_J X cells slots Q ad N (va_up g 124 (ze_i z 160 x)) pc L st :=
  k _ ⟨⟨(va_up_ne _ _ (by decide)).trans hM.1.1, (va_up_ne _ _ (by decide)).trans (hM.1.2.1), (va_up_ne _ _ (by decide)).trans (hM.1.2.2.1), (va_up_ne _ _ (by decide)).trans (hM.1.2.2.2.1), (va_up_ne _ _ (by decide)).trans (hM.1.2.2.2.2.1), (va_up_ne _ _ (by decide)).trans (hM.1.2.2.2.2.2.1), (va_up_ne _ _ (by decide)).trans (hM.1.2.2.2.2.2.2.1), (va_up_ne _ _ (by decide)).trans (hM.1.2.2.2.2.2.2.2.1), (va_up_ne _ _ (by decide)).trans (hM.1.2.2.2.2.2.2.2.2.1), (va_up_ne _ _ (by decide)).trans (hM.1.2.2.2.2.2.2.2.2.2.1), (va_up_ne _ _ (by decide)).trans (hM.1.2.2.2.2.2.2.2.2.2.2.1), (va_up_ne _ _ (by decide)).trans (hM.1.2.2.2.2.2.2.2.2.2.2.2.1), (va_up_ne _ _ (by decide)).trans (hM.1.2.2.2.2.2.2.2.2.2.2.2.2.1), (va_up_ne _ _ (by decide)).trans (hM.1.2.2.2.2.2.2.2.2.2.2.2.2.2.1), (va_up_ne _ _ (by decide)).trans (hM.1.2.2.2.2.2.2.2.2.2.2.2.2.2.2.1), (va_up_ne _ _ (by decide)).trans (hM.1.2.2.2.2.2.2.2.2.2.2.2.2.2.2.2.1), (va_up_self _ _ _), (va_up_ne _ _ (by decide)).trans (hM.1.2.2.2.2.2.2.2.2.2.2.2.2.2.2.2.2.2)⟩, fun j hj => (va_up_ne _ _ (by omega)).trans (hM.2 j hj)⟩
theorem zM_k16 {X : zj_T} {cells slots N : Nat} {Q : State → Prop} {pc : Nat} {L : List (Nat × Value)} {st : List Value} {z : zv_T} {ad : Nat → Nat} {g0 g : Nat → va_E} {c as fo kp : Int32} {a : Nat → Nat → Int32} {x : Nat → Int32} (hM : zm_M z ad g0 g c as fo kp a) (k : ∀ g1, zm_M z ad g0 g1 c as fo kp (va_up a 16 x) → zj_J X cells slots Q ad N g1 pc L st) : zj_J X cells slots Q ad N (va_up g 125 (ze_z z 160 x)) pc L st :=
  k _ ⟨⟨(va_up_ne _ _ (by decide)).trans hM.1.1, (va_up_ne _ _ (by decide)).trans (hM.1.2.1), (va_up_ne _ _ (by decide)).trans (hM.1.2.2.1), (va_up_ne _ _ (by decide)).trans (hM.1.2.2.2.1), (va_up_ne _ _ (by decide)).trans (hM.1.2.2.2.2.1), (va_up_ne _ _ (by decide)).trans (hM.1.2.2.2.2.2.1), (va_up_ne _ _ (by decide)).trans (hM.1.2.2.2.2.2.2.1), (va_up_ne _ _ (by decide)).trans (hM.1.2.2.2.2.2.2.2.1), (va_up_ne _ _ (by decide)).trans (hM.1.2.2.2.2.2.2.2.2.1), (va_up_ne _ _ (by decide)).trans (hM.1.2.2.2.2.2.2.2.2.2.1), (va_up_ne _ _ (by decide)).trans (hM.1.2.2.2.2.2.2.2.2.2.2.1), (va_up_ne _ _ (by decide)).trans (hM.1.2.2.2.2.2.2.2.2.2.2.2.1), (va_up_ne _ _ (by decide)).trans (hM.1.2.2.2.2.2.2.2.2.2.2.2.2.1), (va_up_ne _ _ (by decide)).trans (hM.1.2.2.2.2.2.2.2.2.2.2.2.2.2.1), (va_up_ne _ _ (by decide)).trans (hM.1.2.2.2.2.2.2.2.2.2.2.2.2.2.2.1), (va_up_ne _ _ (by decide)).trans (hM.1.2.2.2.2.2.2.2.2.2.2.2.2.2.2.2.1), (va_up_ne _ _ (by decide)).trans (hM.1.2.2.2.2.2.2.2.2.2.2.2.2.2.2.2.2.1), (va_up_self _ _ _)⟩, fun j hj => (va_up_ne _ _ (by omega)).trans (hM.2 j hj)⟩
set_option maxHeartbeats 4000000 in
set_option maxRecDepth 100000 in
theorem ct_M_thrown (l : Launch) (hst : l.stackTraces = false) (z : zv_T) (ad : Nat → Nat) (N : Nat) (g : Nat → va_E) (c as fo kp : Int32) (a : Nat → Nat → Int32) (hN : 126 ≤ N) (hM0 : zs_M z ad g c as fo kp a) : zm_i l mn_M_thrown ws_M_thrown rm_M_thrown z ad N g [.ref (ad 108)] (fun r g1 => r = c ∧ g1 = g) := by
  have hM : zm_M z ad g g c as fo kp a := ⟨hM0, fun _ _ => rfl⟩
  refine zm_ofi hst pn_M_thrown rfl (Nat.le_of_ble_eq_true rfl) (fun X hX C => ?_)
  subst hX
  show zj_J X 0 0 _ ad N g 0 [(0, .ref (ad 108))] []
  refine zj_aload_n C dc_M_thrown_0 rfl 0 rfl ?_
  refine zj_get (k := 0) C (by omega) hM.1.1 rfl (by decide) fw_M fl_M_62 rfl rfl dc_M_thrown_1 ?_
  exact zj_iret C dc_M_thrown_4 ⟨rfl, rfl⟩
set_option maxHeartbeats 4000000 in
set_option maxRecDepth 100000 in
theorem ct_M_noTune (l : Launch) (hst : l.stackTraces = false) (z : zv_T) (ad : Nat → Nat) (N : Nat) (g : Nat → va_E) (c as fo kp : Int32) (a : Nat → Nat → Int32) (hN : 126 ≤ N) (hM0 : zs_M z ad g c as fo kp a) (th sh : Nat → Bool) (Cn Rn : Nat → Nat) (hA : zm_A a th sh Cn Rn) (id : Int32) : zm_i l mn_M_noTune ws_M_noTune rm_M_noTune z ad N g [.ref (ad 108), .int id] (fun r g1 => (∃ b, r = zb_i b ∧ zm_nt th id b) ∧ g1 = g) := by
  have hM : zm_M z ad g g c as fo kp a := ⟨hM0, fun _ _ => rfl⟩
  refine zm_ofz hst pn_M_noTune rfl (Nat.le_of_ble_eq_true rfl) (fun X hX C => ?_)
  subst hX
  show zj_J X 0 0 _ ad N g 0 [(0, .ref (ad 108)), (1, .int id)] []
  refine zj_iload_n C dc_M_noTune_0 rfl 1 rfl ?_
  refine zj_if_lt C dc_M_noTune_1 rfl (fun a1 => ?_) (fun a1 => ?_)
  · skip
    refine zj_iconst (v := 1) C dc_M_noTune_19 (by decide) ?_
    refine zj_goto C dc_M_noTune_20 rfl ?_
    exact zj_zret C dc_M_noTune_24 rfl ⟨⟨true, rfl, Or.inl ⟨rfl, fun t h => zm_nid (Or.inl a1) t h.1 h.2.1⟩⟩, rfl⟩
  · skip
    refine zj_iload_n C dc_M_noTune_4 rfl 1 rfl ?_
    refine zj_bipush (v := 7) C dc_M_noTune_5 (by decide) ?_
    refine zj_icmp_gt C dc_M_noTune_7 rfl (fun a2 => ?_) (fun a2 => ?_)
    · skip
      refine zj_iconst (v := 1) C dc_M_noTune_19 (by decide) ?_
      refine zj_goto C dc_M_noTune_20 rfl ?_
      exact zj_zret C dc_M_noTune_24 rfl ⟨⟨true, rfl, Or.inl ⟨rfl, fun t h => zm_nid (Or.inr a2) t h.1 h.2.1⟩⟩, rfl⟩
    · obtain ⟨t, ht, rfl⟩ := zm_id a1 a2
      refine zj_aload_n C dc_M_noTune_10 rfl 0 rfl ?_
      refine zj_get (k := 1) C (by omega) hM.1.1 rfl (by decide) fw_M fl_M_7 rfl rfl dc_M_noTune_11 ?_
      refine zj_iload_n C dc_M_noTune_14 rfl 1 rfl ?_
      refine zj_zald C (by omega) hM.1.2.1 rfl ht (by decide) dc_M_noTune_15 ?_
      refine zj_topi ((hA t ht).1) ?_
      refine zj_if_ne C dc_M_noTune_16 rfl (fun a3 => ?_) (fun a3 => ?_)
      · have a3 := zb_i1 a3
        refine zj_iconst (v := 0) C dc_M_noTune_23 (by decide) ?_
        exact zj_zret C dc_M_noTune_24 rfl ⟨⟨false, rfl, Or.inr ⟨rfl, t, ht, rfl, a3⟩⟩, rfl⟩
      · have a3 := zb_i0 a3
        refine zj_iconst (v := 1) C dc_M_noTune_19 (by decide) ?_
        refine zj_goto C dc_M_noTune_20 rfl ?_
        exact zj_zret C dc_M_noTune_24 rfl ⟨⟨true, rfl, Or.inl ⟨rfl, fun u h => by have h2 := (nI_eq (by omega) (by have := h.1; omega)).mp h.2.1; subst h2; have h3 := h.2.2; rw [a3] at h3; exact absurd h3 (by decide)⟩⟩, rfl⟩
set_option maxHeartbeats 4000000 in
set_option maxRecDepth 100000 in
theorem ct_M_noNote (l : Launch) (hst : l.stackTraces = false) (z : zv_T) (ad : Nat → Nat) (N : Nat) (g : Nat → va_E) (x y : Int32) : zm_i l mn_M_noNote ws_M_noNote rm_M_noNote z ad N g [.int x, .int y] (fun r g1 => (∃ b, r = zb_i b ∧ ((b = true ∧ ¬ zp_no x y) ∨ (b = false ∧ zp_no x y))) ∧ g1 = g) := by
  refine zm_ofz hst pn_M_noNote rfl (Nat.le_of_ble_eq_true rfl) (fun X hX C => ?_)
  subst hX
  show zj_J X 0 0 _ ad N g 0 [(0, .int x), (1, .int y)] []
  refine zj_iload_n C dc_M_noNote_0 rfl 0 rfl ?_
  refine zj_if_lt C dc_M_noNote_1 rfl (fun a1 => ?_) (fun a1 => ?_)
  · skip
    refine zj_iconst (v := 1) C dc_M_noNote_21 (by decide) ?_
    refine zj_goto C dc_M_noNote_22 rfl ?_
    exact zj_zret C dc_M_noNote_26 rfl ⟨⟨true, rfl, Or.inl ⟨rfl, fun h => (zp_no_d.mp h).1 a1⟩⟩, rfl⟩
  · skip
    refine zj_iload_n C dc_M_noNote_4 rfl 0 rfl ?_
    refine zj_bipush (v := 127) C dc_M_noNote_5 (by decide) ?_
    refine zj_icmp_gt C dc_M_noNote_7 rfl (fun a2 => ?_) (fun a2 => ?_)
    · skip
      refine zj_iconst (v := 1) C dc_M_noNote_21 (by decide) ?_
      refine zj_goto C dc_M_noNote_22 rfl ?_
      exact zj_zret C dc_M_noNote_26 rfl ⟨⟨true, rfl, Or.inl ⟨rfl, fun h => (zp_no_d.mp h).2.1 a2⟩⟩, rfl⟩
    · skip
      refine zj_iload_n C dc_M_noNote_10 rfl 1 rfl ?_
      refine zj_iconst (v := 1) C dc_M_noNote_11 (by decide) ?_
      refine zj_icmp_lt C dc_M_noNote_12 rfl (fun a3 => ?_) (fun a3 => ?_)
      · skip
        refine zj_iconst (v := 1) C dc_M_noNote_21 (by decide) ?_
        refine zj_goto C dc_M_noNote_22 rfl ?_
        exact zj_zret C dc_M_noNote_26 rfl ⟨⟨true, rfl, Or.inl ⟨rfl, fun h => (zp_no_d.mp h).2.2.1 a3⟩⟩, rfl⟩
      · skip
        refine zj_iload_n C dc_M_noNote_15 rfl 1 rfl ?_
        refine zj_bipush (v := 64) C dc_M_noNote_16 (by decide) ?_
        refine zj_icmp_le C dc_M_noNote_18 rfl (fun a4 => ?_) (fun a4 => ?_)
        · skip
          refine zj_iconst (v := 0) C dc_M_noNote_25 (by decide) ?_
          exact zj_zret C dc_M_noNote_26 rfl ⟨⟨false, rfl, Or.inr ⟨rfl, zp_no_d.mpr ⟨a1, a2, a3, a4⟩⟩⟩, rfl⟩
        · skip
          refine zj_iconst (v := 1) C dc_M_noNote_21 (by decide) ?_
          refine zj_goto C dc_M_noNote_22 rfl ?_
          exact zj_zret C dc_M_noNote_26 rfl ⟨⟨true, rfl, Or.inl ⟨rfl, fun h => a4 (zp_no_d.mp h).2.2.2⟩⟩, rfl⟩
set_option maxHeartbeats 4000000 in
set_option maxRecDepth 100000 in
theorem ct_M_spot (l : Launch) (hst : l.stackTraces = false) (z : zv_T) (ad : Nat → Nat) (N : Nat) (g : Nat → va_E) (c as fo kp : Int32) (a : Nat → Nat → Int32) (hN : 126 ≤ N) (hM0 : zs_M z ad g c as fo kp a) (t r k : Nat) : zm_i l mn_M_spot ws_M_spot rm_M_spot z ad N g [.ref (ad 108), .int (nI t), .int (nI r), .int (nI k)] (fun v g1 => v = nI (180 * t + 20 * r + k) ∧ g1 = g) := by
  have hM : zm_M z ad g g c as fo kp a := ⟨hM0, fun _ _ => rfl⟩
  refine zm_ofi hst pn_M_spot rfl (Nat.le_of_ble_eq_true rfl) (fun X hX C => ?_)
  subst hX
  show zj_J X 0 0 _ ad N g 0 [(0, .ref (ad 108)), (1, .int (nI t)), (2, .int (nI r)), (3, .int (nI k))] []
  refine zj_sipush (v := 180) C dc_M_spot_0 (by decide) ?_
  refine zj_iload_n C dc_M_spot_3 rfl 1 rfl ?_
  refine zj_imul C dc_M_spot_4 ?_
  refine zj_topi (show (180 : Int32) * nI t = nI (180 * t) from pk_mul 180 t) ?_
  refine zj_bipush (v := 20) C dc_M_spot_5 (by decide) ?_
  refine zj_iload_n C dc_M_spot_7 rfl 2 rfl ?_
  refine zj_imul C dc_M_spot_8 ?_
  refine zj_topi (show (20 : Int32) * nI r = nI (20 * r) from pk_mul 20 r) ?_
  refine zj_iadd C dc_M_spot_9 ?_
  refine zj_topi (nI_add _ _) ?_
  refine zj_iload_n C dc_M_spot_10 rfl 3 rfl ?_
  refine zj_iadd C dc_M_spot_11 ?_
  refine zj_topi (nI_add _ _) ?_
  exact zj_iret C dc_M_spot_12 ⟨rfl, rfl⟩
set_option maxHeartbeats 4000000 in
set_option maxRecDepth 100000 in
theorem ct_M_pitch (l : Launch) (hst : l.stackTraces = false) (z : zv_T) (ad : Nat → Nat) (N : Nat) (g : Nat → va_E) (c as fo kp : Int32) (a : Nat → Nat → Int32) (hN : 126 ≤ N) (hM0 : zs_M z ad g c as fo kp a) (t k R : Nat) (ht : t < 8) (hk : k < 20) (hR : a 3 t = nI R) (hR1 : 1 ≤ R) (hR9 : R ≤ 9) : zm_i l mn_M_pitch ws_M_pitch rm_M_pitch z ad N g [.ref (ad 108), .int (nI t), .int (nI k)] (fun v g1 => v = a 4 (180 * t + 20 * (R - 1) + k) ∧ g1 = g) := by
  have hM : zm_M z ad g g c as fo kp a := ⟨hM0, fun _ _ => rfl⟩
  refine zm_ofi hst pn_M_pitch rfl (Nat.le_of_ble_eq_true rfl) (fun X hX C => ?_)
  subst hX
  show zj_J X 0 0 _ ad N g 0 [(0, .ref (ad 108)), (1, .int (nI t)), (2, .int (nI k))] []
  refine zj_aload_n C dc_M_pitch_0 rfl 0 rfl ?_
  refine zj_get (k := 5) C (by omega) hM.1.1 rfl (by decide) fw_M fl_M_23 rfl rfl dc_M_pitch_1 ?_
  refine zj_aload_n C dc_M_pitch_4 rfl 0 rfl ?_
  refine zj_iload_n C dc_M_pitch_5 rfl 1 rfl ?_
  refine zj_aload_n C dc_M_pitch_6 rfl 0 rfl ?_
  refine zj_get (k := 4) C (by omega) hM.1.1 rfl (by decide) fw_M fl_M_20 rfl rfl dc_M_pitch_7 ?_
  refine zj_iload_n C dc_M_pitch_10 rfl 1 rfl ?_
  refine zj_iald C (by omega) hM.1.2.2.2.2.1 rfl ht (by decide) dc_M_pitch_11 ?_
  refine zj_topi (hR) ?_
  refine zj_iconst (v := 1) C dc_M_pitch_12 (by decide) ?_
  refine zj_isub C dc_M_pitch_13 ?_
  refine zj_topi (zn_m1 hR1) ?_
  refine zj_iload_n C dc_M_pitch_14 rfl 2 rfl ?_
  refine zj_Vi C (ct_M_spot _ hst z ad N _ _ _ _ _ _ hN hM.1 (t) (R - 1) (k)) gv_M_66 rfl rfl rfl hd_M_spot ⟨(Nat.le_of_ble_eq_true rfl), (Nat.le_of_ble_eq_true rfl)⟩ (by omega) hM.1.1 rfl rfl rfl (Nat.le_of_ble_eq_true rfl) ⟨(Nat.le_of_ble_eq_true rfl), (Nat.le_of_ble_eq_true rfl)⟩ dc_M_pitch_15 (fun r1 g9 h1 => ?_)
  obtain ⟨rfl, hg9⟩ := h1
  rw [hg9]
  refine zj_iald C (by omega) hM.1.2.2.2.2.2.1 rfl (by omega) (by decide) dc_M_pitch_18 ?_
  exact zj_iret C dc_M_pitch_19 ⟨rfl, rfl⟩
set_option maxHeartbeats 4000000 in
set_option maxRecDepth 100000 in
theorem ct_M_lengthOf (l : Launch) (hst : l.stackTraces = false) (z : zv_T) (ad : Nat → Nat) (N : Nat) (g : Nat → va_E) (c as fo kp : Int32) (a : Nat → Nat → Int32) (hN : 126 ≤ N) (hM0 : zs_M z ad g c as fo kp a) (t k R : Nat) (ht : t < 8) (hk : k < 20) (hR : a 3 t = nI R) (hR1 : 1 ≤ R) (hR9 : R ≤ 9) : zm_i l mn_M_lengthOf ws_M_lengthOf rm_M_lengthOf z ad N g [.ref (ad 108), .int (nI t), .int (nI k)] (fun v g1 => v = a 5 (180 * t + 20 * (R - 1) + k) ∧ g1 = g) := by
  have hM : zm_M z ad g g c as fo kp a := ⟨hM0, fun _ _ => rfl⟩
  refine zm_ofi hst pn_M_lengthOf rfl (Nat.le_of_ble_eq_true rfl) (fun X hX C => ?_)
  subst hX
  show zj_J X 0 0 _ ad N g 0 [(0, .ref (ad 108)), (1, .int (nI t)), (2, .int (nI k))] []
  refine zj_aload_n C dc_M_lengthOf_0 rfl 0 rfl ?_
  refine zj_get (k := 6) C (by omega) hM.1.1 rfl (by decide) fw_M fl_M_26 rfl rfl dc_M_lengthOf_1 ?_
  refine zj_aload_n C dc_M_lengthOf_4 rfl 0 rfl ?_
  refine zj_iload_n C dc_M_lengthOf_5 rfl 1 rfl ?_
  refine zj_aload_n C dc_M_lengthOf_6 rfl 0 rfl ?_
  refine zj_get (k := 4) C (by omega) hM.1.1 rfl (by decide) fw_M fl_M_20 rfl rfl dc_M_lengthOf_7 ?_
  refine zj_iload_n C dc_M_lengthOf_10 rfl 1 rfl ?_
  refine zj_iald C (by omega) hM.1.2.2.2.2.1 rfl ht (by decide) dc_M_lengthOf_11 ?_
  refine zj_topi (hR) ?_
  refine zj_iconst (v := 1) C dc_M_lengthOf_12 (by decide) ?_
  refine zj_isub C dc_M_lengthOf_13 ?_
  refine zj_topi (zn_m1 hR1) ?_
  refine zj_iload_n C dc_M_lengthOf_14 rfl 2 rfl ?_
  refine zj_Vi C (ct_M_spot _ hst z ad N _ _ _ _ _ _ hN hM.1 (t) (R - 1) (k)) gv_M_66 rfl rfl rfl hd_M_spot ⟨(Nat.le_of_ble_eq_true rfl), (Nat.le_of_ble_eq_true rfl)⟩ (by omega) hM.1.1 rfl rfl rfl (Nat.le_of_ble_eq_true rfl) ⟨(Nat.le_of_ble_eq_true rfl), (Nat.le_of_ble_eq_true rfl)⟩ dc_M_lengthOf_15 (fun r1 g9 h1 => ?_)
  obtain ⟨rfl, hg9⟩ := h1
  rw [hg9]
  refine zj_iald C (by omega) hM.1.2.2.2.2.2.2.1 rfl (by omega) (by decide) dc_M_lengthOf_18 ?_
  exact zj_iret C dc_M_lengthOf_19 ⟨rfl, rfl⟩
set_option maxHeartbeats 4000000 in
set_option maxRecDepth 100000 in
theorem ct_M_step (l : Launch) (hst : l.stackTraces = false) (z : zv_T) (ad : Nat → Nat) (N : Nat) (g : Nat → va_E) (c as fo kp : Int32) (a : Nat → Nat → Int32) (hN : 126 ≤ N) (hM0 : zs_M z ad g c as fo kp a) (t k R : Nat) (ht : t < 8) (hk : k + 1 < 20) (hR : a 3 t = nI R) (hR1 : 1 ≤ R) (hR9 : R ≤ 9) : zm_i l mn_M_step ws_M_step rm_M_step z ad N g [.ref (ad 108), .int (nI t), .int (nI k)] (fun v g1 => v = a 4 (180 * t + 20 * (R - 1) + (k + 1)) - a 4 (180 * t + 20 * (R - 1) + (k)) ∧ g1 = g) := by
  have hM : zm_M z ad g g c as fo kp a := ⟨hM0, fun _ _ => rfl⟩
  refine zm_ofi hst pn_M_step rfl (Nat.le_of_ble_eq_true rfl) (fun X hX C => ?_)
  subst hX
  show zj_J X 0 0 _ ad N g 0 [(0, .ref (ad 108)), (1, .int (nI t)), (2, .int (nI k))] []
  refine zj_aload_n C dc_M_step_0 rfl 0 rfl ?_
  refine zj_iload_n C dc_M_step_1 rfl 1 rfl ?_
  refine zj_iload_n C dc_M_step_2 rfl 2 rfl ?_
  refine zj_iconst (v := 1) C dc_M_step_3 (by decide) ?_
  refine zj_iadd C dc_M_step_4 ?_
  refine zj_topi (nI_1 _) ?_
  refine zj_Vi C (ct_M_pitch _ hst z ad N _ _ _ _ _ _ hN hM.1 (t) (k + 1) (R) (by omega) (by omega) hR hR1 hR9) gv_M_70 rfl rfl rfl hd_M_pitch ⟨(Nat.le_of_ble_eq_true rfl), (Nat.le_of_ble_eq_true rfl)⟩ (by omega) hM.1.1 rfl rfl rfl (Nat.le_of_ble_eq_true rfl) ⟨(Nat.le_of_ble_eq_true rfl), (Nat.le_of_ble_eq_true rfl)⟩ dc_M_step_5 (fun r1 g9 h1 => ?_)
  obtain ⟨rfl, hg9⟩ := h1
  rw [hg9]
  refine zj_aload_n C dc_M_step_8 rfl 0 rfl ?_
  refine zj_iload_n C dc_M_step_9 rfl 1 rfl ?_
  refine zj_iload_n C dc_M_step_10 rfl 2 rfl ?_
  refine zj_Vi C (ct_M_pitch _ hst z ad N _ _ _ _ _ _ hN hM.1 (t) (k) (R) (by omega) (by omega) hR hR1 hR9) gv_M_70 rfl rfl rfl hd_M_pitch ⟨(Nat.le_of_ble_eq_true rfl), (Nat.le_of_ble_eq_true rfl)⟩ (by omega) hM.1.1 rfl rfl rfl (Nat.le_of_ble_eq_true rfl) ⟨(Nat.le_of_ble_eq_true rfl), (Nat.le_of_ble_eq_true rfl)⟩ dc_M_step_11 (fun r1 g9 h1 => ?_)
  obtain ⟨rfl, hg9⟩ := h1
  rw [hg9]
  refine zj_isub C dc_M_step_14 ?_
  exact zj_iret C dc_M_step_15 ⟨rfl, rfl⟩
set_option maxHeartbeats 4000000 in
set_option maxRecDepth 100000 in
theorem ct_M_askedStep (l : Launch) (hst : l.stackTraces = false) (z : zv_T) (ad : Nat → Nat) (N : Nat) (g : Nat → va_E) (c as fo kp : Int32) (a : Nat → Nat → Int32) (hN : 126 ≤ N) (hM0 : zs_M z ad g c as fo kp a) (k : Nat) (hk : k + 1 < 8) : zm_i l mn_M_askedStep ws_M_askedStep rm_M_askedStep z ad N g [.ref (ad 108), .int (nI k)] (fun v g1 => v = a 6 (k + 1) - a 6 k ∧ g1 = g) := by
  have hM : zm_M z ad g g c as fo kp a := ⟨hM0, fun _ _ => rfl⟩
  refine zm_ofi hst pn_M_askedStep rfl (Nat.le_of_ble_eq_true rfl) (fun X hX C => ?_)
  subst hX
  show zj_J X 0 0 _ ad N g 0 [(0, .ref (ad 108)), (1, .int (nI k))] []
  refine zj_aload_n C dc_M_askedStep_0 rfl 0 rfl ?_
  refine zj_get (k := 8) C (by omega) hM.1.1 rfl (by decide) fw_M fl_M_29 rfl rfl dc_M_askedStep_1 ?_
  refine zj_iload_n C dc_M_askedStep_4 rfl 1 rfl ?_
  refine zj_iconst (v := 1) C dc_M_askedStep_5 (by decide) ?_
  refine zj_iadd C dc_M_askedStep_6 ?_
  refine zj_topi (nI_1 _) ?_
  refine zj_iald C (by omega) hM.1.2.2.2.2.2.2.2.1 rfl hk (by decide) dc_M_askedStep_7 ?_
  refine zj_aload_n C dc_M_askedStep_8 rfl 0 rfl ?_
  refine zj_get (k := 8) C (by omega) hM.1.1 rfl (by decide) fw_M fl_M_29 rfl rfl dc_M_askedStep_9 ?_
  refine zj_iload_n C dc_M_askedStep_12 rfl 1 rfl ?_
  refine zj_iald C (by omega) hM.1.2.2.2.2.2.2.2.1 rfl (by omega) (by decide) dc_M_askedStep_13 ?_
  refine zj_isub C dc_M_askedStep_14 ?_
  exact zj_iret C dc_M_askedStep_15 ⟨rfl, rfl⟩
set_option maxHeartbeats 4000000 in
set_option maxRecDepth 100000 in
theorem ct_M_sign (l : Launch) (hst : l.stackTraces = false) (z : zv_T) (ad : Nat → Nat) (N : Nat) (g : Nat → va_E) (x : Int32) : zm_i l mn_M_sign ws_M_sign rm_M_sign z ad N g [.int x] (fun r g1 => r = zm_sg x ∧ g1 = g) := by
  refine zm_ofi hst pn_M_sign rfl (Nat.le_of_ble_eq_true rfl) (fun X hX C => ?_)
  subst hX
  show zj_J X 0 0 _ ad N g 0 [(0, .int x)] []
  refine zj_iload_n C dc_M_sign_0 rfl 0 rfl ?_
  refine zj_if_le C dc_M_sign_1 rfl (fun a1 => ?_) (fun a1 => ?_)
  · skip
    refine zj_iload_n C dc_M_sign_8 rfl 0 rfl ?_
    refine zj_if_ge C dc_M_sign_9 rfl (fun a2 => ?_) (fun a2 => ?_)
    · skip
      refine zj_iconst (v := 0) C dc_M_sign_16 (by decide) ?_
      exact zj_iret C dc_M_sign_17 ⟨by unfold zm_sg; rw [if_neg (Int32.not_lt.mpr a1), if_neg (Int32.not_lt.mpr a2)], rfl⟩
    · skip
      refine zj_iconst (v := -1) C dc_M_sign_12 (by decide) ?_
      refine zj_goto C dc_M_sign_13 rfl ?_
      exact zj_iret C dc_M_sign_17 ⟨by unfold zm_sg; rw [if_neg (Int32.not_lt.mpr a1), if_pos (Int32.not_le.mp a2)], rfl⟩
  · skip
    refine zj_iconst (v := 1) C dc_M_sign_4 (by decide) ?_
    refine zj_goto C dc_M_sign_5 rfl ?_
    exact zj_iret C dc_M_sign_17 ⟨by unfold zm_sg; rw [if_pos (Int32.not_le.mp a1)], rfl⟩
end ZMO
