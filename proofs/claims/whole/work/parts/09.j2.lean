section ZJ2
theorem zj_topv {X : zj_T} {cells slots : Nat} {Q : State → Prop} {ad : Nat → Nat} {N : Nat} {g : Nat → va_E} {pc : Nat} {L : List (Nat × Value)} {st : List Value} {v w : Value} (h : v = w) (kk : zj_J X cells slots Q ad N g pc L (w :: st)) : zj_J X cells slots Q ad N g pc L (v :: st) := h ▸ kk
theorem zj_g {X : zj_T} {cells slots : Nat} {Q : State → Prop} {ad : Nat → Nat} {N : Nat} {g g1 : Nat → va_E} {pc : Nat} {L : List (Nat × Value)} {st : List Value} (h : g = g1) (kk : zj_J X cells slots Q ad N g1 pc L st) : zj_J X cells slots Q ad N g pc L st := h ▸ kk
end ZJ2
