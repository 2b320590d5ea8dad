section ZES
/-! openings: the place in the list is the number of those before -/
theorem zp_cnt_ins {P : Nat → Bool} {x : Nat} : ∀ {n : Nat}, P x = false → zp_cnt (fun p => decide (p = x) || P p) n = zp_cnt P n + if x < n then 1 else 0 := by
  intro n
  induction n with
  | zero => intro _; rw [if_neg (Nat.not_lt_zero x)]; rfl
  | succ n ih =>
    intro h
    have h1 := ih h
    show zp_cnt (fun p => decide (p = x) || P p) n + (if (decide (n = x) || P n) then 1 else 0) = zp_cnt P n + (if P n then 1 else 0) + if x < n + 1 then 1 else 0
    rw [h1]
    by_cases c : n = x
    · rw [decide_eq_true c, c, h, if_neg (Nat.lt_irrefl x), if_pos (show x < x + 1 by omega)]
      rfl
    · rw [decide_eq_false c, Bool.false_or]
      by_cases d : x < n
      · rw [if_pos d, if_pos (show x < n + 1 by omega)]; omega
      · rw [if_neg d, if_neg (show ¬ x < n + 1 by omega)]; omega
theorem zp_cnt_mem {n : Nat} : ∀ {L : List Nat}, L.Nodup → (∀ x, x ∈ L → x < n) → zp_cnt (fun p => decide (p ∈ L)) n = L.length := by
  intro L
  induction L with
  | nil =>
    intro _ _
    have : ∀ m, zp_cnt (fun p => decide (p ∈ ([] : List Nat))) m = 0 := by
      intro m
      induction m with
      | zero => rfl
      | succ m ih =>
        show zp_cnt _ m + (if decide (m ∈ ([] : List Nat)) then 1 else 0) = 0
        rw [ih]
        simp
    exact this n
  | cons x L ih =>
    intro h1 h2
    obtain ⟨h3, h4⟩ := List.nodup_cons.mp h1
    have h5 := zp_cnt_ins (P := fun p => decide (p ∈ L)) (x := x) (n := n) (decide_eq_false h3)
    rw [if_pos (h2 x List.mem_cons_self), ih h4 (fun y hy => h2 y (List.mem_cons_of_mem _ hy))] at h5
    rw [List.length_cons, ← h5]
    refine zp_cnt_eq (fun i _ => ?_)
    apply zb_eq
    simp
theorem zp_oi_mem {sh : Nat → Int32} {s x : Nat} : ∀ {n o : Nat}, x ∈ zp_oi sh s o n ↔ o ≤ x ∧ x < o + n ∧ sh x = nI s := by
  intro n
  induction n with
  | zero => intro o; constructor; intro h; cases h; intro h; omega
  | succ n ih =>
    intro o
    rw [zp_oiS, List.mem_append, ih]
    constructor
    · rintro (h | ⟨h1, h2, h3⟩)
      · split at h
        · rename_i hs
          have := List.mem_singleton.mp h
          subst this
          exact ⟨Nat.le_refl _, by omega, hs⟩
        · cases h
      · exact ⟨by omega, by omega, h3⟩
    · rintro ⟨h1, h2, h3⟩
      by_cases c : x = o
      · subst c
        left
        rw [if_pos h3]
        exact List.mem_singleton.mpr rfl
      · exact Or.inr ⟨by omega, by omega, h3⟩
theorem zp_ox_mem {sh : Nat → Int32} {x : Nat} : ∀ {m : Nat}, x ∈ zp_ox sh m ↔ x < 8 ∧ ∃ s, s < m ∧ sh x = nI s := by
  intro m
  induction m with
  | zero => constructor; intro h; cases h; rintro ⟨_, s, h, _⟩; omega
  | succ m ih =>
    show x ∈ zp_oi sh m 0 8 ++ zp_ox sh m ↔ _
    rw [List.mem_append, zp_oi_mem, ih]
    constructor
    · rintro (⟨h1, h2, h3⟩ | ⟨h1, s, h2, h3⟩)
      · exact ⟨by omega, m, by omega, h3⟩
      · exact ⟨h1, s, by omega, h3⟩
    · rintro ⟨h1, s, h2, h3⟩
      by_cases c : s = m
      · subst c; exact Or.inl ⟨by omega, by omega, h3⟩
      · exact Or.inr ⟨h1, s, by omega, h3⟩
/-- a before b -/
def zp_ob (sh : Nat → Int32) (a b : Nat) : Prop := ∃ s s', sh a = nI s ∧ sh b = nI s' ∧ s < 20 ∧ s' < 20 ∧ (s' < s ∨ (s = s' ∧ a < b))
theorem zp_oi_pw {sh : Nat → Int32} {s : Nat} (hs : s < 20) : ∀ {n o : Nat}, (zp_oi sh s o n).Pairwise (zp_ob sh) := by
  intro n
  induction n with
  | zero => intro o; exact List.Pairwise.nil
  | succ n ih =>
    intro o
    rw [zp_oiS]
    refine List.pairwise_append.mpr ⟨?_, ih, fun a ha b hb => ?_⟩
    · split
      · exact List.pairwise_singleton _ _
      · exact List.Pairwise.nil
    · split at ha
      · rename_i h1
        have := List.mem_singleton.mp ha
        subst this
        obtain ⟨h2, h3, h4⟩ := zp_oi_mem.mp hb
        exact ⟨s, s, h1, h4, hs, hs, Or.inr ⟨rfl, by omega⟩⟩
      · cases ha
theorem zp_ox_pw {sh : Nat → Int32} : ∀ {m : Nat}, m ≤ 20 → (zp_ox sh m).Pairwise (zp_ob sh) := by
  intro m
  induction m with
  | zero => intro _; exact List.Pairwise.nil
  | succ m ih =>
    intro hm
    refine List.pairwise_append.mpr ⟨zp_oi_pw (by omega), ih (by omega), fun a ha b hb => ?_⟩
    obtain ⟨h2, h3, h4⟩ := zp_oi_mem.mp ha
    obtain ⟨h5, s, h6, h7⟩ := zp_ox_mem.mp hb
    exact ⟨m, s, h4, h7, by omega, by omega, Or.inl h6⟩
theorem zp_ob_irr {sh : Nat → Int32} {a : Nat} (h : zp_ob sh a a) : False := by
  obtain ⟨s, s', h1, h2, h3, h4, h5⟩ := h
  rw [h1] at h2
  have := (nI_eq (by omega) (by omega)).mp h2
  omega
theorem zp_ob_asym {sh : Nat → Int32} {a b : Nat} (h : zp_ob sh a b) (k : zp_ob sh b a) : False := by
  obtain ⟨s, s', h1, h2, h3, h4, h5⟩ := h
  obtain ⟨u, u', k1, k2, k3, k4, k5⟩ := k
  rw [h1] at k2
  rw [h2] at k1
  have e1 := (nI_eq (by omega) (by omega)).mp k2
  have e2 := (nI_eq (by omega) (by omega)).mp k1
  omega
theorem zp_ox_nd {sh : Nat → Int32} : (zp_ox sh 20).Nodup := by
  refine List.Pairwise.imp (R := zp_ob sh) (S := fun a b => a ≠ b) ?_ (zp_ox_pw (Nat.le_refl 20))
  intro a b hab hh
  subst hh
  exact zp_ob_irr hab
theorem zp_ox_rk {th sg : Nat → Bool} {sh : Nat → Int32} {S : Nat → Nat} {t : Nat} (hc : ∀ p, p < 8 → (zm_cd th sg t p = true → sh p = nI (S p) ∧ S p < 20) ∧ (zm_cd th sg t p = false → sh p = -1)) {k o : Nat} (h : (zp_ox sh 20)[k]? = some o) : o < 8 ∧ zm_cd th sg t o = true ∧ zp_cnt (zm_rk th sg S t o) 8 = k := by
  have hm : ∀ p, p ∈ zp_ox sh 20 ↔ p < 8 ∧ zm_cd th sg t p = true := by
    intro p
    rw [zp_ox_mem]
    constructor
    · rintro ⟨h1, s, h2, h3⟩
      refine ⟨h1, ?_⟩
      cases e : zm_cd th sg t p
      · have := (hc p h1).2 e
        rw [h3] at this
        have h4 := congrArg Int32.toInt this
        rw [nI_toInt (by omega)] at h4
        have h5 : (-1 : Int32).toInt = -1 := rfl
        omega
      · rfl
    · rintro ⟨h1, h2⟩
      exact ⟨h1, S p, ((hc p h1).1 h2).2, ((hc p h1).1 h2).1⟩
  have hpw := List.pairwise_iff_getElem.mp (zp_ox_pw (sh := sh) (Nat.le_refl 20))
  obtain ⟨hk, hko⟩ := List.getElem?_eq_some_iff.mp h
  have hin : o ∈ zp_ox sh 20 := hko ▸ List.getElem_mem hk
  obtain ⟨ho, hco⟩ := (hm o).mp hin
  obtain ⟨hso, hso2⟩ := (hc o ho).1 hco
  refine ⟨ho, hco, ?_⟩
  have hnd : (zp_ox sh 20).Nodup := zp_ox_nd
  have hcnt := zp_cnt_mem (n := 8) (L := (zp_ox sh 20).take k) (List.Nodup.sublist (List.take_sublist _ _) hnd) (fun x hx => ((hm x).mp (List.mem_of_mem_take hx)).1)
  rw [List.length_take, Nat.min_eq_left (by omega)] at hcnt
  refine Eq.trans (zp_cnt_eq (fun p hp => zb_eq ?_)) hcnt
  rw [decide_eq_true_iff]
  constructor
  · intro hr
    unfold zm_rk at hr
    rw [Bool.and_eq_true, Bool.and_eq_true, decide_eq_true_iff, Bool.or_eq_true, Bool.and_eq_true, decide_eq_true_iff, decide_eq_true_iff, decide_eq_true_iff] at hr
    obtain ⟨r1, r2, r3⟩ := hr
    obtain ⟨hsp, hsp2⟩ := (hc p hp).1 r1
    have hob : zp_ob sh p o := ⟨S p, S o, hsp, hso, hsp2, hso2, by omega⟩
    obtain ⟨j, hj, hjp⟩ := List.getElem_of_mem ((hm p).mpr ⟨hp, r1⟩)
    rcases Nat.lt_trichotomy j k with c | c | c
    · rw [← hjp]
      exact List.mem_take_iff_getElem.mpr ⟨j, by omega, rfl⟩
    · subst c
      exact absurd (hjp.symm.trans hko) r2
    · have := hpw k j hk hj c
      rw [hko, hjp] at this
      exact (zp_ob_asym this hob).elim
  · intro ht
    obtain ⟨j, hj, hjp⟩ := List.mem_take_iff_getElem.mp ht
    have hjk : j < k := by omega
    have hob := hpw j k (by omega) hk hjk
    rw [hko, hjp] at hob
    have hpL : p ∈ zp_ox sh 20 := List.mem_of_mem_take ht
    obtain ⟨_, hcp⟩ := (hm p).mp hpL
    obtain ⟨hsp, hsp2⟩ := (hc p hp).1 hcp
    obtain ⟨s, s', k1, k2, k3, k4, k5⟩ := hob
    rw [hsp] at k1
    rw [hso] at k2
    have e1 := (nI_eq (by omega) (by omega)).mp k1
    have e2 := (nI_eq (by omega) (by omega)).mp k2
    refine zm_rk1 hcp (fun e => ?_) (by omega)
    subst e
    omega
theorem zp_ox_len {sh : Nat → Int32} : (zp_ox sh 20).length ≤ 8 := by
  have hnd : (zp_ox sh 20).Nodup := zp_ox_nd
  have := zp_cnt_mem (n := 8) hnd (fun x hx => (zp_ox_mem.mp hx).1)
  rw [← this]
  exact zp_cnt_le _ _
theorem zp_ox_r {th sg : Nat → Bool} {sh : Nat → Int32} {S : Nat → Nat} {t : Nat} {i r r' : Int32} (hc : ∀ p, p < 8 → (zm_cd th sg t p = true → sh p = nI (S p) ∧ S p < 20) ∧ (zm_cd th sg t p = false → sh p = -1))
    (h1 : (∃ k o, (zp_ox sh 20)[k]? = some o ∧ i = nI k ∧ r = nI o) ∨ ((∀ k, k < (zp_ox sh 20).length → ¬ i = nI k) ∧ r = -1))
    (h2 : (∃ o, o < 8 ∧ zm_cd th sg t o = true ∧ i = nI (zp_cnt (zm_rk th sg S t o) 8) ∧ r' = nI o) ∨ ((∀ o, o < 8 → zm_cd th sg t o = true → ¬ i = nI (zp_cnt (zm_rk th sg S t o) 8)) ∧ r' = -1)) : r = r' := by
  have hlen := zp_ox_len (sh := sh)
  have hin : ∀ o, o < 8 → zm_cd th sg t o = true → ∃ k, k < (zp_ox sh 20).length ∧ (zp_ox sh 20)[k]? = some o ∧ zp_cnt (zm_rk th sg S t o) 8 = k := by
    intro o ho hco
    obtain ⟨k, hk, hko⟩ := List.getElem_of_mem (zp_ox_mem.mpr ⟨ho, S o, ((hc o ho).1 hco).2, ((hc o ho).1 hco).1⟩)
    have : (zp_ox sh 20)[k]? = some o := by rw [List.getElem?_eq_getElem hk, hko]
    exact ⟨k, hk, this, (zp_ox_rk hc this).2.2⟩
  rcases h1 with ⟨k, o, a1, a2, rfl⟩ | ⟨a1, rfl⟩ <;> rcases h2 with ⟨o', b1, b2, b3, rfl⟩ | ⟨b1, rfl⟩
  · obtain ⟨k', c1, c2, c3⟩ := hin o' b1 b2
    obtain ⟨hk, -⟩ := List.getElem?_eq_some_iff.mp a1
    rw [a2, c3] at b3
    have e := (nI_eq (by omega) (by omega)).mp b3
    subst e
    rw [a1] at c2
    injection c2 with c2
    rw [c2]
  · obtain ⟨c1, c2, c3⟩ := zp_ox_rk hc a1
    exact absurd (by rw [c3]; exact a2) (b1 o c1 c2)
  · obtain ⟨k', c1, c2, c3⟩ := hin o' b1 b2
    rw [c3] at b3
    exact absurd b3 (a1 k' c1)
  · rfl
/-! readings -/
theorem zp_ra_app {pr : Nat → Int32} {x : Int32} : ∀ {n r m : Nat}, zp_ra pr x r (n + m) = match zp_ra pr x r n with | some j => some j | none => zp_ra pr x (r + n) m := by
  intro n
  induction n with
  | zero => intro r m; rw [Nat.zero_add]; rfl
  | succ n ih =>
    intro r m
    rw [show n + 1 + m = (n + m) + 1 by omega]
    show (if pr r = x then some r else zp_ra pr x (r + 1) (n + m)) = match (if pr r = x then some r else zp_ra pr x (r + 1) n) with | some j => some j | none => zp_ra pr x (r + (n + 1)) m
    by_cases c : pr r = x
    · rw [if_pos c, if_pos c]
    · rw [if_neg c, if_neg c, ih, show r + 1 + n = r + (n + 1) by omega]
theorem zp_ra_cg {pr pr' : Nat → Int32} {x : Int32} : ∀ {n r : Nat}, (∀ j, r ≤ j → j < r + n → pr j = pr' j) → zp_ra pr x r n = zp_ra pr' x r n := by
  intro n
  induction n with
  | zero => intro r _; rfl
  | succ n ih =>
    intro r h
    show (if pr r = x then some r else zp_ra pr x (r + 1) n) = (if pr' r = x then some r else zp_ra pr' x (r + 1) n)
    rw [h r (by omega) (by omega), ih (fun j k1 k2 => h j (by omega) (by omega))]
theorem zz_ra_lt {pr : Nat → Int32} {x : Int32} : ∀ {n r j : Nat}, zp_ra pr x r n = some j → r ≤ j ∧ j < r + n := by
  intro n
  induction n with
  | zero => intro r j h; cases h
  | succ n ih =>
    intro r j h
    have h : (if pr r = x then some r else zp_ra pr x (r + 1) n) = some j := h
    split at h
    · injection h with h; omega
    · have := ih h; omega
theorem zp_bk_in {f pr rep : Nat → Int32} {lr : Nat} (hp : ∀ j, j < lr → ∃ k, k < 20 ∧ pr j = nI k) : ∀ {n : Nat}, n ≤ lr → ∀ j, j < 20 → zp_bk f pr rep lr n j = zp_in f rep (zp_ra pr (nI j) (lr - n) n) j := by
  intro n
  induction n with
  | zero => intro _ j _; rfl
  | succ n ih =>
    intro hn j hj
    obtain ⟨k, hk, hpk⟩ := hp (lr - 1 - n) (by omega)
    have h1 := ih (by omega) j hj
    show upd (zp_bk f pr rep lr n) (pr (lr - 1 - n)).toNatClampNeg (rep (lr - 1 - n)) j = zp_in f rep (if pr (lr - (n + 1)) = nI j then some (lr - (n + 1)) else zp_ra pr (nI j) (lr - (n + 1) + 1) n) j
    rw [show lr - (n + 1) = lr - 1 - n by omega, hpk, nI_clamp (by omega)]
    by_cases c : j = k
    · subst c
      rw [pk_us, if_pos rfl]
      rfl
    · rw [pk_un c, if_neg (fun e => c ((nI_eq (by omega) (by omega)).mp e).symm), h1, show lr - 1 - n + 1 = lr - n by omega]
/-- what the readings hold -/
abbrev zz_v (now rep pr : Nat → Int32) (lr r k : Nat) : Int32 := zp_in now rep (zp_ra pr (nI k) r (lr - r)) k
theorem zz_v_now (now rep pr : Nat → Int32) (lr k : Nat) : zz_v now rep pr lr lr k = now k := by
  unfold zz_v
  rw [Nat.sub_self]
  rfl
/-- a correction changes no earlier reading -/
theorem zz_v_cor {now rep pr : Nat → Int32} {lr r k pl : Nat} {x : Int32} (hr : r ≤ lr) (hk : k < 20) (hp : pl < 20) : zz_v (upd now pl x) (upd rep lr (now pl)) (upd pr lr (nI pl)) (lr + 1) r k = zz_v now rep pr lr r k := by
  unfold zz_v
  rw [show lr + 1 - r = (lr - r) + 1 by omega, zp_ra_app, zp_ra_cg (pr' := pr) (fun j k1 k2 => pk_un (by omega))]
  rcases e : zp_ra pr (nI k) r (lr - r) with _ | j
  · show zp_in (upd now pl x) (upd rep lr (now pl)) (if upd pr lr (nI pl) (r + (lr - r)) = nI k then some (r + (lr - r)) else none) k = now k
    rw [show r + (lr - r) = lr by omega, pk_us]
    by_cases c : pl = k
    · subst c
      rw [if_pos rfl]
      exact pk_us
    · rw [if_neg (fun h => c ((nI_eq (by omega) (by omega)).mp h))]
      exact pk_un (fun h => c h.symm)
  · have := zz_ra_lt e
    exact pk_un (by omega)
/-- going back to a reading changes no earlier one -/
theorem zz_v_res {now rep pr : Nat → Int32} {lr r0 r k : Nat} (h1 : r ≤ r0) (h2 : r0 ≤ lr) (hk : k < 20) (hp : ∀ j, j < lr → ∃ k, k < 20 ∧ pr j = nI k) : zz_v (zp_bk now pr rep lr (lr - r0)) rep pr r0 r k = zz_v now rep pr lr r k := by
  unfold zz_v
  rw [show lr - r = (r0 - r) + (lr - r0) by omega, zp_ra_app]
  rcases e : zp_ra pr (nI k) r (r0 - r) with _ | j
  · show zp_bk now pr rep lr (lr - r0) k = zp_in now rep (zp_ra pr (nI k) (r + (r0 - r)) (lr - r0)) k
    rw [zp_bk_in hp (by omega) k hk, show r + (r0 - r) = r0 by omega, show lr - (lr - r0) = r0 by omega]
  · rfl
end ZES
