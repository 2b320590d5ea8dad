section ZER
/-! what is found depends on the notes of the tune alone -/
theorem zo_M_cg {ok ok' : Nat → Nat → Bool} {k : Nat} : ∀ {i j : Nat}, (∀ i' j', j' ≤ j → ok i' j' = ok' i' j') → zo_M ok k i j = zo_M ok' k i j := by
  intro i
  induction i with
  | zero => intro j h; show (decide (j = 0) && ok 0 j) = (decide (j = 0) && ok' 0 j); rw [h 0 j (Nat.le_refl _)]
  | succ i ih =>
    intro j h
    show (zo_any (zo_M ok k i) j (k + 1) && ok (i + 1) j) = (zo_any (zo_M ok' k i) j (k + 1) && ok' (i + 1) j)
    rw [h (i + 1) j (Nat.le_refl _), zo_any_eq (fun b hb => ih (fun i' j' hj => h i' j' (by omega)))]
theorem zp_dp_cg {sm sm' : Nat → Nat → Bool} : ∀ {i j : Nat}, (∀ i' j', j' < j → sm i' j' = sm' i' j') → zp_dp sm i j = zp_dp sm' i j := by
  intro i
  induction i with
  | zero => intro j _; rfl
  | succ i ih =>
    intro j
    induction j with
    | zero => intro _; rw [zp_dpi, zp_dpi]
    | succ j jh =>
      intro h
      rw [zp_dpS, zp_dpS, h i j (by omega), ih (fun i' j' hj => h i' j' (by omega)), ih (j := j + 1) (fun i' j' hj => h i' j' hj), jh (fun i' j' hj => h i' j' (by omega))]
theorem zp_sm_cg {qp p P : Nat → Int32} {C pl n : Nat} (h : ∀ k, k < C → p k = P k) (hn : pl + n < C) : ∀ i' j', j' < n → zp_sm qp p pl i' j' = zp_sm qp P pl i' j' := by
  intro i j hj
  unfold zp_sm
  rw [h _ (by omega), h _ (by omega)]
theorem zm_nr_cg {qc k C pl sp : Nat} {qp p P : Nat → Int32} (h : ∀ k, k < C → p k = P k) (hs : pl + sp ≤ C) : zm_nr qc k qp p pl sp = zm_nr qc k qp P pl sp := by
  unfold zm_nr
  by_cases c : 1 < sp
  · rw [zp_dp_cg (zp_sm_cg h (n := sp - 1) (by omega))]
  · rw [decide_eq_false c]; rfl
theorem zm_pt_cg {kd k qc C pl sp : Nat} {qp qq p q P Q : Nat → Int32} (h : ∀ k, k < C → p k = P k) (h2 : ∀ k, k < C → q k = Q k) (hs : pl + sp ≤ C) (h1 : 1 ≤ sp) : zm_pt kd k qc qp qq p q pl sp = zm_pt kd k qc qp qq P Q pl sp := by
  unfold zm_pt
  by_cases c : kd < 4
  · rw [if_pos c, if_pos c]
    by_cases d : sp = qc
    · have e : zp_all (zm_e kd qp qq p q pl) (qc - 1) = zp_all (zm_e kd qp qq P Q pl) (qc - 1) := by
        refine zp_all_cg (fun i hi => ?_)
        have hk : kd = 0 ∨ kd = 1 ∨ kd = 2 ∨ kd = 3 := by omega
        rcases hk with rfl | rfl | rfl | rfl
        · show (decide _ && decide _) = (decide _ && decide _)
          rw [h _ (by omega), h _ (by omega), h2 _ (by omega), h2 _ (by omega)]
        · show decide _ = decide _
          rw [h _ (by omega), h _ (by omega)]
        · show decide _ = decide _
          rw [h _ (by omega), h _ (by omega)]
        · show decide (q (pl + 0) * qq (i + 1) = q (pl + i + 1) * qq 0) = decide (Q (pl + 0) * qq (i + 1) = Q (pl + i + 1) * qq 0)
          rw [h2 _ (by omega), h2 _ (by omega)]
      rw [e]
    · rw [if_neg (fun q => d q.1), if_neg (fun q => d q.1)]
  · rw [if_neg c, if_neg c]
    by_cases c4 : kd = 4
    · rw [if_pos c4, if_pos c4, zo_M_cg (ok' := fun i j => decide (P (pl + j) - qp i = P pl - qp 0)) (fun i' j' hj => by rw [h (pl + j') (by omega), h pl (by omega)])]
    · rw [if_neg c4, if_neg c4, zm_nr_cg h hs, zm_nr_cg (pl := pl + 1) (sp := sp - 1) h (by omega), zm_nr_cg (pl := pl) (sp := sp - 1) h (by omega), zp_dp_cg (zp_sm_cg h (n := sp - 1) (by omega))]
theorem zm_nl_cg {kd k qc t C : Nat} {qp qq p q P Q : Nat → Int32} (h : ∀ k, k < C → p k = P k) (h2 : ∀ k, k < C → q k = Q k) : zq_cc (zm_nl kd k qc t qp qq p q C) 0 C = zq_cc (zm_nl kd k qc t qp qq P Q C) 0 C := by
  refine zq_cc_cg (fun pl h3 h4 => ?_)
  unfold zm_nl
  refine zq_nn_cg (fun i hi => ?_)
  have e := zm_pt_cg (kd := kd) (k := k) (qc := qc) (qp := qp) (qq := qq) h h2 (pl := pl) (sp := 2 + i) (by omega) (by omega)
  refine ⟨?_, fun _ => ?_⟩
  · unfold zm_ff
    rw [e]
  · unfold zm_mk
    rw [e, h pl (by omega)]
theorem zq_tl_m {kd k qc t : Nat} {qp qq P Q : Nat → Int32} {s : zu_S} (hkd : kd ≤ 5) (hk : k ≤ 4) (hqc : 2 ≤ qc) (hC : zu_cn s ≤ 20) (h1 : ∀ i, i < qc → zp_no (qp i) (qq i)) (hp : ∀ i, i < zu_cn s → zu_p s i = P i ∧ zu_q s i = Q i ∧ zp_no (P i) (Q i)) : zq_tl kd k qc qp qq t s = zq_cc (zm_nl kd k qc t qp qq P Q (zu_cn s)) 0 (zu_cn s) := by
  rw [← zm_nl_cg (fun i hi => (hp i hi).1) (fun i hi => (hp i hi).2.1)]
  have hn : ∀ i, i < zu_cn s → zp_no (zu_p s i) (zu_q s i) := fun i hi => by rw [(hp i hi).1, (hp i hi).2.1]; exact (hp i hi).2.2
  have hc : kd = 0 ∨ kd = 1 ∨ kd = 2 ∨ kd = 3 ∨ kd = 4 ∨ kd = 5 := by omega
  rcases hc with rfl | rfl | rfl | rfl | rfl | rfl
  · exact zm_nl_p (by omega) h1 hn hqc
  · exact zm_nl_p (by omega) h1 hn hqc
  · exact zm_nl_p (by omega) h1 hn hqc
  · exact zm_nl_p (by omega) h1 hn hqc
  · exact zm_nl_o hC hk hqc
  · exact zm_nl_n hk hqc
theorem zq_al_cc {ts : Nat → zu_S} {kd kk qc : Nat} {qp qq : Nat → Int32} : ∀ {n t : Nat}, zq_al ts kd kk qc qp qq t n = zq_cc (fun t => if zu_sh (ts t) then zq_tl kd kk qc qp qq t (ts t) else []) t n := by
  intro n
  induction n with
  | zero => intro t; rfl
  | succ n ih => intro t; rw [zq_alS, zq_ccS, ih]
theorem zq_al_m {ts : Nat → zu_S} {a : Nat → Nat → Int32} {th sh : Nat → Bool} {Cn Rn : Nat → Nat} {kd k qc : Nat} {qp qq : Nat → Int32} (hkd : kd ≤ 5) (hk : k ≤ 4) (hqc : 2 ≤ qc) (h6 : a 6 = qp) (h7 : a 7 = qq) (h1 : ∀ i, i < qc → zp_no (qp i) (qq i)) (ht : ∀ t, t < 8 → zu_sh (ts t) = (th t && sh t) ∧ zu_cn (ts t) ≤ 20 ∧ (th t = true → Cn t = zu_cn (ts t) ∧ ∀ i, i < zu_cn (ts t) → zu_p (ts t) i = zm_f a 4 t (Rn t) i ∧ zu_q (ts t) i = zm_f a 5 t (Rn t) i ∧ zp_no (zm_f a 4 t (Rn t) i) (zm_f a 5 t (Rn t) i))) : zq_al ts kd k qc qp qq 0 8 = zq_cc (zm_ml a th sh Cn Rn kd k qc) 0 8 := by
  rw [zq_al_cc]
  refine zq_cc_cg (fun t h3 h4 => ?_)
  obtain ⟨k1, k2, k3⟩ := ht t (by omega)
  show (if zu_sh (ts t) then zq_tl kd k qc qp qq t (ts t) else []) = _
  unfold zm_ml
  rw [k1]
  by_cases c : (th t && sh t) = true
  · rw [if_pos c, if_pos c]
    obtain ⟨k4, k5⟩ := k3 (Bool.and_eq_true_iff.mp c).1
    rw [zq_tl_m hkd hk hqc k2 h1 k5, k4, h6, h7]
  · rw [if_neg c, if_neg c]
/-! what comes again -/
theorem zp_fold_cut {occ bf bh : Nat → Bool} {fr : Nat} {b0 : Bool} {m : Nat} : ∀ {d : Nat}, (∀ k, m ≤ k → k < m + d → occ k = false) → zp_fold occ bf bh fr b0 (m + d) = zp_fold occ bf bh fr b0 m := by
  intro d
  induction d with
  | zero => intro _; rfl
  | succ d ih =>
    intro h
    have h1 := ih (fun k k1 k2 => h k k1 (by omega))
    show (match zp_fold occ bf bh fr b0 (m + d) with | none => none | some (n, a, b) => if occ (m + d) then (if m + d < fr then none else some (n + 1, a && bf (m + d), b && bh (m + d))) else some (n, a, b)) = _
    rw [h1]
    rcases zp_fold occ bf bh fr b0 m with _ | ⟨n, a, b⟩
    · rfl
    · show (if occ (m + d) then _ else _) = _
      rw [if_neg (by rw [h (m + d) (by omega) (by omega)]; decide)]
theorem zp_fold_rel {occ bf bh occ' bf' bh' : Nat → Bool} {fr : Nat} : ∀ {k : Nat}, (∀ j, j < k → occ j = occ' j) → (∀ j, j < k → fr ≤ j → occ j = true → bh j = bh' j) → (∀ j, j < k → fr ≤ j → 0 < fr → bf j = bf' j) → (∀ j, fr = 0 → bf' j = false) →
    (zp_fold occ bf bh fr (decide (0 < fr)) k = none ∧ zp_fold occ' bf' bh' fr true k = none) ∨ ∃ n a a' b, zp_fold occ bf bh fr (decide (0 < fr)) k = some (n, a, b) ∧ zp_fold occ' bf' bh' fr true k = some (n, a', b) ∧ (n = 0 → a = decide (0 < fr) ∧ a' = true) ∧ (0 < n → a = a' ∧ (fr = 0 → a = false)) := by
  intro k
  induction k with
  | zero => intro _ _ _ _; exact Or.inr ⟨0, _, _, _, rfl, rfl, fun _ => ⟨rfl, rfl⟩, fun h => absurd h (Nat.lt_irrefl 0)⟩
  | succ k ih =>
    intro h1 h2 h3 h4
    rcases ih (fun j hj => h1 j (by omega)) (fun j hj => h2 j (by omega)) (fun j hj => h3 j (by omega)) h4 with ⟨e1, e2⟩ | ⟨n, a, a', b, e1, e2, e3, e4⟩
    · exact Or.inl ⟨zp_fold_none e1 1, zp_fold_none e2 1⟩
    · rw [zp_foldS e1, zp_foldS e2, ← h1 k (by omega)]
      by_cases c : occ k = true
      · rw [if_pos c, if_pos c]
        by_cases d : k < fr
        · rw [if_pos d, if_pos d]; exact Or.inl ⟨rfl, rfl⟩
        · rw [if_neg d, if_neg d]
          refine Or.inr ⟨n + 1, a && bf k, a' && bf' k, b && bh k, rfl, by rw [h2 k (by omega) (by omega) c], fun h => absurd h (by omega), fun _ => ?_⟩
          by_cases z : fr = 0
          · have h5 : a = false := by
              by_cases zn : n = 0
              · rw [(e3 zn).1]; exact decide_eq_false (by omega)
              · exact (e4 (by omega)).2 z
            rw [h5, h4 k z, Bool.and_false]
            exact ⟨rfl, fun _ => rfl⟩
          · have h5 : a = a' := by
              by_cases zn : n = 0
              · rw [(e3 zn).1, (e3 zn).2]; exact decide_eq_true (by omega)
              · exact (e4 (by omega)).1
            rw [h5, h3 k (by omega) (by omega) (by omega)]
            exact ⟨rfl, fun h => absurd h z⟩
      · rw [if_neg c, if_neg c]
        exact Or.inr ⟨n, a, a', b, rfl, rfl, e3, e4⟩
theorem zp_pres_rel {x y : Option (Nat × Bool × Bool)} {fr : Nat} (h : (x = none ∧ y = none) ∨ ∃ n a a' b, x = some (n, a, b) ∧ y = some (n, a', b) ∧ (n = 0 → a = decide (0 < fr) ∧ a' = true) ∧ (0 < n → a = a' ∧ (fr = 0 → a = false))) : zp_pres x = zp_pres y := by
  rcases h with ⟨rfl, rfl⟩ | ⟨n, a, a', b, rfl, rfl, e3, e4⟩
  · rfl
  · show (if _ then _ else _) = (if _ then _ else _)
    by_cases z : n = 0
    · subst z
      rw [if_pos (Or.inl (by omega)), if_pos (Or.inl (by omega))]
    · rw [(e4 (by omega)).1]
theorem zp_T_m {p P : Nat → Int32} {C fr st : Nat} (h : ∀ k, k < C → p k = P k) (h1 : 1 ≤ st) (h2 : fr + st < C) : zp_T p (C - 1) fr st = zm_pl P C fr st := by
  unfold zp_T zm_pl
  have hmx : ∀ k, (if fr < k then k else fr) = max fr k := fun k => by split <;> omega
  have e1 : zp_fold (zp_oc p (C - 1) fr st) (fun k => decide (p (k - 1 + 1) - p (k - 1) = p (fr - 1 + 1) - p (fr - 1))) (zp_oc p (C - 1) fr (st + 1)) fr (decide (0 < fr)) (C - 1) = zp_fold (zp_oc p (C - 1) fr st) (fun k => decide (p (k - 1 + 1) - p (k - 1) = p (fr - 1 + 1) - p (fr - 1))) (zp_oc p (C - 1) fr (st + 1)) fr (decide (0 < fr)) (C - st) := by
    have e : C - 1 = (C - st) + (st - 1) := by omega
    rw [show zp_fold (zp_oc p (C - 1) fr st) (fun k => decide (p (k - 1 + 1) - p (k - 1) = p (fr - 1 + 1) - p (fr - 1))) (zp_oc p (C - 1) fr (st + 1)) fr (decide (0 < fr)) (C - 1) = zp_fold (zp_oc p (C - 1) fr st) (fun k => decide (p (k - 1 + 1) - p (k - 1) = p (fr - 1 + 1) - p (fr - 1))) (zp_oc p (C - 1) fr (st + 1)) fr (decide (0 < fr)) ((C - st) + (st - 1)) from congrArg _ e]
    refine zp_fold_cut (fun k k1 k2 => ?_)
    refine decide_eq_false (fun h => ?_)
    have h3 := h.1
    rw [hmx] at h3
    omega
  rw [e1]
  refine zp_pres_rel (fr := fr) (zp_fold_rel (fun j hj => ?_) (fun j hj hf ho => ?_) (fun j hj hf h0 => ?_) (fun j h0 => ?_))
  · unfold zm_oc
    apply zb_eq
    rw [zp_all_iff]
    unfold zp_oc
    rw [decide_eq_true_iff, hmx]
    constructor
    · intro q t ht
      have := of_decide_eq_true (q.2 t ht)
      refine decide_eq_true ?_
      rw [← h _ (by omega), ← h _ (by omega), ← h _ (by omega), ← h _ (by omega)]
      exact this.symm
    · intro q
      refine ⟨by omega, fun t ht => ?_⟩
      have := of_decide_eq_true (q t ht)
      refine decide_eq_true ?_
      rw [← h _ (by omega), ← h _ (by omega), ← h _ (by omega), ← h _ (by omega)] at this
      exact this.symm
  · unfold zm_bh zp_oc
    apply zb_eq
    have ho := of_decide_eq_true ho
    rw [decide_eq_true_iff, hmx]
    constructor
    · intro q
      have := of_decide_eq_true (q.2 st (by omega))
      have q1 := q.1
      rw [decide_eq_true (show 0 < j + st + 1 ∧ j + st + 1 < C by omega), decide_eq_true (show 0 < fr + st + 1 ∧ fr + st + 1 < C by omega)]
      refine decide_eq_true ?_
      rw [← h _ (by omega), ← h _ (by omega), ← h _ (by omega), ← h _ (by omega)]
      exact this.symm
    · intro q
      rw [Bool.and_eq_true, Bool.and_eq_true, decide_eq_true_iff, decide_eq_true_iff, decide_eq_true_iff] at q
      obtain ⟨⟨q1, q2⟩, q3⟩ := q
      refine ⟨by omega, fun t ht => ?_⟩
      by_cases c : t = st
      · rw [c]
        refine decide_eq_true ?_
        rw [← h _ (by omega), ← h _ (by omega), ← h _ (by omega), ← h _ (by omega)] at q3
        exact q3.symm
      · exact ho.2 t (by omega)
  · unfold zm_bf
    rw [decide_eq_true (show 0 < j ∧ j < C by omega), decide_eq_true (show 0 < fr ∧ fr < C by omega)]
    show decide _ = decide _
    rw [h _ (by omega), h _ (by omega), h _ (by omega), h _ (by omega)]
  · unfold zm_bf
    rw [decide_eq_false (show ¬ (0 < fr ∧ fr < C) by omega)]
    simp
theorem zp_ei_cg {T T' : Nat → Nat → Nat} {fr : Nat} : ∀ {n st : Nat}, (∀ s, st ≤ s → s < st + n → T fr s = T' fr s) → zp_ei T fr st n = zp_ei T' fr st n := by
  intro n
  induction n with
  | zero => intro st _; rfl
  | succ n ih => intro st h; rw [zp_eiS, zp_eiS, h st (by omega) (by omega), ih (fun s k1 k2 => h s (by omega) (by omega))]
theorem zp_eo_cg {T T' : Nat → Nat → Nat} {S le : Nat} (h : ∀ fr st, le ≤ st → fr + st ≤ S → T fr st = T' fr st) : ∀ {n fr : Nat}, fr + n ≤ S → zp_eo T S le fr n = zp_eo T' S le fr n := by
  intro n
  induction n with
  | zero => intro fr _; rfl
  | succ n ih =>
    intro fr hf
    show zp_ei T fr le _ ++ zp_eo T S le (fr + 1) n = zp_ei T' fr le _ ++ zp_eo T' S le (fr + 1) n
    rw [ih (by omega), zp_ei_cg (fun s k1 k2 => h fr s k1 (by omega))]
theorem zp_eo_m {p P : Nat → Int32} {C le : Nat} (h : ∀ k, k < C → p k = P k) (h1 : 1 ≤ le) : zp_eo (zp_T p (C - 1)) (C - 1) le 0 (C - 1) = zp_eo (zm_pl P C) (C - 1) le 0 (C - 1) :=
  zp_eo_cg (fun fr st k1 k2 => zp_T_m h (by omega) (by omega)) (by omega)
/-! imitations -/
theorem zp_ec_m {ts : Nat → zu_S} {a : Nat → Nat → Int32} {Rn : Nat → Nat} {t o len pl : Nat} (ht : ∀ k, k < zu_cn (ts t) → zu_p (ts t) k = zm_f a 4 t (Rn t) k ∧ zu_q (ts t) k = zm_f a 5 t (Rn t) k) (ho : ∀ k, k < zu_cn (ts o) → zu_p (ts o) k = zm_f a 4 o (Rn o) k ∧ zu_q (ts o) k = zm_f a 5 o (Rn o) k) (hl : 1 ≤ len) (h1 : pl + len ≤ zu_cn (ts t)) (h2 : len ≤ zu_cn (ts o)) : zp_ec ts t o len pl = zp_all (zm_ec a Rn t o pl) len := by
  unfold zp_ec zm_ec
  rw [zp_all_and, Bool.and_comm]
  congr 1
  · refine zp_all_cg (fun k hk => ?_)
    rw [(ho k (by omega)).2, (ht (pl + k) (by omega)).2]
    exact decide_eq_decide.mpr ⟨fun h => h.symm, fun h => h.symm⟩
  · apply zb_eq
    rw [zp_all_iff, zp_all_iff]
    have key := zp_tele (p := zm_f a 4 o (Rn o)) (q := fun k => zm_f a 4 t (Rn t) (pl + k)) (n := len)
    constructor
    · intro q k hk
      have := key.mp (fun j hj => by
        have q1 := of_decide_eq_true (q j (by omega))
        rw [(ho _ (by omega)).1, (ho _ (by omega)).1, (ht _ (by omega)).1, (ht _ (by omega)).1] at q1
        exact q1) k hk
      exact decide_eq_true this
    · intro q k hk
      have := key.mpr (fun j hj => of_decide_eq_true (q j hj)) k (by omega)
      refine decide_eq_true ?_
      rw [(ho _ (by omega)).1, (ho _ (by omega)).1, (ht _ (by omega)).1, (ht _ (by omega)).1]
      exact this
theorem zp_fst_cg {e e' : Nat → Bool} {a lim : Nat} {r r' : Int32} (h : ∀ j, j < lim → e j = e' j) (h1 : zp_fst e a lim r) (h2 : zp_fst e' a lim r') : r = r' := by
  rcases h1 with ⟨k, k1, k2, k3, k4, rfl⟩ | ⟨k1, rfl⟩ <;> rcases h2 with ⟨j, j1, j2, j3, j4, rfl⟩ | ⟨j1, rfl⟩
  · rcases Nat.lt_trichotomy k j with c | c | c
    · have := j4 k k1 c; rw [← h k k2, k3] at this; cases this
    · rw [c]
    · have := k4 j j1 c; rw [h j j2, j3] at this; cases this
  · have := j1 k k1 k2; rw [← h k k2, k3] at this; cases this
  · have := k1 j j1 j2; rw [h j j2, j3] at this; cases this
  · rfl
end ZER
