section ZSM
theorem zs_W_fr {z : zv_T} {ad : Nat → Nat} {g g2 : Nat → va_E} {a1 a2 a3 : Int32} {cm : Nat → Int32} (h : zs_W z ad g a1 a2 a3 cm) (hf : ∀ j, 105 ≤ j → j ≤ 106 → g2 j = g j) : zs_W z ad g2 a1 a2 a3 cm := ⟨(hf 105 (by omega) (by omega)).trans h.1, (hf 106 (by omega) (by omega)).trans h.2⟩
theorem zs_M_fr {z : zv_T} {ad : Nat → Nat} {g g2 : Nat → va_E} {c as fo kp : Int32} {a : Nat → Nat → Int32} (h : zs_M z ad g c as fo kp a) (hf : ∀ j, 108 ≤ j → j < 126 → g2 j = g j) : zs_M z ad g2 c as fo kp a := by
  obtain ⟨h0, h1, h2, h3, h4, h5, h6, h7, h8, h9, h10, h11, h12, h13, h14, h15, h16, h17⟩ := h
  exact ⟨(hf 108 (by omega) (by omega)).trans h0, (hf 109 (by omega) (by omega)).trans h1, (hf 110 (by omega) (by omega)).trans h2, (hf 111 (by omega) (by omega)).trans h3, (hf 112 (by omega) (by omega)).trans h4, (hf 113 (by omega) (by omega)).trans h5, (hf 114 (by omega) (by omega)).trans h6, (hf 115 (by omega) (by omega)).trans h7, (hf 116 (by omega) (by omega)).trans h8, (hf 117 (by omega) (by omega)).trans h9, (hf 118 (by omega) (by omega)).trans h10, (hf 119 (by omega) (by omega)).trans h11, (hf 120 (by omega) (by omega)).trans h12, (hf 121 (by omega) (by omega)).trans h13, (hf 122 (by omega) (by omega)).trans h14, (hf 123 (by omega) (by omega)).trans h15, (hf 124 (by omega) (by omega)).trans h16, (hf 125 (by omega) (by omega)).trans h17⟩
/-- the class's cells -/
def zz_C (z : zv_T) (ad : Nat → Nat) (g : Nat → va_E) (ts : Nat → zu_S) (qc : Nat) (qp qq : Nat → Int32) (as0 : Nat) (F : List zq_I) : Prop := zs_A z ad g ts ∧ zs_N z ad g 66 8 qc qp qq ∧ zq_F z ad g as0 F ∧ (∃ hh ee mo lo wt hr bh, zs_R z ad g hh ee mo lo wt hr bh) ∧ (∃ b1 b2 b3 cm, zs_W z ad g b1 b2 b3 cm) ∧ ∃ s9, g 107 = ze_i z 8 s9
theorem zz_C_fr {z : zv_T} {ad : Nat → Nat} {g g1 : Nat → va_E} {ts : Nat → zu_S} {qc as0 : Nat} {qp qq : Nat → Int32} {F : List zq_I} (h : zz_C z ad g ts qc qp qq as0 F) (hf : ∀ j, j < 108 → g1 j = g j) : zz_C z ad g1 ts qc qp qq as0 F := by
  obtain ⟨h1, h2, h3, ⟨hh, ee, mo, lo, wt, hr, bh, h4⟩, ⟨b1, b2, b3, cm, h5⟩, s9, h6⟩ := h
  exact ⟨zs_A_fr h1 (fun j hj => hf j (by omega)), zs_N_fr h2 (fun j k1 k2 => hf j (by omega)), zq_F_fr h3 (fun j k1 k2 => hf j (by omega)), ⟨hh, ee, mo, lo, wt, hr, bh, zs_R_fr h4 (fun j k1 k2 => hf j (by omega))⟩, ⟨b1, b2, b3, cm, zs_W_fr h5 (fun j k1 k2 => hf j (by omega))⟩, s9, (hf 107 (by omega)).trans h6⟩
/-- .. after a change of the catalogue -/
theorem zz_C_A {z : zv_T} {ad : Nat → Nat} {g g1 : Nat → va_E} {ts ts' : Nat → zu_S} {qc as0 : Nat} {qp qq : Nat → Int32} {F : List zq_I} (h : zz_C z ad g ts qc qp qq as0 F) (h1 : zs_A z ad g1 ts') (hf : ∀ j, 66 ≤ j → j < 108 → g1 j = g j) : zz_C z ad g1 ts' qc qp qq as0 F := by
  obtain ⟨-, h2, h3, ⟨hh, ee, mo, lo, wt, hr, bh, h4⟩, ⟨b1, b2, b3, cm, h5⟩, s9, h6⟩ := h
  exact ⟨h1, zs_N_fr h2 (fun j k1 k2 => hf j (by omega) (by omega)), zq_F_fr h3 (fun j k1 k2 => hf j (by omega) (by omega)), ⟨hh, ee, mo, lo, wt, hr, bh, zs_R_fr h4 (fun j k1 k2 => hf j (by omega) (by omega))⟩, ⟨b1, b2, b3, cm, zs_W_fr h5 (fun j k1 k2 => hf j (by omega) (by omega))⟩, s9, (hf 107 (by omega) (by omega)).trans h6⟩
theorem zz_C_N {z : zv_T} {ad : Nat → Nat} {g g1 : Nat → va_E} {ts : Nat → zu_S} {qc qc' as0 : Nat} {qp qq qp' qq' : Nat → Int32} {F : List zq_I} (h : zz_C z ad g ts qc qp qq as0 F) (h1 : zs_N z ad g1 66 8 qc' qp' qq') (hf : ∀ j, j < 66 ∨ 69 ≤ j → j < 108 → g1 j = g j) : zz_C z ad g1 ts qc' qp' qq' as0 F := by
  obtain ⟨h2, -, h3, ⟨hh, ee, mo, lo, wt, hr, bh, h4⟩, ⟨b1, b2, b3, cm, h5⟩, s9, h6⟩ := h
  exact ⟨zs_A_fr h2 (fun j hj => hf j (by omega) (by omega)), h1, zq_F_fr h3 (fun j k1 k2 => hf j (by omega) (by omega)), ⟨hh, ee, mo, lo, wt, hr, bh, zs_R_fr h4 (fun j k1 k2 => hf j (by omega) (by omega))⟩, ⟨b1, b2, b3, cm, zs_W_fr h5 (fun j k1 k2 => hf j (by omega) (by omega))⟩, s9, (hf 107 (by omega) (by omega)).trans h6⟩
theorem zz_C_F {z : zv_T} {ad : Nat → Nat} {g g1 : Nat → va_E} {ts : Nat → zu_S} {qc as0 as1 : Nat} {qp qq : Nat → Int32} {F F1 : List zq_I} (h : zz_C z ad g ts qc qp qq as0 F) (h1 : zq_F z ad g1 as1 F1) (h2 : ∃ hh ee mo lo wt hr bh, zs_R z ad g1 hh ee mo lo wt hr bh) (hf : ∀ j, j < 69 ∨ 105 ≤ j → j < 108 → g1 j = g j) : zz_C z ad g1 ts qc qp qq as1 F1 := by
  obtain ⟨k1, k2, -, -, ⟨b1, b2, b3, cm, h5⟩, s9, h6⟩ := h
  exact ⟨zs_A_fr k1 (fun j hj => hf j (by omega) (by omega)), zs_N_fr k2 (fun j k1 k2 => hf j (by omega) (by omega)), h1, h2, ⟨b1, b2, b3, cm, zs_W_fr h5 (fun j k1 k2 => hf j (by omega) (by omega))⟩, s9, (hf 107 (by omega) (by omega)).trans h6⟩
theorem zz_C_W {z : zv_T} {ad : Nat → Nat} {g g1 : Nat → va_E} {ts : Nat → zu_S} {qc as0 : Nat} {qp qq : Nat → Int32} {F : List zq_I} (h : zz_C z ad g ts qc qp qq as0 F) (h1 : ∃ b1 b2 b3 cm, zs_W z ad g1 b1 b2 b3 cm) (hf : ∀ j, j ≠ 105 → j ≠ 106 → j < 108 → g1 j = g j) : zz_C z ad g1 ts qc qp qq as0 F := by
  obtain ⟨k1, k2, h3, ⟨hh, ee, mo, lo, wt, hr, bh, h4⟩, -, s9, h6⟩ := h
  exact ⟨zs_A_fr k1 (fun j hj => hf j (by omega) (by omega) (by omega)), zs_N_fr k2 (fun j k1 k2 => hf j (by omega) (by omega) (by omega)), zq_F_fr h3 (fun j k1 k2 => hf j (by omega) (by omega) (by omega)), ⟨hh, ee, mo, lo, wt, hr, bh, zs_R_fr h4 (fun j k1 k2 => hf j (by omega) (by omega) (by omega))⟩, h1, s9, (hf 107 (by omega) (by omega) (by omega)).trans h6⟩
theorem zz_C_S {z : zv_T} {ad : Nat → Nat} {g g1 : Nat → va_E} {ts : Nat → zu_S} {qc as0 : Nat} {qp qq : Nat → Int32} {F : List zq_I} (h : zz_C z ad g ts qc qp qq as0 F) (h1 : ∃ s9, g1 107 = ze_i z 8 s9) (hf : ∀ j, j ≠ 107 → j < 108 → g1 j = g j) : zz_C z ad g1 ts qc qp qq as0 F := by
  obtain ⟨k1, k2, h3, ⟨hh, ee, mo, lo, wt, hr, bh, h4⟩, ⟨b1, b2, b3, cm, h5⟩, -⟩ := h
  exact ⟨zs_A_fr k1 (fun j hj => hf j (by omega) (by omega)), zs_N_fr k2 (fun j k1 k2 => hf j (by omega) (by omega)), zq_F_fr h3 (fun j k1 k2 => hf j (by omega) (by omega)), ⟨hh, ee, mo, lo, wt, hr, bh, zs_R_fr h4 (fun j k1 k2 => hf j (by omega) (by omega))⟩, ⟨b1, b2, b3, cm, zs_W_fr h5 (fun j k1 k2 => hf j (by omega) (by omega))⟩, h1⟩
/-- a tune of the class and the model's rows of it -/
def zz_t (a : Nat → Nat → Int32) (t : Nat) (s : zu_S) (b : Bool) (C R : Nat) : Prop :=
  zu_sh s = (zu_th s && b) ∧ zu_cn s ≤ 20 ∧ zu_lr s ≤ 8 ∧ (∀ j, j < zu_lr s → ∃ k, k < 20 ∧ zu_pr s j = nI k) ∧ (zu_th s = true → C = zu_cn s ∧ R = zu_lr s + 1 ∧ ∀ r, r ≤ zu_lr s → ∀ k, k < zu_cn s → a 4 (180 * t + 20 * r + k) = zz_v (zu_p s) (zu_rp s) (zu_pr s) (zu_lr s) r k ∧ a 5 (180 * t + 20 * r + k) = zz_v (zu_q s) (zu_rq s) (zu_pr s) (zu_lr s) r k ∧ zp_no (a 4 (180 * t + 20 * r + k)) (a 5 (180 * t + 20 * r + k)))
def zz_A (a : Nat → Nat → Int32) (ts : Nat → zu_S) (sh : Nat → Bool) (Cn Rn : Nat → Nat) : Prop := zm_A a (fun t => zu_th (ts t)) sh Cn Rn ∧ ∀ t, t < 8 → zz_t a t (ts t) (sh t) (Cn t) (Rn t)
def zz_Q (a : Nat → Nat → Int32) (qc : Nat) (qp qq : Nat → Int32) : Prop := a 6 = qp ∧ a 7 = qq ∧ qc ≤ 8 ∧ ∀ i, i < qc → zp_no (qp i) (qq i)
def zz_F (a : Nat → Nat → Int32) (as0 : Nat) (F : List zq_I) (kp : Int32) : Prop := zq_ok F ∧ F.length < 2 ^ 30 ∧ (F.length = 0 ∨ (0 < as0 ∧ as0 ≤ 8)) ∧ kp = nI (zq_kp F) ∧ ∃ s, zr_ok (zq_ld F) F.length (zq_kp F) s ∧ zm_B a as0 F (zq_kp F) s
/-- class and model tell the same; k: the model's last code -/
def zz_G (z : zv_T) (ad : Nat → Nat) (g : Nat → va_E) (k : Int32) : Prop := ∃ ts qc qp qq as0 F fo kp a sh Cn Rn, zz_C z ad g ts qc qp qq as0 F ∧ zs_M z ad g k (nI qc) fo kp a ∧ zz_A a ts sh Cn Rn ∧ zz_Q a qc qp qq ∧ zz_F a as0 F kp
theorem zz_A_fr {a a' : Nat → Nat → Int32} {ts : Nat → zu_S} {sh : Nat → Bool} {Cn Rn : Nat → Nat} (h : zz_A a ts sh Cn Rn) (hr : ∀ r, r < 6 → a' r = a r) : zz_A a' ts sh Cn Rn := by
  refine ⟨fun t ht => ?_, fun t ht => ?_⟩
  · rw [hr 0 (by omega), hr 1 (by omega), hr 2 (by omega), hr 3 (by omega)]
    exact h.1 t ht
  · have h1 := h.2 t ht
    unfold zz_t at h1 ⊢
    rw [hr 4 (by omega), hr 5 (by omega)]
    exact h1
theorem zz_Q_fr {a a' : Nat → Nat → Int32} {qc : Nat} {qp qq : Nat → Int32} (h : zz_Q a qc qp qq) (h6 : a' 6 = a 6) (h7 : a' 7 = a 7) : zz_Q a' qc qp qq := ⟨h6.trans h.1, h7.trans h.2.1, h.2.2⟩
theorem zz_F_fr {a a' : Nat → Nat → Int32} {as0 : Nat} {F : List zq_I} {kp : Int32} (h : zz_F a as0 F kp) (h13 : a' 13 = a 13) : zz_F a' as0 F kp := by
  obtain ⟨h1, h2, h3, h4, s, h5, h6⟩ := h
  refine ⟨h1, h2, h3, h4, s, h5, fun j hj => ?_⟩
  have := h6 j hj
  unfold zm_b at this ⊢
  rw [h13]
  exact this
theorem zz_same {z : zv_T} {ad : Nat → Nat} {g1 g2 : Nat → va_E} {ts : Nat → zu_S} {qc as0 : Nat} {qp qq : Nat → Int32} {F : List zq_I} {k fo kp : Int32} {a : Nat → Nat → Int32} {sh : Nat → Bool} {Cn Rn : Nat → Nat} (hC : zz_C z ad g1 ts qc qp qq as0 F) (hA : zz_A a ts sh Cn Rn) (hQ : zz_Q a qc qp qq) (hF : zz_F a as0 F kp) (hM : zm_M z ad g1 g2 k (nI qc) fo kp a) : zz_G z ad g2 k :=
  ⟨ts, qc, qp, qq, as0, F, fo, kp, a, sh, Cn, Rn, zz_C_fr hC (fun j hj => hM.2 j (Or.inl hj)), hM.1, hA, hQ, hF⟩
theorem zz_u {ts : Nat → zu_S} {id : Int32} {t u : Nat} (h : zp_is ts id t) (h1 : zm_is (fun t => zu_th (ts t)) id u) : u = t := by
  obtain ⟨h2, h3, -⟩ := h
  obtain ⟨h4, h5, -⟩ := h1
  rw [h3] at h5
  exact ((nI_eq (by omega) (by omega)).mp h5).symm
theorem zz_A_up {a a' : Nat → Nat → Int32} {ts : Nat → zu_S} {sh : Nat → Bool} {Cn Rn : Nat → Nat} {t : Nat} {s : zu_S} {b : Bool} {C R : Nat} (h : zz_A a ts sh Cn Rn)
    (h0 : ∀ u, u ≠ t → a' 0 u = a 0 u ∧ a' 1 u = a 1 u ∧ a' 2 u = a 2 u ∧ a' 3 u = a 3 u) (h0t : a' 0 t = zb_i (zu_th s) ∧ a' 1 t = zb_i b ∧ a' 2 t = nI C ∧ a' 3 t = nI R) (hC : C ≤ 20) (hR : R ≤ 9) (hR1 : zu_th s = true → 1 ≤ R)
    (h4 : ∀ j, j < 180 * t ∨ 180 * t + 180 ≤ j → a' 4 j = a 4 j ∧ a' 5 j = a 5 j) (hs : zz_t a' t s b C R) : zz_A a' (zp_ts ts t s) (fun u => if u = t then b else sh u) (fun u => if u = t then C else Cn u) (fun u => if u = t then R else Rn u) := by
  refine ⟨fun u hu => ?_, fun u hu => ?_⟩
  · show a' 0 u = zb_i (zu_th (if u = t then s else ts u)) ∧ a' 1 u = zb_i (if u = t then b else sh u) ∧ a' 2 u = nI (if u = t then C else Cn u) ∧ a' 3 u = nI (if u = t then R else Rn u) ∧ (if u = t then C else Cn u) ≤ 20 ∧ (if u = t then R else Rn u) ≤ 9 ∧ (zu_th (if u = t then s else ts u) = true → 1 ≤ (if u = t then R else Rn u))
    by_cases c : u = t
    · rw [if_pos c, if_pos c, if_pos c, if_pos c, c]
      exact ⟨h0t.1, h0t.2.1, h0t.2.2.1, h0t.2.2.2, hC, hR, hR1⟩
    · rw [if_neg c, if_neg c, if_neg c, if_neg c, (h0 u c).1, (h0 u c).2.1, (h0 u c).2.2.1, (h0 u c).2.2.2]
      exact h.1 u hu
  · show zz_t a' u (if u = t then s else ts u) (if u = t then b else sh u) (if u = t then C else Cn u) (if u = t then R else Rn u)
    by_cases c : u = t
    · rw [if_pos c, if_pos c, if_pos c, if_pos c, c]
      exact hs
    · rw [if_neg c, if_neg c, if_neg c, if_neg c]
      obtain ⟨k1, k2, k3, k4, k5⟩ := h.2 u hu
      refine ⟨k1, k2, k3, k4, fun hth => ?_⟩
      obtain ⟨k6, k7, k8⟩ := k5 hth
      refine ⟨k6, k7, fun r hr k hk => ?_⟩
      have hj := h4 (180 * u + 20 * r + k) (by omega)
      rw [hj.1, hj.2]
      exact k8 r hr k hk
theorem zz_now {a : Nat → Nat → Int32} {ts : Nat → zu_S} {sh : Nat → Bool} {Cn Rn : Nat → Nat} (h : zz_A a ts sh Cn Rn) {t : Nat} (ht : t < 8) (hth : zu_th (ts t) = true) : Cn t = zu_cn (ts t) ∧ Rn t = zu_lr (ts t) + 1 ∧ zu_sh (ts t) = sh t ∧ ∀ i, i < zu_cn (ts t) → zu_p (ts t) i = zm_f a 4 t (Rn t) i ∧ zu_q (ts t) i = zm_f a 5 t (Rn t) i ∧ zp_no (zm_f a 4 t (Rn t) i) (zm_f a 5 t (Rn t) i) := by
  obtain ⟨k1, k2, k3, k4, k5⟩ := h.2 t ht
  obtain ⟨k6, k7, k8⟩ := k5 hth
  refine ⟨k6, k7, by rw [k1, hth]; rfl, fun i hi => ?_⟩
  have := k8 (zu_lr (ts t)) (Nat.le_refl _) i hi
  rw [zz_v_now, zz_v_now] at this
  unfold zm_f
  rw [k7, Nat.add_sub_cancel]
  exact ⟨this.1.symm, this.2.1.symm, this.2.2⟩
theorem zz_cn {a : Nat → Nat → Int32} {ts : Nat → zu_S} {sh : Nat → Bool} {Cn Rn : Nat → Nat} (h : zz_A a ts sh Cn Rn) : (∀ t, t < 8 → zu_cn (ts t) ≤ 20) ∧ (∀ t, t < 8 → zu_lr (ts t) ≤ 8) ∧ ∀ t, t < 8 → ∀ j, j < zu_lr (ts t) → ∃ k, k < 20 ∧ zu_pr (ts t) j = nI k :=
  ⟨fun t ht => (h.2 t ht).2.1, fun t ht => (h.2 t ht).2.2.1, fun t ht => (h.2 t ht).2.2.2.1⟩
theorem zp_ld_cg {e e' : Nat → Bool} {lim m : Nat} (h : ∀ j, j < lim → e j = e' j) (h1 : zp_ld e lim m) : zp_ld e' lim m :=
  ⟨h1.1, fun t ht => by rw [← h t (by have := h1.1; omega)]; exact h1.2.1 t ht, fun hm => by rw [← h m hm]; exact h1.2.2 hm⟩
theorem zu_1 (b : Bool) : b = true → zb_i b = 1 := fun h => by rw [h]; rfl
set_option maxHeartbeats 1000000 in
theorem zz_tune {z : zv_T} {ad : Nat → Nat} {g g1 g2 : Nat → va_E} {ts : Nat → zu_S} {qc as0 : Nat} {qp qq : Nat → Int32} {F : List zq_I} {fo kp : Int32} {a : Nat → Nat → Int32} {sh : Nat → Bool} {Cn Rn : Nat → Nat} {k v r : Int32} (id : Int32) (hC : zz_C z ad g ts qc qp qq as0 F) (hA : zz_A a ts sh Cn Rn) (hQ : zz_Q a qc qp qq) (hF : zz_F a as0 F kp) (h1 : (k = 0 ∧ ∃ g9 : Nat → va_E, (∃ t, t < 8 ∧ id = nI t ∧ zu_th (ts t) = false ∧ zs_A z ad g9 (zp_ts ts t (true, false, 0, 0, zu_p (ts t), zu_q (ts t), zu_pr (ts t), zu_rp (ts t), zu_rq (ts t))) ∧ ∀ j, 66 ≤ j → g9 j = g j) ∧ ∀ j, j < 126 → g1 j = g9 j) ∨ (k = 1 ∧ ∃ g9 : Nat → va_E, (g9 = g ∧ (("java/lang/IndexOutOfBoundsException" = "java/lang/IndexOutOfBoundsException" ∧ ∀ t, t < 8 → ¬ id = nI t) ∨ ("java/lang/IndexOutOfBoundsException" = "java/lang/IllegalStateException" ∧ ∃ t, t < 8 ∧ id = nI t ∧ zu_th (ts t) = true))) ∧ ∀ j, j < 126 → g1 j = g9 j) ∨ (k = 2 ∧ ∃ g9 : Nat → va_E, (g9 = g ∧ (("java/lang/IllegalStateException" = "java/lang/IndexOutOfBoundsException" ∧ ∀ t, t < 8 → ¬ id = nI t) ∨ ("java/lang/IllegalStateException" = "java/lang/IllegalStateException" ∧ ∃ t, t < 8 ∧ id = nI t ∧ zu_th (ts t) = true))) ∧ ∀ j, j < 126 → g1 j = g9 j)) (h2 : (∃ t, t < 8 ∧ id = nI t ∧ (fun t => zu_th (ts t)) t = false ∧ zm_M z ad g1 g2 0 (nI qc) fo kp (va_up (va_up (va_up (va_up a 0 (upd (a 0) t 1)) 1 (upd (a 1) t 0)) 2 (upd (a 2) t 0)) 3 (upd (a 3) t 1))) ∨ ((∀ t, t < 8 → ¬ id = nI t) ∧ zm_M z ad g1 g2 1 (nI qc) fo kp a) ∨ ((∃ t, t < 8 ∧ id = nI t ∧ (fun t => zu_th (ts t)) t = true) ∧ zm_M z ad g1 g2 2 (nI qc) fo kp a)) : zz_G z ad g2 k := by
  rcases h1 with ⟨rfl, g9, ⟨t, ht, hid, hth, hs, hf⟩, hg⟩ | ⟨rfl, g9, h9, hg⟩ | ⟨rfl, g9, h9, hg⟩
  · rcases h2 with ⟨u, hu, hiu, hthu, hM⟩ | ⟨h, -⟩ | ⟨⟨u, hu, hiu, hthu⟩, -⟩
    · have e : u = t := by rw [hid] at hiu; exact ((nI_eq (by omega) (by omega)).mp hiu).symm
      subst e
      refine ⟨_, qc, qp, qq, as0, F, fo, kp, _, _, _, _, zz_C_fr (zz_C_A hC hs (fun j k1 k2 => hf j k1)) (fun j hj => (hM.2 j (Or.inl hj)).trans (hg j (by omega))), hM.1, zz_A_up (t := u) (b := false) (C := 0) (R := 1) hA (fun w hw => ⟨pk_un hw, pk_un hw, pk_un hw, pk_un hw⟩) ⟨pk_us, pk_us, pk_us, pk_us⟩ (by omega) (by omega) (fun _ => Nat.le_refl _) (fun j _ => ⟨rfl, rfl⟩) ⟨rfl, by show 0 ≤ 20; omega, by show 0 ≤ 8; omega, fun j hj => absurd hj (Nat.not_lt_zero j), fun _ => ⟨rfl, rfl, fun r _ k hk => absurd hk (Nat.not_lt_zero k)⟩⟩, zz_Q_fr hQ rfl rfl, zz_F_fr hF rfl⟩
    · exact absurd hid (h t ht)
    · have e : u = t := by rw [hid] at hiu; exact ((nI_eq (by omega) (by omega)).mp hiu).symm
      subst e
      have hthu : zu_th (ts u) = true := hthu
      rw [hth] at hthu
      cases hthu
  · simp only [String.reduceEq, true_and, false_and, or_false] at h9
    obtain ⟨rfl, h9⟩ := h9
    rcases h2 with ⟨u, hu, hiu, -⟩ | ⟨-, hM⟩ | ⟨⟨u, hu, hiu, -⟩, -⟩
    · exact absurd hiu (h9 u hu)
    · exact zz_same (zz_C_fr hC (fun j hj => hg j (by omega))) hA hQ hF hM
    · exact absurd hiu (h9 u hu)
  · simp only [String.reduceEq, true_and, false_and, false_or] at h9
    obtain ⟨rfl, t, ht, hid, hth⟩ := h9
    rcases h2 with ⟨u, hu, hiu, hthu, -⟩ | ⟨h, -⟩ | ⟨-, hM⟩
    · have e : u = t := by rw [hid] at hiu; exact ((nI_eq (by omega) (by omega)).mp hiu).symm
      subst e
      have hthu : zu_th (ts u) = false := hthu
      rw [hth] at hthu
      cases hthu
    · exact absurd hid (h t ht)
    · exact zz_same (zz_C_fr hC (fun j hj => hg j (by omega))) hA hQ hF hM
set_option maxHeartbeats 1000000 in
theorem zz_drop {z : zv_T} {ad : Nat → Nat} {g g1 g2 : Nat → va_E} {ts : Nat → zu_S} {qc as0 : Nat} {qp qq : Nat → Int32} {F : List zq_I} {fo kp : Int32} {a : Nat → Nat → Int32} {sh : Nat → Bool} {Cn Rn : Nat → Nat} {k v r : Int32} (id : Int32) (hC : zz_C z ad g ts qc qp qq as0 F) (hA : zz_A a ts sh Cn Rn) (hQ : zz_Q a qc qp qq) (hF : zz_F a as0 F kp) (h1 : (k = 0 ∧ ∃ g9 : Nat → va_E, (∃ t, zp_is ts id t ∧ zs_A z ad g9 (zp_ts ts t (false, false, (ts t).2.2)) ∧ ∀ j, 66 ≤ j → g9 j = g j) ∧ ∀ j, j < 126 → g1 j = g9 j) ∨ (k = 1 ∧ ∃ g9 : Nat → va_E, (g9 = g ∧ "java/lang/IndexOutOfBoundsException" = "java/lang/IndexOutOfBoundsException" ∧ ∀ t, ¬ zp_is ts id t) ∧ ∀ j, j < 126 → g1 j = g9 j)) (h2 : (∃ t, zm_is (fun t => zu_th (ts t)) id t ∧ zm_M z ad g1 g2 0 (nI qc) fo kp (va_up a 0 (upd (a 0) t 0))) ∨ ((∀ t, ¬ zm_is (fun t => zu_th (ts t)) id t) ∧ zm_M z ad g1 g2 1 (nI qc) fo kp a)) : zz_G z ad g2 k := by
  rcases h1 with ⟨rfl, g9, ⟨t, his, hs, hf⟩, hg⟩ | ⟨rfl, g9, h9, hg⟩
  · rcases h2 with ⟨u, hiu, hM⟩ | ⟨h, -⟩
    · obtain rfl := zz_u his hiu
      obtain ⟨k1, k2, k3, k4, k5⟩ := hA.2 u his.1
      obtain ⟨j1, j2, j3, j4, j5, j6, j7⟩ := hA.1 u his.1
      refine ⟨_, qc, qp, qq, as0, F, fo, kp, _, _, _, _, zz_C_fr (zz_C_A hC hs (fun j k1 k2 => hf j k1)) (fun j hj => (hM.2 j (Or.inl hj)).trans (hg j (by omega))), hM.1, zz_A_up (t := u) (b := sh u) (C := Cn u) (R := Rn u) hA (fun w hw => ⟨pk_un hw, rfl, rfl, rfl⟩) ⟨pk_us, j2, j3, j4⟩ j5 j6 (fun h => by cases h) (fun j _ => ⟨rfl, rfl⟩) ⟨rfl, k2, k3, k4, fun h => by cases h⟩, zz_Q_fr hQ rfl rfl, zz_F_fr hF rfl⟩
    · exact absurd his (h t)
  · obtain ⟨rfl, -, h9⟩ := h9
    rcases h2 with ⟨u, hiu, -⟩ | ⟨-, hM⟩
    · exact absurd hiu (h9 u)
    · exact zz_same (zz_C_fr hC (fun j hj => hg j (by omega))) hA hQ hF hM
set_option maxHeartbeats 1000000 in
theorem zz_note {z : zv_T} {ad : Nat → Nat} {g g1 g2 : Nat → va_E} {ts : Nat → zu_S} {qc as0 : Nat} {qp qq : Nat → Int32} {F : List zq_I} {fo kp : Int32} {a : Nat → Nat → Int32} {sh : Nat → Bool} {Cn Rn : Nat → Nat} {k v r : Int32} (id x y : Int32) (hC : zz_C z ad g ts qc qp qq as0 F) (hA : zz_A a ts sh Cn Rn) (hQ : zz_Q a qc qp qq) (hF : zz_F a as0 F kp) (h1 : (k = 0 ∧ ∃ g9 : Nat → va_E, (∃ t, zp_is ts id t ∧ zp_no x y ∧ zu_sh (ts t) = false ∧ zu_lr (ts t) = 0 ∧ zu_cn (ts t) < 20 ∧ v = nI (zu_cn (ts t) + 1) ∧ zs_A z ad g9 (zp_ts ts t ((ts t).1, (ts t).2.1, zu_lr (ts t), zu_cn (ts t) + 1, upd (zu_p (ts t)) (zu_cn (ts t)) x, upd (zu_q (ts t)) (zu_cn (ts t)) y, (ts t).2.2.2.2.2.2)) ∧ ∀ j, 66 ≤ j → g9 j = g j) ∧ ∀ j, j < 126 → g1 j = g9 j) ∨ (k = 1 ∧ ∃ g9 : Nat → va_E, (g9 = g ∧ (("java/lang/IndexOutOfBoundsException" = "java/lang/IndexOutOfBoundsException" ∧ ∀ t, ¬ zp_is ts id t) ∨ ("java/lang/IndexOutOfBoundsException" = "java/lang/IllegalArgumentException" ∧ (∃ t, zp_is ts id t) ∧ ¬ zp_no x y) ∨ ("java/lang/IndexOutOfBoundsException" = "java/lang/IllegalStateException" ∧ (∃ t, zp_is ts id t ∧ (zu_sh (ts t) = true ∨ 0 < zu_lr (ts t) ∨ 20 ≤ zu_cn (ts t))) ∧ zp_no x y))) ∧ ∀ j, j < 126 → g1 j = g9 j) ∨ (k = 2 ∧ ∃ g9 : Nat → va_E, (g9 = g ∧ (("java/lang/IllegalArgumentException" = "java/lang/IndexOutOfBoundsException" ∧ ∀ t, ¬ zp_is ts id t) ∨ ("java/lang/IllegalArgumentException" = "java/lang/IllegalArgumentException" ∧ (∃ t, zp_is ts id t) ∧ ¬ zp_no x y) ∨ ("java/lang/IllegalArgumentException" = "java/lang/IllegalStateException" ∧ (∃ t, zp_is ts id t ∧ (zu_sh (ts t) = true ∨ 0 < zu_lr (ts t) ∨ 20 ≤ zu_cn (ts t))) ∧ zp_no x y))) ∧ ∀ j, j < 126 → g1 j = g9 j) ∨ (k = 3 ∧ ∃ g9 : Nat → va_E, (g9 = g ∧ (("java/lang/IllegalStateException" = "java/lang/IndexOutOfBoundsException" ∧ ∀ t, ¬ zp_is ts id t) ∨ ("java/lang/IllegalStateException" = "java/lang/IllegalArgumentException" ∧ (∃ t, zp_is ts id t) ∧ ¬ zp_no x y) ∨ ("java/lang/IllegalStateException" = "java/lang/IllegalStateException" ∧ (∃ t, zp_is ts id t ∧ (zu_sh (ts t) = true ∨ 0 < zu_lr (ts t) ∨ 20 ≤ zu_cn (ts t))) ∧ zp_no x y))) ∧ ∀ j, j < 126 → g1 j = g9 j)) (h2 : (∃ t, zm_is (fun t => zu_th (ts t)) id t ∧ zp_no x y ∧ sh t = false ∧ Rn t ≤ 1 ∧ Cn t < 20 ∧ r = nI (Cn t + 1) ∧ zm_M z ad g1 g2 0 (nI qc) fo kp (va_up (va_up (va_up a 4 (upd (a 4) (180 * t + 20 * 0 + Cn t) x)) 5 (upd (a 5) (180 * t + 20 * 0 + Cn t) y)) 2 (upd (a 2) t (nI (Cn t + 1))))) ∨ ((∀ t, ¬ zm_is (fun t => zu_th (ts t)) id t) ∧ zm_M z ad g1 g2 1 (nI qc) fo kp a) ∨ ((∃ t, zm_is (fun t => zu_th (ts t)) id t) ∧ ¬ zp_no x y ∧ zm_M z ad g1 g2 2 (nI qc) fo kp a) ∨ ((∃ t, zm_is (fun t => zu_th (ts t)) id t ∧ (sh t = true ∨ 1 < Rn t ∨ Cn t = 20)) ∧ zp_no x y ∧ zm_M z ad g1 g2 3 (nI qc) fo kp a)) : zz_G z ad g2 k ∧ (k = 0 → v = r) := by
  rcases h1 with ⟨rfl, g9, ⟨t, his, hno, hsh, hlr, hcn, hv, hs, hf⟩, hg⟩ | ⟨rfl, g9, h9, hg⟩ | ⟨rfl, g9, h9, hg⟩ | ⟨rfl, g9, h9, hg⟩
  · obtain ⟨n1, n2, n3, n4⟩ := zz_now hA his.1 his.2.2
    rcases h2 with ⟨u, hiu, -, hshu, hR, hCu, hr, hM⟩ | ⟨h, -⟩ | ⟨-, h, -⟩ | ⟨⟨u, hiu, h⟩, -⟩
    · obtain rfl := zz_u his hiu
      obtain ⟨k1, k2, k3, k4, k5⟩ := hA.2 u his.1
      obtain ⟨j1, j2, j3, j4, j5, j6, j7⟩ := hA.1 u his.1
      obtain ⟨k6, k7, k8⟩ := k5 his.2.2
      refine ⟨⟨_, qc, qp, qq, as0, F, fo, kp, _, _, _, _, zz_C_fr (zz_C_A hC hs (fun j k1 k2 => hf j k1)) (fun j hj => (hM.2 j (Or.inl hj)).trans (hg j (by omega))), hM.1, zz_A_up (t := u) (b := sh u) (C := Cn u + 1) (R := Rn u) hA (fun w hw => ⟨rfl, rfl, pk_un hw, rfl⟩) ⟨j1, j2, pk_us, j4⟩ (by omega) j6 j7 (fun j hj => ⟨pk_un (by omega), pk_un (by omega)⟩) ⟨k1, by show zu_cn (ts u) + 1 ≤ 20; omega, k3, k4, fun _ => ⟨by show Cn u + 1 = zu_cn (ts u) + 1; omega, k7, fun r hr k hk => ?_⟩⟩, zz_Q_fr hQ rfl rfl, zz_F_fr hF rfl⟩, fun _ => by rw [hv, hr, n1]⟩
      have hr : r ≤ zu_lr (ts u) := hr
      have hk : k < zu_cn (ts u) + 1 := hk
      obtain rfl : r = 0 := by omega
      show upd (a 4) (180 * u + 20 * 0 + Cn u) x (180 * u + 20 * 0 + k) = zz_v (upd (zu_p (ts u)) (zu_cn (ts u)) x) (zu_rp (ts u)) (zu_pr (ts u)) (zu_lr (ts u)) 0 k ∧ upd (a 5) (180 * u + 20 * 0 + Cn u) y (180 * u + 20 * 0 + k) = zz_v (upd (zu_q (ts u)) (zu_cn (ts u)) y) (zu_rq (ts u)) (zu_pr (ts u)) (zu_lr (ts u)) 0 k ∧ zp_no (upd (a 4) (180 * u + 20 * 0 + Cn u) x (180 * u + 20 * 0 + k)) (upd (a 5) (180 * u + 20 * 0 + Cn u) y (180 * u + 20 * 0 + k))
      rw [hlr, zz_v_now, zz_v_now, n1]
      by_cases c : k = zu_cn (ts u)
      · subst c
        rw [pk_us, pk_us, pk_us, pk_us]
        exact ⟨rfl, rfl, hno⟩
      · rw [show upd (a 4) (180 * u + 20 * 0 + zu_cn (ts u)) x (180 * u + 20 * 0 + k) = a 4 (180 * u + 20 * 0 + k) from pk_un (by omega), show upd (a 5) (180 * u + 20 * 0 + zu_cn (ts u)) y (180 * u + 20 * 0 + k) = a 5 (180 * u + 20 * 0 + k) from pk_un (by omega), pk_un c, pk_un c]
        have := k8 0 (by omega) k (by omega)
        rw [hlr, zz_v_now, zz_v_now] at this
        exact this
    · exact absurd his (h t)
    · exact absurd hno h
    · obtain rfl := zz_u his hiu
      rw [← n3, hsh] at h
      rcases h with h | h | h
      · cases h
      · omega
      · omega
  · simp only [String.reduceEq, true_and, false_and, or_false] at h9
    obtain ⟨rfl, h9⟩ := h9
    refine ⟨?_, fun h => absurd h (by decide)⟩
    rcases h2 with ⟨u, hiu, -⟩ | ⟨-, hM⟩ | ⟨⟨u, hiu⟩, -⟩ | ⟨⟨u, hiu, -⟩, -⟩
    · exact absurd hiu (h9 u)
    · exact zz_same (zz_C_fr hC (fun j hj => hg j (by omega))) hA hQ hF hM
    · exact absurd hiu (h9 u)
    · exact absurd hiu (h9 u)
  · simp only [String.reduceEq, true_and, false_and, or_false, false_or] at h9
    obtain ⟨rfl, ⟨t, his⟩, hno⟩ := h9
    refine ⟨?_, fun h => absurd h (by decide)⟩
    rcases h2 with ⟨u, hiu, h, -⟩ | ⟨h, -⟩ | ⟨-, -, hM⟩ | ⟨-, h, -⟩
    · exact absurd h hno
    · exact absurd his (h t)
    · exact zz_same (zz_C_fr hC (fun j hj => hg j (by omega))) hA hQ hF hM
    · exact absurd h hno
  · simp only [String.reduceEq, true_and, false_and, or_false, false_or] at h9
    obtain ⟨rfl, ⟨t, his, h⟩, hno⟩ := h9
    obtain ⟨n1, n2, n3, n4⟩ := zz_now hA his.1 his.2.2
    refine ⟨?_, fun h => absurd h (by decide)⟩
    rcases h2 with ⟨u, hiu, -, hshu, hR, hCu, -⟩ | ⟨h, -⟩ | ⟨-, h, -⟩ | ⟨-, -, hM⟩
    · obtain rfl := zz_u his hiu
      rw [n3, hshu] at h
      rcases h with h | h | h
      · cases h
      · omega
      · omega
    · exact absurd his (h t)
    · exact absurd hno h
    · exact zz_same (zz_C_fr hC (fun j hj => hg j (by omega))) hA hQ hF hM
set_option maxHeartbeats 1000000 in
theorem zz_show {z : zv_T} {ad : Nat → Nat} {g g1 g2 : Nat → va_E} {ts : Nat → zu_S} {qc as0 : Nat} {qp qq : Nat → Int32} {F : List zq_I} {fo kp : Int32} {a : Nat → Nat → Int32} {sh : Nat → Bool} {Cn Rn : Nat → Nat} {k v r : Int32} (id : Int32) (on : Bool) (hC : zz_C z ad g ts qc qp qq as0 F) (hA : zz_A a ts sh Cn Rn) (hQ : zz_Q a qc qp qq) (hF : zz_F a as0 F kp) (h1 : (k = 0 ∧ ∃ g9 : Nat → va_E, (∃ t, zp_is ts id t ∧ ¬ zu_sh (ts t) = on ∧ 2 ≤ zu_cn (ts t) ∧ zs_A z ad g9 (zp_ts ts t ((ts t).1, on, (ts t).2.2)) ∧ ∀ j, 66 ≤ j → g9 j = g j) ∧ ∀ j, j < 126 → g1 j = g9 j) ∨ (k = 1 ∧ ∃ g9 : Nat → va_E, (g9 = g ∧ (("java/lang/IndexOutOfBoundsException" = "java/lang/IndexOutOfBoundsException" ∧ ∀ t, ¬ zp_is ts id t) ∨ ("java/lang/IndexOutOfBoundsException" = "java/lang/IllegalStateException" ∧ ∃ t, zp_is ts id t ∧ (zu_sh (ts t) = on ∨ zu_cn (ts t) < 2)))) ∧ ∀ j, j < 126 → g1 j = g9 j) ∨ (k = 2 ∧ ∃ g9 : Nat → va_E, (g9 = g ∧ (("java/lang/IllegalStateException" = "java/lang/IndexOutOfBoundsException" ∧ ∀ t, ¬ zp_is ts id t) ∨ ("java/lang/IllegalStateException" = "java/lang/IllegalStateException" ∧ ∃ t, zp_is ts id t ∧ (zu_sh (ts t) = on ∨ zu_cn (ts t) < 2)))) ∧ ∀ j, j < 126 → g1 j = g9 j)) (h2 : (∃ t, zm_is (fun t => zu_th (ts t)) id t ∧ ¬ sh t = on ∧ 2 ≤ Cn t ∧ zm_M z ad g1 g2 0 (nI qc) fo kp (va_up a 1 (upd (a 1) t (zb_i on)))) ∨ ((∀ t, ¬ zm_is (fun t => zu_th (ts t)) id t) ∧ zm_M z ad g1 g2 1 (nI qc) fo kp a) ∨ ((∃ t, zm_is (fun t => zu_th (ts t)) id t ∧ (sh t = on ∨ Cn t < 2)) ∧ zm_M z ad g1 g2 2 (nI qc) fo kp a)) : zz_G z ad g2 k := by
  rcases h1 with ⟨rfl, g9, ⟨t, his, hsh, hcn, hs, hf⟩, hg⟩ | ⟨rfl, g9, h9, hg⟩ | ⟨rfl, g9, h9, hg⟩
  · obtain ⟨n1, n2, n3, n4⟩ := zz_now hA his.1 his.2.2
    rcases h2 with ⟨u, hiu, hshu, hCu, hM⟩ | ⟨h, -⟩ | ⟨⟨u, hiu, h⟩, -⟩
    · obtain rfl := zz_u his hiu
      obtain ⟨k1, k2, k3, k4, k5⟩ := hA.2 u his.1
      obtain ⟨j1, j2, j3, j4, j5, j6, j7⟩ := hA.1 u his.1
      refine ⟨_, qc, qp, qq, as0, F, fo, kp, _, _, _, _, zz_C_fr (zz_C_A hC hs (fun j k1 k2 => hf j k1)) (fun j hj => (hM.2 j (Or.inl hj)).trans (hg j (by omega))), hM.1, zz_A_up (t := u) (b := on) (C := Cn u) (R := Rn u) hA (fun w hw => ⟨rfl, pk_un hw, rfl, rfl⟩) ⟨j1, pk_us, j3, j4⟩ j5 j6 j7 (fun j hj => ⟨rfl, rfl⟩) ⟨by show on = (zu_th (ts u) && on); rw [his.2.2]; rfl, k2, k3, k4, k5⟩, zz_Q_fr hQ rfl rfl, zz_F_fr hF rfl⟩
    · exact absurd his (h t)
    · obtain rfl := zz_u his hiu
      rw [← n3] at h
      rcases h with h | h
      · exact absurd h hsh
      · omega
  · simp only [String.reduceEq, true_and, false_and, or_false] at h9
    obtain ⟨rfl, h9⟩ := h9
    rcases h2 with ⟨u, hiu, -⟩ | ⟨-, hM⟩ | ⟨⟨u, hiu, -⟩, -⟩
    · exact absurd hiu (h9 u)
    · exact zz_same (zz_C_fr hC (fun j hj => hg j (by omega))) hA hQ hF hM
    · exact absurd hiu (h9 u)
  · simp only [String.reduceEq, true_and, false_and, false_or] at h9
    obtain ⟨rfl, t, his, h⟩ := h9
    obtain ⟨n1, n2, n3, n4⟩ := zz_now hA his.1 his.2.2
    rcases h2 with ⟨u, hiu, hshu, hCu, -⟩ | ⟨h, -⟩ | ⟨-, hM⟩
    · obtain rfl := zz_u his hiu
      rw [n3] at h
      rcases h with h | h
      · exact absurd h hshu
      · omega
    · exact absurd his (h t)
    · exact zz_same (zz_C_fr hC (fun j hj => hg j (by omega))) hA hQ hF hM
set_option maxHeartbeats 1000000 in
theorem zz_correct {z : zv_T} {ad : Nat → Nat} {g g1 g2 : Nat → va_E} {ts : Nat → zu_S} {qc as0 : Nat} {qp qq : Nat → Int32} {F : List zq_I} {fo kp : Int32} {a : Nat → Nat → Int32} {sh : Nat → Bool} {Cn Rn : Nat → Nat} {k v r : Int32} (id p x y : Int32) (hC : zz_C z ad g ts qc qp qq as0 F) (hA : zz_A a ts sh Cn Rn) (hQ : zz_Q a qc qp qq) (hF : zz_F a as0 F kp) (h1 : (k = 0 ∧ ∃ g9 : Nat → va_E, (∃ t k, zp_is ts id t ∧ k < zu_cn (ts t) ∧ p = nI k ∧ zp_no x y ∧ zu_lr (ts t) < 8 ∧ v = nI (zu_lr (ts t) + 1) ∧ zs_A z ad g9 (zp_ts ts t ((ts t).1, (ts t).2.1, zu_lr (ts t) + 1, zu_cn (ts t), upd (zu_p (ts t)) k x, upd (zu_q (ts t)) k y, upd (zu_pr (ts t)) (zu_lr (ts t)) (nI k), upd (zu_rp (ts t)) (zu_lr (ts t)) (zu_p (ts t) k), upd (zu_rq (ts t)) (zu_lr (ts t)) (zu_q (ts t) k))) ∧ ∀ j, 66 ≤ j → g9 j = g j) ∧ ∀ j, j < 126 → g1 j = g9 j) ∨ (k = 1 ∧ ∃ g9 : Nat → va_E, (g9 = g ∧ (("java/lang/IndexOutOfBoundsException" = "java/lang/IndexOutOfBoundsException" ∧ ((∀ t, ¬ zp_is ts id t) ∨ ∃ t, zp_is ts id t ∧ ∀ k, k < zu_cn (ts t) → ¬ p = nI k)) ∨ ("java/lang/IndexOutOfBoundsException" = "java/lang/IllegalArgumentException" ∧ (∃ t k, zp_is ts id t ∧ k < zu_cn (ts t) ∧ p = nI k) ∧ ¬ zp_no x y) ∨ ("java/lang/IndexOutOfBoundsException" = "java/lang/IllegalStateException" ∧ ∃ t k, zp_is ts id t ∧ k < zu_cn (ts t) ∧ p = nI k ∧ zp_no x y ∧ zu_lr (ts t) = 8))) ∧ ∀ j, j < 126 → g1 j = g9 j) ∨ (k = 2 ∧ ∃ g9 : Nat → va_E, (g9 = g ∧ (("java/lang/IllegalArgumentException" = "java/lang/IndexOutOfBoundsException" ∧ ((∀ t, ¬ zp_is ts id t) ∨ ∃ t, zp_is ts id t ∧ ∀ k, k < zu_cn (ts t) → ¬ p = nI k)) ∨ ("java/lang/IllegalArgumentException" = "java/lang/IllegalArgumentException" ∧ (∃ t k, zp_is ts id t ∧ k < zu_cn (ts t) ∧ p = nI k) ∧ ¬ zp_no x y) ∨ ("java/lang/IllegalArgumentException" = "java/lang/IllegalStateException" ∧ ∃ t k, zp_is ts id t ∧ k < zu_cn (ts t) ∧ p = nI k ∧ zp_no x y ∧ zu_lr (ts t) = 8))) ∧ ∀ j, j < 126 → g1 j = g9 j) ∨ (k = 3 ∧ ∃ g9 : Nat → va_E, (g9 = g ∧ (("java/lang/IllegalStateException" = "java/lang/IndexOutOfBoundsException" ∧ ((∀ t, ¬ zp_is ts id t) ∨ ∃ t, zp_is ts id t ∧ ∀ k, k < zu_cn (ts t) → ¬ p = nI k)) ∨ ("java/lang/IllegalStateException" = "java/lang/IllegalArgumentException" ∧ (∃ t k, zp_is ts id t ∧ k < zu_cn (ts t) ∧ p = nI k) ∧ ¬ zp_no x y) ∨ ("java/lang/IllegalStateException" = "java/lang/IllegalStateException" ∧ ∃ t k, zp_is ts id t ∧ k < zu_cn (ts t) ∧ p = nI k ∧ zp_no x y ∧ zu_lr (ts t) = 8))) ∧ ∀ j, j < 126 → g1 j = g9 j)) (h2 : (∃ t pl a1, zm_is (fun t => zu_th (ts t)) id t ∧ pl < Cn t ∧ p = nI pl ∧ zp_no x y ∧ Rn t < 9 ∧ r = nI (Rn t) ∧ zm_M z ad g1 g2 0 (nI qc) fo kp a1 ∧ (∀ r, r ≠ 3 → r ≠ 4 → r ≠ 5 → a1 r = a r) ∧ a1 3 = upd (a 3) t (nI (Rn t + 1)) ∧ a1 4 = zm_cp (a 4) (180 * t + 20 * Rn t) (180 * t + 20 * (Rn t - 1)) pl x (Cn t) ∧ a1 5 = zm_cp (a 5) (180 * t + 20 * Rn t) (180 * t + 20 * (Rn t - 1)) pl y (Cn t)) ∨ (((∀ t, ¬ zm_is (fun t => zu_th (ts t)) id t) ∨ ∃ t, zm_is (fun t => zu_th (ts t)) id t ∧ ∀ k, k < Cn t → ¬ p = nI k) ∧ zm_M z ad g1 g2 1 (nI qc) fo kp a) ∨ ((∃ t k, zm_is (fun t => zu_th (ts t)) id t ∧ k < Cn t ∧ p = nI k) ∧ ¬ zp_no x y ∧ zm_M z ad g1 g2 2 (nI qc) fo kp a) ∨ ((∃ t k, zm_is (fun t => zu_th (ts t)) id t ∧ k < Cn t ∧ p = nI k ∧ Rn t = 9) ∧ zp_no x y ∧ zm_M z ad g1 g2 3 (nI qc) fo kp a)) : zz_G z ad g2 k ∧ (k = 0 → v = r) := by
  rcases h1 with ⟨rfl, g9, ⟨t, pl, his, hpl, hp, hno, hlr, hv, hs, hf⟩, hg⟩ | ⟨rfl, g9, h9, hg⟩ | ⟨rfl, g9, h9, hg⟩ | ⟨rfl, g9, h9, hg⟩
  · obtain ⟨n1, n2, n3, n4⟩ := zz_now hA his.1 his.2.2
    obtain ⟨k1, k2, k3, k4, k5⟩ := hA.2 t his.1
    obtain ⟨j1, j2, j3, j4, j5, j6, j7⟩ := hA.1 t his.1
    obtain ⟨k6, k7, k8⟩ := k5 his.2.2
    rcases h2 with ⟨u, pl', a1, hiu, hpl', hp', -, hR, hr, hM, hrw, e3, e4, e5⟩ | ⟨h, -⟩ | ⟨-, h, -⟩ | ⟨⟨u, kq, hiu, hkq, hp', h⟩, -⟩
    · obtain rfl := zz_u his hiu
      obtain rfl : pl' = pl := by rw [hp] at hp'; exact ((nI_eq (by omega) (by omega)).mp hp').symm
      refine ⟨⟨_, qc, qp, qq, as0, F, fo, kp, a1, _, _, _, zz_C_fr (zz_C_A hC hs (fun j k1 k2 => hf j k1)) (fun j hj => (hM.2 j (Or.inl hj)).trans (hg j (by omega))), hM.1, zz_A_up (t := u) (b := sh u) (C := Cn u) (R := Rn u + 1) hA (fun w hw => ⟨congrFun (hrw 0 (by decide) (by decide) (by decide)) w, congrFun (hrw 1 (by decide) (by decide) (by decide)) w, congrFun (hrw 2 (by decide) (by decide) (by decide)) w, by rw [e3]; exact pk_un hw⟩) ⟨(congrFun (hrw 0 (by decide) (by decide) (by decide)) u).trans j1, (congrFun (hrw 1 (by decide) (by decide) (by decide)) u).trans j2, (congrFun (hrw 2 (by decide) (by decide) (by decide)) u).trans j3, by rw [e3]; exact pk_us⟩ j5 (by omega) (fun _ => by omega) (fun j hj => ⟨by rw [e4]; exact if_neg (by omega), by rw [e5]; exact if_neg (by omega)⟩) ⟨k1, k2, by show zu_lr (ts u) + 1 ≤ 8; omega, fun j hj => ?_, fun _ => ⟨k6, by show Rn u + 1 = zu_lr (ts u) + 1 + 1; omega, fun r hr k hk => ?_⟩⟩, zz_Q_fr hQ (hrw 6 (by decide) (by decide) (by decide)) (hrw 7 (by decide) (by decide) (by decide)), zz_F_fr hF (hrw 13 (by decide) (by decide) (by decide))⟩, fun _ => by rw [hv, hr, n2]⟩
      · have hj : j < zu_lr (ts u) + 1 := hj
        show ∃ k, k < 20 ∧ upd (zu_pr (ts u)) (zu_lr (ts u)) (nI pl') j = nI k
        by_cases c : j = zu_lr (ts u)
        · rw [c, pk_us]; exact ⟨pl', by omega, rfl⟩
        · rw [pk_un c]; exact k4 j (by omega)
      · have hr : r ≤ zu_lr (ts u) + 1 := hr
        have hk : k < zu_cn (ts u) := hk
        show a1 4 (180 * u + 20 * r + k) = zz_v (upd (zu_p (ts u)) pl' x) (upd (zu_rp (ts u)) (zu_lr (ts u)) (zu_p (ts u) pl')) (upd (zu_pr (ts u)) (zu_lr (ts u)) (nI pl')) (zu_lr (ts u) + 1) r k ∧ a1 5 (180 * u + 20 * r + k) = zz_v (upd (zu_q (ts u)) pl' y) (upd (zu_rq (ts u)) (zu_lr (ts u)) (zu_q (ts u) pl')) (upd (zu_pr (ts u)) (zu_lr (ts u)) (nI pl')) (zu_lr (ts u) + 1) r k ∧ zp_no (a1 4 (180 * u + 20 * r + k)) (a1 5 (180 * u + 20 * r + k))
        by_cases c : r = zu_lr (ts u) + 1
        · subst c
          have f4 : a1 4 (180 * u + 20 * (zu_lr (ts u) + 1) + k) = upd (zu_p (ts u)) pl' x k := by
            rw [e4]
            unfold zm_cp
            rw [if_pos (by omega), show 180 * u + 20 * (zu_lr (ts u) + 1) + k - (180 * u + 20 * Rn u) = k by omega]
            by_cases d : k = pl'
            · rw [if_pos d, d, pk_us]
            · rw [if_neg d, pk_un d, (n4 k hk).1]
              rfl
          have f5 : a1 5 (180 * u + 20 * (zu_lr (ts u) + 1) + k) = upd (zu_q (ts u)) pl' y k := by
            rw [e5]
            unfold zm_cp
            rw [if_pos (by omega), show 180 * u + 20 * (zu_lr (ts u) + 1) + k - (180 * u + 20 * Rn u) = k by omega]
            by_cases d : k = pl'
            · rw [if_pos d, d, pk_us]
            · rw [if_neg d, pk_un d, (n4 k hk).2.1]
              rfl
          rw [zz_v_now, zz_v_now, f4, f5]
          refine ⟨rfl, rfl, ?_⟩
          by_cases d : k = pl'
          · rw [d, pk_us, pk_us]; exact hno
          · rw [pk_un d, pk_un d, (n4 k hk).1, (n4 k hk).2.1]; exact (n4 k hk).2.2
        · rw [zz_v_cor (by omega) (by omega) (by omega), zz_v_cor (by omega) (by omega) (by omega)]
          have f4 : a1 4 (180 * u + 20 * r + k) = a 4 (180 * u + 20 * r + k) := by rw [e4]; exact if_neg (by omega)
          have f5 : a1 5 (180 * u + 20 * r + k) = a 5 (180 * u + 20 * r + k) := by rw [e5]; exact if_neg (by omega)
          rw [f4, f5]
          exact k8 r (by omega) k hk
    · rcases h with h | ⟨u, hiu, h⟩
      · exact absurd his (h t)
      · obtain rfl := zz_u his hiu
        exact absurd hp (h pl (by omega))
    · exact absurd hno h
    · obtain rfl := zz_u his hiu
      omega
  · simp only [String.reduceEq, true_and, false_and, or_false] at h9
    obtain ⟨rfl, h9⟩ := h9
    refine ⟨?_, fun h => absurd h (by decide)⟩
    rcases h2 with ⟨u, pl', a1, hiu, hpl', hp', -⟩ | ⟨-, hM⟩ | ⟨⟨u, pl', hiu, hpl', hp'⟩, -⟩ | ⟨⟨u, pl', hiu, hpl', hp', -⟩, -⟩
    · rcases h9 with h | ⟨t, his, h⟩
      · exact absurd hiu (h u)
      · obtain rfl := zz_u his hiu
        exact absurd hp' (h pl' (by rw [← (zz_now hA his.1 his.2.2).1]; exact hpl'))
    · exact zz_same (zz_C_fr hC (fun j hj => hg j (by omega))) hA hQ hF hM
    · rcases h9 with h | ⟨t, his, h⟩
      · exact absurd hiu (h u)
      · obtain rfl := zz_u his hiu
        exact absurd hp' (h pl' (by rw [← (zz_now hA his.1 his.2.2).1]; exact hpl'))
    · rcases h9 with h | ⟨t, his, h⟩
      · exact absurd hiu (h u)
      · obtain rfl := zz_u his hiu
        exact absurd hp' (h pl' (by rw [← (zz_now hA his.1 his.2.2).1]; exact hpl'))
  · simp only [String.reduceEq, true_and, false_and, or_false, false_or] at h9
    obtain ⟨rfl, ⟨t, pl, his, hpl, hp⟩, hno⟩ := h9
    refine ⟨?_, fun h => absurd h (by decide)⟩
    rcases h2 with ⟨u, pl', a1, hiu, hpl', hp', h, -⟩ | ⟨h, -⟩ | ⟨-, -, hM⟩ | ⟨-, h, -⟩
    · exact absurd h hno
    · rcases h with h | ⟨u, hiu, h⟩
      · exact absurd his (h t)
      · obtain rfl := zz_u his hiu
        exact absurd hp (h pl (by rw [(zz_now hA his.1 his.2.2).1]; exact hpl))
    · exact zz_same (zz_C_fr hC (fun j hj => hg j (by omega))) hA hQ hF hM
    · exact absurd h hno
  · simp only [String.reduceEq, true_and, false_and, or_false, false_or] at h9
    obtain ⟨rfl, t, pl, his, hpl, hp, hno, hlr⟩ := h9
    obtain ⟨n1, n2, n3, n4⟩ := zz_now hA his.1 his.2.2
    refine ⟨?_, fun h => absurd h (by decide)⟩
    rcases h2 with ⟨u, pl', a1, hiu, hpl', hp', -, h, -⟩ | ⟨h, -⟩ | ⟨-, h, -⟩ | ⟨-, -, hM⟩
    · obtain rfl := zz_u his hiu
      omega
    · rcases h with h | ⟨u, hiu, h⟩
      · exact absurd his (h t)
      · obtain rfl := zz_u his hiu
        exact absurd hp (h pl (by omega))
    · exact absurd hno h
    · exact zz_same (zz_C_fr hC (fun j hj => hg j (by omega))) hA hQ hF hM
set_option maxHeartbeats 1000000 in
theorem zz_restore {z : zv_T} {ad : Nat → Nat} {g g1 g2 : Nat → va_E} {ts : Nat → zu_S} {qc as0 : Nat} {qp qq : Nat → Int32} {F : List zq_I} {fo kp : Int32} {a : Nat → Nat → Int32} {sh : Nat → Bool} {Cn Rn : Nat → Nat} {k v r : Int32} (id rd : Int32) (hC : zz_C z ad g ts qc qp qq as0 F) (hA : zz_A a ts sh Cn Rn) (hQ : zz_Q a qc qp qq) (hF : zz_F a as0 F kp) (h1 : (k = 0 ∧ ∃ g9 : Nat → va_E, (∃ t r, zp_is ts id t ∧ r ≤ zu_lr (ts t) ∧ rd = nI r ∧ zs_A z ad g9 (zp_ts ts t ((ts t).1, (ts t).2.1, r, zu_cn (ts t), zp_bk (zu_p (ts t)) (zu_pr (ts t)) (zu_rp (ts t)) (zu_lr (ts t)) (zu_lr (ts t) - r), zp_bk (zu_q (ts t)) (zu_pr (ts t)) (zu_rq (ts t)) (zu_lr (ts t)) (zu_lr (ts t) - r), (ts t).2.2.2.2.2.2)) ∧ ∀ j, 66 ≤ j → g9 j = g j) ∧ ∀ j, j < 126 → g1 j = g9 j) ∨ (k = 1 ∧ ∃ g9 : Nat → va_E, (g9 = g ∧ "java/lang/IndexOutOfBoundsException" = "java/lang/IndexOutOfBoundsException" ∧ ((∀ t, ¬ zp_is ts id t) ∨ ∃ t, zp_is ts id t ∧ ∀ k, k ≤ zu_lr (ts t) → ¬ rd = nI k)) ∧ ∀ j, j < 126 → g1 j = g9 j)) (h2 : (∃ t r, zm_is (fun t => zu_th (ts t)) id t ∧ r < Rn t ∧ rd = nI r ∧ zm_M z ad g1 g2 0 (nI qc) fo kp (va_up a 3 (upd (a 3) t (nI (r + 1))))) ∨ (((∀ t, ¬ zm_is (fun t => zu_th (ts t)) id t) ∨ ∃ t, zm_is (fun t => zu_th (ts t)) id t ∧ ∀ r, r < Rn t → ¬ rd = nI r) ∧ zm_M z ad g1 g2 1 (nI qc) fo kp a)) : zz_G z ad g2 k := by
  rcases h1 with ⟨rfl, g9, ⟨t, r, his, hr, hrd, hs, hf⟩, hg⟩ | ⟨rfl, g9, h9, hg⟩
  · obtain ⟨n1, n2, n3, n4⟩ := zz_now hA his.1 his.2.2
    rcases h2 with ⟨u, r', hiu, hr', hrd', hM⟩ | ⟨h, -⟩
    · obtain rfl := zz_u his hiu
      obtain ⟨k1, k2, k3, k4, k5⟩ := hA.2 u his.1
      obtain ⟨j1, j2, j3, j4, j5, j6, j7⟩ := hA.1 u his.1
      obtain ⟨k6, k7, k8⟩ := k5 his.2.2
      obtain rfl : r' = r := by rw [hrd] at hrd'; exact ((nI_eq (by omega) (by omega)).mp hrd').symm
      refine ⟨_, qc, qp, qq, as0, F, fo, kp, _, _, _, _, zz_C_fr (zz_C_A hC hs (fun j k1 k2 => hf j k1)) (fun j hj => (hM.2 j (Or.inl hj)).trans (hg j (by omega))), hM.1, zz_A_up (t := u) (b := sh u) (C := Cn u) (R := r' + 1) hA (fun w hw => ⟨rfl, rfl, rfl, pk_un hw⟩) ⟨j1, j2, j3, pk_us⟩ j5 (by omega) (fun _ => by omega) (fun j hj => ⟨rfl, rfl⟩) ⟨k1, k2, by show r' ≤ 8; omega, fun j hj => k4 j (by have hj : j < r' := hj; omega), fun _ => ⟨k6, rfl, fun q hq k hk => ?_⟩⟩, zz_Q_fr hQ rfl rfl, zz_F_fr hF rfl⟩
      have hq : q ≤ r' := hq
      have hk : k < zu_cn (ts u) := hk
      show a 4 (180 * u + 20 * q + k) = zz_v (zp_bk (zu_p (ts u)) (zu_pr (ts u)) (zu_rp (ts u)) (zu_lr (ts u)) (zu_lr (ts u) - r')) (zu_rp (ts u)) (zu_pr (ts u)) r' q k ∧ a 5 (180 * u + 20 * q + k) = zz_v (zp_bk (zu_q (ts u)) (zu_pr (ts u)) (zu_rq (ts u)) (zu_lr (ts u)) (zu_lr (ts u) - r')) (zu_rq (ts u)) (zu_pr (ts u)) r' q k ∧ zp_no (a 4 (180 * u + 20 * q + k)) (a 5 (180 * u + 20 * q + k))
      rw [zz_v_res hq hr (by omega) k4, zz_v_res hq hr (by omega) k4]
      exact k8 q (by omega) k hk
    · rcases h with h | ⟨u, hiu, h⟩
      · exact absurd his (h t)
      · obtain rfl := zz_u his hiu
        exact absurd hrd (h r (by omega))
  · obtain ⟨rfl, -, h9⟩ := h9
    rcases h2 with ⟨u, r', hiu, hr', hrd', -⟩ | ⟨-, hM⟩
    · rcases h9 with h | ⟨t, his, h⟩
      · exact absurd hiu (h u)
      · obtain rfl := zz_u his hiu
        obtain ⟨n1, n2, n3, n4⟩ := zz_now hA his.1 his.2.2
        exact absurd hrd' (h r' (by omega))
    · exact zz_same (zz_C_fr hC (fun j hj => hg j (by omega))) hA hQ hF hM
set_option maxHeartbeats 1000000 in
theorem zz_at {z : zv_T} {ad : Nat → Nat} {g g1 g2 : Nat → va_E} {ts : Nat → zu_S} {qc as0 : Nat} {qp qq : Nat → Int32} {F : List zq_I} {fo kp : Int32} {a : Nat → Nat → Int32} {sh : Nat → Bool} {Cn Rn : Nat → Nat} {k v r : Int32} (id p w rd : Int32) (hC : zz_C z ad g ts qc qp qq as0 F) (hA : zz_A a ts sh Cn Rn) (hQ : zz_Q a qc qp qq) (hF : zz_F a as0 F kp) (h1 : (k = 0 ∧ ∃ g9 : Nat → va_E, (∃ t k r, zp_is ts id t ∧ k < zu_cn (ts t) ∧ p = nI k ∧ r ≤ zu_lr (ts t) ∧ ((rd = -1 ∧ r = zu_lr (ts t)) ∨ rd = nI r) ∧ ((w = nI 0 ∧ v = zp_in (zu_p (ts t)) (zu_rp (ts t)) (zp_ra (zu_pr (ts t)) (nI (k)) r (zu_lr (ts t) - r)) (k)) ∨ (w = nI 1 ∧ v = zp_in (zu_q (ts t)) (zu_rq (ts t)) (zp_ra (zu_pr (ts t)) (nI (k)) r (zu_lr (ts t) - r)) (k)) ∨ (w = nI 2 ∧ v = (if k + 1 < zu_cn (ts t) then zp_in (zu_p (ts t)) (zu_rp (ts t)) (zp_ra (zu_pr (ts t)) (nI (k + 1)) r (zu_lr (ts t) - r)) (k + 1) - zp_in (zu_p (ts t)) (zu_rp (ts t)) (zp_ra (zu_pr (ts t)) (nI (k)) r (zu_lr (ts t) - r)) (k) else 0))) ∧ g9 = g) ∧ ∀ j, j < 126 → g1 j = g9 j) ∨ (k = 1 ∧ ∃ g9 : Nat → va_E, (g9 = g ∧ (("java/lang/IndexOutOfBoundsException" = "java/lang/IndexOutOfBoundsException" ∧ ((∀ t, ¬ zp_is ts id t) ∨ (∃ t, zp_is ts id t ∧ ∀ k, k < zu_cn (ts t) → ¬ p = nI k) ∨ ∃ t k, zp_is ts id t ∧ k < zu_cn (ts t) ∧ p = nI k ∧ ¬ rd = -1 ∧ ∀ r, r ≤ zu_lr (ts t) → ¬ rd = nI r)) ∨ ("java/lang/IndexOutOfBoundsException" = "java/lang/IllegalArgumentException" ∧ (∃ t k r, zp_is ts id t ∧ k < zu_cn (ts t) ∧ p = nI k ∧ r ≤ zu_lr (ts t) ∧ ((rd = -1 ∧ r = zu_lr (ts t)) ∨ rd = nI r)) ∧ ∀ k, k < 3 → ¬ w = nI k))) ∧ ∀ j, j < 126 → g1 j = g9 j) ∨ (k = 2 ∧ ∃ g9 : Nat → va_E, (g9 = g ∧ (("java/lang/IllegalArgumentException" = "java/lang/IndexOutOfBoundsException" ∧ ((∀ t, ¬ zp_is ts id t) ∨ (∃ t, zp_is ts id t ∧ ∀ k, k < zu_cn (ts t) → ¬ p = nI k) ∨ ∃ t k, zp_is ts id t ∧ k < zu_cn (ts t) ∧ p = nI k ∧ ¬ rd = -1 ∧ ∀ r, r ≤ zu_lr (ts t) → ¬ rd = nI r)) ∨ ("java/lang/IllegalArgumentException" = "java/lang/IllegalArgumentException" ∧ (∃ t k r, zp_is ts id t ∧ k < zu_cn (ts t) ∧ p = nI k ∧ r ≤ zu_lr (ts t) ∧ ((rd = -1 ∧ r = zu_lr (ts t)) ∨ rd = nI r)) ∧ ∀ k, k < 3 → ¬ w = nI k))) ∧ ∀ j, j < 126 → g1 j = g9 j)) (h2 : ((∃ t k rb, zm_is (fun t => zu_th (ts t)) id t ∧ k < Cn t ∧ p = nI k ∧ rb < Rn t ∧ ((rd = -1 ∧ rb = Rn t - 1) ∨ rd = nI rb) ∧ ((w = nI 0 ∧ r = a 4 (180 * t + 20 * rb + k)) ∨ (w = nI 1 ∧ r = a 5 (180 * t + 20 * rb + k)) ∨ (w = nI 2 ∧ r = (if k + 1 = Cn t then 0 else a 4 (180 * t + 20 * rb + (k + 1)) - a 4 (180 * t + 20 * rb + k))))) ∧ zm_M z ad g1 g2 0 (nI qc) fo kp a) ∨ (((∀ t, ¬ zm_is (fun t => zu_th (ts t)) id t) ∨ (∃ t, zm_is (fun t => zu_th (ts t)) id t ∧ ∀ k, k < Cn t → ¬ p = nI k) ∨ ∃ t, zm_is (fun t => zu_th (ts t)) id t ∧ ¬ rd = -1 ∧ ∀ rb, rb < Rn t → ¬ rd = nI rb) ∧ zm_M z ad g1 g2 1 (nI qc) fo kp a) ∨ ((∃ t k rb, zm_is (fun t => zu_th (ts t)) id t ∧ k < Cn t ∧ p = nI k ∧ rb < Rn t ∧ ((rd = -1 ∧ rb = Rn t - 1) ∨ rd = nI rb)) ∧ (∀ k, k < 3 → ¬ w = nI k) ∧ zm_M z ad g1 g2 2 (nI qc) fo kp a)) : zz_G z ad g2 k ∧ (k = 0 → v = r) := by
  rcases h1 with ⟨rfl, g9, ⟨t, kk, rr, his, hk, hp, hr, hrd, hv, rfl⟩, hg⟩ | ⟨rfl, g9, h9, hg⟩ | ⟨rfl, g9, h9, hg⟩
  · obtain ⟨n1, n2, n3, n4⟩ := zz_now hA his.1 his.2.2
    obtain ⟨k1, k2, k3, k4, k5⟩ := hA.2 t his.1
    obtain ⟨k6, k7, k8⟩ := k5 his.2.2
    rcases h2 with ⟨⟨u, kq, rq, hiu, hkq, hpq, hrq, hrdq, hvq⟩, hM⟩ | ⟨h, -⟩ | ⟨-, h, -⟩
    · refine ⟨zz_same (zz_C_fr hC (fun j hj => hg j (by omega))) hA hQ hF hM, fun _ => ?_⟩
      obtain rfl := zz_u his hiu
      obtain rfl : kq = kk := by rw [hp] at hpq; exact ((nI_eq (by omega) (by omega)).mp hpq).symm
      obtain rfl : rq = rr := by
        rcases hrd with ⟨e1, e2⟩ | e1 <;> rcases hrdq with ⟨f1, f2⟩ | f1
        · omega
        · rw [e1] at f1
          have := congrArg Int32.toInt f1
          rw [nI_toInt (by omega)] at this
          have e9 : (-1 : Int32).toInt = -1 := rfl
          omega
        · rw [e1] at f1
          have := congrArg Int32.toInt f1
          rw [nI_toInt (by omega)] at this
          have e9 : (-1 : Int32).toInt = -1 := rfl
          omega
        · rw [e1] at f1
          exact ((nI_eq (by omega) (by omega)).mp f1).symm
      have m1 := k8 rq hr kq hk
      rcases hv with ⟨w1, hv⟩ | ⟨w1, hv⟩ | ⟨w1, hv⟩ <;> rcases hvq with ⟨w2, hvq⟩ | ⟨w2, hvq⟩ | ⟨w2, hvq⟩ <;> (try (rw [w1] at w2; exact absurd w2 (by decide)))
      · rw [hv, hvq]; exact m1.1.symm
      · rw [hv, hvq]; exact m1.2.1.symm
      · rw [hv, hvq]
        by_cases c : kq + 1 < zu_cn (ts u)
        · rw [if_pos c, if_neg (by omega)]
          have m2 := k8 rq hr (kq + 1) c
          rw [m1.1, m2.1]
        · rw [if_neg c, if_pos (by omega)]
    · rcases h with h | ⟨u, hiu, h⟩ | ⟨u, hiu, h0, h⟩
      · exact absurd his (h t)
      · obtain rfl := zz_u his hiu
        exact absurd hp (h kk (by omega))
      · obtain rfl := zz_u his hiu
        rcases hrd with ⟨e1, e2⟩ | e1
        · exact absurd e1 h0
        · exact absurd e1 (h rr (by omega))
    · rcases hv with ⟨w1, -⟩ | ⟨w1, -⟩ | ⟨w1, -⟩
      · exact absurd w1 (h 0 (by omega))
      · exact absurd w1 (h 1 (by omega))
      · exact absurd w1 (h 2 (by omega))
  · simp only [String.reduceEq, true_and, false_and, or_false] at h9
    obtain ⟨rfl, h9⟩ := h9
    refine ⟨?_, fun h => absurd h (by decide)⟩
    have key : ∀ u kq rq, zm_is (fun t => zu_th (ts t)) id u → kq < Cn u → p = nI kq → rq < Rn u → ((rd = -1 ∧ rq = Rn u - 1) ∨ rd = nI rq) → False := by
      intro u kq rq hiu hkq hpq hrq hrdq
      rcases h9 with h | ⟨t, his, h⟩ | ⟨t, kk, his, hk, hp, h0, h⟩
      · exact absurd hiu (h u)
      · obtain rfl := zz_u his hiu
        exact absurd hpq (h kq (by rw [← (zz_now hA his.1 his.2.2).1]; exact hkq))
      · obtain rfl := zz_u his hiu
        obtain ⟨n1, n2, n3, n4⟩ := zz_now hA his.1 his.2.2
        rcases hrdq with ⟨e1, -⟩ | e1
        · exact absurd e1 h0
        · exact absurd e1 (h rq (by omega))
    rcases h2 with ⟨⟨u, kq, rq, hiu, hkq, hpq, hrq, hrdq, -⟩, -⟩ | ⟨-, hM⟩ | ⟨⟨u, kq, rq, hiu, hkq, hpq, hrq, hrdq⟩, -⟩
    · exact (key u kq rq hiu hkq hpq hrq hrdq).elim
    · exact zz_same (zz_C_fr hC (fun j hj => hg j (by omega))) hA hQ hF hM
    · exact (key u kq rq hiu hkq hpq hrq hrdq).elim
  · simp only [String.reduceEq, true_and, false_and, or_false, false_or] at h9
    obtain ⟨rfl, ⟨t, kk, rr, his, hk, hp, hr, hrd⟩, hw⟩ := h9
    obtain ⟨n1, n2, n3, n4⟩ := zz_now hA his.1 his.2.2
    refine ⟨?_, fun h => absurd h (by decide)⟩
    rcases h2 with ⟨⟨u, kq, rq, hiu, hkq, hpq, hrq, hrdq, hvq⟩, -⟩ | ⟨h, -⟩ | ⟨-, -, hM⟩
    · rcases hvq with ⟨w1, -⟩ | ⟨w1, -⟩ | ⟨w1, -⟩
      · exact absurd w1 (hw 0 (by omega))
      · exact absurd w1 (hw 1 (by omega))
      · exact absurd w1 (hw 2 (by omega))
    · rcases h with h | ⟨u, hiu, h⟩ | ⟨u, hiu, h0, h⟩
      · exact absurd his (h t)
      · obtain rfl := zz_u his hiu
        exact absurd hp (h kk (by omega))
      · obtain rfl := zz_u his hiu
        rcases hrd with ⟨e1, e2⟩ | e1
        · exact absurd e1 h0
        · exact absurd e1 (h rr (by omega))
    · exact zz_same (zz_C_fr hC (fun j hj => hg j (by omega))) hA hQ hF hM
set_option maxHeartbeats 1000000 in
theorem zz_about {z : zv_T} {ad : Nat → Nat} {g g1 g2 : Nat → va_E} {ts : Nat → zu_S} {qc as0 : Nat} {qp qq : Nat → Int32} {F : List zq_I} {fo kp : Int32} {a : Nat → Nat → Int32} {sh : Nat → Bool} {Cn Rn : Nat → Nat} {k v r : Int32} (id w : Int32) (hC : zz_C z ad g ts qc qp qq as0 F) (hA : zz_A a ts sh Cn Rn) (hQ : zz_Q a qc qp qq) (hF : zz_F a as0 F kp) (h1 : (k = 0 ∧ ∃ g9 : Nat → va_E, (∃ t, zp_is ts id t ∧ ((w = nI 0 ∧ v = nI (zu_cn (ts t))) ∨ (w = nI 1 ∧ v = zb_i (zu_sh (ts t))) ∨ (w = nI 2 ∧ v = nI (zu_lr (ts t) + 1))) ∧ g9 = g) ∧ ∀ j, j < 126 → g1 j = g9 j) ∨ (k = 1 ∧ ∃ g9 : Nat → va_E, (g9 = g ∧ (("java/lang/IndexOutOfBoundsException" = "java/lang/IndexOutOfBoundsException" ∧ ∀ t, ¬ zp_is ts id t) ∨ ("java/lang/IndexOutOfBoundsException" = "java/lang/IllegalArgumentException" ∧ (∃ t, zp_is ts id t) ∧ ∀ k, k < 3 → ¬ w = nI k))) ∧ ∀ j, j < 126 → g1 j = g9 j) ∨ (k = 2 ∧ ∃ g9 : Nat → va_E, (g9 = g ∧ (("java/lang/IllegalArgumentException" = "java/lang/IndexOutOfBoundsException" ∧ ∀ t, ¬ zp_is ts id t) ∨ ("java/lang/IllegalArgumentException" = "java/lang/IllegalArgumentException" ∧ (∃ t, zp_is ts id t) ∧ ∀ k, k < 3 → ¬ w = nI k))) ∧ ∀ j, j < 126 → g1 j = g9 j)) (h2 : ((∃ t, zm_is (fun t => zu_th (ts t)) id t ∧ ((w = nI 0 ∧ r = nI (Cn t)) ∨ (w = nI 1 ∧ r = zb_i (sh t)) ∨ (w = nI 2 ∧ r = nI (Rn t)))) ∧ zm_M z ad g1 g2 0 (nI qc) fo kp a) ∨ ((∀ t, ¬ zm_is (fun t => zu_th (ts t)) id t) ∧ zm_M z ad g1 g2 1 (nI qc) fo kp a) ∨ ((∃ t, zm_is (fun t => zu_th (ts t)) id t) ∧ (∀ k, k < 3 → ¬ w = nI k) ∧ zm_M z ad g1 g2 2 (nI qc) fo kp a)) : zz_G z ad g2 k ∧ (k = 0 → v = r) := by
  rcases h1 with ⟨rfl, g9, ⟨t, his, hv, rfl⟩, hg⟩ | ⟨rfl, g9, h9, hg⟩ | ⟨rfl, g9, h9, hg⟩
  · obtain ⟨n1, n2, n3, n4⟩ := zz_now hA his.1 his.2.2
    rcases h2 with ⟨⟨u, hiu, hvq⟩, hM⟩ | ⟨h, -⟩ | ⟨-, h, -⟩
    · refine ⟨zz_same (zz_C_fr hC (fun j hj => hg j (by omega))) hA hQ hF hM, fun _ => ?_⟩
      obtain rfl := zz_u his hiu
      rcases hv with ⟨w1, hv⟩ | ⟨w1, hv⟩ | ⟨w1, hv⟩ <;> rcases hvq with ⟨w2, hvq⟩ | ⟨w2, hvq⟩ | ⟨w2, hvq⟩ <;> (try (rw [w1] at w2; exact absurd w2 (by decide)))
      · rw [hv, hvq, n1]
      · rw [hv, hvq, n3]
      · rw [hv, hvq, n2]
    · exact absurd his (h t)
    · rcases hv with ⟨w1, -⟩ | ⟨w1, -⟩ | ⟨w1, -⟩
      · exact absurd w1 (h 0 (by omega))
      · exact absurd w1 (h 1 (by omega))
      · exact absurd w1 (h 2 (by omega))
  · simp only [String.reduceEq, true_and, false_and, or_false] at h9
    obtain ⟨rfl, h9⟩ := h9
    refine ⟨?_, fun h => absurd h (by decide)⟩
    rcases h2 with ⟨⟨u, hiu, -⟩, -⟩ | ⟨-, hM⟩ | ⟨⟨u, hiu⟩, -⟩
    · exact absurd hiu (h9 u)
    · exact zz_same (zz_C_fr hC (fun j hj => hg j (by omega))) hA hQ hF hM
    · exact absurd hiu (h9 u)
  · simp only [String.reduceEq, true_and, false_and, or_false, false_or] at h9
    obtain ⟨rfl, ⟨t, his⟩, hw⟩ := h9
    refine ⟨?_, fun h => absurd h (by decide)⟩
    rcases h2 with ⟨⟨u, hiu, hvq⟩, -⟩ | ⟨h, -⟩ | ⟨-, -, hM⟩
    · rcases hvq with ⟨w1, -⟩ | ⟨w1, -⟩ | ⟨w1, -⟩
      · exact absurd w1 (hw 0 (by omega))
      · exact absurd w1 (hw 1 (by omega))
      · exact absurd w1 (hw 2 (by omega))
    · exact absurd his (h t)
    · exact zz_same (zz_C_fr hC (fun j hj => hg j (by omega))) hA hQ hF hM
set_option maxHeartbeats 1000000 in
theorem zz_contour {z : zv_T} {ad : Nat → Nat} {g g1 g2 : Nat → va_E} {ts : Nat → zu_S} {qc as0 : Nat} {qp qq : Nat → Int32} {F : List zq_I} {fo kp : Int32} {a : Nat → Nat → Int32} {sh : Nat → Bool} {Cn Rn : Nat → Nat} {k v r : Int32} (id i : Int32) (hC : zz_C z ad g ts qc qp qq as0 F) (hA : zz_A a ts sh Cn Rn) (hQ : zz_Q a qc qp qq) (hF : zz_F a as0 F kp) (h1 : (k = 0 ∧ ∃ g9 : Nat → va_E, (∃ t, zp_is ts id t ∧ (((∀ k, k + 1 < zu_cn (ts t) → ¬ i = nI k) ∧ v = -1) ∨ ∃ k, k + 1 < zu_cn (ts t) ∧ i = nI k ∧ v = (if zu_p (ts t) (k + 1) - zu_p (ts t) k = 0 then 115 else if 0 < zu_p (ts t) (k + 1) - zu_p (ts t) k then 117 else 100)) ∧ g9 = g) ∧ ∀ j, j < 126 → g1 j = g9 j) ∨ (k = 1 ∧ ∃ g9 : Nat → va_E, (g9 = g ∧ "java/lang/IndexOutOfBoundsException" = "java/lang/IndexOutOfBoundsException" ∧ ∀ t, ¬ zp_is ts id t) ∧ ∀ j, j < 126 → g1 j = g9 j)) (h2 : ((∃ t, zm_is (fun t => zu_th (ts t)) id t ∧ (((∀ k, k + 1 < Cn t → ¬ i = nI k) ∧ r = -1) ∨ ∃ k, k + 1 < Cn t ∧ i = nI k ∧ r = (if a 4 (180 * t + 20 * (Rn t - 1) + (k + 1)) - a 4 (180 * t + 20 * (Rn t - 1) + (k)) = 0 then 115 else if 0 < a 4 (180 * t + 20 * (Rn t - 1) + (k + 1)) - a 4 (180 * t + 20 * (Rn t - 1) + (k)) then 117 else 100))) ∧ zm_M z ad g1 g2 0 (nI qc) fo kp a) ∨ ((∀ t, ¬ zm_is (fun t => zu_th (ts t)) id t) ∧ zm_M z ad g1 g2 1 (nI qc) fo kp a)) : zz_G z ad g2 k ∧ (k = 0 → v = r) := by
  rcases h1 with ⟨rfl, g9, ⟨t, his, hv, rfl⟩, hg⟩ | ⟨rfl, g9, h9, hg⟩
  · obtain ⟨n1, n2, n3, n4⟩ := zz_now hA his.1 his.2.2
    have hcn := (hA.2 t his.1).2.1
    rcases h2 with ⟨⟨u, hiu, hvq⟩, hM⟩ | ⟨h, -⟩
    · refine ⟨zz_same (zz_C_fr hC (fun j hj => hg j (by omega))) hA hQ hF hM, fun _ => ?_⟩
      obtain rfl := zz_u his hiu
      rcases hv with ⟨h0, hv⟩ | ⟨kk, hk, hi, hv⟩ <;> rcases hvq with ⟨h0q, hvq⟩ | ⟨kq, hkq, hiq, hvq⟩
      · rw [hv, hvq]
      · exact absurd hiq (h0 kq (by omega))
      · exact absurd hi (h0q kk (by omega))
      · obtain rfl : kq = kk := by rw [hi] at hiq; exact ((nI_eq (by omega) (by omega)).mp hiq).symm
        rw [hv, hvq, (n4 kq (by omega)).1, (n4 (kq + 1) hk).1]
        rfl
    · exact absurd his (h t)
  · obtain ⟨rfl, -, h9⟩ := h9
    refine ⟨?_, fun h => absurd h (by decide)⟩
    rcases h2 with ⟨⟨u, hiu, -⟩, -⟩ | ⟨-, hM⟩
    · exact absurd hiu (h9 u)
    · exact zz_same (zz_C_fr hC (fun j hj => hg j (by omega))) hA hQ hF hM
set_option maxHeartbeats 1000000 in
theorem zz_ask {z : zv_T} {ad : Nat → Nat} {g g1 g2 : Nat → va_E} {ts : Nat → zu_S} {qc as0 : Nat} {qp qq : Nat → Int32} {F : List zq_I} {fo kp : Int32} {a : Nat → Nat → Int32} {sh : Nat → Bool} {Cn Rn : Nat → Nat} {k v r : Int32} (x y : Int32) (hC : zz_C z ad g ts qc qp qq as0 F) (hA : zz_A a ts sh Cn Rn) (hQ : zz_Q a qc qp qq) (hF : zz_F a as0 F kp) (h1 : (k = 0 ∧ ∃ g9 : Nat → va_E, (zp_no x y ∧ qc < 8 ∧ v = nI (qc + 1) ∧ zs_N z ad g9 66 8 (qc + 1) (upd qp qc x) (upd qq qc y) ∧ ∀ j, j < 66 ∨ 69 ≤ j → g9 j = g j) ∧ ∀ j, j < 126 → g1 j = g9 j) ∨ (k = 1 ∧ ∃ g9 : Nat → va_E, (g9 = g ∧ (("java/lang/IllegalArgumentException" = "java/lang/IllegalArgumentException" ∧ ¬ zp_no x y) ∨ ("java/lang/IllegalArgumentException" = "java/lang/IllegalStateException" ∧ zp_no x y ∧ qc = 8))) ∧ ∀ j, j < 126 → g1 j = g9 j) ∨ (k = 2 ∧ ∃ g9 : Nat → va_E, (g9 = g ∧ (("java/lang/IllegalStateException" = "java/lang/IllegalArgumentException" ∧ ¬ zp_no x y) ∨ ("java/lang/IllegalStateException" = "java/lang/IllegalStateException" ∧ zp_no x y ∧ qc = 8))) ∧ ∀ j, j < 126 → g1 j = g9 j)) (h2 : (zp_no x y ∧ qc < 8 ∧ r = nI (qc + 1) ∧ zm_M z ad g1 g2 0 (nI (qc + 1)) fo kp (va_up (va_up a 6 (upd (a 6) qc x)) 7 (upd (a 7) qc y))) ∨ (¬ zp_no x y ∧ zm_M z ad g1 g2 1 (nI qc) fo kp a) ∨ (zp_no x y ∧ qc = 8 ∧ zm_M z ad g1 g2 2 (nI qc) fo kp a)) : zz_G z ad g2 k ∧ (k = 0 → v = r) := by
  rcases h1 with ⟨rfl, g9, ⟨hno, hq, hv, hs, hf⟩, hg⟩ | ⟨rfl, g9, h9, hg⟩ | ⟨rfl, g9, h9, hg⟩
  · rcases h2 with ⟨-, -, hr, hM⟩ | ⟨h, -⟩ | ⟨-, h, -⟩
    · obtain ⟨q1, q2, q3, q4⟩ := hQ
      refine ⟨⟨ts, qc + 1, upd qp qc x, upd qq qc y, as0, F, fo, kp, _, sh, Cn, Rn, zz_C_fr (zz_C_N hC hs (fun j k1 k2 => hf j k1)) (fun j hj => (hM.2 j (Or.inl hj)).trans (hg j (by omega))), hM.1, zz_A_fr hA (fun r hr => by rw [va_up_ne _ _ (by omega), va_up_ne _ _ (by omega)]), ⟨?_, ?_, by omega, fun i hi => ?_⟩, zz_F_fr hF rfl⟩, fun _ => by rw [hv, hr]⟩
      · rw [va_up_ne _ _ (by decide), va_up_self, q1]
      · rw [va_up_self, q2]
      · by_cases c : i = qc
        · rw [c, pk_us, pk_us]; exact hno
        · rw [pk_un c, pk_un c]; exact q4 i (by omega)
    · exact absurd hno h
    · omega
  · simp only [String.reduceEq, true_and, false_and, or_false] at h9
    obtain ⟨rfl, h9⟩ := h9
    refine ⟨?_, fun h => absurd h (by decide)⟩
    rcases h2 with ⟨h, -⟩ | ⟨-, hM⟩ | ⟨h, -⟩
    · exact absurd h h9
    · exact zz_same (zz_C_fr hC (fun j hj => hg j (by omega))) hA hQ hF hM
    · exact absurd h h9
  · simp only [String.reduceEq, true_and, false_and, or_false, false_or] at h9
    obtain ⟨rfl, hno, hq⟩ := h9
    refine ⟨?_, fun h => absurd h (by decide)⟩
    rcases h2 with ⟨-, h, -⟩ | ⟨h, -⟩ | ⟨-, -, hM⟩
    · omega
    · exact absurd hno h
    · exact zz_same (zz_C_fr hC (fun j hj => hg j (by omega))) hA hQ hF hM
set_option maxHeartbeats 1000000 in
theorem zz_search {z : zv_T} {ad : Nat → Nat} {g g1 g2 : Nat → va_E} {ts : Nat → zu_S} {qc as0 : Nat} {qp qq : Nat → Int32} {F : List zq_I} {fo kp : Int32} {a : Nat → Nat → Int32} {sh : Nat → Bool} {Cn Rn : Nat → Nat} {k v r : Int32} (x y : Int32) (hC : zz_C z ad g ts qc qp qq as0 F) (hA : zz_A a ts sh Cn Rn) (hQ : zz_Q a qc qp qq) (hF : zz_F a as0 F kp) (h1 : (k = 0 ∧ ∃ g9 : Nat → va_E, (∃ kd kk, kd ≤ 5 ∧ kk ≤ 4 ∧ x = nI kd ∧ y = nI kk ∧ 2 ≤ qc ∧ v = nI (zq_al ts kd kk qc qp qq 0 8).length ∧ zq_F z ad g9 qc (zq_al ts kd kk qc qp qq 0 8) ∧ (∃ hh ee mo lo wt hr bh, zs_R z ad g9 hh ee mo lo wt hr bh) ∧ ∀ j, j < 69 ∨ 105 ≤ j → g9 j = g j) ∧ ∀ j, j < 126 → g1 j = g9 j) ∨ (k = 1 ∧ ∃ g9 : Nat → va_E, (g9 = g ∧ (("java/lang/IllegalArgumentException" = "java/lang/IllegalArgumentException" ∧ ¬ zp_kk x y) ∨ ("java/lang/IllegalArgumentException" = "java/lang/IllegalStateException" ∧ zp_kk x y ∧ qc < 2))) ∧ ∀ j, j < 126 → g1 j = g9 j) ∨ (k = 2 ∧ ∃ g9 : Nat → va_E, (g9 = g ∧ (("java/lang/IllegalStateException" = "java/lang/IllegalArgumentException" ∧ ¬ zp_kk x y) ∨ ("java/lang/IllegalStateException" = "java/lang/IllegalStateException" ∧ zp_kk x y ∧ qc < 2))) ∧ ∀ j, j < 126 → g1 j = g9 j)) (h2 : (∃ k1 k2 a1 s, k1 ≤ 5 ∧ k2 ≤ 4 ∧ x = nI k1 ∧ y = nI k2 ∧ 2 ≤ qc ∧ r = nI (zq_cc (zm_ml a (fun t => zu_th (ts t)) sh Cn Rn k1 k2 qc) 0 8).length ∧ zm_M z ad g1 g2 0 (nI qc) (nI (zq_cc (zm_ml a (fun t => zu_th (ts t)) sh Cn Rn k1 k2 qc) 0 8).length) (nI (zq_kp (zq_cc (zm_ml a (fun t => zu_th (ts t)) sh Cn Rn k1 k2 qc) 0 8))) a1 ∧ (∀ r, r < 8 → a1 r = a r) ∧ zr_ok (zq_ld (zq_cc (zm_ml a (fun t => zu_th (ts t)) sh Cn Rn k1 k2 qc) 0 8)) (zq_cc (zm_ml a (fun t => zu_th (ts t)) sh Cn Rn k1 k2 qc) 0 8).length (zq_kp (zq_cc (zm_ml a (fun t => zu_th (ts t)) sh Cn Rn k1 k2 qc) 0 8)) s ∧ zm_B a1 qc (zq_cc (zm_ml a (fun t => zu_th (ts t)) sh Cn Rn k1 k2 qc) 0 8) (zq_kp (zq_cc (zm_ml a (fun t => zu_th (ts t)) sh Cn Rn k1 k2 qc) 0 8)) s) ∨ (¬ zp_kk x y ∧ zm_M z ad g1 g2 1 (nI qc) fo kp a) ∨ (zp_kk x y ∧ qc < 2 ∧ zm_M z ad g1 g2 2 (nI qc) fo kp a)) : zz_G z ad g2 k ∧ (k = 0 → v = r) := by
  rcases h1 with ⟨rfl, g9, ⟨kd, kk, hkd, hkk, hx, hy, hq2, hv, hs, hsR, hf⟩, hg⟩ | ⟨rfl, g9, h9, hg⟩ | ⟨rfl, g9, h9, hg⟩
  · rcases h2 with ⟨k1, k2, a1, s, hk1, hk2, hx2, hy2, -, hr, hM, hrw, hok, hB⟩ | ⟨h, -⟩ | ⟨-, h, -⟩
    · obtain rfl : k1 = kd := by rw [hx] at hx2; exact ((nI_eq (by omega) (by omega)).mp hx2).symm
      obtain rfl : k2 = kk := by rw [hy] at hy2; exact ((nI_eq (by omega) (by omega)).mp hy2).symm
      have hcn := (zz_cn hA).1
      have e := zq_al_m (ts := ts) (a := a) (th := fun t => zu_th (ts t)) (sh := sh) (Cn := Cn) (Rn := Rn) (kd := k1) (k := k2) (qc := qc) hkd hkk hq2 hQ.1 hQ.2.1 hQ.2.2.2 (fun t ht => ⟨(hA.2 t ht).1, hcn t ht, fun hth => ⟨(zz_now hA ht hth).1, (zz_now hA ht hth).2.2.2⟩⟩)
      have hTok := zq_al_ok (ts := ts) (kd := k1) (kk := k2) (qc := qc) (qp := qp) (qq := qq) hq2 hQ.2.2.1 hkk hcn (n := 8) (t := 0) (by omega)
      rw [e] at hv hs hTok
      exact ⟨⟨ts, qc, qp, qq, qc, _, _, _, a1, sh, Cn, Rn, zz_C_fr (zz_C_F hC hs hsR (fun j k1 k2 => hf j k1)) (fun j hj => (hM.2 j (Or.inl hj)).trans (hg j (by omega))), hM.1, zz_A_fr hA (fun r hr => hrw r (by omega)), zz_Q_fr hQ (hrw 6 (by omega)) (hrw 7 (by omega)), ⟨hTok.1, by have := hTok.2; omega, Or.inr ⟨by omega, hQ.2.2.1⟩, rfl, s, hok, hB⟩⟩, fun _ => by rw [hv, hr]⟩
    · exact absurd ⟨kd, kk, hkd, hkk, hx, hy⟩ h
    · omega
  · simp only [String.reduceEq, true_and, false_and, or_false] at h9
    obtain ⟨rfl, h9⟩ := h9
    refine ⟨?_, fun h => absurd h (by decide)⟩
    rcases h2 with ⟨k1, k2, a1, s, hk1, hk2, hx2, hy2, -⟩ | ⟨-, hM⟩ | ⟨h, -⟩
    · exact absurd ⟨k1, k2, hk1, hk2, hx2, hy2⟩ h9
    · exact zz_same (zz_C_fr hC (fun j hj => hg j (by omega))) hA hQ hF hM
    · exact absurd h h9
  · simp only [String.reduceEq, true_and, false_and, or_false, false_or] at h9
    obtain ⟨rfl, hkk, hq⟩ := h9
    refine ⟨?_, fun h => absurd h (by decide)⟩
    rcases h2 with ⟨k1, k2, a1, s, hk1, hk2, hx2, hy2, h, -⟩ | ⟨h, -⟩ | ⟨-, -, hM⟩
    · omega
    · exact absurd hkk h
    · exact zz_same (zz_C_fr hC (fun j hj => hg j (by omega))) hA hQ hF hM
set_option maxHeartbeats 1000000 in
theorem zz_match {z : zv_T} {ad : Nat → Nat} {g g1 g2 : Nat → va_E} {ts : Nat → zu_S} {qc as0 : Nat} {qp qq : Nat → Int32} {F : List zq_I} {fo kp : Int32} {a : Nat → Nat → Int32} {sh : Nat → Bool} {Cn Rn : Nat → Nat} {k v r : Int32} (i w : Int32) (hC : zz_C z ad g ts qc qp qq as0 F) (hA : zz_A a ts sh Cn Rn) (hQ : zz_Q a qc qp qq) (hF : zz_F a as0 F kp) (h1 : (k = 0 ∧ ∃ g9 : Nat → va_E, (∃ j s, j < zq_kp F ∧ i = nI j ∧ zr_ok (zq_ld F) F.length (zq_kp F) s ∧ zq_mv as0 (zq_at F (s j)) w v ∧ g9 = g) ∧ ∀ j, j < 126 → g1 j = g9 j) ∨ (k = 1 ∧ ∃ g9 : Nat → va_E, (g9 = g ∧ (("java/lang/IndexOutOfBoundsException" = "java/lang/IndexOutOfBoundsException" ∧ ∀ j, j < zq_kp F → ¬ i = nI j) ∨ ("java/lang/IndexOutOfBoundsException" = "java/lang/IllegalArgumentException" ∧ (∃ j, j < zq_kp F ∧ i = nI j) ∧ ∀ k, k < 6 → ¬ w = nI k))) ∧ ∀ j, j < 126 → g1 j = g9 j) ∨ (k = 2 ∧ ∃ g9 : Nat → va_E, (g9 = g ∧ (("java/lang/IllegalArgumentException" = "java/lang/IndexOutOfBoundsException" ∧ ∀ j, j < zq_kp F → ¬ i = nI j) ∨ ("java/lang/IllegalArgumentException" = "java/lang/IllegalArgumentException" ∧ (∃ j, j < zq_kp F ∧ i = nI j) ∧ ∀ k, k < 6 → ¬ w = nI k))) ∧ ∀ j, j < 126 → g1 j = g9 j)) (h2 : (∃ j w9, j < (zq_kp F) ∧ i = nI j ∧ w9 < 6 ∧ w = nI w9 ∧ r = a 13 (6 * j + w9) ∧ zm_M z ad g1 g2 0 (nI qc) fo kp a) ∨ ((∀ j, j < (zq_kp F) → ¬ i = nI j) ∧ zm_M z ad g1 g2 1 (nI qc) fo kp a) ∨ ((∃ j, j < (zq_kp F) ∧ i = nI j) ∧ (∀ k, k < 6 → ¬ w = nI k) ∧ zm_M z ad g1 g2 2 (nI qc) fo kp a)) : zz_G z ad g2 k ∧ (k = 0 → v = r) := by
  have hkp30 : zq_kp F ≤ 30 := by show (if 30 < F.length then 30 else F.length) ≤ 30; split <;> omega
  rcases h1 with ⟨rfl, g9, ⟨j, s, hj, hi, hok, hv, rfl⟩, hg⟩ | ⟨rfl, g9, h9, hg⟩ | ⟨rfl, g9, h9, hg⟩
  · rcases h2 with ⟨jq, w9, hjq, hiq, hw9, hw, hr, hM⟩ | ⟨h, -⟩ | ⟨-, h, -⟩
    · refine ⟨zz_same (zz_C_fr hC (fun j hj => hg j (by omega))) hA hQ hF hM, fun _ => ?_⟩
      obtain rfl : jq = j := by rw [hi] at hiq; exact ((nI_eq (by omega) (by omega)).mp hiq).symm
      obtain ⟨f1, f2, f3, f4, s2, f5, f6⟩ := hF
      have e := zr_one (zq_so f1) hok f5 jq hj
      have hb := f6 jq hj
      rw [← e] at hb
      obtain ⟨b0, b1, b2, b3, b4, b5⟩ := hb
      have hwq : ∀ q, q < 6 → w = nI q → w9 = q := fun q hq hwq => by rw [hw] at hwq; exact (nI_eq (by omega) (by omega)).mp hwq
      rcases hv with ⟨w1, hv⟩ | ⟨w1, hv⟩ | ⟨w1, hv⟩ | ⟨w1, hv⟩ | ⟨w1, hv⟩ | ⟨w1, hv⟩
      · obtain rfl := hwq 0 (by omega) w1; rw [hv, hr]; exact b0.symm
      · obtain rfl := hwq 1 (by omega) w1; rw [hv, hr]; exact b1.symm
      · obtain rfl := hwq 2 (by omega) w1; rw [hv, hr]; exact b2.symm
      · obtain rfl := hwq 3 (by omega) w1; rw [hv, hr]; exact b3.symm
      · obtain rfl := hwq 4 (by omega) w1; rw [hv, hr]; exact b4.symm
      · obtain rfl := hwq 5 (by omega) w1; rw [hv, hr]; exact b5.symm
    · exact absurd hi (h j hj)
    · rcases hv with ⟨w1, hv⟩ | ⟨w1, hv⟩ | ⟨w1, hv⟩ | ⟨w1, hv⟩ | ⟨w1, hv⟩ | ⟨w1, hv⟩
      · exact absurd w1 (h 0 (by omega))
      · exact absurd w1 (h 1 (by omega))
      · exact absurd w1 (h 2 (by omega))
      · exact absurd w1 (h 3 (by omega))
      · exact absurd w1 (h 4 (by omega))
      · exact absurd w1 (h 5 (by omega))
  · simp only [String.reduceEq, true_and, false_and, or_false] at h9
    obtain ⟨rfl, h9⟩ := h9
    refine ⟨?_, fun h => absurd h (by decide)⟩
    rcases h2 with ⟨jq, w9, hjq, hiq, -⟩ | ⟨-, hM⟩ | ⟨⟨jq, hjq, hiq⟩, -⟩
    · exact absurd hiq (h9 jq hjq)
    · exact zz_same (zz_C_fr hC (fun j hj => hg j (by omega))) hA hQ hF hM
    · exact absurd hiq (h9 jq hjq)
  · simp only [String.reduceEq, true_and, false_and, or_false, false_or] at h9
    obtain ⟨rfl, ⟨j, hj, hi⟩, hw⟩ := h9
    refine ⟨?_, fun h => absurd h (by decide)⟩
    rcases h2 with ⟨jq, w9, hjq, hiq, hw9, hwq, -⟩ | ⟨h, -⟩ | ⟨-, -, hM⟩
    · exact absurd hwq (hw w9 hw9)
    · exact absurd hi (h j hj)
    · exact zz_same (zz_C_fr hC (fun j hj => hg j (by omega))) hA hQ hF hM
set_option maxHeartbeats 1000000 in
theorem zz_repeats {z : zv_T} {ad : Nat → Nat} {g g1 g2 : Nat → va_E} {ts : Nat → zu_S} {qc as0 : Nat} {qp qq : Nat → Int32} {F : List zq_I} {fo kp : Int32} {a : Nat → Nat → Int32} {sh : Nat → Bool} {Cn Rn : Nat → Nat} {k v r : Int32} (id x : Int32) (hC : zz_C z ad g ts qc qp qq as0 F) (hA : zz_A a ts sh Cn Rn) (hQ : zz_Q a qc qp qq) (hF : zz_F a as0 F kp) (h1 : (k = 0 ∧ ∃ g9 : Nat → va_E, (∃ t le, zp_is ts id t ∧ 1 ≤ le ∧ le ≤ 19 ∧ x = nI le ∧ v = nI (zp_eo (zp_T (zu_p (ts t)) (zu_cn (ts t) - 1)) (zu_cn (ts t) - 1) le 0 (zu_cn (ts t) - 1)).length ∧ (∃ b1 b2 b3 cm2, zs_W z ad g9 b1 b2 b3 cm2) ∧ ∀ j, j ≠ 105 → j ≠ 106 → g9 j = g j) ∧ ∀ j, j < 126 → g1 j = g9 j) ∨ (k = 1 ∧ ∃ g9 : Nat → va_E, (g9 = g ∧ (("java/lang/IndexOutOfBoundsException" = "java/lang/IndexOutOfBoundsException" ∧ ∀ t, ¬ zp_is ts id t) ∨ ("java/lang/IndexOutOfBoundsException" = "java/lang/IllegalArgumentException" ∧ (∃ t, zp_is ts id t) ∧ ¬ zp_le19 x))) ∧ ∀ j, j < 126 → g1 j = g9 j) ∨ (k = 2 ∧ ∃ g9 : Nat → va_E, (g9 = g ∧ (("java/lang/IllegalArgumentException" = "java/lang/IndexOutOfBoundsException" ∧ ∀ t, ¬ zp_is ts id t) ∨ ("java/lang/IllegalArgumentException" = "java/lang/IllegalArgumentException" ∧ (∃ t, zp_is ts id t) ∧ ¬ zp_le19 x))) ∧ ∀ j, j < 126 → g1 j = g9 j)) (h2 : (∃ t le, zm_is (fun t => zu_th (ts t)) id t ∧ 1 ≤ le ∧ le ≤ 19 ∧ x = nI le ∧ r = nI (zp_eo (zm_pl (zm_f a 4 t (Rn t)) (Cn t)) (Cn t - 1) le 0 (Cn t - 1)).length ∧ zm_M z ad g1 g2 0 (nI qc) fo kp a) ∨ ((∀ t, ¬ zm_is (fun t => zu_th (ts t)) id t) ∧ zm_M z ad g1 g2 1 (nI qc) fo kp a) ∨ ((∃ t, zm_is (fun t => zu_th (ts t)) id t) ∧ ¬ zp_le19 x ∧ zm_M z ad g1 g2 2 (nI qc) fo kp a)) : zz_G z ad g2 k ∧ (k = 0 → v = r) := by
  rcases h1 with ⟨rfl, g9, ⟨t, le, his, hl1, hl2, hx, hv, hW, hf⟩, hg⟩ | ⟨rfl, g9, h9, hg⟩ | ⟨rfl, g9, h9, hg⟩
  · obtain ⟨n1, n2, n3, n4⟩ := zz_now hA his.1 his.2.2
    rcases h2 with ⟨u, lq, hiu, hq1, hq2, hxq, hr, hM⟩ | ⟨h, -⟩ | ⟨-, h, -⟩
    · refine ⟨zz_same (zz_C_fr (zz_C_W hC hW (fun j k1 k2 _ => hf j k1 k2)) (fun j hj => hg j (by omega))) hA hQ hF hM, fun _ => ?_⟩
      obtain rfl := zz_u his hiu
      obtain rfl : lq = le := by rw [hx] at hxq; exact ((nI_eq (by omega) (by omega)).mp hxq).symm
      rw [hv, hr, n1, zp_eo_m (fun i hi => (n4 i hi).1) hl1]
    · exact absurd his (h t)
    · exact absurd ⟨le, hl1, hl2, hx⟩ h
  · simp only [String.reduceEq, true_and, false_and, or_false] at h9
    obtain ⟨rfl, h9⟩ := h9
    refine ⟨?_, fun h => absurd h (by decide)⟩
    rcases h2 with ⟨u, lq, hiu, -⟩ | ⟨-, hM⟩ | ⟨⟨u, hiu⟩, -⟩
    · exact absurd hiu (h9 u)
    · exact zz_same (zz_C_fr hC (fun j hj => hg j (by omega))) hA hQ hF hM
    · exact absurd hiu (h9 u)
  · simp only [String.reduceEq, true_and, false_and, or_false, false_or] at h9
    obtain ⟨rfl, ⟨t, his⟩, hle⟩ := h9
    refine ⟨?_, fun h => absurd h (by decide)⟩
    rcases h2 with ⟨u, lq, hiu, hq1, hq2, hxq, -⟩ | ⟨h, -⟩ | ⟨-, -, hM⟩
    · exact absurd ⟨lq, hq1, hq2, hxq⟩ hle
    · exact absurd his (h t)
    · exact zz_same (zz_C_fr hC (fun j hj => hg j (by omega))) hA hQ hF hM
set_option maxHeartbeats 1000000 in
theorem zz_repeat {z : zv_T} {ad : Nat → Nat} {g g1 g2 : Nat → va_E} {ts : Nat → zu_S} {qc as0 : Nat} {qp qq : Nat → Int32} {F : List zq_I} {fo kp : Int32} {a : Nat → Nat → Int32} {sh : Nat → Bool} {Cn Rn : Nat → Nat} {k v r : Int32} (id x i w : Int32) (hC : zz_C z ad g ts qc qp qq as0 F) (hA : zz_A a ts sh Cn Rn) (hQ : zz_Q a qc qp qq) (hF : zz_F a as0 F kp) (h1 : (k = 0 ∧ ∃ g9 : Nat → va_E, (∃ t le, zp_is ts id t ∧ 1 ≤ le ∧ le ≤ 19 ∧ x = nI le ∧ (w = nI 0 ∨ w = nI 1 ∨ w = nI 2) ∧ ((∃ k y, (zp_eo (zp_T (zu_p (ts t)) (zu_cn (ts t) - 1)) (zu_cn (ts t) - 1) le 0 (zu_cn (ts t) - 1))[k]? = some y ∧ i = nI k ∧ ((w = nI 0 ∧ v = nI y.1) ∨ (w = nI 1 ∧ v = nI y.2.1) ∨ (w = nI 2 ∧ v = nI y.2.2))) ∨ ((∀ k, k < (zp_eo (zp_T (zu_p (ts t)) (zu_cn (ts t) - 1)) (zu_cn (ts t) - 1) le 0 (zu_cn (ts t) - 1)).length → ¬ i = nI k) ∧ v = -1)) ∧ (∃ b1 b2 b3 cm2, zs_W z ad g9 b1 b2 b3 cm2) ∧ ∀ j, j ≠ 105 → j ≠ 106 → g9 j = g j) ∧ ∀ j, j < 126 → g1 j = g9 j) ∨ (k = 1 ∧ ∃ g9 : Nat → va_E, (g9 = g ∧ (("java/lang/IndexOutOfBoundsException" = "java/lang/IndexOutOfBoundsException" ∧ ∀ t, ¬ zp_is ts id t) ∨ ("java/lang/IndexOutOfBoundsException" = "java/lang/IllegalArgumentException" ∧ (∃ t, zp_is ts id t) ∧ (¬ zp_le19 x ∨ ¬ (w = nI 0 ∨ w = nI 1 ∨ w = nI 2))))) ∧ ∀ j, j < 126 → g1 j = g9 j) ∨ (k = 2 ∧ ∃ g9 : Nat → va_E, (g9 = g ∧ (("java/lang/IllegalArgumentException" = "java/lang/IndexOutOfBoundsException" ∧ ∀ t, ¬ zp_is ts id t) ∨ ("java/lang/IllegalArgumentException" = "java/lang/IllegalArgumentException" ∧ (∃ t, zp_is ts id t) ∧ (¬ zp_le19 x ∨ ¬ (w = nI 0 ∨ w = nI 1 ∨ w = nI 2))))) ∧ ∀ j, j < 126 → g1 j = g9 j)) (h2 : (∃ t le, zm_is (fun t => zu_th (ts t)) id t ∧ 1 ≤ le ∧ le ≤ 19 ∧ x = nI le ∧ (w = nI 0 ∨ w = nI 1 ∨ w = nI 2) ∧ ((∃ k y, (zp_eo (zm_pl (zm_f a 4 t (Rn t)) (Cn t)) (Cn t - 1) le 0 (Cn t - 1))[k]? = some y ∧ i = nI k ∧ ((w = nI 0 ∧ r = nI y.1) ∨ (w = nI 1 ∧ r = nI y.2.1) ∨ (w = nI 2 ∧ r = nI y.2.2))) ∨ ((∀ k, k < (zp_eo (zm_pl (zm_f a 4 t (Rn t)) (Cn t)) (Cn t - 1) le 0 (Cn t - 1)).length → ¬ i = nI k) ∧ r = -1)) ∧ zm_M z ad g1 g2 0 (nI qc) fo kp a) ∨ ((∀ t, ¬ zm_is (fun t => zu_th (ts t)) id t) ∧ zm_M z ad g1 g2 1 (nI qc) fo kp a) ∨ ((∃ t, zm_is (fun t => zu_th (ts t)) id t) ∧ (¬ zp_le19 x ∨ ¬ (w = nI 0 ∨ w = nI 1 ∨ w = nI 2)) ∧ zm_M z ad g1 g2 2 (nI qc) fo kp a)) : zz_G z ad g2 k ∧ (k = 0 → v = r) := by
  rcases h1 with ⟨rfl, g9, ⟨t, le, his, hl1, hl2, hx, hw, hv, hW, hf⟩, hg⟩ | ⟨rfl, g9, h9, hg⟩ | ⟨rfl, g9, h9, hg⟩
  · obtain ⟨n1, n2, n3, n4⟩ := zz_now hA his.1 his.2.2
    have hcn := (hA.2 t his.1).2.1
    rcases h2 with ⟨u, lq, hiu, hq1, hq2, hxq, -, hr, hM⟩ | ⟨h, -⟩ | ⟨-, h, -⟩
    · refine ⟨zz_same (zz_C_fr (zz_C_W hC hW (fun j k1 k2 _ => hf j k1 k2)) (fun j hj => hg j (by omega))) hA hQ hF hM, fun _ => ?_⟩
      obtain rfl := zz_u his hiu
      obtain rfl : lq = le := by rw [hx] at hxq; exact ((nI_eq (by omega) (by omega)).mp hxq).symm
      rw [n1, ← zp_eo_m (fun i hi => (n4 i hi).1) hl1] at hr
      have hlen := zp_eo_len2 (zp_T (zu_p (ts u)) (zu_cn (ts u) - 1)) lq hcn
      rcases hv with ⟨k1, y1, hy1, hi1, hv⟩ | ⟨hi1, hv⟩ <;> rcases hr with ⟨k2, y2, hy2, hi2, hr⟩ | ⟨hi2, hr⟩
      · obtain ⟨l1, -⟩ := List.getElem?_eq_some_iff.mp hy1
        obtain ⟨l2, -⟩ := List.getElem?_eq_some_iff.mp hy2
        obtain rfl : k2 = k1 := by rw [hi1] at hi2; exact ((nI_eq (by omega) (by omega)).mp hi2).symm
        rw [hy1] at hy2
        injection hy2 with hy2
        subst hy2
        rcases hv with ⟨w1, hv⟩ | ⟨w1, hv⟩ | ⟨w1, hv⟩ <;> rcases hr with ⟨w2, hr⟩ | ⟨w2, hr⟩ | ⟨w2, hr⟩ <;> (try (rw [w1] at w2; exact absurd w2 (by decide))) <;> rw [hv, hr]
      · obtain ⟨l1, -⟩ := List.getElem?_eq_some_iff.mp hy1
        exact absurd hi1 (hi2 k1 l1)
      · obtain ⟨l2, -⟩ := List.getElem?_eq_some_iff.mp hy2
        exact absurd hi2 (hi1 k2 l2)
      · rw [hv, hr]
    · exact absurd his (h t)
    · rcases h with h | h
      · exact absurd ⟨le, hl1, hl2, hx⟩ h
      · exact absurd hw h
  · simp only [String.reduceEq, true_and, false_and, or_false] at h9
    obtain ⟨rfl, h9⟩ := h9
    refine ⟨?_, fun h => absurd h (by decide)⟩
    rcases h2 with ⟨u, lq, hiu, -⟩ | ⟨-, hM⟩ | ⟨⟨u, hiu⟩, -⟩
    · exact absurd hiu (h9 u)
    · exact zz_same (zz_C_fr hC (fun j hj => hg j (by omega))) hA hQ hF hM
    · exact absurd hiu (h9 u)
  · simp only [String.reduceEq, true_and, false_and, or_false, false_or] at h9
    obtain ⟨rfl, ⟨t, his⟩, hle⟩ := h9
    refine ⟨?_, fun h => absurd h (by decide)⟩
    rcases h2 with ⟨u, lq, hiu, hq1, hq2, hxq, hw, -⟩ | ⟨h, -⟩ | ⟨-, -, hM⟩
    · rcases hle with h | h
      · exact absurd ⟨lq, hq1, hq2, hxq⟩ h
      · exact absurd hw h
    · exact absurd his (h t)
    · exact zz_same (zz_C_fr hC (fun j hj => hg j (by omega))) hA hQ hF hM
set_option maxHeartbeats 1000000 in
theorem zz_canon {z : zv_T} {ad : Nat → Nat} {g g1 g2 : Nat → va_E} {ts : Nat → zu_S} {qc as0 : Nat} {qp qq : Nat → Int32} {F : List zq_I} {fo kp : Int32} {a : Nat → Nat → Int32} {sh : Nat → Bool} {Cn Rn : Nat → Nat} {k v r : Int32} (id other x : Int32) (hC : zz_C z ad g ts qc qp qq as0 F) (hA : zz_A a ts sh Cn Rn) (hQ : zz_Q a qc qp qq) (hF : zz_F a as0 F kp) (h1 : (k = 0 ∧ ∃ g9 : Nat → va_E, (∃ t o len, zp_is ts id t ∧ zp_is ts other o ∧ 2 ≤ len ∧ len ≤ 20 ∧ x = nI len ∧ ((zu_cn (ts o) < len ∧ v = -1) ∨ (len ≤ zu_cn (ts o) ∧ zp_fst (zp_ec ts t o len) (if t = o then 1 else 0) (zu_cn (ts t) + 1 - len) v)) ∧ g9 = g) ∧ ∀ j, j < 126 → g1 j = g9 j) ∨ (k = 1 ∧ ∃ g9 : Nat → va_E, (g9 = g ∧ (("java/lang/IndexOutOfBoundsException" = "java/lang/IndexOutOfBoundsException" ∧ ((∀ t, ¬ zp_is ts id t) ∨ ∀ o, ¬ zp_is ts other o)) ∨ ("java/lang/IndexOutOfBoundsException" = "java/lang/IllegalArgumentException" ∧ (∃ t, zp_is ts id t) ∧ (∃ o, zp_is ts other o) ∧ ∀ len, 2 ≤ len → len ≤ 20 → ¬ x = nI len))) ∧ ∀ j, j < 126 → g1 j = g9 j) ∨ (k = 2 ∧ ∃ g9 : Nat → va_E, (g9 = g ∧ (("java/lang/IllegalArgumentException" = "java/lang/IndexOutOfBoundsException" ∧ ((∀ t, ¬ zp_is ts id t) ∨ ∀ o, ¬ zp_is ts other o)) ∨ ("java/lang/IllegalArgumentException" = "java/lang/IllegalArgumentException" ∧ (∃ t, zp_is ts id t) ∧ (∃ o, zp_is ts other o) ∧ ∀ len, 2 ≤ len → len ≤ 20 → ¬ x = nI len))) ∧ ∀ j, j < 126 → g1 j = g9 j)) (h2 : (∃ t o len, zm_is (fun t => zu_th (ts t)) id t ∧ zm_is (fun t => zu_th (ts t)) other o ∧ 2 ≤ len ∧ len ≤ 20 ∧ x = nI len ∧ ((Cn o < len ∧ r = -1) ∨ (len ≤ Cn o ∧ zp_fst (fun q => zp_all (zm_ec a Rn t o q) len) (if t = o then 1 else 0) (Cn t + 1 - len) r)) ∧ zm_M z ad g1 g2 0 (nI qc) fo kp a) ∨ (((∀ t, ¬ zm_is (fun t => zu_th (ts t)) id t) ∨ ∀ o, ¬ zm_is (fun t => zu_th (ts t)) other o) ∧ zm_M z ad g1 g2 1 (nI qc) fo kp a) ∨ ((∃ t, zm_is (fun t => zu_th (ts t)) id t) ∧ (∃ o, zm_is (fun t => zu_th (ts t)) other o) ∧ (∀ len, 2 ≤ len → len ≤ 20 → ¬ x = nI len) ∧ zm_M z ad g1 g2 2 (nI qc) fo kp a)) : zz_G z ad g2 k ∧ (k = 0 → v = r) := by
  rcases h1 with ⟨rfl, g9, ⟨t, o, len, his, hio, hl1, hl2, hx, hv, rfl⟩, hg⟩ | ⟨rfl, g9, h9, hg⟩ | ⟨rfl, g9, h9, hg⟩
  · obtain ⟨n1, n2, n3, n4⟩ := zz_now hA his.1 his.2.2
    obtain ⟨m1, m2, m3, m4⟩ := zz_now hA hio.1 hio.2.2
    rcases h2 with ⟨u, oq, lq, hiu, hou, hq1, hq2, hxq, hr, hM⟩ | ⟨h, -⟩ | ⟨-, -, h, -⟩
    · refine ⟨zz_same (zz_C_fr hC (fun j hj => hg j (by omega))) hA hQ hF hM, fun _ => ?_⟩
      obtain rfl := zz_u his hiu
      obtain rfl := zz_u hio hou
      obtain rfl : lq = len := by rw [hx] at hxq; exact ((nI_eq (by omega) (by omega)).mp hxq).symm
      rw [n1, m1] at hr
      rcases hv with ⟨h0, hv⟩ | ⟨h0, hv⟩ <;> rcases hr with ⟨h0q, hr⟩ | ⟨h0q, hr⟩
      · rw [hv, hr]
      · omega
      · omega
      · refine zp_fst_cg (fun j hj => ?_) hv hr
        exact zp_ec_m (fun k hk => ⟨(n4 k hk).1, (n4 k hk).2.1⟩) (fun k hk => ⟨(m4 k hk).1, (m4 k hk).2.1⟩) (by omega) (by omega) h0
    · rcases h with h | h
      · exact absurd his (h t)
      · exact absurd hio (h o)
    · exact absurd hx (h len hl1 hl2)
  · simp only [String.reduceEq, true_and, false_and, or_false] at h9
    obtain ⟨rfl, h9⟩ := h9
    refine ⟨?_, fun h => absurd h (by decide)⟩
    rcases h2 with ⟨u, oq, lq, hiu, hou, -⟩ | ⟨-, hM⟩ | ⟨⟨u, hiu⟩, ⟨oq, hou⟩, -⟩
    · rcases h9 with h | h
      · exact absurd hiu (h u)
      · exact absurd hou (h oq)
    · exact zz_same (zz_C_fr hC (fun j hj => hg j (by omega))) hA hQ hF hM
    · rcases h9 with h | h
      · exact absurd hiu (h u)
      · exact absurd hou (h oq)
  · simp only [String.reduceEq, true_and, false_and, or_false, false_or] at h9
    obtain ⟨rfl, ⟨t, his⟩, ⟨o, hio⟩, hl⟩ := h9
    refine ⟨?_, fun h => absurd h (by decide)⟩
    rcases h2 with ⟨u, oq, lq, hiu, hou, hq1, hq2, hxq, -⟩ | ⟨h, -⟩ | ⟨-, -, -, hM⟩
    · exact absurd hxq (hl lq hq1 hq2)
    · rcases h with h | h
      · exact absurd his (h t)
      · exact absurd hio (h o)
    · exact zz_same (zz_C_fr hC (fun j hj => hg j (by omega))) hA hQ hF hM
set_option maxHeartbeats 1000000 in
theorem zz_opening {z : zv_T} {ad : Nat → Nat} {g g1 g2 : Nat → va_E} {ts : Nat → zu_S} {qc as0 : Nat} {qp qq : Nat → Int32} {F : List zq_I} {fo kp : Int32} {a : Nat → Nat → Int32} {sh : Nat → Bool} {Cn Rn : Nat → Nat} {k v r : Int32} (id i : Int32) (hC : zz_C z ad g ts qc qp qq as0 F) (hA : zz_A a ts sh Cn Rn) (hQ : zz_Q a qc qp qq) (hF : zz_F a as0 F kp) (h1 : (k = 0 ∧ ∃ g9 : Nat → va_E, (∃ t sh, zp_is ts id t ∧ (∀ k, k < 8 → zp_so ts t (sh k) k) ∧ ((∃ k o, (zp_ox sh 20)[k]? = some o ∧ i = nI k ∧ v = nI o) ∨ ((∀ k, k < (zp_ox sh 20).length → ¬ i = nI k) ∧ v = -1)) ∧ (∃ s9, g9 107 = ze_i z 8 s9) ∧ ∀ j, j ≠ 107 → g9 j = g j) ∧ ∀ j, j < 126 → g1 j = g9 j) ∨ (k = 1 ∧ ∃ g9 : Nat → va_E, (g9 = g ∧ "java/lang/IndexOutOfBoundsException" = "java/lang/IndexOutOfBoundsException" ∧ ∀ t, ¬ zp_is ts id t) ∧ ∀ j, j < 126 → g1 j = g9 j)) (h2 : (∃ t S, zm_is (fun t => zu_th (ts t)) id t ∧ (∀ k, zp_ld (zm_e2 (zm_f a 4 t (Rn t)) (zm_f a 4 k (Rn k))) (if Cn k - 1 < Cn t - 1 then Cn k - 1 else Cn t - 1) (S k)) ∧ ((∃ o, o < 8 ∧ zm_cd (fun t => zu_th (ts t)) sh t o = true ∧ i = nI (zp_cnt (zm_rk (fun t => zu_th (ts t)) sh S t o) 8) ∧ r = nI o) ∨ ((∀ o, o < 8 → zm_cd (fun t => zu_th (ts t)) sh t o = true → ¬ i = nI (zp_cnt (zm_rk (fun t => zu_th (ts t)) sh S t o) 8)) ∧ r = -1)) ∧ zm_M z ad g1 g2 0 (nI qc) fo kp a) ∨ ((∀ t, ¬ zm_is (fun t => zu_th (ts t)) id t) ∧ zm_M z ad g1 g2 1 (nI qc) fo kp a)) : zz_G z ad g2 k ∧ (k = 0 → v = r) := by
  rcases h1 with ⟨rfl, g9, ⟨t, sv, his, hso, hv, hs9, hf⟩, hg⟩ | ⟨rfl, g9, h9, hg⟩
  · obtain ⟨n1, n2, n3, n4⟩ := zz_now hA his.1 his.2.2
    rcases h2 with ⟨u, S, hiu, hS, hr, hM⟩ | ⟨h, -⟩
    · refine ⟨zz_same (zz_C_fr (zz_C_S hC hs9 (fun j k1 _ => hf j k1)) (fun j hj => hg j (by omega))) hA hQ hF hM, fun _ => ?_⟩
      obtain rfl := zz_u his hiu
      refine zp_ox_r (fun q hq => ?_) hv hr
      have hq0 := (hA.2 q hq).1
      have hqc := (hA.2 q hq).2.1
      have e : zm_cd (fun t => zu_th (ts t)) sh u q = (decide (q ≠ u) && zu_sh (ts q)) := by rw [hq0]; rfl
      rw [e]
      rcases hso q hq with ⟨c1, c2, m, c3, c4⟩ | ⟨c1, c2⟩
      · rw [c2, decide_eq_true c1]
        refine ⟨fun _ => ?_, fun h => by cases h⟩
        have hthq : zu_th (ts q) = true := by
          rw [c2] at hq0
          exact (Bool.and_eq_true_iff.mp hq0.symm).1
        obtain ⟨m1, m2, m3, m4⟩ := zz_now hA hq hthq
        have hSq := hS q
        rw [n1, m1] at hSq
        have c5 := zp_ld_cg (e' := zm_e2 (zm_f a 4 u (Rn u)) (zm_f a 4 q (Rn q))) (fun j hj => ?_) c4
        · have c6 := zp_ld_un c5 hSq
          rw [c3, c6]
          refine ⟨rfl, ?_⟩
          have := hSq.1
          split at this <;> omega
        · have hj1 : j + 1 < zu_cn (ts u) ∧ j + 1 < zu_cn (ts q) := by split at hj <;> omega
          show decide _ = decide _
          rw [(n4 j (by omega)).1, (n4 (j + 1) hj1.1).1, (m4 j (by omega)).1, (m4 (j + 1) hj1.2).1]
      · refine ⟨fun h => ?_, fun _ => c2⟩
        exfalso
        apply c1
        rw [Bool.and_eq_true, decide_eq_true_iff] at h
        exact h
    · exact absurd his (h t)
  · obtain ⟨rfl, -, h9⟩ := h9
    refine ⟨?_, fun h => absurd h (by decide)⟩
    rcases h2 with ⟨u, S, hiu, -⟩ | ⟨-, hM⟩
    · exact absurd hiu (h9 u)
    · exact zz_same (zz_C_fr hC (fun j hj => hg j (by omega))) hA hQ hF hM
theorem zz_forget {z : zv_T} {ad : Nat → Nat} {g g1 g2 : Nat → va_E} {ts : Nat → zu_S} {qc as0 : Nat} {qp qq : Nat → Int32} {F : List zq_I} {fo kp : Int32} {a : Nat → Nat → Int32} {sh : Nat → Bool} {Cn Rn : Nat → Nat} (hC : zz_C z ad g ts qc qp qq as0 F) (hA : zz_A a ts sh Cn Rn) (hQ : zz_Q a qc qp qq) (hF : zz_F a as0 F kp) (hs : zs_N z ad g1 66 8 0 qp qq) (hf : ∀ j, j ≠ 66 → g1 j = g j) (hM : zm_M z ad g1 g2 0 0 fo kp a) : zz_G z ad g2 0 :=
  ⟨ts, 0, qp, qq, as0, F, fo, kp, a, sh, Cn, Rn, zz_C_fr (zz_C_N hC hs (fun j k1 _ => hf j (by omega))) (fun j hj => hM.2 j (Or.inl hj)), by rw [nI_0]; exact hM.1, hA, ⟨hQ.1, hQ.2.1, by omega, fun i hi => absurd hi (Nat.not_lt_zero i)⟩, hF⟩
end ZSM
