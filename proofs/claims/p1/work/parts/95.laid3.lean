def evm (C M Sg : Int → Int) (n f : Int) : Int := if C (4 * n + f) < 0 then -1 else 32 * M (C (4 * n + f) / 32) + af (Sg (C (4 * n + f) / 32)) (af (C (4 * n + f) % 32) (iv (Sg n)))
/-- the model's solid -/
def CMd (t' : Int) (C M Mi Sg : Int → Int) (k : Int) : Int := if 0 ≤ k ∧ k < 4 * t' then evm C M Sg (Mi (k / 4)) (im (iv (Sg (Mi (k / 4)))) (k % 4)) else -1
def MIV (X : Int → Prop) (nw : Int → Int) (s : Int) (jn Mi : Int → Int) : Prop := (∀ n, 0 ≤ n → n < s → Mi n = n) ∧ ∀ y, 0 ≤ y → y < 4 → ¬ X y → Mi (s + jn y) = nw y
theorem cfg_su {t : Int} {G : Int → Int} {a : Int} {X : Int → Prop} {nw : Int → Int} {s t' : Int} {H T C go gl : Int → Int} {gm : Int} {cl : Int → Int} {cm : Int} {la : Int → Int} {e : Int} {ix jn nu M Sg : Int → Int} (h : CFG t G a X nw s t' H T C go gl gm cl cm la e ix jn nu M Sg) : SU t G (gS G a X) s t' H T C := fl_su h.1 h.2.1 h.2.2.1 h.2.2.2.1
theorem cfg_s {t : Int} {G : Int → Int} {a : Int} {X : Int → Prop} {nw : Int → Int} {s t' : Int} {H T C go gl : Int → Int} {gm : Int} {cl : Int → Int} {cm : Int} {la : Int → Int} {e : Int} {ix jn nu M Sg : Int → Int} (h : CFG t G a X nw s t' H T C go gl gm cl cm la e ix jn nu M Sg) : 0 ≤ s ∧ s ≤ t ∧ s + cm = t' ∧ t' ≤ 8 ∧ 1 ≤ cm ∧ cm ≤ 4 ∧ 1 ≤ t ∧ t ≤ 8 ∧ s = sty (gS G a X) t ∧ 1 ≤ gm ∧ gm ≤ 4 := by
  have f := h.2.1.1
  have ht := h.1.1
  have c := h.2.2.2.2.2.1.1
  have e := h.2.2.2.2.2.2.1
  have g := h.2.2.2.2.1.2.1
  have q := sty_in (gS G a X) (i := t) (by omega)
  refine ⟨by omega, by omega, by omega, by omega, c.1, c.2, ht.1, ht.2, f.2.2.1, g.1, g.2.1⟩
theorem cfg_m {t : Int} {G : Int → Int} {a : Int} {X : Int → Prop} {nw : Int → Int} {s t' : Int} {H T C go gl : Int → Int} {gm : Int} {cl : Int → Int} {cm : Int} {la : Int → Int} {e : Int} {ix jn nu M Sg : Int → Int} {Mi : Int → Int} (h : CFG t G a X nw s t' H T C go gl gm cl cm la e ix jn nu M Sg) (hi : MIV X nw s jn Mi) {n : Int} (n0 : 0 ≤ n) (n1 : n < t') : ((0 ≤ M n ∧ M n < t') ∧ Mi (M n) = n) ∧ (0 ≤ Sg n ∧ Sg n < 24) ∧ (0 ≤ Mi n ∧ Mi n < t') ∧ M (Mi n) = n := by
  have q := cfg_s h
  obtain ⟨-, hF, -, -, -, hC, -, hM1, hM2⟩ := h
  rcases Int.lt_or_le n s with z | z
  · obtain ⟨m1, m2⟩ := hM1 n n0 z
    have i1 := hi.1 n n0 z
    rw [m1, i1, m1, m2]
    omega
  · have A : ((0 ≤ M n ∧ M n < t') ∧ Mi (M n) = n) ∧ (0 ≤ Sg n ∧ Sg n < 24) := by
      obtain ⟨y, y0, y1, hy, ey⟩ := hF.2.2.2.2.2 n z n1
      obtain ⟨m1, m2⟩ := hM2 y y0 y1 hy
      obtain ⟨j0, j1, k0, -⟩ := hC.2.1 y y0 y1 hy
      rw [← ey, m1, m2, hi.2 y y0 y1 hy]
      exact ⟨⟨⟨by omega, by omega⟩, rfl⟩, k0⟩
    refine ⟨A.1, A.2, ?_⟩
    obtain ⟨y, y0, y1, hy, ey⟩ := hC.2.2.2 (n - s) (by omega) (by omega)
    have e : n = s + jn y := by omega
    rw [e, hi.2 y y0 y1 hy, (hM2 y y0 y1 hy).1]
    have w := hF.2.2.2.1 y y0 y1 hy
    exact ⟨⟨by omega, w.2⟩, rfl⟩
theorem cm_at {t : Int} {G : Int → Int} {a : Int} {X : Int → Prop} {nw : Int → Int} {s t' : Int} {H T C go gl : Int → Int} {gm : Int} {cl : Int → Int} {cm : Int} {la : Int → Int} {e : Int} {ix jn nu M Sg : Int → Int} {Mi : Int → Int} (h : CFG t G a X nw s t' H T C go gl gm cl cm la e ix jn nu M Sg) (hi : MIV X nw s jn Mi) {n f : Int} (n0 : 0 ≤ n) (n1 : n < t') (f0 : 0 ≤ f) (f1 : f < 4) : CMd t' C M Mi Sg (4 * M n + im (Sg n) f) = evm C M Sg n f := by
  obtain ⟨⟨⟨m0, m1⟩, m2⟩, ⟨s0, s1⟩, -⟩ := cfg_m h hi n0 n1
  have w := im_in s0 s1 f0 f1
  unfold CMd
  rw [if_pos (by omega), show (4 * M n + im (Sg n) f) / 4 = M n by omega, show (4 * M n + im (Sg n) f) % 4 = im (Sg n) f by omega, m2, (im_mi s0 s1 f0 f1).1]
theorem cm_IS {t : Int} {G : Int → Int} {a : Int} {X : Int → Prop} {nw : Int → Int} {s t' : Int} {H T C go gl : Int → Int} {gm : Int} {cl : Int → Int} {cm : Int} {la : Int → Int} {e : Int} {ix jn nu M Sg : Int → Int} {Mi : Int → Int} (h : CFG t G a X nw s t' H T C go gl gm cl cm la e ix jn nu M Sg) (hi : MIV X nw s jn Mi) : IS t' C (CMd t' C M Mi Sg) M Mi Sg := by
  refine ⟨fun i i0 i1 => ?_, fun i f i0 i1 f0 f1 => cm_at h hi i0 i1 f0 f1⟩
  obtain ⟨⟨⟨m0, m1⟩, m2⟩, ⟨s0, s1⟩, ⟨r0, r1⟩, r2⟩ := cfg_m h hi i0 i1
  exact ⟨⟨m0, m1, m2⟩, ⟨r0, r1, r2⟩, s0, s1⟩
theorem cm_out {t' : Int} {C M Mi Sg : Int → Int} {k : Int} (hk : 4 * t' ≤ k) : CMd t' C M Mi Sg k = -1 := by
  unfold CMd
  rw [if_neg (by omega)]
theorem tau_in {t : Int} {G : Int → Int} {a : Int} {X : Int → Prop} {nw : Int → Int} {s t' : Int} {H T C go gl : Int → Int} {gm : Int} {cl : Int → Int} {cm : Int} {la : Int → Int} {e : Int} {ix jn nu M Sg : Int → Int} {Mi : Int → Int} (h : CFG t G a X nw s t' H T C go gl gm cl cm la e ix jn nu M Sg) (hi : MIV X nw s jn Mi) {F : Int} (F0 : 0 ≤ F) (F1 : F < 4 * t) (hF : 0 ≤ H F) : (0 ≤ tau H T Sg F ∧ tau H T Sg F < 24) ∧ (0 ≤ mpos H T M Sg F ∧ mpos H T M Sg F < 4 * t') ∧ (0 ≤ H F ∧ H F < t') ∧ 0 ≤ M (H F) ∧ M (H F) < t' := by
  obtain ⟨a1, a2, a3, -, -⟩ := su_hm h.1 (cfg_su h).1 F0 F1 hF
  obtain ⟨⟨⟨m0, m1⟩, m2⟩, ⟨s0, s1⟩, -⟩ := cfg_m h hi hF a1
  have q := af_in s0 s1 a2 a3
  have w := im_in q.1 q.2 (show 0 ≤ F % 4 by omega) (show F % 4 < 4 by omega)
  unfold mpos
  unfold tau at w ⊢
  exact ⟨q, ⟨by omega, by omega⟩, ⟨hF, a1⟩, m0, m1⟩
theorem cm_F {t : Int} {G : Int → Int} {a : Int} {X : Int → Prop} {nw : Int → Int} {s t' : Int} {H T C go gl : Int → Int} {gm : Int} {cl : Int → Int} {cm : Int} {la : Int → Int} {e : Int} {ix jn nu M Sg : Int → Int} {Mi : Int → Int} (h : CFG t G a X nw s t' H T C go gl gm cl cm la e ix jn nu M Sg) (hi : MIV X nw s jn Mi) {F : Int} (F0 : 0 ≤ F) (F1 : F < 4 * t) (hF : 0 ≤ H F) : CMd t' C M Mi Sg (mpos H T M Sg F) = if G F < 0 then -1 else 32 * M (H (pt G F)) + mq G H T Sg F := by
  have hG := h.1
  have su := cfg_su h
  obtain ⟨a1, a2, a3, -, -⟩ := su_hm hG su.1 F0 F1 hF
  obtain ⟨⟨⟨m0, m1⟩, m2⟩, ⟨s0, s1⟩, -⟩ := cfg_m h hi hF a1
  have f4 : 0 ≤ F % 4 ∧ F % 4 < 4 := by omega
  have w := im_in a2 a3 f4.1 f4.2
  have e1 : mpos H T M Sg F = 4 * M (H F) + im (Sg (H F)) (im (T F) (F % 4)) := by
    unfold mpos tau
    rw [im_af s0 s1 a2 a3 f4.1 f4.2]
  rw [e1, cm_at h hi hF a1 w.1 w.2]
  have e2 := su.2.1 F F0 F1 hF
  have e3 : 4 * H F + im (T F) (F % 4) = cyn H T F := rfl
  unfold evm
  rw [e3, e2]
  unfold cyw
  by_cases g : G F < 0
  · rw [if_pos g, if_pos (by omega), if_pos g]
  · have g' : 0 ≤ G F := by omega
    have hF' := su_cl hG su.1 F0 F1 hF g'
    obtain ⟨p0, p1, p2, p3, p4, p5, p6, p7, p8⟩ := pt_pt hG F0 F1 g'
    obtain ⟨b1, b2, b3, -, -⟩ := su_hm hG su.1 p0 p1 hF'
    obtain ⟨c1, c2, c3, c4, c5⟩ := cyv_p (H := H) hG F0 F1 g' ⟨a2, a3⟩ ⟨b2, b3⟩
    obtain ⟨-, ⟨s0', s1'⟩, -⟩ := cfg_m h hi hF' b1
    rw [if_neg g, if_neg (by omega), if_neg g, c1]
    have c6 : cyv G H T F % 32 = af (T (pt G F)) (af (G F % 32) (iv (T F))) := by
      have v := iv_in a2 a3
      have k1 := af_in p4 p5 v.1 v.2
      have k2 := af_in b2 b3 k1.1 k1.2
      unfold cyv
      omega
    rw [c6]
    unfold mq tau
    have v := iv_in a2 a3
    have vs := iv_in s0 s1
    have k1 := af_in p4 p5 v.1 v.2
    rw [iv_af s0 s1 a2 a3, af_as b2 b3 k1.1 k1.2 vs.1 vs.2, af_as p4 p5 v.1 v.2 vs.1 vs.2, af_as s0' s1' b2 b3 (af_in p4 p5 (af_in v.1 v.2 vs.1 vs.2).1 (af_in v.1 v.2 vs.1 vs.2).2).1 (af_in p4 p5 (af_in v.1 v.2 vs.1 vs.2).1 (af_in v.1 v.2 vs.1 vs.2).2).2]
theorem cm_inn {t : Int} {G : Int → Int} {a : Int} {X : Int → Prop} {nw : Int → Int} {s t' : Int} {H T C go gl : Int → Int} {gm : Int} {cl : Int → Int} {cm : Int} {la : Int → Int} {e : Int} {ix jn nu M Sg : Int → Int} {Mi : Int → Int} (h : CFG t G a X nw s t' H T C go gl gm cl cm la e ix jn nu M Sg) (hi : MIV X nw s jn Mi) {y c : Int} (y0 : 0 ≤ y) (y1 : y < 4) (hy : ¬ X y) (c0 : 0 ≤ c) (c1 : c < 4) (hc : ¬ X c) (cy : c ≠ y) : CMd t' C M Mi Sg (4 * (s + jn y) + im (nu y) c) = 32 * (s + jn c) + af (nu c) (af (sx y c) (iv (nu y))) := by
  obtain ⟨my, sy⟩ := h.2.2.2.2.2.2.2.2 y y0 y1 hy
  obtain ⟨mc, sc⟩ := h.2.2.2.2.2.2.2.2 c c0 c1 hc
  have wy := h.2.1.2.2.2.1 y y0 y1 hy
  have wc := h.2.1.2.2.2.1 c c0 c1 hc
  have q := cfg_s h
  have e := cm_at h hi (n := nw y) (f := c) (by omega) wy.2 c0 c1
  rw [my, sy] at e
  rw [e]
  have ec := h.2.2.2.1.1 y c y0 y1 hy c0 c1 hc (Ne.symm cy)
  have sk := sx_ok y0 y1 c0 c1
  unfold evm
  rw [ec, if_neg (by omega), show (32 * nw c + sx y c) / 32 = nw c by omega, show (32 * nw c + sx y c) % 32 = sx y c by omega, mc, sc, sy]
/-- value codes -/
theorem cv_32 {n p : Int} (n0 : 0 ≤ n) (p0 : 0 ≤ p) (p1 : p < 24) : cv (32 * n + p) = 24 * n + p := by
  unfold cv
  rw [if_neg (by omega), show (32 * n + p) / 32 = n by omega, show (32 * n + p) % 32 = p by omega]
theorem mq_in {t : Int} {G : Int → Int} {a : Int} {X : Int → Prop} {nw : Int → Int} {s t' : Int} {H T C go gl : Int → Int} {gm : Int} {cl : Int → Int} {cm : Int} {la : Int → Int} {e : Int} {ix jn nu M Sg : Int → Int} {Mi : Int → Int} (h : CFG t G a X nw s t' H T C go gl gm cl cm la e ix jn nu M Sg) (hi : MIV X nw s jn Mi) {F : Int} (F0 : 0 ≤ F) (F1 : F < 4 * t) (hF : 0 ≤ H F) (g : 0 ≤ G F) : (0 ≤ mq G H T Sg F ∧ mq G H T Sg F < 24) ∧ 0 ≤ H (pt G F) ∧ (0 ≤ M (H (pt G F)) ∧ M (H (pt G F)) < t') ∧ 0 ≤ CMd t' C M Mi Sg (mpos H T M Sg F) ∧ cv (CMd t' C M Mi Sg (mpos H T M Sg F)) = mval G H T M Sg F := by
  have hG := h.1
  have hF' := su_cl hG (cfg_su h).1 F0 F1 hF g
  obtain ⟨p0, p1, p2, p3, p4, p5, p6, p7, p8⟩ := pt_pt hG F0 F1 g
  obtain ⟨t1, -⟩ := tau_in h hi F0 F1 hF
  obtain ⟨t2, -, -, t3⟩ := tau_in h hi p0 p1 hF'
  have v := iv_in t1.1 t1.2
  have k1 := af_in p4 p5 v.1 v.2
  have k2 := af_in t2.1 t2.2 k1.1 k1.2
  have e := cm_F h hi F0 F1 hF
  rw [if_neg (by omega)] at e
  have k2' : 0 ≤ mq G H T Sg F ∧ mq G H T Sg F < 24 := k2
  refine ⟨k2', hF', t3, by rw [e]; omega, ?_⟩
  rw [e, cv_32 t3.1 k2'.1 k2'.2]
  rfl
theorem mq_pt {t : Int} {G : Int → Int} {a : Int} {X : Int → Prop} {nw : Int → Int} {s t' : Int} {H T C go gl : Int → Int} {gm : Int} {cl : Int → Int} {cm : Int} {la : Int → Int} {e : Int} {ix jn nu M Sg : Int → Int} {Mi : Int → Int} (h : CFG t G a X nw s t' H T C go gl gm cl cm la e ix jn nu M Sg) (hi : MIV X nw s jn Mi) {F : Int} (F0 : 0 ≤ F) (F1 : F < 4 * t) (hF : 0 ≤ H F) (g : 0 ≤ G F) : mval G H T M Sg (pt G F) = 24 * M (H F) + iv (mq G H T Sg F) := by
  have hG := h.1
  have hF' := su_cl hG (cfg_su h).1 F0 F1 hF g
  obtain ⟨p0, p1, p2, p3, p4, p5, p6, p7, p8⟩ := pt_pt hG F0 F1 g
  obtain ⟨t1, -⟩ := tau_in h hi F0 F1 hF
  obtain ⟨t2, -, -, t3⟩ := tau_in h hi p0 p1 hF'
  have v := iv_in t1.1 t1.2
  have v2 := iv_in t2.1 t2.2
  have vp := iv_in p4 p5
  have k1 := af_in p4 p5 v.1 v.2
  unfold mval mq
  rw [p7, iv_af t2.1 t2.2 k1.1 k1.2, iv_af p4 p5 v.1 v.2, iv_iv t1.1 t1.2, p6, show (32 * (F / 4) + iv (G F % 32)) % 32 = iv (G F % 32) by omega, af_as t1.1 t1.2 vp.1 vp.2 v2.1 v2.2]
/-- a face of a tet that stays -/
theorem st_F {t : Int} {G : Int → Int} {a : Int} {X : Int → Prop} {nw : Int → Int} {s t' : Int} {H T C go gl : Int → Int} {gm : Int} {cl : Int → Int} {cm : Int} {la : Int → Int} {e : Int} {ix jn nu M Sg : Int → Int} (h : CFG t G a X nw s t' H T C go gl gm cl cm la e ix jn nu M Sg) {F : Int} (F0 : 0 ≤ F) (F1 : F < 4 * t) (hF : ¬ gS G a X (F / 4)) : H F = sty (gS G a X) (F / 4) ∧ 0 ≤ H F ∧ H F < s ∧ M (H F) = H F ∧ tau H T Sg F = 0 ∧ mpos H T M Sg F = 4 * sty (gS G a X) (F / 4) + F % 4 := by
  obtain ⟨u1, u2⟩ := h.2.2.1.1 F F0 F1 hF
  have q := cfg_s h
  have b := sty_in (gS G a X) (i := F / 4) (by omega)
  have l := sty_lt (S := gS G a X) (i := F / 4) (j := t) (by omega) (by omega) hF
  obtain ⟨m1, m2⟩ := h.2.2.2.2.2.2.2.1 (H F) (by omega) (by omega)
  have e : tau H T Sg F = 0 := by
    unfold tau
    rw [m2, u2]
    decide +kernel
  refine ⟨u1, by omega, by omega, m1, e, ?_⟩
  unfold mpos
  rw [e, m1, u1, im_id (by omega) (by omega)]
/-- the going ones -/
theorem go_S {t : Int} {G : Int → Int} {a : Int} {X : Int → Prop} {nw : Int → Int} {s t' : Int} {H T C go gl : Int → Int} {gm : Int} {cl : Int → Int} {cm : Int} {la : Int → Int} {e : Int} {ix jn nu M Sg : Int → Int} (h : CFG t G a X nw s t' H T C go gl gm cl cm la e ix jn nu M Sg) {i : Int} (i0 : 0 ≤ i) (i1 : i < gm) : gS G a X (go i) ∧ 0 ≤ go i ∧ go i < t := by
  have hh := h
  obtain ⟨hG, hF, -, -, hL, -⟩ := hh
  rcases Int.lt_or_le 0 i with z | z
  · obtain ⟨x, x0, x1, hx, ex⟩ := hL.2.2.2 i (by omega) i1
    have b := bx_in hG hF x0 x1 hx
    have := (hL.2.2.1 x x0 x1 hx).2.2.1
    rw [← ex, this]
    exact ⟨Or.inr ⟨x, x0, x1, hx, rfl⟩, b.1, b.2.1⟩
  · have : i = 0 := by omega
    rw [this, hL.2.1.2.2.1]
    exact ⟨Or.inl rfl, hF.1.1, hF.1.2.1⟩
theorem go_ex {t : Int} {G : Int → Int} {a : Int} {X : Int → Prop} {nw : Int → Int} {s t' : Int} {H T C go gl : Int → Int} {gm : Int} {cl : Int → Int} {cm : Int} {la : Int → Int} {e : Int} {ix jn nu M Sg : Int → Int} (h : CFG t G a X nw s t' H T C go gl gm cl cm la e ix jn nu M Sg) {n : Int} (hn : gS G a X n) : ∃ i, 0 ≤ i ∧ i < gm ∧ go i = n := by
  obtain ⟨-, -, -, -, hL, -⟩ := h
  rcases hn with e | ⟨x, x0, x1, hx, e⟩
  · exact ⟨0, by omega, by have := hL.2.1.1; omega, by rw [hL.2.1.2.2.1, e]⟩
  · obtain ⟨a1, a2, a3, -⟩ := hL.2.2.1 x x0 x1 hx
    exact ⟨ix x, by omega, a2, by rw [a3, e]⟩
theorem go_in {t : Int} {G : Int → Int} {a : Int} {X : Int → Prop} {nw : Int → Int} {s t' : Int} {H T C go gl : Int → Int} {gm : Int} {cl : Int → Int} {cm : Int} {la : Int → Int} {e : Int} {ix jn nu M Sg : Int → Int} (h : CFG t G a X nw s t' H T C go gl gm cl cm la e ix jn nu M Sg) {i i' : Int} (i0 : 0 ≤ i) (i1 : i < gm) (i0' : 0 ≤ i') (i1' : i' < gm) (e : go i = go i') : i = i' := by
  have hh := h
  obtain ⟨hG, hF, -, -, hL, -⟩ := hh
  have A : ∀ i, 0 ≤ i → i < gm → (i = 0 ∧ go i = a) ∨ ∃ x, 0 ≤ x ∧ x < 4 ∧ X x ∧ ix x = i ∧ go i = bX G a x := fun i i0 i1 => by
    rcases Int.lt_or_le 0 i with z | z
    · obtain ⟨x, x0, x1, hx, ex⟩ := hL.2.2.2 i (by omega) i1
      exact Or.inr ⟨x, x0, x1, hx, ex, by rw [← ex]; exact (hL.2.2.1 x x0 x1 hx).2.2.1⟩
    · have : i = 0 := by omega
      exact Or.inl ⟨this, by rw [this]; exact hL.2.1.2.2.1⟩
  rcases A i i0 i1 with ⟨z1, z2⟩ | ⟨x, x0, x1, hx, z1, z2⟩ <;> rcases A i' i0' i1' with ⟨w1, w2⟩ | ⟨x', x0', x1', hx', w1, w2⟩
  · rw [z1, w1]
  · exact absurd (by rw [← w2, ← e, z2]) (hF.2.1 x' x0' x1' hx').2
  · exact absurd (by rw [← z2, e, w2]) (hF.2.1 x x0 x1 hx).2
  · by_cases q : x = x'
    · rw [← z1, ← w1, q]
    · exact absurd (by rw [← z2, e, w2]) (hF.2.2.1 x x' x0 x1 x0' x1' hx hx' q).1
/-! what is laid so far -/
def PT (CM T : Int → Int) (D : Int → Prop) : Prop := (∀ k, 0 ≤ k → k < 32 → T (1 + k) = -1 ∨ (0 ≤ CM k ∧ T (1 + k) = cv (CM k))) ∧ ∀ k, D k → T (1 + k) = cv (CM k)
theorem pt_put {CM T : Int → Int} {D D' : Int → Prop} {k0 v : Int} (h : PT CM T D) (k1 : 0 ≤ k0) (k2 : k0 < 32) (c : 0 ≤ CM k0) (hv : v = cv (CM k0)) (hD : ∀ k, D' k → D k ∨ k = k0) : PT CM (uf T (1 + k0) v) D' := by
  refine ⟨fun k a0 a1 => ?_, fun k hk => ?_⟩
  · by_cases z : k = k0
    · rw [z, uf_s]; exact Or.inr ⟨c, hv⟩
    · rw [uf_n (by omega)]; exact h.1 k a0 a1
  · by_cases z : k = k0
    · rw [z, uf_s]; exact hv
    · rw [uf_n (by omega)]
      rcases hD k hk with y | y
      · exact h.2 k y
      · exact absurd y z
theorem pt_mono {CM T : Int → Int} {D D' : Int → Prop} (h : PT CM T D) (hD : ∀ k, D' k → D k) : PT CM T D' := ⟨h.1, fun k hk => h.2 k (hD k hk)⟩
def D1 (t : Int) (G : Int → Int) (a : Int) (X : Int → Prop) (H T M Sg : Int → Int) (n k : Int) : Prop := ∃ F, 0 ≤ F ∧ F < n ∧ F < 4 * t ∧ ¬ gS G a X (F / 4) ∧ 0 ≤ G F ∧ ¬ gS G a X (G F / 32) ∧ k = mpos H T M Sg F
def D2 (X : Int → Prop) (s : Int) (jn nu : Int → Int) (n k : Int) : Prop := ∃ y c, 0 ≤ y ∧ y < 4 ∧ ¬ X y ∧ 0 ≤ c ∧ c < 4 ∧ ¬ X c ∧ c ≠ y ∧ 4 * jn y + im (nu y) c < n ∧ k = 4 * (s + jn y) + im (nu y) c
def D3 (G : Int → Int) (a : Int) (X : Int → Prop) (H T M Sg go : Int → Int) (n k : Int) : Prop := ∃ i f, 0 ≤ i ∧ 0 ≤ f ∧ f < 4 ∧ 4 * i + f < n ∧ 0 ≤ H (4 * go i + f) ∧ 0 ≤ G (4 * go i + f) ∧ (k = mpos H T M Sg (4 * go i + f) ∨ (¬ gS G a X (G (4 * go i + f) / 32) ∧ k = mpos H T M Sg (pt G (4 * go i + f))))
theorem d_all {t : Int} {G : Int → Int} {a : Int} {X : Int → Prop} {nw : Int → Int} {s t' : Int} {H T C go gl : Int → Int} {gm : Int} {cl : Int → Int} {cm : Int} {la : Int → Int} {e : Int} {ix jn nu M Sg : Int → Int} {Mi : Int → Int} (h : CFG t G a X nw s t' H T C go gl gm cl cm la e ix jn nu M Sg) (hi : MIV X nw s jn Mi) {k : Int} (k0 : 0 ≤ k) (k1 : k < 4 * t') (hk : 0 ≤ CMd t' C M Mi Sg k) : (D1 t G a X H T M Sg (4 * t) k ∨ D2 X s jn nu (4 * cm) k) ∨ D3 G a X H T M Sg go (4 * gm) k := by
  have hG := h.1
  have q := cfg_s h
  have goF : ∀ F, 0 ≤ F → F < 4 * t → gS G a X (F / 4) → 0 ≤ H F → 0 ≤ G F → ∀ k, (k = mpos H T M Sg F ∨ (¬ gS G a X (G F / 32) ∧ k = mpos H T M Sg (pt G F))) → D3 G a X H T M Sg go (4 * gm) k := by
    intro F F0 F1 hS hH g k hk
    obtain ⟨i, i0, i1, ei⟩ := go_ex h hS
    have e : 4 * go i + F % 4 = F := by rw [ei]; omega
    exact ⟨i, F % 4, i0, by omega, by omega, by omega, by rw [e]; exact hH, by rw [e]; exact g, by rw [e]; exact hk⟩
  have free : ∀ F, 0 ≤ F → F < 4 * t → 0 ≤ H F → k = mpos H T M Sg F → 0 ≤ G F := by
    intro F F0 F1 hH e
    rcases Int.lt_or_le (G F) 0 with z | z
    · have := cm_F h hi F0 F1 hH
      rw [if_pos z, ← e] at this
      omega
    · exact z
  rcases Int.lt_or_le k (4 * s) with z | z
  · obtain ⟨i, i0, i1, i2, i3⟩ := sty_sur (S := gS G a X) t.toNat (k / 4) (by omega) (by rw [Int.toNat_of_nonneg (by omega)]; omega)
    rw [Int.toNat_of_nonneg (by omega)] at i1
    have e4 : (4 * i + k % 4) / 4 = i := by omega
    have e5 : (4 * i + k % 4) % 4 = k % 4 := by omega
    obtain ⟨-, s1, -, -, -, s5⟩ := st_F h (F := 4 * i + k % 4) (by omega) (by omega) (by rw [e4]; exact i2)
    rw [e4, e5, i3] at s5
    have ek : k = mpos H T M Sg (4 * i + k % 4) := by omega
    have g := free (4 * i + k % 4) (by omega) (by omega) s1 ek
    obtain ⟨p0, p1, p2, p3, p4, p5, p6, p7, p8⟩ := pt_pt hG (k := 4 * i + k % 4) (by omega) (by omega) g
    by_cases w : gS G a X (G (4 * i + k % 4) / 32)
    · right
      have hH' := su_cl hG (cfg_su h).1 (show 0 ≤ 4 * i + k % 4 by omega) (by omega) s1 g
      refine goF (pt G (4 * i + k % 4)) p0 p1 (by rw [p2]; exact w) hH' (by have := iv_in p4 p5; omega) k (Or.inr ⟨?_, by rw [p7]; exact ek⟩)
      rw [p6, show (32 * ((4 * i + k % 4) / 4) + iv (G (4 * i + k % 4) % 32)) / 32 = i by have := iv_in p4 p5; omega]
      exact i2
    · exact Or.inl (Or.inl ⟨4 * i + k % 4, by omega, by omega, by omega, by rw [e4]; exact i2, g, w, ek⟩)
  · obtain ⟨y, y0, y1, hy, ey⟩ := h.2.2.2.2.2.1.2.2.2 (k / 4 - s) (by omega) (by omega)
    obtain ⟨j0, j1, n0, -⟩ := h.2.2.2.2.2.1.2.1 y y0 y1 hy
    have v := iv_in n0.1 n0.2
    have w := im_in v.1 v.2 (show 0 ≤ k % 4 by omega) (show k % 4 < 4 by omega)
    have e2 := (im_mi n0.1 n0.2 (show 0 ≤ k % 4 by omega) (show k % 4 < 4 by omega)).2
    have ek : k = 4 * (s + jn y) + im (nu y) (im (iv (nu y)) (k % 4)) := by rw [e2]; omega
    generalize im (iv (nu y)) (k % 4) = c at w ek
    have wc := im_in n0.1 n0.2 w.1 w.2
    have hFa := h.2.1.1
    by_cases hc : X c
    · right
      obtain ⟨b1, b2, b3⟩ := hm_x h w.1 w.2 hc y0 y1 hy
      have b := bx_in hG h.2.1 w.1 w.2 hc
      obtain ⟨f0, f1, f2, f3, f4⟩ := fl_in hG h.2.1 w.1 w.2 hc y0 y1
      have hH : 0 ≤ H (fX G a c y) := by
        rw [b1]
        have := h.2.1.2.2.2.1 y y0 y1 hy
        omega
      have cy : c ≠ y := fun z => hy (by rw [← z]; exact hc)
      have em : k = mpos H T M Sg (fX G a c y) := by
        have sk := sx_ok w.1 w.2 y0 y1
        have vp := iv_in b.2.2.1 b.2.2.2.1
        have wy := im_in b.2.2.1 b.2.2.2.1 y0 y1
        have k1 := af_in sk.1 sk.2.1 vp.1 vp.2
        unfold mpos
        rw [b2, b3, f3, im_af n0.1 n0.2 k1.1 k1.2 wy.1 wy.2, im_af sk.1 sk.2.1 vp.1 vp.2 wy.1 wy.2, (im_mi b.2.2.1 b.2.2.2.1 y0 y1).1, sk.2.2.2.1]
        exact ek
      exact goF _ f0 f1 f4 hH (free _ f0 f1 hH em) k (Or.inl em)
    · by_cases cy : c = y
      · right
        obtain ⟨b1, b2, b3⟩ := hm_a h y0 y1 hy
        have hH : 0 ≤ H (4 * a + y) := by
          rw [b1]
          have := h.2.1.2.2.2.1 y y0 y1 hy
          omega
        have em : k = mpos H T M Sg (4 * a + y) := by
          unfold mpos
          rw [b2, b3, show (4 * a + y) % 4 = y by omega, ← cy]
          rw [cy] at ek ⊢
          exact ek
        exact goF _ (by omega) (by omega) (by rw [show (4 * a + y) / 4 = a by omega]; exact Or.inl rfl) hH (free _ (by omega) (by omega) hH em) k (Or.inl em)
      · exact Or.inl (Or.inr ⟨y, c, y0, y1, hy, w.1, w.2, hc, cy, by omega, ek⟩)
theorem pt_end {t : Int} {G : Int → Int} {a : Int} {X : Int → Prop} {nw : Int → Int} {s t' : Int} {H T C go gl : Int → Int} {gm : Int} {cl : Int → Int} {cm : Int} {la : Int → Int} {e : Int} {ix jn nu M Sg : Int → Int} {Mi : Int → Int} (h : CFG t G a X nw s t' H T C go gl gm cl cm la e ix jn nu M Sg) (hi : MIV X nw s jn Mi) {Th : Int → Int} (hp : PT (CMd t' C M Mi Sg) Th (fun k => (D1 t G a X H T M Sg (4 * t) k ∨ D2 X s jn nu (4 * cm) k) ∨ D3 G a X H T M Sg go (4 * gm) k)) (h0 : Th 0 = t') : AG t' (CMd t' C M Mi Sg) Th := by
  refine ⟨h0, fun j j0 j1 => ?_⟩
  rcases Int.lt_or_le (CMd t' C M Mi Sg j) 0 with z | z
  · rw [cv_n z]
    rcases hp.1 j j0 j1 with w | ⟨w, -⟩
    · exact w
    · omega
  · have : j < 4 * t' := by
      rcases Int.lt_or_le j (4 * t') with y | y
      · exact y
      · rw [cm_out y] at z; omega
    exact hp.2 j (d_all h hi j0 this z)
