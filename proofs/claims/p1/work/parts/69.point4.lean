theorem three_of {v : Int} (v0 : 0 ≤ v) (v1 : v < 4) : ∃ x y z, (0 ≤ x ∧ x < 4 ∧ x ≠ v) ∧ (0 ≤ y ∧ y < 4 ∧ y ≠ v) ∧ (0 ≤ z ∧ z < 4 ∧ z ≠ v) ∧ x ≠ y ∧ x ≠ z ∧ y ≠ z ∧ ∀ w, 0 ≤ w → w < 4 → w ≠ v → w = x ∨ w = y ∨ w = z := by
  rcases four_of v0 v1 with e | e | e | e <;> subst e
  · exact ⟨1, 2, 3, by omega, by omega, by omega, by omega, by omega, by omega, fun w a b c => by omega⟩
  · exact ⟨0, 2, 3, by omega, by omega, by omega, by omega, by omega, by omega, fun w a b c => by omega⟩
  · exact ⟨0, 1, 3, by omega, by omega, by omega, by omega, by omega, by omega, fun w a b c => by omega⟩
  · exact ⟨0, 1, 2, by omega, by omega, by omega, by omega, by omega, by omega, fun w a b c => by omega⟩
/-- the third beside two of the corners beside v -/
theorem third_of {v x y : Int} (v0 : 0 ≤ v ∧ v < 4) (x0 : 0 ≤ x ∧ x < 4) (y0 : 0 ≤ y ∧ y < 4) (xv : x ≠ v) (yv : y ≠ v) (xy : x ≠ y) : ∃ w, 0 ≤ w ∧ w < 4 ∧ w ≠ v ∧ w ≠ x ∧ w ≠ y := by
  rcases four_of v0.1 v0.2 with e | e | e | e <;> rcases four_of x0.1 x0.2 with f | f | f | f <;> rcases four_of y0.1 y0.2 with g | g | g | g <;> subst e <;> subst f <;> subst g
  all_goals first
    | exact absurd rfl xv
    | exact absurd rfl yv
    | exact absurd rfl xy
    | exact ⟨0, by decide, by decide, by decide, by decide, by decide⟩
    | exact ⟨1, by decide, by decide, by decide, by decide, by decide⟩
    | exact ⟨2, by decide, by decide, by decide, by decide, by decide⟩
    | exact ⟨3, by decide, by decide, by decide, by decide, by decide⟩
/-- at a corner of a point of four: three faces, glued to three other tets -/
theorem q4 {t : Int} {G E P : Int → Int} {k c : Int} (hG : VG t G) (h : C4 t G E P k) (hc : oC t c) (hp : P c = P k) : (∀ f, 0 ≤ f → f < 4 → f ≠ c % 4 → 0 ≤ G (4 * (c / 4) + f) ∧ G (4 * (c / 4) + f) / 32 < t ∧ G (4 * (c / 4) + f) / 32 ≠ c / 4) ∧ ∀ f g, 0 ≤ f → f < 4 → f ≠ c % 4 → 0 ≤ g → g < 4 → g ≠ c % 4 → f ≠ g → G (4 * (c / 4) + f) / 32 ≠ G (4 * (c / 4) + g) / 32 := by
  have ht := hG.1
  have hc2 := hc
  unfold oC at hc2
  obtain ⟨h1, ⟨h2, -⟩, h3, m, h4, h5⟩ := h
  have gl : ∀ f, 0 ≤ f → f < 4 → f ≠ c % 4 → 0 ≤ G (4 * (c / 4) + f) ∧ 0 ≤ G (4 * (c / 4) + f) / 32 ∧ G (4 * (c / 4) + f) / 32 < t := by
    intro f f0 f1 fc
    rcases Int.lt_or_le (G (4 * (c / 4) + f)) 0 with z | z
    · exfalso
      have d1 : (4 * c + f) / 4 = c := by omega
      have d2 : (4 * c + f) % 4 = f := by omega
      have d3 : (4 * c + f) / 16 = c / 4 := by omega
      have := ct_list (P := sP P G (P k)) (n := (16 * t).toNat) [4 * c + f] (fun q hq => by
        rw [List.mem_singleton] at hq
        rw [hq]
        refine ⟨by omega, by omega, ?_⟩
        unfold sP
        rw [d1, d2, d3]
        exact ⟨hp, fc, z⟩) (by simp)
      have h2 : ct (sP P G (P k)) (16 * t).toNat = 0 := h2
      rw [h2] at this
      have this : (1 : Int) ≤ 0 := this
      omega
    · refine ⟨z, by omega, ?_⟩
      rcases hG.2.1 (4 * (c / 4) + f) (by omega) (by omega) with y | y
      · omega
      · exact y.2.1
  obtain ⟨x, y, z, ⟨x0, x1, xc⟩, ⟨y0, y1, yc⟩, ⟨z0, z1, zc⟩, xy, xz, yz, hw⟩ := three_of (m4 c).1 (m4 c).2
  have gx := gl x x0 x1 xc
  have gy := gl y y0 y1 yc
  have gz := gl z z0 z1 zc
  generalize ex : G (4 * (c / 4) + x) / 32 = dx at *
  generalize ey : G (4 * (c / 4) + y) / 32 = dy at *
  generalize ez : G (4 * (c / 4) + z) / 32 = dz at *
  have hS := h3 c hc2.1 hc2.2 hp
  have em : m = bi_or (bi_or (bi_or (bi_shl 1 (c / 4)) (bi_shl 1 dx)) (bi_shl 1 dy)) (bi_shl 1 dz) := by
    refine (mk_eq h4 (mk_or (mk_or (mk_or (mk_1 (j := c / 4) (by omega) (by omega)) gx.2.1 (by omega)) gy.2.1 (by omega)) gz.2.1 (by omega))).mpr (fun i i0 i1 => ?_)
    rw [← hS i i0 i1]
    constructor
    · rintro (⟨f, f0, f1, f2, f3, f4⟩ | e)
      · rcases hw f f0 f1 f2 with e | e | e
        · subst e; rw [ex] at f4; exact Or.inl (Or.inl (Or.inr f4.symm))
        · subst e; rw [ey] at f4; exact Or.inl (Or.inr f4.symm)
        · subst e; rw [ez] at f4; exact Or.inr f4.symm
      · exact Or.inl (Or.inl (Or.inl e))
    · rintro (((e | e) | e) | e)
      · exact Or.inr e
      · exact Or.inl ⟨x, x0, x1, xc, gx.1, by rw [ex]; exact e.symm⟩
      · exact Or.inl ⟨y, y0, y1, yc, gy.1, by rw [ey]; exact e.symm⟩
      · exact Or.inl ⟨z, z0, z1, zc, gz.1, by rw [ez]; exact e.symm⟩
  have p := pc_4 (a := (c / 4).toNat) (b := dx.toNat) (c := dy.toNat) (e := dz.toNat) (by omega) (by omega) (by omega) (by omega)
  rw [Int.toNat_of_nonneg (by omega), Int.toNat_of_nonneg gx.2.1, Int.toNat_of_nonneg gy.2.1, Int.toNat_of_nonneg gz.2.1, ← em] at p
  obtain ⟨n1, n2, n3, n4, n5, n6⟩ := p.mp h5
  have r1 : dx ≠ c / 4 := fun e => n1 (by rw [e])
  have r2 : dy ≠ c / 4 := fun e => n2 (by rw [e])
  have r3 : dz ≠ c / 4 := fun e => n3 (by rw [e])
  have r4 : dx ≠ dy := fun e => n4 (by rw [e])
  have r5 : dx ≠ dz := fun e => n5 (by rw [e])
  have r6 : dy ≠ dz := fun e => n6 (by rw [e])
  refine ⟨fun f f0 f1 fc => ⟨(gl f f0 f1 fc).1, (gl f f0 f1 fc).2.2, ?_⟩, fun f g f0 f1 fc g0 g1 gc fg => ?_⟩
  · rcases hw f f0 f1 fc with e | e | e <;> subst e
    · rw [ex]; exact r1
    · rw [ey]; exact r2
    · rw [ez]; exact r3
  · rcases hw f f0 f1 fc with e | e | e <;> rcases hw g g0 g1 gc with d | d | d <;> subst e <;> subst d
    · exact absurd rfl fg
    · rw [ex, ey]; exact r4
    · rw [ex, ez]; exact r5
    · rw [ex, ey]; exact Ne.symm r4
    · exact absurd rfl fg
    · rw [ey, ez]; exact r6
    · rw [ex, ez]; exact Ne.symm r5
    · rw [ey, ez]; exact Ne.symm r6
    · exact absurd rfl fg
/-- an end beyond a face is at the corner beyond it -/
theorem nE_nC {t : Int} {G : Int → Int} (hG : VG t G) {f y : Int} (hy : oE t y) (f0 : 0 ≤ f) (f1 : f < 4) (h1 : f ≠ y / 4 % 4) (h2 : f ≠ y % 4) (h3 : 0 ≤ G (4 * (y / 16) + f)) : nE G f y / 4 = nC G f (y / 4) ∧ 0 ≤ nC G f (y / 4) ∧ oC t (y / 4) := by
  obtain ⟨q1, d1, d2, d3, p4, p5⟩ := nE_parts hG hy f0 f1 h1 h2 h3
  have e4 : y / 4 / 4 = y / 16 := by omega
  have hn : nC G f (y / 4) = 4 * (G (4 * (y / 16) + f) / 32) + im (G (4 * (y / 16) + f) % 32) (y / 4 % 4) := by
    unfold nC
    rw [e4, if_neg (by rintro (w | w); exact h1 w; omega)]
  have iu := im_in p4 p5 (m4 (y / 4)).1 (m4 (y / 4)).2
  have e5 : nE G f y / 4 / 4 = nE G f y / 16 := by omega
  refine ⟨?_, ?_, ?_⟩
  · rw [hn, ← d1, ← d2]
    omega
  · rw [hn]
    clear h1 h2 hn d1 d2 d3 e5
    omega
  · have a := hy.1
    have b := hy.2.1
    clear h1 h2 hn d1 d2 d3 e5 hy
    unfold oC
    omega
theorem P_n {t : Int} {G E P : Int → Int} (hB : BP t G E P) (hG : VG t G) {f y : Int} (hy : oE t y) (f0 : 0 ≤ f) (f1 : f < 4) (h : 0 ≤ nE G f y) : P (nE G f y / 4) = P (y / 4) := by
  have hq : ¬ (f = y / 4 % 4 ∨ f = y % 4 ∨ G (4 * (y / 16) + f) < 0) := fun z => by
    unfold nE at h
    rw [if_pos z] at h
    omega
  obtain ⟨a, b, c⟩ := nE_nC hG hy f0 f1 (fun w => hq (Or.inl w)) (fun w => hq (Or.inr (Or.inl w))) (by rcases Int.lt_or_le (G (4 * (y / 16) + f)) 0 with w | w; exact absurd (Or.inr (Or.inr w)) hq; exact w)
  rw [a]
  exact hB.2.2.1.2 _ f c f0 f1 b
/-- an end at the point, and the two beside it -/
theorem cls3 {t : Int} {G E P : Int → Int} {k y f g : Int} (hB : BP t G E P) (hG : VG t G) (h : C4 t G E P k) (hy : oE t y) (hp : P (y / 4) = P k) (f0 : 0 ≤ f) (f1 : f < 4) (fu : f ≠ y / 4 % 4) (fv : f ≠ y % 4) (g0 : 0 ≤ g) (g1 : g < 4) (gu : g ≠ y / 4 % 4) (gv : g ≠ y % 4) (fg : f ≠ g) : (0 ≤ G (4 * (y / 16) + f) ∧ 0 ≤ nE G f y ∧ oE t (nE G f y) ∧ E (nE G f y) = E y ∧ P (nE G f y / 4) = P k) ∧ (nE G f y ≠ y ∧ nE G f y ≠ nE G g y) ∧ G (4 * (y / 16) + f) / 32 ≠ y / 16 ∧ G (4 * (y / 16) + f) / 32 ≠ G (4 * (y / 16) + g) / 32 := by
  have e4 : y / 4 / 4 = y / 16 := by omega
  have ho : oC t (y / 4) := by
    have a := hy.1
    have b := hy.2.1
    clear fu fv gu gv fg hy
    unfold oC
    omega
  obtain ⟨q1, q2⟩ := q4 hG h ho hp
  obtain ⟨a1, a2, a3⟩ := q1 f f0 f1 fu
  obtain ⟨b1, b2, b3⟩ := q1 g g0 g1 gu
  have c1 := q2 f g f0 f1 fu g0 g1 gu fg
  rw [e4] at a1 a2 a3 b1 b2 b3 c1
  obtain ⟨x1, x2, x3, x4, x5, x6⟩ := nE_parts hG hy f0 f1 fu fv a1
  obtain ⟨z1, z2, z3, z4, z5, z6⟩ := nE_parts hG hy g0 g1 gu gv b1
  obtain ⟨-, w2, w3, -⟩ := eg_n hB hG hy f0 f1 x1
  refine ⟨⟨a1, x1, w2, w3, by rw [P_n hB hG hy f0 f1 x1]; exact hp⟩, ⟨fun e => ?_, fun e => ?_⟩, a3, c1⟩
  · rw [e] at x2
    exact a3 x2.symm
  · rw [e, z2] at x2
    exact c1 x2.symm
theorem nodup3 {a b c : Int} (h1 : a ≠ b) (h2 : a ≠ c) (h4 : b ≠ c) : [a, b, c].Nodup := by
  simp only [List.nodup_cons, List.mem_cons, List.not_mem_nil, or_false, not_or, List.nodup_nil, and_true, not_false_eq_true]
  exact ⟨⟨h1, h2⟩, h4⟩
/-- no four ends at a point of four are one -/
theorem no4 {t : Int} {G E P : Int → Int} {k a b c e : Int} (hB : BP t G E P) (hG : VG t G) (h : C4 t G E P k) (hk : oC t k) (ha : oE t a ∧ P (a / 4) = P k) (hb : oE t b ∧ P (b / 4) = P k ∧ E b = E a) (hc : oE t c ∧ P (c / 4) = P k ∧ E c = E a) (he : oE t e ∧ P (e / 4) = P k ∧ E e = E a) (hn : [e, a, b, c].Nodup) : False := by
  have ht := hG.1
  obtain ⟨h1, ⟨h2, h6⟩, h3, m, h4, h5⟩ := h
  have hC : C4 t G E P k := ⟨h1, ⟨h2, h6⟩, h3, m, h4, h5⟩
  have n4 : ct (nP P E (P k)) (16 * t).toNat = 4 := by
    have h6 : nA P E (16 * t) (P k) - (3 * zA P (4 * t) (P k) + sA P G (16 * t) (P k)) / 2 + zA P (4 * t) (P k) = 2 := h6
    rw [h1, h2] at h6
    have h6 : ct (nP P E (P k)) (16 * t).toNat - (3 * 4 + 0) / 2 + 4 = 2 := h6
    omega
  have tot : ct (aP P (P k)) (16 * t).toNat = 12 := by
    have := ct_aP (P := P) (p := P k) (4 * t).toNat
    have h1 : ct (zP P (P k)) (4 * t).toNat = 4 := h1
    rw [h1, show 4 * (4 * t).toNat = (16 * t).toNat by omega] at this
    exact this
  have up : ∀ q : Int, q < 16 * t → q < (((16 * t).toNat : Nat) : Int) := fun q hq => by omega
  obtain ⟨l, l1, l2, l3⟩ := ct_get (P := nP P E (P k)) (16 * t).toNat
  rw [n4] at l2
  have r0 : E a ∈ l := by
    refine (l3 (E a)).mpr ?_
    have o := rp_ok (nb_E hG) hB.1 ha.1
    refine ⟨o.1, up _ o.2.1, ?_, ?_⟩
    · have := (hB.1.1 a ha.1).2.2 (fun y => P (y / 4)) (fun x f hx f0 f1 hn => P_n hB hG hx f0 f1 hn)
      have this : P (E a / 4) = P (a / 4) := this
      rw [this]
      exact ha.2
    · exact (hB.1.1 a ha.1).2.2 E hB.1.2
  have g1 := sm_ge (c := fun r => ct (fun y => aP P (P k) y ∧ E y = r) (16 * t).toNat) (r0 := E a) l (fun r hr => ?_) (fun _ => ?_) l1
  · have g2 := g1.2 r0
    have g3 := sm_le (A := aP P (P k)) (E := E) (n := (16 * t).toNat) l l1
    have g4 := ct_mono (P := aP P (P k)) (R := fun y => aP P (P k) y ∧ E y ∈ l) (16 * t).toNat (fun j _ _ w => w.1)
    rw [tot] at g4
    rw [l2] at g2
    omega
  · obtain ⟨a0, a1, a2, a3⟩ := (l3 r).mp hr
    have ho : oE t r := by
      by_cases z : oE t r
      · exact z
      · have := hB.2.1 r a0 (by omega) z
        omega
    obtain ⟨p, q, p0, p1, q0, q1, pu, pv, qu, qv, pq, -⟩ := two_of (m4 (r / 4)).1 (m4 (r / 4)).2 (m4 r).1 (m4 r).2 ho.2.2
    obtain ⟨⟨-, -, w2, w3, w4⟩, ⟨w5, w6⟩, -⟩ := cls3 hB hG hC ho a2 p0 p1 pu pv q0 q1 qu qv (by omega)
    obtain ⟨⟨-, -, v2, v3, v4⟩, ⟨v5, v6⟩, -⟩ := cls3 hB hG hC ho a2 q0 q1 qu qv p0 p1 pu pv (by omega)
    have := ct_list (P := fun y => aP P (P k) y ∧ E y = r) (n := (16 * t).toNat) [r, nE G p r, nE G q r] (fun z hz => by
      simp only [List.mem_cons, List.not_mem_nil, or_false] at hz
      rcases hz with e | e | e
      · rw [e]; exact ⟨a0, a1, ⟨ho.2.2, a2⟩, a3⟩
      · rw [e]; exact ⟨w2.1, up _ w2.2.1, ⟨w2.2.2, w4⟩, by rw [w3]; exact a3⟩
      · rw [e]; exact ⟨v2.1, up _ v2.2.1, ⟨v2.2.2, v4⟩, by rw [v3]; exact a3⟩) (nodup3 (Ne.symm w5) (Ne.symm v5) w6)
    exact this
  · have := ct_list (P := fun y => aP P (P k) y ∧ E y = E a) (n := (16 * t).toNat) [e, a, b, c] (fun z hz => by
      simp only [List.mem_cons, List.not_mem_nil, or_false] at hz
      rcases hz with d | d | d | d
      · rw [d]; exact ⟨he.1.1, up _ he.1.2.1, ⟨he.1.2.2, he.2.1⟩, he.2.2⟩
      · rw [d]; exact ⟨ha.1.1, up _ ha.1.2.1, ⟨ha.1.2.2, ha.2⟩, rfl⟩
      · rw [d]; exact ⟨hb.1.1, up _ hb.1.2.1, ⟨hb.1.2.2, hb.2.1⟩, hb.2.2⟩
      · rw [d]; exact ⟨hc.1.1, up _ hc.1.2.1, ⟨hc.1.2.2, hc.2.1⟩, hc.2.2⟩) hn
    exact this
theorem fl_cl4 {t : Int} {G E P : Int → Int} {k : Int} (hG : VG t G) (hB : BP t G E P) (hk : oC t k) (h : C4 t G E P k) (x y : Int) (x0 : 0 ≤ x) (x1 : x < 4) (y0 : 0 ≤ y) (y1 : y < 4) (xv : x ≠ k % 4) (yv : y ≠ k % 4) (xy : x ≠ y) : 0 ≤ G (fX G (k / 4) x y) ∧ pt G (fX G (k / 4) x y) = fX G (k / 4) y x := by
  obtain ⟨w, w0, w1, wv, wx, wy⟩ := third_of (m4 k) ⟨x0, x1⟩ ⟨y0, y1⟩ xv yv xy
  have i1 : (4 * k + w) / 4 = k := by omega
  have i2 : (4 * k + w) % 4 = w := by omega
  have i3 : (4 * k + w) / 16 = k / 4 := by omega
  have ho : oE t (4 * k + w) := by
    refine ⟨?_, ?_, by rw [i1, i2]; exact Ne.symm wv⟩
    · have := hk.1; omega
    · have := hk.2; omega
  have xu' : x ≠ (4 * k + w) / 4 % 4 := by rw [i1]; exact xv
  have xv' : x ≠ (4 * k + w) % 4 := by rw [i2]; exact Ne.symm wx
  have yu' : y ≠ (4 * k + w) / 4 % 4 := by rw [i1]; exact yv
  have yv' : y ≠ (4 * k + w) % 4 := by rw [i2]; exact Ne.symm wy
  have hp : P ((4 * k + w) / 4) = P k := by rw [i1]
  obtain ⟨⟨a1, a2, a3, a4, a5⟩, ⟨a6, a7⟩, a8, a9⟩ := cls3 hB hG h ho hp x0 x1 xu' xv' y0 y1 yu' yv' xy
  obtain ⟨⟨b1, b2, b3, b4, b5⟩, ⟨b6, b7⟩, b8, b9⟩ := cls3 hB hG h ho hp y0 y1 yu' yv' x0 x1 xu' xv' (Ne.symm xy)
  obtain ⟨-, d1, d2, d3, p4, p5⟩ := nE_parts hG ho x0 x1 xu' xv' a1
  have iy := im_in p4 p5 y0 y1
  have ix := im_in p4 p5 x0 x1
  have ne := fun {c e : Int} (c0 : 0 ≤ c ∧ c < 4) (e0 : 0 ≤ e ∧ e < 4) (h : c ≠ e) => (fun z => h (im_ij p4 p5 c0.1 c0.2 e0.1 e0.2 z) : im (G (4 * ((4 * k + w) / 16) + x) % 32) c ≠ im (G (4 * ((4 * k + w) / 16) + x) % 32) e)
  have f1 : im (G (4 * ((4 * k + w) / 16) + x) % 32) y ≠ nE G x (4 * k + w) / 4 % 4 := by rw [d2]; exact ne ⟨y0, y1⟩ (m4 _) yu'
  have f2 : im (G (4 * ((4 * k + w) / 16) + x) % 32) y ≠ nE G x (4 * k + w) % 4 := by rw [d3]; exact ne ⟨y0, y1⟩ (m4 _) yv'
  have f3 : im (G (4 * ((4 * k + w) / 16) + x) % 32) x ≠ nE G x (4 * k + w) / 4 % 4 := by rw [d2]; exact ne ⟨x0, x1⟩ (m4 _) xu'
  have f4 : im (G (4 * ((4 * k + w) / 16) + x) % 32) x ≠ nE G x (4 * k + w) % 4 := by rw [d3]; exact ne ⟨x0, x1⟩ (m4 _) xv'
  obtain ⟨⟨c1, c2, c3, c4, c5⟩, ⟨c6, c7⟩, c8, c9⟩ := cls3 hB hG h a3 a5 iy.1 iy.2 f1 f2 ix.1 ix.2 f3 f4 (ne ⟨y0, y1⟩ ⟨x0, x1⟩ (Ne.symm xy))
  have gg : 0 ≤ G (fX G ((4 * k + w) / 16) x y) := by
    rw [d1] at c1
    exact c1
  have res := turn3 hG ho ⟨x0, x1⟩ ⟨y0, y1⟩ xu' xv' yu' yv' xy a1 b1 a8 b8 a9 gg (fun z hz => by
    have hz : z = nE G (im (G (4 * ((4 * k + w) / 16) + x) % 32) y) (nE G x (4 * k + w)) := hz
    by_cases w1 : z = 4 * k + w
    · exact Or.inl (Or.inl w1)
    by_cases w2 : z = nE G x (4 * k + w)
    · exact Or.inr (Or.inl (Or.inl w2))
    by_cases w3 : z = nE G y (4 * k + w)
    · exact Or.inr (Or.inr (Or.inl w3))
    exfalso
    exact no4 (a := 4 * k + w) (b := nE G x (4 * k + w)) (c := nE G y (4 * k + w)) (e := z) hB hG h hk ⟨ho, hp⟩ ⟨a3, a5, a4⟩ ⟨b3, b5, b4⟩ (by rw [hz]; exact ⟨c3, c5, c4.trans a4⟩) (nodup4 w1 w2 w3 (Ne.symm a6) (Ne.symm b6) a7))
  rw [i3] at gg res
  exact ⟨gg, res⟩
theorem fl_four {t : Int} {G E P : Int → Int} {k : Int} {X : Int → Prop} {nw : Int → Int} (hG : VG t G) (hB : BP t G E P) (hk : oC t k) (h : C4 t G E P k) (hX : ∀ x, 0 ≤ x → x < 4 → (X x ↔ x ≠ k % 4)) (hn : nw (k % 4) = sty (gS G (k / 4) X) t) : FL t G (k / 4) X nw (sty (gS G (k / 4) X) t) (sty (gS G (k / 4) X) t + 1) := by
  have ht := hG.1
  have hk2 := hk
  unfold oC at hk2
  have st := sty_in (gS G (k / 4) X) (show 0 ≤ t by omega)
  have st2 := sty_lt (S := fun i => ¬ gS G (k / 4) X i) (i := k / 4) (j := t) (by omega) (by omega) (fun w => w (Or.inl rfl))
  have st3 := sty_in (fun i => ¬ gS G (k / 4) X i) (show 0 ≤ k / 4 by omega)
  have st4 := ct_not (P := fun j => ¬ gS G (k / 4) X j) t.toNat
  have st5 : sty (gS G (k / 4) X) t + sty (fun i => ¬ gS G (k / 4) X i) t = t := by
    show ct (fun j => ¬ gS G (k / 4) X j) t.toNat + ct (fun j => ¬ ¬ gS G (k / 4) X j) t.toNat = t
    omega
  obtain ⟨q1, q2⟩ := q4 hG h hk rfl
  have hy : ∀ y, 0 ≤ y → y < 4 → ¬ X y → y = k % 4 := fun y y0 y1 w => Classical.byContradiction (fun e => w ((hX y y0 y1).mpr e))
  refine ⟨⟨by omega, by omega, rfl, by omega, by omega, by omega⟩, fun x x0 x1 hx => ?_, fun x x' x0 x1 x0' x1' hx hx' ne => ?_, fun y y0 y1 w => ?_, fun y y' y0 y1 y0' y1' w w' e => (hy y y0 y1 w).trans (hy y' y0' y1' w').symm, fun n a b => ⟨k % 4, (m4 k).1, (m4 k).2, fun w => (hX _ (m4 k).1 (m4 k).2).mp w rfl, by omega⟩⟩
  · have := q1 x x0 x1 ((hX x x0 x1).mp hx)
    exact ⟨this.1, this.2.2⟩
  · have a := (hX x x0 x1).mp hx
    have a' := (hX x' x0' x1').mp hx'
    exact ⟨q2 x x' x0 x1 a x0' x1' a' ne, fl_cl4 hG hB hk h x x' x0 x1 x0' x1' a a' ne⟩
  · rw [hy y y0 y1 w, hn]
    omega
