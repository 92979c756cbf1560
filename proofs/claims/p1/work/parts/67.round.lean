theorem oth4 {u v x y c : Int} (u0 : 0 ≤ u ∧ u < 4) (v0 : 0 ≤ v ∧ v < 4) (x0 : 0 ≤ x ∧ x < 4) (y0 : 0 ≤ y ∧ y < 4) (c0 : 0 ≤ c ∧ c < 4) (uv : u ≠ v) (ux : u ≠ x) (uy : u ≠ y) (vx : v ≠ x) (vy : v ≠ y) (xy : x ≠ y) (cu : c ≠ u) (cv : c ≠ v) : c = x ∨ c = y := by
  rcases four_of u0.1 u0.2 with e | e | e | e <;> rcases four_of v0.1 v0.2 with f | f | f | f <;> subst e <;> subst f <;> first | exact absurd rfl uv | omega
/-- ends by tet and corners -/
theorem end_p {w u v : Int} (u0 : 0 ≤ u) (u1 : u < 4) (v0 : 0 ≤ v) (v1 : v < 4) : (16 * w + 4 * u + v) / 16 = w ∧ (16 * w + 4 * u + v) / 4 % 4 = u ∧ (16 * w + 4 * u + v) % 4 = v := by
  refine ⟨by omega, ?_, by omega⟩
  rw [show (16 * w + 4 * u + v) / 4 = 4 * w + u by omega]
  omega
theorem nE_at {G : Int → Int} {f x : Int} (h : ¬ (f = x / 4 % 4 ∨ f = x % 4 ∨ G (4 * (x / 16) + f) < 0)) : nE G f x = 16 * (G (4 * (x / 16) + f) / 32) + 4 * im (G (4 * (x / 16) + f) % 32) (x / 4 % 4) + im (G (4 * (x / 16) + f) % 32) (x % 4) := by
  unfold nE
  rw [if_neg h]
/-- round an edge: if the third is the second from the other side, the faces are glued as they must -/
theorem turn3 {t : Int} {G : Int → Int} {k x y : Int} (hG : VG t G) (hk : oE t k) (x0 : 0 ≤ x ∧ x < 4) (y0 : 0 ≤ y ∧ y < 4) (xu : x ≠ k / 4 % 4) (xv : x ≠ k % 4) (yu : y ≠ k / 4 % 4) (yv : y ≠ k % 4) (xy : x ≠ y)
    (gx : 0 ≤ G (4 * (k / 16) + x)) (gy : 0 ≤ G (4 * (k / 16) + y)) (ba : bX G (k / 16) x ≠ k / 16) (ca : bX G (k / 16) y ≠ k / 16) (bc : bX G (k / 16) x ≠ bX G (k / 16) y) (gg : 0 ≤ G (fX G (k / 16) x y))
    (hz : ∀ z, z = nE G (im (pX G (k / 16) x) y) (nE G x k) → (z = k ∨ z = tr k) ∨ (z = nE G x k ∨ z = tr (nE G x k)) ∨ (z = nE G y k ∨ z = tr (nE G y k))) : pt G (fX G (k / 16) x y) = fX G (k / 16) y x := by
  have ht := hG.1
  have hk2 := hk
  unfold oE at hk2
  have a0 : 0 ≤ k / 16 ∧ k / 16 < t := by omega
  have u0 : 0 ≤ k / 4 % 4 ∧ k / 4 % 4 < 4 := by omega
  have v0 : 0 ≤ k % 4 ∧ k % 4 < 4 := by omega
  obtain ⟨tk1, tk2, tk3⟩ := tr_p k
  obtain ⟨p0, p1, p2, p3, p4, p5, p6, p7, p8⟩ := pt_pt hG (k := 4 * (k / 16) + x) (by omega) (by omega) gx
  obtain ⟨r0, r1, r2, r3, r4, r5, r6, r7, r8⟩ := pt_pt hG (k := 4 * (k / 16) + y) (by omega) (by omega) gy
  have ex : pt G (4 * (k / 16) + x) = fX G (k / 16) x x := by
    unfold fX bX pX
    rw [show (4 * (k / 16) + x) % 4 = x by omega] at p3
    omega
  have ey : pt G (4 * (k / 16) + y) = fX G (k / 16) y y := by
    unfold fX bX pX
    rw [show (4 * (k / 16) + y) % 4 = y by omega] at r3
    omega
  have z1 := nE_at (G := G) (f := x) (x := k) (by omega)
  have z2 := nE_at (G := G) (f := y) (x := k) (by omega)
  have ix := im_in p4 p5 x0.1 x0.2
  have iy := im_in p4 p5 y0.1 y0.2
  have iu := im_in p4 p5 u0.1 u0.2
  have iv' := im_in p4 p5 v0.1 v0.2
  have jx := im_in r4 r5 x0.1 x0.2
  have jy := im_in r4 r5 y0.1 y0.2
  have ju := im_in r4 r5 u0.1 u0.2
  have jv := im_in r4 r5 v0.1 v0.2
  have ne := fun {c e : Int} (c0 : 0 ≤ c ∧ c < 4) (e0 : 0 ≤ e ∧ e < 4) (h : c ≠ e) => (fun z => h (im_ij p4 p5 c0.1 c0.2 e0.1 e0.2 z) : im (G (4 * (k / 16) + x) % 32) c ≠ im (G (4 * (k / 16) + x) % 32) e)
  have nf := fun {c e : Int} (c0 : 0 ≤ c ∧ c < 4) (e0 : 0 ≤ e ∧ e < 4) (h : c ≠ e) => (fun z => h (im_ij r4 r5 c0.1 c0.2 e0.1 e0.2 z) : im (G (4 * (k / 16) + y) % 32) c ≠ im (G (4 * (k / 16) + y) % 32) e)
  obtain ⟨d1, d2, d3⟩ := end_p (w := G (4 * (k / 16) + x) / 32) iu.1 iu.2 iv'.1 iv'.2
  obtain ⟨e1, e2, e3⟩ := end_p (w := G (4 * (k / 16) + y) / 32) ju.1 ju.2 jv.1 jv.2
  rw [← z1] at d1 d2 d3
  rw [← z2] at e1 e2 e3
  have ef : fX G (k / 16) x y = 4 * (G (4 * (k / 16) + x) / 32) + im (G (4 * (k / 16) + x) % 32) y := rfl
  have hb0 : 0 ≤ G (4 * (k / 16) + x) / 32 ∧ G (4 * (k / 16) + x) / 32 < t := by omega
  have f0 : 0 ≤ fX G (k / 16) x y ∧ fX G (k / 16) x y < 4 * t ∧ fX G (k / 16) x y % 4 = im (G (4 * (k / 16) + x) % 32) y ∧ fX G (k / 16) x y / 4 = G (4 * (k / 16) + x) / 32 := by
    rw [ef]
    clear p8 r8 xu xv yu yv xy ba ca bc
    omega
  obtain ⟨s0, s1, s2, s3, s4, s5, s6, s7, s8⟩ := pt_pt hG (k := fX G (k / 16) x y) f0.1 f0.2.1 gg
  rw [f0.2.2.1] at s3
  have z3 := nE_at (G := G) (f := im (G (4 * (k / 16) + x) % 32) y) (x := nE G x k) (by
    rw [d1, d2, d3, ← ef]
    intro w
    rcases w with w | w | w
    · exact ne y0 u0 yu w
    · exact ne y0 v0 yv w
    · omega)
  rw [d1, d2, d3, ← ef] at z3
  generalize hg : G (fX G (k / 16) x y) = g at *
  have c0 := im_in s4 s5 iy.1 iy.2
  have cu := im_in s4 s5 iu.1 iu.2
  have cv := im_in s4 s5 iv'.1 iv'.2
  obtain ⟨y1, y2, y3⟩ := end_p (w := g / 32) cu.1 cu.2 cv.1 cv.2
  rw [← z3] at y1 y2 y3
  have nu : im (g % 32) (im (G (4 * (k / 16) + x) % 32) y) ≠ im (g % 32) (im (G (4 * (k / 16) + x) % 32) (k / 4 % 4)) := fun w => ne y0 u0 yu (im_ij s4 s5 iy.1 iy.2 iu.1 iu.2 w)
  have nv : im (g % 32) (im (G (4 * (k / 16) + x) % 32) y) ≠ im (g % 32) (im (G (4 * (k / 16) + x) % 32) (k % 4)) := fun w => ne y0 v0 yv (im_ij s4 s5 iy.1 iy.2 iv'.1 iv'.2 w)
  generalize hc : im (g % 32) (im (G (4 * (k / 16) + x) % 32) y) = c at *
  have hpt : pt G (fX G (k / 16) x y) = 4 * (g / 32) + c := by omega
  have fin : ∀ e, (nE G (im (G (4 * (k / 16) + x) % 32) y) (nE G x k) = e ∨ nE G (im (G (4 * (k / 16) + x) % 32) y) (nE G x k) = tr e) → g / 32 = e / 16 ∧ c ≠ e / 4 % 4 ∧ c ≠ e % 4 := by
    intro e he
    obtain ⟨q1, q2, q3⟩ := tr_p e
    rcases he with he | he
    · rw [he] at y1 y2 y3
      exact ⟨y1.symm, by rw [y2]; exact nu, by rw [y3]; exact nv⟩
    · rw [he] at y1 y2 y3
      exact ⟨by rw [← y1, q1], by rw [← q3, y3]; exact nv, by rw [← q2, y2]; exact nu⟩
  rcases hz _ rfl with h | h | h
  · exfalso
    obtain ⟨h1, h2, h3⟩ := fin k h
    rcases oth4 u0 v0 x0 y0 c0 hk2.2.2 (Ne.symm xu) (Ne.symm yu) (Ne.symm xv) (Ne.symm yv) xy h2 h3 with w | w
    · rw [h1, w] at hpt
      rw [hpt, ex] at s7
      have s7 : 4 * (G (4 * (k / 16) + x) / 32) + im (G (4 * (k / 16) + x) % 32) x = 4 * (G (4 * (k / 16) + x) / 32) + im (G (4 * (k / 16) + x) % 32) y := s7
      exact ne x0 y0 xy (by omega)
    · rw [h1, w] at hpt
      rw [hpt, ey] at s7
      have s7 : 4 * (G (4 * (k / 16) + y) / 32) + im (G (4 * (k / 16) + y) % 32) y = 4 * (G (4 * (k / 16) + x) / 32) + im (G (4 * (k / 16) + x) % 32) y := s7
      have bc : G (4 * (k / 16) + x) / 32 ≠ G (4 * (k / 16) + y) / 32 := bc
      exact nAB (Ne.symm bc) jy.1 jy.2 iy.1 iy.2 s7
  · exfalso
    obtain ⟨h1, h2, h3⟩ := fin _ h
    rw [d2] at h2
    rw [d3] at h3
    rw [d1] at h1
    have ba : G (4 * (k / 16) + x) / 32 ≠ k / 16 := ba
    rcases oth4 iu iv' ix iy c0 (ne u0 v0 hk2.2.2) (ne u0 x0 (Ne.symm xu)) (ne u0 y0 (Ne.symm yu)) (ne v0 x0 (Ne.symm xv)) (ne v0 y0 (Ne.symm yv)) (ne x0 y0 xy) h2 h3 with w | w
    · rw [h1, w] at hpt
      have hp2 : pt G (fX G (k / 16) x y) = pt G (4 * (k / 16) + x) := by rw [hpt, ex]; rfl
      rw [hp2, p7] at s7
      exact nAB (Ne.symm ba) x0.1 x0.2 iy.1 iy.2 s7
    · rw [h1, w] at hpt
      exact s8 (by rw [hpt]; rfl)
  · obtain ⟨h1, h2, h3⟩ := fin _ h
    rw [e2] at h2
    rw [e3] at h3
    rw [e1] at h1
    have ba : G (4 * (k / 16) + x) / 32 ≠ k / 16 := ba
    rcases oth4 ju jv jx jy c0 (nf u0 v0 hk2.2.2) (nf u0 x0 (Ne.symm xu)) (nf u0 y0 (Ne.symm yu)) (nf v0 x0 (Ne.symm xv)) (nf v0 y0 (Ne.symm yv)) (nf x0 y0 xy) h2 h3 with w | w
    · rw [hpt, h1, w]
      rfl
    · exfalso
      rw [h1, w] at hpt
      have hp2 : pt G (fX G (k / 16) x y) = pt G (4 * (k / 16) + y) := by rw [hpt, ey]; rfl
      rw [hp2, r7] at s7
      exact nAB (Ne.symm ba) y0.1 y0.2 iy.1 iy.2 s7
/-- the end of an edge of a tet that is told first -/
def lw (z : Int) : Int := if z / 4 % 4 < z % 4 then z else tr z
theorem lw_ok {t : Int} {E : Int → Int} {z : Int} (h : oE t z) : 0 ≤ lw z ∧ lw z < 16 * t ∧ lw z / 4 % 4 < lw z % 4 ∧ eg E (lw z) = eg E z ∧ lw z / 16 = z / 16 ∧ (lw z = z ∨ lw z = tr z) := by
  obtain ⟨q1, q2, q3⟩ := tr_p z
  have h2 := tr_o h
  unfold lw
  split
  · rename_i c
    exact ⟨h.1, h.2.1, c, rfl, rfl, Or.inl rfl⟩
  · rename_i c
    have := h.2.2
    exact ⟨h2.1, h2.2.1, by rw [q2, q3]; omega, eg_tr E z, q1, Or.inr rfl⟩
theorem lw_eq {z w : Int} (h : lw z = lw w) : z = w ∨ z = tr w := by
  unfold lw at h
  split at h <;> split at h
  · exact Or.inl h
  · exact Or.inr h
  · right
    rw [← h, tr_tr]
  · left
    have := congrArg tr h
    rw [tr_tr, tr_tr] at this
    exact this
theorem m4 (z : Int) : 0 ≤ z % 4 ∧ z % 4 < 4 := by omega
/-- what an end is one with beyond a face -/
theorem nE_parts {t : Int} {G : Int → Int} (hG : VG t G) {f x : Int} (hx : oE t x) (f0 : 0 ≤ f) (f1 : f < 4) (h1 : f ≠ x / 4 % 4) (h2 : f ≠ x % 4) (h3 : 0 ≤ G (4 * (x / 16) + f)) : 0 ≤ nE G f x ∧ nE G f x / 16 = G (4 * (x / 16) + f) / 32 ∧ nE G f x / 4 % 4 = im (G (4 * (x / 16) + f) % 32) (x / 4 % 4) ∧ nE G f x % 4 = im (G (4 * (x / 16) + f) % 32) (x % 4) ∧ 0 ≤ G (4 * (x / 16) + f) % 32 ∧ G (4 * (x / 16) + f) % 32 < 24 := by
  have ht := hG.1
  have z := nE_at (G := G) (f := f) (x := x) (fun w => by rcases w with w | w | w; exact h1 w; exact h2 w; omega)
  have v : G (4 * (x / 16) + f) % 32 < 24 := by
    have b := hx.1
    have c := hx.2.1
    clear h1 h2 z hx
    have := vg_in hG (k := 4 * (x / 16) + f) (by omega) (by omega)
    omega
  have v0 : 0 ≤ G (4 * (x / 16) + f) % 32 := by omega
  have iu := im_in v0 v (m4 (x / 4)).1 (m4 (x / 4)).2
  have iw := im_in v0 v (m4 x).1 (m4 x).2
  obtain ⟨d1, d2, d3⟩ := end_p (w := G (4 * (x / 16) + f) / 32) iu.1 iu.2 iw.1 iw.2
  rw [← z] at d1 d2 d3
  refine ⟨?_, d1, d2, d3, v0, v⟩
  rw [z]
  clear h1 h2 z hx d1 d2 d3 v
  omega
theorem nodup4 {a b c e : Int} (h1 : a ≠ b) (h2 : a ≠ c) (h3 : a ≠ e) (h4 : b ≠ c) (h5 : b ≠ e) (h6 : c ≠ e) : [a, b, c, e].Nodup := by
  simp only [List.nodup_cons, List.mem_cons, List.not_mem_nil, or_false, not_or, List.nodup_nil, and_true, not_false_eq_true]
  exact ⟨⟨h1, h2, h3⟩, ⟨h4, h5⟩, h6⟩
theorem fl_cl3 {t : Int} {G E P : Int → Int} {k : Int} (hG : VG t G) (hB : BP t G E P) (hk : oE t k) (h : C3 t G E k) (x y : Int) (x0 : 0 ≤ x) (x1 : x < 4) (y0 : 0 ≤ y) (y1 : y < 4) (xu : x ≠ k / 4 % 4) (xv : x ≠ k % 4) (yu : y ≠ k / 4 % 4) (yv : y ≠ k % 4) (xy : x ≠ y) : 0 ≤ G (fX G (k / 16) x y) ∧ pt G (fX G (k / 16) x y) = fX G (k / 16) y x := by
  obtain ⟨c1, c2, c3, c4⟩ := h
  have fr := fr_0 hB hG hk c2
  have gx := fr x x0 x1 xu xv
  have gy := fr y y0 y1 yu yv
  obtain ⟨t1, t2⟩ := c4 x y x0 x1 y0 y1 xu xv yu yv xy
  obtain ⟨t3, -⟩ := c4 y x y0 y1 x0 x1 yu yv xu xv (Ne.symm xy)
  obtain ⟨q1, d1, d2, d3, p4, p5⟩ := nE_parts hG hk x0 x1 xu xv gx
  obtain ⟨q2, e1, e2, e3, r4, r5⟩ := nE_parts hG hk y0 y1 yu yv gy
  have iy := im_in p4 p5 y0 y1
  obtain ⟨a1, a2, a3, a4⟩ := eg_n hB hG hk x0 x1 q1
  obtain ⟨b1, b2, b3, b4⟩ := eg_n hB hG hk y0 y1 q2
  have yu' : im (G (4 * (k / 16) + x) % 32) y ≠ nE G x k / 4 % 4 := by rw [d2]; exact fun w => yu (im_ij p4 p5 y0 y1 (m4 _).1 (m4 _).2 w)
  have yv' : im (G (4 * (k / 16) + x) % 32) y ≠ nE G x k % 4 := by rw [d3]; exact fun w => yv (im_ij p4 p5 y0 y1 (m4 _).1 (m4 _).2 w)
  have g' := fr_0 hB hG a2 (by rw [a1]; exact c2) (im (G (4 * (k / 16) + x) % 32) y) iy.1 iy.2 yu' yv'
  have gg : 0 ≤ G (fX G (k / 16) x y) := by
    rw [d1] at g'
    exact g'
  refine ⟨gg, turn3 hG hk ⟨x0, x1⟩ ⟨y0, y1⟩ xu xv yu yv xy gx gy (Ne.symm t1) (Ne.symm t3) t2 gg (fun z hz => ?_)⟩
  obtain ⟨q3, -⟩ := nE_parts hG a2 iy.1 iy.2 yu' yv' g'
  have hz' : z = nE G (im (G (4 * (k / 16) + x) % 32) y) (nE G x k) := hz
  obtain ⟨g1, g2, -, -⟩ := eg_n hB hG a2 iy.1 iy.2 q3
  rw [← hz'] at g1 g2
  obtain ⟨k1, k2, k3, k4, k5, -⟩ := lw_ok (E := E) hk
  obtain ⟨l1, l2, l3, l4, l5, -⟩ := lw_ok (E := E) a2
  obtain ⟨m1, m2, m3, m4, m5, -⟩ := lw_ok (E := E) b2
  obtain ⟨o1, o2, o3, o4, o5, -⟩ := lw_ok (E := E) g2
  by_cases w1 : lw z = lw k
  · exact Or.inl (lw_eq w1)
  by_cases w2 : lw z = lw (nE G x k)
  · exact Or.inr (Or.inl (lw_eq w2))
  by_cases w3 : lw z = lw (nE G y k)
  · exact Or.inr (Or.inr (lw_eq w3))
  exfalso
  have r1 : lw k ≠ lw (nE G x k) := fun e => by rw [e, l5, d1] at k5; exact t1 k5.symm
  have r2 : lw k ≠ lw (nE G y k) := fun e => by rw [e, m5, e1] at k5; exact t3 k5.symm
  have r3 : lw (nE G x k) ≠ lw (nE G y k) := fun e => by rw [e, m5, e1, d1] at l5; exact t2 l5.symm
  have up : ∀ q : Int, q < 16 * t → q < (((16 * t).toNat : Nat) : Int) := fun q hq => by
    have := hG.1
    clear c1 c2 c3 c4 fr t1 t2 t3 xu xv yu yv xy yu' yv' w1 w2 w3 r1 r2 r3
    omega
  have hc := ct_list (P := dP E (eg E k)) (n := (16 * t).toNat) [lw z, lw k, lw (nE G x k), lw (nE G y k)] (fun q hq => by
    simp only [List.mem_cons, List.not_mem_nil, or_false] at hq
    rcases hq with e | e | e | e
    · rw [e]; exact ⟨o1, up _ o2, o3, by rw [o4, g1, a1]⟩
    · rw [e]; exact ⟨k1, up _ k2, k3, k4⟩
    · rw [e]; exact ⟨l1, up _ l2, l3, by rw [l4, a1]⟩
    · rw [e]; exact ⟨m1, up _ m2, m3, by rw [m4, b1]⟩) (nodup4 w1 w2 w3 r1 r2 r3)
  have c1 : ct (dP E (eg E k)) (16 * t).toNat = 3 := c1
  rw [c1] at hc
  have hc : (4 : Int) ≤ 3 := hc
  exact absurd hc (by decide)
