/-- reversed, told by the edge's first end or by any -/
theorem rev_eg {t : Int} {G E P : Int → Int} (hB : BP t G E P) (hG : VG t G) {k : Int} (hk : oE t k) : (E (eg E k) = E (tr (eg E k)) ↔ E k = E (tr k)) := by
  have c1 : CI (oE t) (nE G) E := hB.1.2
  have c2 : CI (oE t) (nE G) (fun x => E (tr x)) := fun x f hx f0 f1 h => (eg_n hB hG hx f0 f1 h).2.2.2
  have hk' := tr_o hk
  have a := hB.1.1 k hk
  have b := hB.1.1 _ hk'
  have a1 := a.2.2 E c1
  have a2 : E (tr (E k)) = E (tr k) := a.2.2 _ c2
  have b1 := b.2.2 E c1
  have b2 : E (tr (E (tr k))) = E (tr (tr k)) := b.2.2 _ c2
  rw [tr_tr] at b2
  unfold eg
  split
  · rw [b1, b2]; exact ⟨fun z => z.symm, fun z => z.symm⟩
  · rw [a1, a2]
theorem pt4 (z : Int) : z = 4 * (z / 4) + z % 4 := by omega
theorem d432 {A y q : Int} (y0 : 0 ≤ y) (y1 : y < 4) (q0 : 0 ≤ q ∧ q < 24) : (32 * ((4 * A + y) / 4) + q) / 32 = A := by omega
theorem kb4 {A t x : Int} (h : 0 ≤ A ∧ A < t) (x0 : 0 ≤ x) (x1 : x < 4) : 0 ≤ 4 * A + x ∧ 4 * A + x < 4 * t ∧ (4 * A + x) % 4 = x := by omega
theorem upn {t q : Int} (h : 1 ≤ t) (hq : q < 16 * t) : q < (((16 * t).toNat : Nat) : Int) := by omega
theorem k16_ {t k : Int} (h0 : 0 ≤ k) (h1 : k < 16 * t) : 0 ≤ k / 16 ∧ k / 16 < t := by omega
theorem edge3 {t : Int} {G E P : Int → Int} {k x y : Int} (hG : VG t G) (hB : BP t G E P) (hk : oE t k) (hdeg : dA E (16 * t) (eg E k) = 3) (hfr : fA E G (16 * t) 0 (eg E k) = 0) (x0 : 0 ≤ x) (x1 : x < 4) (y0 : 0 ≤ y) (y1 : y < 4) (xu : x ≠ k / 4 % 4) (xv : x ≠ k % 4) (yu : y ≠ k / 4 % 4) (yv : y ≠ k % 4) (xy : x ≠ y)
    (d1 : G (4 * (k / 16) + x) / 32 ≠ k / 16) (d2 : G (fX G (k / 16) x y) / 32 ≠ k / 16) (d3 : G (fX G (k / 16) x y) / 32 ≠ G (4 * (k / 16) + x) / 32) :
    T3 G k ∧ (E k ≠ E (tr k) → nE G y k = nE G (im (G (4 * (k / 16) + x) % 32) y) (nE G x k)) := by
  have fr := fr_0 hB hG hk hfr
  have gx := fr x x0 x1 xu xv
  have gy := fr y y0 y1 yu yv
  obtain ⟨q1, a1, a2, a3, p4, p5⟩ := nE_parts hG hk x0 x1 xu xv gx
  obtain ⟨q2, e1, e2, e3, r4, r5⟩ := nE_parts hG hk y0 y1 yu yv gy
  have iy := im_in p4 p5 y0 y1
  have ix := im_in p4 p5 x0 x1
  obtain ⟨b1, b2, b3, b4⟩ := eg_n hB hG hk x0 x1 q1
  obtain ⟨c1, c2, c3, c4⟩ := eg_n hB hG hk y0 y1 q2
  have yu' : im (G (4 * (k / 16) + x) % 32) y ≠ nE G x k / 4 % 4 := by rw [a2]; exact fun w => yu (im_ij p4 p5 y0 y1 (m4 _).1 (m4 _).2 w)
  have yv' : im (G (4 * (k / 16) + x) % 32) y ≠ nE G x k % 4 := by rw [a3]; exact fun w => yv (im_ij p4 p5 y0 y1 (m4 _).1 (m4 _).2 w)
  have g' := fr_0 hB hG b2 (by rw [b1]; exact hfr) (im (G (4 * (k / 16) + x) % 32) y) iy.1 iy.2 yu' yv'
  obtain ⟨q3, s1, s2, s3, s4, s5⟩ := nE_parts hG b2 iy.1 iy.2 yu' yv' g'
  obtain ⟨g1, g2, g3, g4⟩ := eg_n hB hG b2 iy.1 iy.2 q3
  have eF : 4 * (nE G x k / 16) + im (G (4 * (k / 16) + x) % 32) y = fX G (k / 16) x y := by rw [a1]; rfl
  rw [eF] at g' s1 s2 s3 s4 s5
  generalize ez1 : nE G x k = z1 at *
  generalize ez2 : nE G (im (G (4 * (k / 16) + x) % 32) y) z1 = z2 at *
  generalize ew : nE G y k = w at *
  have k16 := k16_ hk.1 hk.2.1
  have kx := kb4 k16 x0 x1
  have ky := kb4 k16 y0 y1
  obtain ⟨px0, px1, px2, px3, -, -, px6, px7, -⟩ := pt_pt hG (k := 4 * (k / 16) + x) kx.1 kx.2.1 gx
  obtain ⟨py0, py1, py2, py3, -, -, py6, py7, py8⟩ := pt_pt hG (k := 4 * (k / 16) + y) ky.1 ky.2.1 gy
  rw [kx.2.2] at px3
  rw [ky.2.2] at py3
  have ixy : ∀ p, 0 ≤ p → p < 24 → im p x ≠ im p y := fun p p0 p1 z => xy (im_ij p0 p1 x0 x1 y0 y1 z)
  obtain ⟨k1, k2, k3, k4, k5, -⟩ := lw_ok (E := E) hk
  obtain ⟨l1, l2, l3, l4, l5, -⟩ := lw_ok (E := E) b2
  obtain ⟨m1, m2, m3, m4', m5, -⟩ := lw_ok (E := E) c2
  obtain ⟨o1, o2, o3, o4, o5, -⟩ := lw_ok (E := E) g2
  have r1 : lw k ≠ lw z1 := fun e => by rw [e, l5, a1] at k5; exact d1 k5
  have r2 : lw k ≠ lw z2 := fun e => by rw [e, o5, s1] at k5; exact d2 k5
  have r3 : lw z1 ≠ lw z2 := fun e => by rw [e, o5, s1, a1] at l5; exact d3 l5
  have A : lw w = lw z2 := by
    apply Classical.byContradiction
    intro n3
    have n1 : lw w ≠ lw k := by
      intro e
      have cs := lw_eq e
      have tt := tr_p k
      have hx' : im (G (4 * (k / 16) + y) % 32) y = x := by
        have iu := im_in r4 r5 (m4 (k / 4)).1 (m4 (k / 4)).2
        have iv' := im_in r4 r5 (m4 k).1 (m4 k).2
        have iyy := im_in r4 r5 y0 y1
        have n1 : im (G (4 * (k / 16) + y) % 32) y ≠ w / 4 % 4 := by rw [e2]; exact fun z => yu (im_ij r4 r5 y0 y1 (m4 _).1 (m4 _).2 z)
        have n2 : im (G (4 * (k / 16) + y) % 32) y ≠ w % 4 := by rw [e3]; exact fun z => yv (im_ij r4 r5 y0 y1 (m4 _).1 (m4 _).2 z)
        have w16 : w / 16 = k / 16 := by rcases cs with z | z <;> rw [z]; exact tt.1
        have n4 : im (G (4 * (k / 16) + y) % 32) y ≠ k / 4 % 4 ∧ im (G (4 * (k / 16) + y) % 32) y ≠ k % 4 := by
          rcases cs with z | z
          · rw [z] at n1 n2; exact ⟨n1, n2⟩
          · rw [z, tt.2.1] at n1; rw [z, tt.2.2] at n2; exact ⟨n2, n1⟩
        rcases oth4 (m4 (k / 4)) (m4 k) ⟨x0, x1⟩ ⟨y0, y1⟩ iyy hk.2.2 (Ne.symm xu) (Ne.symm yu) (Ne.symm xv) (Ne.symm yv) xy n4.1 n4.2 with z | z
        · exact z
        · exfalso
          apply py8
          rw [w16] at e1
          have := pt4 (pt G (4 * (k / 16) + y))
          rw [this, py2, py3, ← e1, z]
      have w16 : w / 16 = k / 16 := by rcases cs with z | z <;> rw [z]; exact tt.1
      have pe : pt G (4 * (k / 16) + y) = 4 * (k / 16) + x := by
        have := pt4 (pt G (4 * (k / 16) + y))
        rw [this, py2, py3, hx', ← e1, w16]
      rw [pe] at py6
      apply d1
      rw [py6]
      exact d432 y0 y1 (iv_in r4 r5)
    have n2 : lw w ≠ lw z1 := by
      intro e
      have cs := lw_eq e
      have tt := tr_p z1
      have w16 : w / 16 = z1 / 16 := by rcases cs with z | z <;> rw [z]; exact tt.1
      have iyy := im_in r4 r5 y0 y1
      have iu := im_in p4 p5 (m4 (k / 4)).1 (m4 (k / 4)).2
      have iv' := im_in p4 p5 (m4 k).1 (m4 k).2
      have n1 : im (G (4 * (k / 16) + y) % 32) y ≠ w / 4 % 4 := by rw [e2]; exact fun z => yu (im_ij r4 r5 y0 y1 (m4 _).1 (m4 _).2 z)
      have n2 : im (G (4 * (k / 16) + y) % 32) y ≠ w % 4 := by rw [e3]; exact fun z => yv (im_ij r4 r5 y0 y1 (m4 _).1 (m4 _).2 z)
      have n4 : im (G (4 * (k / 16) + y) % 32) y ≠ im (G (4 * (k / 16) + x) % 32) (k / 4 % 4) ∧ im (G (4 * (k / 16) + y) % 32) y ≠ im (G (4 * (k / 16) + x) % 32) (k % 4) := by
        rcases cs with z | z
        · rw [z, a2] at n1; rw [z, a3] at n2; exact ⟨n1, n2⟩
        · rw [z, tt.2.1, a3] at n1; rw [z, tt.2.2, a2] at n2; exact ⟨n2, n1⟩
      have pe : pt G (4 * (k / 16) + y) = 4 * (G (4 * (k / 16) + x) / 32) + im (G (4 * (k / 16) + y) % 32) y := by
        have := pt4 (pt G (4 * (k / 16) + y))
        rw [this, py2, py3, ← e1, w16, a1]
      have ne : ∀ c c', 0 ≤ c → c < 4 → 0 ≤ c' → c' < 4 → c ≠ c' → im (G (4 * (k / 16) + x) % 32) c ≠ im (G (4 * (k / 16) + x) % 32) c' := fun c c' h1 h2 h3 h4 h5 z => h5 (im_ij p4 p5 h1 h2 h3 h4 z)
      rcases oth4 iu iv' ix iy iyy (ne _ _ (m4 _).1 (m4 _).2 (m4 _).1 (m4 _).2 hk.2.2) (ne _ _ (m4 _).1 (m4 _).2 x0 x1 (Ne.symm xu)) (ne _ _ (m4 _).1 (m4 _).2 y0 y1 (Ne.symm yu)) (ne _ _ (m4 _).1 (m4 _).2 x0 x1 (Ne.symm xv)) (ne _ _ (m4 _).1 (m4 _).2 y0 y1 (Ne.symm yv)) (ne _ _ x0 x1 y0 y1 xy) n4.1 n4.2 with z | z
      · rw [z] at pe
        have px : pt G (4 * (k / 16) + x) = 4 * (G (4 * (k / 16) + x) / 32) + im (G (4 * (k / 16) + x) % 32) x := by
          have := pt4 (pt G (4 * (k / 16) + x))
          rw [this, px2, px3]
        rw [pe, ← px, px7] at py7
        exact xy (Int.add_left_cancel py7)
      · rw [z] at pe
        have pe' : pt G (4 * (k / 16) + y) = fX G (k / 16) x y := pe
        rw [pe'] at py6
        apply d2
        rw [py6]
        exact d432 y0 y1 (iv_in r4 r5)
    have up : ∀ q : Int, q < 16 * t → q < (((16 * t).toNat : Nat) : Int) := fun q hq => upn hG.1.1 hq
    have hc := ct_list (P := dP E (eg E k)) (n := (16 * t).toNat) [lw w, lw k, lw z1, lw z2] (fun q hq => by
      simp only [List.mem_cons, List.not_mem_nil, or_false] at hq
      rcases hq with e | e | e | e
      · rw [e]; exact ⟨m1, up _ m2, m3, by rw [m4', c1]⟩
      · rw [e]; exact ⟨k1, up _ k2, k3, k4⟩
      · rw [e]; exact ⟨l1, up _ l2, l3, by rw [l4, b1]⟩
      · rw [e]; exact ⟨o1, up _ o2, o3, by rw [o4, g1, b1]⟩) (nodup4 n1 n2 n3 r1 r2 r3)
    have hd : ct (dP E (eg E k)) (16 * t).toNat = 3 := hdeg
    rw [hd] at hc
    have hc : (4 : Int) ≤ 3 := hc
    exact absurd hc (by decide)
  have w16 : w / 16 = z2 / 16 := by rw [← m5, A, o5]
  have ey : G (4 * (k / 16) + y) / 32 = G (fX G (k / 16) x y) / 32 := by rw [← e1, w16, s1]
  refine ⟨fun c c' h0 h1 h0' h1' cu cv cu' cv' cc => ?_, fun hr => ?_⟩
  · rcases oth4 (m4 (k / 4)) (m4 k) ⟨x0, x1⟩ ⟨y0, y1⟩ ⟨h0, h1⟩ hk.2.2 (Ne.symm xu) (Ne.symm yu) (Ne.symm xv) (Ne.symm yv) xy cu cv with z | z <;> rcases oth4 (m4 (k / 4)) (m4 k) ⟨x0, x1⟩ ⟨y0, y1⟩ ⟨h0', h1'⟩ hk.2.2 (Ne.symm xu) (Ne.symm yu) (Ne.symm xv) (Ne.symm yv) xy cu' cv' with z' | z'
    · exact absurd (by rw [z, z']) cc
    · rw [z, z', ey]; exact ⟨Ne.symm d1, Ne.symm d3⟩
    · rw [z, z', ey]; exact ⟨Ne.symm d2, d3⟩
    · exact absurd (by rw [z, z']) cc
  · rcases lw_eq A with z | z
    · exact z
    · exfalso
      apply hr
      have h1 : E w = E k := c3
      have h2 : E (tr w) = E (tr k) := c4
      have h3 : E z2 = E k := g3.trans b3
      rw [z, tr_tr] at h2
      rw [← h2]
      exact h3.symm
