theorem cy_out {G H T C : Int → Int} {m : Int} : ∀ n : Nat, (∀ F : Int, 0 ≤ F → F < n → 0 ≤ H F → 0 ≤ G F → 0 ≤ H (pt G F) → cyn H T F ≠ m) → cy G H T C n m = C m
  | 0, _ => rfl
  | n + 1, h => by
    have ih := cy_out (C := C) n (fun F F0 F1 => h F F0 (by omega))
    show (if 0 ≤ H n ∧ 0 ≤ G n ∧ 0 ≤ H (pt G n) then uf (cy G H T C n) (cyn H T n) (cyv G H T n) else cy G H T C n) m = C m
    by_cases c : 0 ≤ H n ∧ 0 ≤ G n ∧ 0 ≤ H (pt G n)
    · rw [if_pos c, uf_n (fun e => h n (by omega) (by omega) c.1 c.2.1 c.2.2 e.symm)]
      exact ih
    · rw [if_neg c]
      exact ih
theorem cy_at {G H T C : Int → Int} {F : Int} (F0 : 0 ≤ F) (c1 : 0 ≤ H F) (c2 : 0 ≤ G F) (c3 : 0 ≤ H (pt G F)) : ∀ n : Nat, F < n → (∀ F' : Int, 0 ≤ F' → F' < n → 0 ≤ H F' → cyn H T F' = cyn H T F → F' = F) → cy G H T C n (cyn H T F) = cyv G H T F
  | 0, h, _ => by omega
  | n + 1, h, hi => by
    show (if 0 ≤ H n ∧ 0 ≤ G n ∧ 0 ≤ H (pt G n) then uf (cy G H T C n) (cyn H T n) (cyv G H T n) else cy G H T C n) (cyn H T F) = _
    by_cases e : (n : Int) = F
    · rw [e, if_pos ⟨c1, c2, c3⟩, uf_s]
    · have ih := cy_at (C := C) F0 c1 c2 c3 n (by omega) (fun F' a b => hi F' a (by omega))
      by_cases c : 0 ≤ H n ∧ 0 ≤ G n ∧ 0 ≤ H (pt G n)
      · rw [if_pos c, uf_n (fun w => e (hi n (by omega) (by omega) c.1 w.symm))]
        exact ih
      · rw [if_neg c]
        exact ih
theorem su_mk {t : Int} {G : Int → Int} {S : Int → Prop} {s t' : Int} {H T C : Int → Int} {IN : Int → Prop} (hG : VG t G) (h : SU0 t G S s t' H T) (hC : ∀ n, ¬ IN n → C n = cy G H T (fun _ => -1) (4 * t).toNat n) (hI : ∀ F, 0 ≤ F → F < 4 * t → 0 ≤ H F → ¬ IN (cyn H T F)) (hN : ∀ n, IN n → n < 4 * t')
    (h6 : ∀ n, 4 * s ≤ n → n < 4 * t' → (∃ F, 0 ≤ F ∧ F < 4 * t ∧ S (F / 4) ∧ 0 ≤ H F ∧ cyn H T F = n) ∨ okF t' C n)
    (h8 : ∀ R : Int → Prop, CS t' C R → (∃ n, s ≤ n ∧ n < t' ∧ R n) → ∀ n, s ≤ n → n < t' → R n) : SU t G S s t' H T C := by
  have ht := hG.1
  refine ⟨h, fun F F0 F1 hF => ?_, h6, fun n n0 n1 => ?_, h8⟩
  · rw [hC _ (hI F F0 F1 hF)]
    unfold cyw
    rcases Int.lt_or_le (G F) 0 with z | z
    · rw [if_pos z]
      exact cy_out _ (fun F' a b c d _ e => by
        have := su_inj hG h a (by omega) c F0 F1 hF e
        rw [this] at d
        omega)
    · rw [if_neg (by omega)]
      exact cy_at F0 hF z (su_cl hG h F0 F1 hF z) _ (by omega) (fun F' a b c e => su_inj hG h a (by omega) c F0 F1 hF e)
  · rw [hC n (fun z => by have := hN n z; omega)]
    exact cy_out _ (fun F' a b c d _ e => by
      obtain ⟨q1, q2, q3, -, -⟩ := su_hm hG h a (by omega) c
      have := im_in q2 q3 (show 0 ≤ F' % 4 by omega) (show F' % 4 < 4 by omega)
      unfold cyn at e
      omega)
/-- A FLIP at tet a: beyond the faces of X lie tets that go too; a new tet nw y for each face y that is not of X -/
def bX (G : Int → Int) (a x : Int) : Int := G (4 * a + x) / 32
def pX (G : Int → Int) (a x : Int) : Int := G (4 * a + x) % 32
def fX (G : Int → Int) (a x c : Int) : Int := 4 * bX G a x + im (pX G a x) c
def gS (G : Int → Int) (a : Int) (X : Int → Prop) (i : Int) : Prop := i = a ∨ ∃ x, 0 ≤ x ∧ x < 4 ∧ X x ∧ i = bX G a x
def FL (t : Int) (G : Int → Int) (a : Int) (X : Int → Prop) (nw : Int → Int) (s t' : Int) : Prop :=
  (0 ≤ a ∧ a < t ∧ s = sty (gS G a X) t ∧ 1 ≤ t' ∧ t' ≤ 8 ∧ s < t') ∧
  (∀ x, 0 ≤ x → x < 4 → X x → 0 ≤ G (4 * a + x) ∧ bX G a x ≠ a) ∧
  (∀ x x', 0 ≤ x → x < 4 → 0 ≤ x' → x' < 4 → X x → X x' → x ≠ x' → bX G a x ≠ bX G a x' ∧ 0 ≤ G (fX G a x x') ∧ pt G (fX G a x x') = fX G a x' x) ∧
  (∀ y, 0 ≤ y → y < 4 → ¬ X y → s ≤ nw y ∧ nw y < t') ∧
  (∀ y y', 0 ≤ y → y < 4 → 0 ≤ y' → y' < 4 → ¬ X y → ¬ X y' → nw y = nw y' → y = y') ∧
  (∀ n, s ≤ n → n < t' → ∃ y, 0 ≤ y ∧ y < 4 ∧ ¬ X y ∧ nw y = n)
/-- where faces go in a flip -/
def FU (t : Int) (G : Int → Int) (a : Int) (X : Int → Prop) (nw H T : Int → Int) : Prop :=
  (∀ F, 0 ≤ F → F < 4 * t → ¬ gS G a X (F / 4) → H F = sty (gS G a X) (F / 4) ∧ T F = 0) ∧
  (∀ y, 0 ≤ y → y < 4 → ¬ X y → H (4 * a + y) = nw y ∧ T (4 * a + y) = 0) ∧
  (∀ x y, 0 ≤ x → x < 4 → X x → 0 ≤ y → y < 4 → ¬ X y → H (fX G a x y) = nw y ∧ T (fX G a x y) = af (sx x y) (iv (pX G a x))) ∧
  (∀ x, 0 ≤ x → x < 4 → X x → H (4 * a + x) = -1) ∧
  (∀ x c, 0 ≤ x → x < 4 → X x → 0 ≤ c → c < 4 → X c → H (fX G a x c) = -1)
/-- how the new tets are glued to one another -/
def FC (G : Int → Int) (t : Int) (X : Int → Prop) (nw H T C : Int → Int) : Prop :=
  (∀ y y', 0 ≤ y → y < 4 → ¬ X y → 0 ≤ y' → y' < 4 → ¬ X y' → y ≠ y' → C (4 * nw y + y') = 32 * nw y' + sx y y') ∧
  (∀ n, (∀ y y', 0 ≤ y → y < 4 → ¬ X y → 0 ≤ y' → y' < 4 → ¬ X y' → y ≠ y' → n ≠ 4 * nw y + y') → C n = cy G H T (fun _ => -1) (4 * t).toNat n)
theorem bx_in {t : Int} {G : Int → Int} {a : Int} {X : Int → Prop} {nw : Int → Int} {s t' : Int} (hG : VG t G) (h : FL t G a X nw s t') {x : Int} (x0 : 0 ≤ x) (x1 : x < 4) (hx : X x) : 0 ≤ bX G a x ∧ bX G a x < t ∧ 0 ≤ pX G a x ∧ pX G a x < 24 ∧ pt G (4 * a + x) = fX G a x x ∧ pt G (fX G a x x) = 4 * a + x ∧ 0 ≤ G (fX G a x x) ∧ G (fX G a x x) / 32 = a := by
  have h1 := h.1
  obtain ⟨g, -⟩ := h.2.1 x x0 x1 hx
  obtain ⟨p0, p1, p2, p3, p4, p5, p6, p7, p8⟩ := pt_pt hG (k := 4 * a + x) (by omega) (by omega) g
  have e : pt G (4 * a + x) = fX G a x x := by
    unfold fX bX pX
    rw [show (4 * a + x) % 4 = x by omega] at p3
    omega
  rw [e] at p7 p6
  have iv' := iv_in p4 p5
  refine ⟨by unfold bX; omega, by unfold bX; omega, p4, p5, e, p7, by omega, by omega⟩
/-- faces of the tets that go -/
theorem fl_face {t : Int} {G : Int → Int} {a : Int} {X : Int → Prop} {nw : Int → Int} {s t' : Int} (hG : VG t G) (h : FL t G a X nw s t') {F : Int} (F0 : 0 ≤ F) (hS : gS G a X (F / 4)) : (∃ y, 0 ≤ y ∧ y < 4 ∧ F = 4 * a + y) ∨ ∃ x y, 0 ≤ x ∧ x < 4 ∧ X x ∧ 0 ≤ y ∧ y < 4 ∧ F = fX G a x y := by
  rcases hS with e | ⟨x, x0, x1, hx, e⟩
  · exact Or.inl ⟨F % 4, by omega, by omega, by omega⟩
  · obtain ⟨b0, b1, p0, p1, -⟩ := bx_in hG h x0 x1 hx
    have ip := iv_in p0 p1
    have ii := im_in ip.1 ip.2 (show 0 ≤ F % 4 by omega) (show F % 4 < 4 by omega)
    refine Or.inr ⟨x, im (iv (pX G a x)) (F % 4), x0, x1, hx, ii.1, ii.2, ?_⟩
    unfold fX
    rw [(im_mi p0 p1 (by omega) (by omega)).2]
    omega
theorem fl_in {t : Int} {G : Int → Int} {a : Int} {X : Int → Prop} {nw : Int → Int} {s t' : Int} (hG : VG t G) (h : FL t G a X nw s t') {x y : Int} (x0 : 0 ≤ x) (x1 : x < 4) (hx : X x) (y0 : 0 ≤ y) (y1 : y < 4) : 0 ≤ fX G a x y ∧ fX G a x y < 4 * t ∧ fX G a x y / 4 = bX G a x ∧ fX G a x y % 4 = im (pX G a x) y ∧ gS G a X (fX G a x y / 4) := by
  obtain ⟨b0, b1, p0, p1, -⟩ := bx_in hG h x0 x1 hx
  have i := im_in p0 p1 y0 y1
  have e : fX G a x y / 4 = bX G a x := by unfold fX; omega
  exact ⟨by unfold fX; omega, by unfold fX; omega, e, by unfold fX; omega, by rw [e]; exact Or.inr ⟨x, x0, x1, hx, rfl⟩⟩
/-- the new places of faces of the tets that go -/
theorem fl_cyn {t : Int} {G : Int → Int} {a : Int} {X : Int → Prop} {nw H T : Int → Int} {s t' : Int} (hG : VG t G) (h : FL t G a X nw s t') (u : FU t G a X nw H T) : (∀ y, 0 ≤ y → y < 4 → ¬ X y → cyn H T (4 * a + y) = 4 * nw y + y) ∧ ∀ x y, 0 ≤ x → x < 4 → X x → 0 ≤ y → y < 4 → ¬ X y → cyn H T (fX G a x y) = 4 * nw y + x := by
  refine ⟨fun y y0 y1 hy => ?_, fun x y x0 x1 hx y0 y1 hy => ?_⟩
  · obtain ⟨e1, e2⟩ := u.2.1 y y0 y1 hy
    unfold cyn
    rw [e1, e2, show (4 * a + y) % 4 = y by omega, im_id y0 y1]
  · obtain ⟨e1, e2⟩ := u.2.2.1 x y x0 x1 hx y0 y1 hy
    obtain ⟨b0, b1, p0, p1, -⟩ := bx_in hG h x0 x1 hx
    obtain ⟨-, -, -, e3, -⟩ := fl_in hG h x0 x1 hx y0 y1
    have ip := iv_in p0 p1
    have sk := sx_ok x0 x1 y0 y1
    have i := im_in p0 p1 y0 y1
    unfold cyn
    rw [e1, e2, e3, im_af sk.1 sk.2.1 ip.1 ip.2 i.1 i.2, (im_mi p0 p1 y0 y1).1, sk.2.2.2.1]
theorem fl_su {t : Int} {G : Int → Int} {a : Int} {X : Int → Prop} {nw H T C : Int → Int} {s t' : Int} (hG : VG t G) (h : FL t G a X nw s t') (u : FU t G a X nw H T) (v : FC G t X nw H T C) : SU t G (gS G a X) s t' H T C := by
  have ht := hG.1
  obtain ⟨c1, c2⟩ := fl_cyn hG h u
  have h1 := h.1
  have hs := sty_in (gS G a X) (show 0 ≤ t by omega)
  -- a face that goes and has a home
  have hom : ∀ F, 0 ≤ F → gS G a X (F / 4) → 0 ≤ H F → (∃ y, 0 ≤ y ∧ y < 4 ∧ ¬ X y ∧ F = 4 * a + y) ∨ ∃ x y, 0 ≤ x ∧ x < 4 ∧ X x ∧ 0 ≤ y ∧ y < 4 ∧ ¬ X y ∧ F = fX G a x y := by
    intro F F0 hS hF
    rcases fl_face hG h F0 hS with ⟨y, y0, y1, e⟩ | ⟨x, y, x0, x1, hx, y0, y1, e⟩
    · refine Or.inl ⟨y, y0, y1, fun hy => ?_, e⟩
      have := u.2.2.2.1 y y0 y1 hy
      rw [e] at hF
      omega
    · refine Or.inr ⟨x, y, x0, x1, hx, y0, y1, fun hy => ?_, e⟩
      have := u.2.2.2.2 x y x0 x1 hx y0 y1 hy
      rw [e] at hF
      omega
  have s0 : SU0 t G (gS G a X) s t' H T := by
    refine ⟨⟨h1.2.2.1, h1.2.2.2.1, h1.2.2.2.2.1, h1.2.2.2.2.2, a, h1.1, h1.2.1, Or.inl rfl⟩, u.1, fun F F0 F1 hS => ?_, fun F F' F0 F1 F0' F1' hS hS' hF hF' e => ?_⟩
    · rcases fl_face hG h F0 hS with ⟨y, y0, y1, e⟩ | ⟨x, y, x0, x1, hx, y0, y1, e⟩
      · subst e
        by_cases hy : X y
        · obtain ⟨b0, b1, p0, p1, q1, q2, q3, q4⟩ := bx_in hG h y0 y1 hy
          refine Or.inl ⟨u.2.2.2.1 y y0 y1 hy, (h.2.1 y y0 y1 hy).1, Or.inr ⟨y, y0, y1, hy, rfl⟩, ?_⟩
          rw [q1]
          exact u.2.2.2.2 y y y0 y1 hy y0 y1 hy
        · obtain ⟨e1, e2⟩ := u.2.1 y y0 y1 hy
          have := h.2.2.2.1 y y0 y1 hy
          exact Or.inr ⟨by omega, by omega, by omega, by omega⟩
      · subst e
        by_cases hy : X y
        · refine Or.inl ⟨u.2.2.2.2 x y x0 x1 hx y0 y1 hy, ?_⟩
          by_cases xy : x = y
          · subst xy
            obtain ⟨b0, b1, p0, p1, q1, q2, q3, q4⟩ := bx_in hG h y0 y1 hy
            exact ⟨q3, by rw [q4]; exact Or.inl rfl, by rw [q2]; exact u.2.2.2.1 x y0 y1 hy⟩
          · obtain ⟨r1, r2, r3⟩ := h.2.2.1 x y x0 x1 y0 y1 hx hy xy
            obtain ⟨i0, i1, i2, i3, i4⟩ := fl_in hG h x0 x1 hx y0 y1
            obtain ⟨p0, p1, p2, p3, p4, p5, p6, p7, p8⟩ := pt_pt hG i0 i1 r2
            refine ⟨r2, ?_, by rw [r3]; exact u.2.2.2.2 y x y0 y1 hy x0 x1 hx⟩
            rw [← p2, r3]
            exact (fl_in hG h y0 y1 hy x0 x1).2.2.2.2
        · obtain ⟨e1, e2⟩ := u.2.2.1 x y x0 x1 hx y0 y1 hy
          have := h.2.2.2.1 y y0 y1 hy
          obtain ⟨b0, b1, p0, p1, -⟩ := bx_in hG h x0 x1 hx
          have ip := iv_in p0 p1
          have sk := sx_ok x0 x1 y0 y1
          have aa := af_in sk.1 sk.2.1 ip.1 ip.2
          exact Or.inr ⟨by omega, by omega, by omega, by omega⟩
    · rcases hom F F0 hS hF with ⟨y, y0, y1, hy, e1⟩ | ⟨x, y, x0, x1, hx, y0, y1, hy, e1⟩
      · rcases hom F' F0' hS' hF' with ⟨y', y0', y1', hy', e2⟩ | ⟨x', y', x0', x1', hx', y0', y1', hy', e2⟩
        · rw [e1, e2, c1 y y0 y1 hy, c1 y' y0' y1' hy'] at e
          have : y = y' := by omega
          rw [e1, e2, this]
        · rw [e1, e2, c1 y y0 y1 hy, c2 x' y' x0' x1' hx' y0' y1' hy'] at e
          have : y = x' := by omega
          rw [this] at hy
          exact absurd hx' hy
      · rcases hom F' F0' hS' hF' with ⟨y', y0', y1', hy', e2⟩ | ⟨x', y', x0', x1', hx', y0', y1', hy', e2⟩
        · rw [e1, e2, c2 x y x0 x1 hx y0 y1 hy, c1 y' y0' y1' hy'] at e
          have : x = y' := by omega
          rw [this] at hx
          exact absurd hx hy'
        · rw [e1, e2, c2 x y x0 x1 hx y0 y1 hy, c2 x' y' x0' x1' hx' y0' y1' hy'] at e
          have a1 : x = x' := by omega
          have a2 := h.2.2.2.2.1 y y' y0 y1 y0' y1' hy hy' (by omega)
          rw [e1, e2, a1, a2]
  have nwi : ∀ y y', 0 ≤ y → y < 4 → ¬ X y → 0 ≤ y' → y' < 4 → ¬ X y' → y ≠ y' → nw y ≠ nw y' := fun y y' y0 y1 hy y0' y1' hy' ne e => ne (h.2.2.2.2.1 y y' y0 y1 y0' y1' hy hy' e)
  refine su_mk (IN := fun n => ∃ y y', 0 ≤ y ∧ y < 4 ∧ ¬ X y ∧ 0 ≤ y' ∧ y' < 4 ∧ ¬ X y' ∧ y ≠ y' ∧ n = 4 * nw y + y') hG s0 (fun n hn => v.2 n (fun y y' a1 a2 a3 a4 a5 a6 a7 e => hn ⟨y, y', a1, a2, a3, a4, a5, a6, a7, e⟩)) ?_ ?_ ?_ ?_
  · rintro F F0 F1 hF ⟨y, y', y0, y1, hy, y0', y1', hy', ne, e⟩
    by_cases hS : gS G a X (F / 4)
    · rcases hom F F0 hS hF with ⟨z, z0, z1, hz, e1⟩ | ⟨x, z, x0, x1, hx, z0, z1, hz, e1⟩
      · rw [e1, c1 z z0 z1 hz] at e
        have a1 : z = y' := by omega
        have a2 := h.2.2.2.2.1 z y z0 z1 y0 y1 hz hy (by omega)
        omega
      · rw [e1, c2 x z x0 x1 hx z0 z1 hz] at e
        have a1 : x = y' := by omega
        rw [a1] at hx
        exact hy' hx
    · obtain ⟨q1, q2, q3, q4, q5⟩ := su_hm hG s0 F0 F1 hF
      have := q4 hS
      have i := im_in q2 q3 (show 0 ≤ F % 4 by omega) (show F % 4 < 4 by omega)
      have := h.2.2.2.1 y y0 y1 hy
      unfold cyn at e
      omega
  · rintro n ⟨y, y', y0, y1, hy, y0', y1', hy', ne, e⟩
    have := h.2.2.2.1 y y0 y1 hy
    omega
  · intro n n0 n1
    obtain ⟨y, y0, y1, hy, ey⟩ := h.2.2.2.2.2 (n / 4) (by omega) (by omega)
    by_cases z : n % 4 = y
    · refine Or.inl ⟨4 * a + y, by omega, by omega, by rw [show (4 * a + y) / 4 = a by omega]; exact Or.inl rfl, ?_, by rw [c1 y y0 y1 hy]; omega⟩
      have := (u.2.1 y y0 y1 hy).1
      have := h.2.2.2.1 y y0 y1 hy
      omega
    · by_cases hx : X (n % 4)
      · obtain ⟨i0, i1, i2, i3, i4⟩ := fl_in hG h (show 0 ≤ n % 4 by omega) (by omega) hx y0 y1
        refine Or.inl ⟨fX G a (n % 4) y, i0, i1, i4, ?_, by rw [c2 _ y (by omega) (by omega) hx y0 y1 hy]; omega⟩
        have := (u.2.2.1 (n % 4) y (by omega) (by omega) hx y0 y1 hy).1
        have := h.2.2.2.1 y y0 y1 hy
        omega
      · refine Or.inr ?_
        have y0' : 0 ≤ n % 4 := by omega
        have y1' : n % 4 < 4 := by omega
        have e : n = 4 * nw y + n % 4 := by omega
        have e2 := v.1 y (n % 4) y0 y1 hy y0' y1' hx (by omega)
        rw [← e] at e2
        have e3 := v.1 (n % 4) y y0' y1' hx y0 y1 hy (by omega)
        have sk := sx_ok y0 y1 y0' y1'
        have r1 := h.2.2.2.1 y y0 y1 hy
        have r2 := h.2.2.2.1 _ y0' y1' hx
        have r3 := nwi y (n % 4) y0 y1 hy y0' y1' hx (by omega)
        have d1 : C n / 32 = nw (n % 4) := by omega
        have d2 : C n % 32 = sx y (n % 4) := by omega
        unfold okF
        rw [d1, d2, sk.2.2.2.1, e3, sk.2.2.2.2.1, sk.2.2.2.2.2]
        exact ⟨by omega, by omega, by rw [← sk.2.2.2.2.2]; exact sk.2.1, by omega, by omega⟩
  · intro R hR ⟨n, n0, n1, hn⟩ m m0 m1
    obtain ⟨y, y0, y1, hy, ey⟩ := h.2.2.2.2.2 n n0 n1
    obtain ⟨y', y0', y1', hy', ey'⟩ := h.2.2.2.2.2 m m0 m1
    by_cases ne : y = y'
    · rw [ne] at ey
      rw [← ey', ey]
      exact hn
    · have e2 := v.1 y y' y0 y1 hy y0' y1' hy' ne
      have sk := sx_ok y0 y1 y0' y1'
      have := hR (4 * nw y + y') (by omega) (by omega) (by rw [show (4 * nw y + y') / 4 = nw y by omega, ey]; exact hn) (by rw [e2]; omega)
      rw [e2, show (32 * nw y' + sx y y') / 32 = nw y' by omega, ey'] at this
      exact this
