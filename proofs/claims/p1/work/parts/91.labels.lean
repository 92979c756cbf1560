/-! LABELS: a tet that goes or comes has four of five labels; a face is told by the two that it has not -/
def mk5 (a b : Int) : Int := 31 - 2 ^ a.toNat - 2 ^ b.toNat
theorem mk5_n : ∀ n : Nat, n < 25 → ∀ m : Nat, m < 25 → (n / 5 = n % 5 ∨ m / 5 = m % 5 ∨ (mk5 (n / 5 : Nat) (n % 5 : Nat) = mk5 (m / 5 : Nat) (m % 5 : Nat) ↔ (n / 5 = m / 5 ∧ n % 5 = m % 5) ∨ (n / 5 = m % 5 ∧ n % 5 = m / 5))) := by decide +kernel
theorem mk5_eq {a b c e : Int} (a0 : 0 ≤ a ∧ a < 5) (b0 : 0 ≤ b ∧ b < 5) (c0 : 0 ≤ c ∧ c < 5) (e0 : 0 ≤ e ∧ e < 5) (ab : a ≠ b) (ce : c ≠ e) : (mk5 a b = mk5 c e ↔ (a = c ∧ b = e) ∨ (a = e ∧ b = c)) := by
  have h := mk5_n (5 * a.toNat + b.toNat) (by omega) (5 * c.toNat + e.toNat) (by omega)
  have e1 : (5 * a.toNat + b.toNat) / 5 = a.toNat := by omega
  have e2 : (5 * a.toNat + b.toNat) % 5 = b.toNat := by omega
  have e3 : (5 * c.toNat + e.toNat) / 5 = c.toNat := by omega
  have e4 : (5 * c.toNat + e.toNat) % 5 = e.toNat := by omega
  rw [e1, e2, e3, e4, Int.toNat_of_nonneg a0.1, Int.toNat_of_nonneg b0.1, Int.toNat_of_nonneg c0.1, Int.toNat_of_nonneg e0.1] at h
  rcases h with h | h | h
  · omega
  · omega
  · rw [h]; omega
theorem mk5_mn : ∀ n : Nat, n < 25 → n / 5 ≠ n % 5 → 0 ≤ mk5 (n / 5 : Nat) (n % 5 : Nat) ∧ mk5 (n / 5 : Nat) (n % 5 : Nat) < 256 ∧ ∀ i : Nat, i < 8 → (mk5 (n / 5 : Nat) (n % 5 : Nat) / 2 ^ i % 2 = 1 ↔ i < 5 ∧ i ≠ n / 5 ∧ i ≠ n % 5) := by decide +kernel
theorem mk5_mk {a b : Int} (a0 : 0 ≤ a ∧ a < 5) (b0 : 0 ≤ b ∧ b < 5) (ab : a ≠ b) : MK (mk5 a b) (fun i => i < 5 ∧ i ≠ a ∧ i ≠ b) := by
  have h := mk5_mn (5 * a.toNat + b.toNat) (by omega)
  have e1 : (5 * a.toNat + b.toNat) / 5 = a.toNat := by omega
  have e2 : (5 * a.toNat + b.toNat) % 5 = b.toNat := by omega
  rw [e1, e2, Int.toNat_of_nonneg a0.1, Int.toNat_of_nonneg b0.1] at h
  obtain ⟨h1, h2, h3⟩ := h (by omega)
  refine ⟨h1, h2, fun i i0 i1 => ?_⟩
  have := h3 i.toNat (by omega)
  unfold tb
  rw [this]
  omega
/-- tet i of the labels l has all but u -/
def LT (l : Int → Int) (i u : Int) : Prop := (0 ≤ u ∧ u < 5) ∧ (∀ c, 0 ≤ c → c < 4 → 0 ≤ l (4 * i + c) ∧ l (4 * i + c) < 5 ∧ l (4 * i + c) ≠ u) ∧ (∀ c c', 0 ≤ c → c < 4 → 0 ≤ c' → c' < 4 → l (4 * i + c) = l (4 * i + c') → c = c') ∧ ∀ b, 0 ≤ b → b < 5 → b ≠ u → ∃ c, 0 ≤ c ∧ c < 4 ∧ l (4 * i + c) = b
/-- what goes: tet a (labels la, not e), and tets beyond its faces of X -/
def LFG (G : Int → Int) (a : Int) (X : Int → Prop) (go gl : Int → Int) (gm : Int) (la : Int → Int) (e : Int) (ix : Int → Int) : Prop :=
  ((0 ≤ e ∧ e < 5) ∧ (∀ c, 0 ≤ c → c < 4 → 0 ≤ la c ∧ la c < 5 ∧ la c ≠ e) ∧ (∀ c c', 0 ≤ c → c < 4 → 0 ≤ c' → c' < 4 → la c = la c' → c = c') ∧ ∀ b, 0 ≤ b → b < 5 → b ≠ e → ∃ c, 0 ≤ c ∧ c < 4 ∧ la c = b) ∧
  (1 ≤ gm ∧ gm ≤ 4 ∧ go 0 = a ∧ ∀ c, 0 ≤ c → c < 4 → gl c = la c) ∧
  (∀ x, 0 ≤ x → x < 4 → X x → 1 ≤ ix x ∧ ix x < gm ∧ go (ix x) = bX G a x ∧ ∀ c, 0 ≤ c → c < 4 → gl (4 * ix x + im (pX G a x) c) = if c = x then e else la c) ∧
  ∀ i, 1 ≤ i → i < gm → ∃ x, 0 ≤ x ∧ x < 4 ∧ X x ∧ ix x = i
/-- what comes: for a face y that is not of X tet jn y, corners by nu y -/
def LCG (X : Int → Prop) (cl : Int → Int) (cm : Int) (la : Int → Int) (e : Int) (jn nu : Int → Int) : Prop :=
  (1 ≤ cm ∧ cm ≤ 4) ∧ (∀ y, 0 ≤ y → y < 4 → ¬ X y → 0 ≤ jn y ∧ jn y < cm ∧ (0 ≤ nu y ∧ nu y < 24) ∧ ∀ c, 0 ≤ c → c < 4 → cl (4 * jn y + im (nu y) c) = if c = y then e else la c) ∧
  (∀ y y', 0 ≤ y → y < 4 → 0 ≤ y' → y' < 4 → ¬ X y → ¬ X y' → jn y = jn y' → y = y') ∧ ∀ j, 0 ≤ j → j < cm → ∃ y, 0 ≤ y ∧ y < 4 ∧ ¬ X y ∧ jn y = j
theorem lt_a {G : Int → Int} {a : Int} {X : Int → Prop} {go gl : Int → Int} {gm : Int} {la : Int → Int} {e : Int} {ix : Int → Int} (h : LFG G a X go gl gm la e ix) : LT gl 0 e := by
  obtain ⟨⟨h1, h2, h3, h4⟩, ⟨g1, g2, g3, g4⟩, -⟩ := h
  have q : ∀ c, 0 ≤ c → c < 4 → gl (4 * 0 + c) = la c := fun c c0 c1 => by rw [show 4 * (0 : Int) + c = c by omega]; exact g4 c c0 c1
  refine ⟨h1, fun c c0 c1 => by rw [q c c0 c1]; exact h2 c c0 c1, fun c c' c0 c1 d0 d1 => ?_, fun b b0 b1 bu => ?_⟩
  · rw [q c c0 c1, q c' d0 d1]; exact h3 c c' c0 c1 d0 d1
  · obtain ⟨c, c0, c1, hc⟩ := h4 b b0 b1 bu
    exact ⟨c, c0, c1, by rw [q c c0 c1]; exact hc⟩
/-- labels moved by a permutation, one of them changed -/
theorem lt_p {l la : Int → Int} {i e p x : Int} (h1 : 0 ≤ e ∧ e < 5) (h2 : ∀ c, 0 ≤ c → c < 4 → 0 ≤ la c ∧ la c < 5 ∧ la c ≠ e) (h3 : ∀ c c', 0 ≤ c → c < 4 → 0 ≤ c' → c' < 4 → la c = la c' → c = c') (h4 : ∀ b, 0 ≤ b → b < 5 → b ≠ e → ∃ c, 0 ≤ c ∧ c < 4 ∧ la c = b) (hp : 0 ≤ p ∧ p < 24) (hx : 0 ≤ x ∧ x < 4) (hl : ∀ c, 0 ≤ c → c < 4 → l (4 * i + im p c) = if c = x then e else la c) : LT l i (la x) := by
  have lx := h2 x hx.1 hx.2
  have q : ∀ c, 0 ≤ c → c < 4 → l (4 * i + c) = if im (iv p) c = x then e else la (im (iv p) c) := fun c c0 c1 => by
    have v := iv_in hp.1 hp.2
    have w := im_in v.1 v.2 c0 c1
    have := hl (im (iv p) c) w.1 w.2
    rw [(im_mi hp.1 hp.2 c0 c1).2] at this
    exact this
  refine ⟨⟨lx.1, lx.2.1⟩, fun c c0 c1 => ?_, fun c c' c0 c1 d0 d1 => ?_, fun b b0 b1 bu => ?_⟩
  · rw [q c c0 c1]
    have v := iv_in hp.1 hp.2
    have w := im_in v.1 v.2 c0 c1
    split
    · omega
    · rename_i z
      have r := h2 _ w.1 w.2
      exact ⟨r.1, r.2.1, fun y => z (h3 _ _ w.1 w.2 hx.1 hx.2 y)⟩
  · rw [q c c0 c1, q c' d0 d1]
    have v := iv_in hp.1 hp.2
    have w := im_in v.1 v.2 c0 c1
    have w' := im_in v.1 v.2 d0 d1
    intro z
    apply im_ij v.1 v.2 c0 c1 d0 d1
    have r := h2 _ w.1 w.2
    have r' := h2 _ w'.1 w'.2
    split at z <;> split at z
    · rename_i z1 z2; rw [z1, z2]
    · omega
    · omega
    · exact h3 _ _ w.1 w.2 w'.1 w'.2 z
  · by_cases be : b = e
    · have w := im_in hp.1 hp.2 hx.1 hx.2
      exact ⟨im p x, w.1, w.2, by rw [hl x hx.1 hx.2, if_pos rfl, be]⟩
    · obtain ⟨c, c0, c1, hc⟩ := h4 b b0 b1 be
      have w := im_in hp.1 hp.2 c0 c1
      exact ⟨im p c, w.1, w.2, by rw [hl c c0 c1, if_neg (fun z => bu (by rw [← hc, z])), hc]⟩
theorem lt_u {l : Int → Int} {i u c c' : Int} (h : LT l i u) (c0 : 0 ≤ c ∧ c < 4) (d0 : 0 ≤ c' ∧ c' < 4) (e : l (4 * i + c) = l (4 * i + c')) : c = c' := h.2.2.1 c c' c0.1 c0.2 d0.1 d0.2 e
/-- THE WHOLE PICTURE of a flip on both sides -/
def CFG (t : Int) (G : Int → Int) (a : Int) (X : Int → Prop) (nw : Int → Int) (s t' : Int) (H T C go gl : Int → Int) (gm : Int) (cl : Int → Int) (cm : Int) (la : Int → Int) (e : Int) (ix jn nu M Sg : Int → Int) : Prop :=
  VG t G ∧ FL t G a X nw s t' ∧ FU t G a X nw H T ∧ FC G t X nw H T C ∧ LFG G a X go gl gm la e ix ∧ LCG X cl cm la e jn nu ∧ t' = s + cm ∧ (∀ n, 0 ≤ n → n < s → M n = n ∧ Sg n = 0) ∧ ∀ y, 0 ≤ y → y < 4 → ¬ X y → M (nw y) = s + jn y ∧ Sg (nw y) = nu y
/-- corners of an old tet in the new one of the model, by a face that has a home -/
def tau (H T Sg : Int → Int) (F : Int) : Int := af (Sg (H F)) (T F)
def mpos (H T M Sg : Int → Int) (F : Int) : Int := 4 * M (H F) + im (tau H T Sg F) (F % 4)
def mq (G H T Sg : Int → Int) (F : Int) : Int := af (tau H T Sg (pt G F)) (af (G F % 32) (iv (tau H T Sg F)))
def mval (G H T M Sg : Int → Int) (F : Int) : Int := 24 * M (H (pt G F)) + mq G H T Sg F
theorem lt_x {t : Int} {G : Int → Int} {a : Int} {X : Int → Prop} {nw : Int → Int} {s t' : Int} {H T C go gl : Int → Int} {gm : Int} {cl : Int → Int} {cm : Int} {la : Int → Int} {e : Int} {ix jn nu M Sg : Int → Int} (h : CFG t G a X nw s t' H T C go gl gm cl cm la e ix jn nu M Sg) {x : Int} (x0 : 0 ≤ x) (x1 : x < 4) (hx : X x) : LT gl (ix x) (la x) := by
  obtain ⟨hG, hF, -, -, hL, -⟩ := h
  obtain ⟨⟨h1, h2, h3, h4⟩, -, h5, -⟩ := hL
  have b := bx_in hG hF x0 x1 hx
  exact lt_p h1 h2 h3 h4 ⟨b.2.2.1, b.2.2.2.1⟩ ⟨x0, x1⟩ (h5 x x0 x1 hx).2.2.2
theorem lt_y {t : Int} {G : Int → Int} {a : Int} {X : Int → Prop} {nw : Int → Int} {s t' : Int} {H T C go gl : Int → Int} {gm : Int} {cl : Int → Int} {cm : Int} {la : Int → Int} {e : Int} {ix jn nu M Sg : Int → Int} (h : CFG t G a X nw s t' H T C go gl gm cl cm la e ix jn nu M Sg) {y : Int} (y0 : 0 ≤ y) (y1 : y < 4) (hy : ¬ X y) : LT cl (jn y) (la y) := by
  obtain ⟨-, -, -, -, hL, hC, -⟩ := h
  obtain ⟨⟨h1, h2, h3, h4⟩, -⟩ := hL
  obtain ⟨-, -, q1, q2⟩ := hC.2.1 y y0 y1 hy
  exact lt_p h1 h2 h3 h4 q1 ⟨y0, y1⟩ q2
/-- the missing label of what goes, of what comes -/
def MG (X : Int → Prop) (la : Int → Int) (e : Int) (ix : Int → Int) (gu : Int → Int) : Prop := gu 0 = e ∧ ∀ x, 0 ≤ x → x < 4 → X x → gu (ix x) = la x
/-- a face of a going tet: of a, or beyond a face of X -/
theorem go_face {t : Int} {G : Int → Int} {a : Int} {X : Int → Prop} {nw : Int → Int} {s t' : Int} {H T C go gl : Int → Int} {gm : Int} {cl : Int → Int} {cm : Int} {la : Int → Int} {e : Int} {ix jn nu M Sg : Int → Int} (h : CFG t G a X nw s t' H T C go gl gm cl cm la e ix jn nu M Sg) {i f : Int} (i0 : 0 ≤ i) (i1 : i < gm) (f0 : 0 ≤ f) (f1 : f < 4) : (i = 0 ∧ 4 * go i + f = 4 * a + f) ∨ ∃ x c, 0 ≤ x ∧ x < 4 ∧ X x ∧ 0 ≤ c ∧ c < 4 ∧ i = ix x ∧ f = im (pX G a x) c ∧ 4 * go i + f = fX G a x c := by
  obtain ⟨hG, hF, -, -, hL, -⟩ := h
  obtain ⟨-, ⟨-, -, g3, -⟩, h5, h6⟩ := hL
  rcases Int.lt_or_le 0 i with z | z
  · right
    obtain ⟨x, x0, x1, hx, ex⟩ := h6 i (by omega) i1
    have b := bx_in hG hF x0 x1 hx
    have v := iv_in b.2.2.1 b.2.2.2.1
    have w := im_in v.1 v.2 f0 f1
    have e2 := (im_mi b.2.2.1 b.2.2.2.1 f0 f1).2
    refine ⟨x, im (iv (pX G a x)) f, x0, x1, hx, w.1, w.2, ex.symm, e2.symm, ?_⟩
    unfold fX
    rw [e2, ← ex, (h5 x x0 x1 hx).2.2.1]
  · left
    have : i = 0 := by omega
    rw [this, g3]
    exact ⟨rfl, rfl⟩
/-- its home -/
theorem hm_a {t : Int} {G : Int → Int} {a : Int} {X : Int → Prop} {nw : Int → Int} {s t' : Int} {H T C go gl : Int → Int} {gm : Int} {cl : Int → Int} {cm : Int} {la : Int → Int} {e : Int} {ix jn nu M Sg : Int → Int} (h : CFG t G a X nw s t' H T C go gl gm cl cm la e ix jn nu M Sg) {y : Int} (y0 : 0 ≤ y) (y1 : y < 4) (hy : ¬ X y) : H (4 * a + y) = nw y ∧ tau H T Sg (4 * a + y) = nu y ∧ M (H (4 * a + y)) = s + jn y := by
  obtain ⟨-, -, hU, -, -, hC, -, -, hM⟩ := h
  obtain ⟨u1, u2⟩ := hU.2.1 y y0 y1 hy
  obtain ⟨m1, m2⟩ := hM y y0 y1 hy
  have q := (hC.2.1 y y0 y1 hy).2.2.1
  unfold tau
  rw [u1, u2, m2, (af_ia q.1 q.2).2.2.1]
  exact ⟨rfl, rfl, m1⟩
theorem hm_x {t : Int} {G : Int → Int} {a : Int} {X : Int → Prop} {nw : Int → Int} {s t' : Int} {H T C go gl : Int → Int} {gm : Int} {cl : Int → Int} {cm : Int} {la : Int → Int} {e : Int} {ix jn nu M Sg : Int → Int} (h : CFG t G a X nw s t' H T C go gl gm cl cm la e ix jn nu M Sg) {x c : Int} (x0 : 0 ≤ x) (x1 : x < 4) (hx : X x) (c0 : 0 ≤ c) (c1 : c < 4) (hc : ¬ X c) : H (fX G a x c) = nw c ∧ tau H T Sg (fX G a x c) = af (nu c) (af (sx x c) (iv (pX G a x))) ∧ M (H (fX G a x c)) = s + jn c := by
  obtain ⟨-, -, hU, -, -, hC, -, -, hM⟩ := h
  obtain ⟨u1, u2⟩ := hU.2.2.1 x c x0 x1 hx c0 c1 hc
  obtain ⟨m1, m2⟩ := hM c c0 c1 hc
  unfold tau
  rw [u1, u2, m2]
  exact ⟨rfl, rfl, m1⟩
/-- what is known of a face i, f of the going ones that has a home -/
theorem hm_f {t : Int} {G : Int → Int} {a : Int} {X : Int → Prop} {nw : Int → Int} {s t' : Int} {H T C go gl : Int → Int} {gm : Int} {cl : Int → Int} {cm : Int} {la : Int → Int} {e : Int} {ix jn nu M Sg : Int → Int} (h : CFG t G a X nw s t' H T C go gl gm cl cm la e ix jn nu M Sg) {i f : Int} (i0 : 0 ≤ i) (i1 : i < gm) (f0 : 0 ≤ f) (f1 : f < 4) (hH : 0 ≤ H (4 * go i + f)) :
    ∃ y κ ku, (0 ≤ y ∧ y < 4 ∧ ¬ X y ∧ H (4 * go i + f) = nw y ∧ M (H (4 * go i + f)) = s + jn y) ∧ (0 ≤ tau H T Sg (4 * go i + f) ∧ tau H T Sg (4 * go i + f) < 24) ∧ LT gl i ku ∧ LT cl (jn y) (la y) ∧ gl (4 * i + f) = κ ∧ κ ≠ ku ∧ (κ = la y ∨ ku = la y) ∧
      (κ = la y → cl (4 * jn y + im (tau H T Sg (4 * go i + f)) f) = ku) ∧ (ku = la y → False) ∧ (∀ d, 0 ≤ d → d < 4 → d ≠ f → cl (4 * jn y + im (tau H T Sg (4 * go i + f)) d) = gl (4 * i + d)) ∧
      ∀ y' c', 0 ≤ y' → y' < 4 → ¬ X y' → 0 ≤ c' → c' < 4 → mk5 (la y') (cl (4 * jn y' + c')) = mk5 ku κ → y' = y ∧ c' = im (tau H T Sg (4 * go i + f)) f := by
  have hh := h
  obtain ⟨hG, hF, hU, -, hL, hC, -, -, hM⟩ := hh
  obtain ⟨⟨h1, h2, h3, h4⟩, ⟨g1, g2, g3, g4⟩, h5, h6⟩ := hL
  rcases go_face h i0 i1 f0 f1 with ⟨e0, eF⟩ | ⟨x, c, x0, x1, hx, c0, c1, ei, ef, eF⟩
  · by_cases hX : X f
    · rw [eF, hU.2.2.2.1 f f0 f1 hX] at hH
      omega
    · obtain ⟨a1, a2, a3⟩ := hm_a h f0 f1 hX
      obtain ⟨j0, j1, q0, q1⟩ := hC.2.1 f f0 f1 hX
      have lf := h2 f f0 f1
      have Ly := lt_y h f0 f1 hX
      have eg' : gl (4 * i + f) = la f := by rw [e0, show 4 * (0 : Int) + f = f by omega]; exact g4 f f0 f1
      refine ⟨f, la f, e, ⟨f0, f1, hX, by rw [eF]; exact a1, by rw [eF]; exact a3⟩, by rw [eF, a2]; exact q0, by rw [e0]; exact lt_a (h := ⟨⟨h1, h2, h3, h4⟩, ⟨g1, g2, g3, g4⟩, h5, h6⟩), Ly, eg', lf.2.2, Or.inl rfl, fun _ => by rw [eF, a2, q1 f f0 f1, if_pos rfl], fun z => lf.2.2 z.symm, fun d d0 d1 df => ?_, fun y' c' y0 y1 hy c0 c1 z => ?_⟩
      · rw [eF, a2, q1 d d0 d1, if_neg df, e0, show 4 * (0 : Int) + d = d by omega]
        exact (g4 d d0 d1).symm
      · have ly := h2 y' y0 y1
        have Ly' := lt_y h y0 y1 hy
        have lc := Ly'.2.1 c' c0 c1
        rw [mk5_eq ⟨ly.1, ly.2.1⟩ ⟨lc.1, lc.2.1⟩ h1 ⟨lf.1, lf.2.1⟩ (Ne.symm lc.2.2) (Ne.symm lf.2.2)] at z
        rcases z with ⟨z1, z2⟩ | ⟨z1, z2⟩
        · exact absurd z1 ly.2.2
        · have ey := h3 _ _ y0 y1 f0 f1 z1
          refine ⟨ey, ?_⟩
          rw [ey] at z2
          rw [eF, a2]
          have w := im_in q0.1 q0.2 f0 f1
          exact lt_u Ly ⟨c0, c1⟩ w (by rw [z2, q1 f f0 f1, if_pos rfl])
  · by_cases hX : X c
    · rw [eF, hU.2.2.2.2 x c x0 x1 hx c0 c1 hX] at hH
      omega
    · obtain ⟨a1, a2, a3⟩ := hm_x h x0 x1 hx c0 c1 hX
      obtain ⟨j0, j1, q0, q1⟩ := hC.2.1 c c0 c1 hX
      obtain ⟨i2, i3, i4, i5⟩ := h5 x x0 x1 hx
      have b := bx_in hG hF x0 x1 hx
      have hp : 0 ≤ pX G a x ∧ pX G a x < 24 := ⟨b.2.2.1, b.2.2.2.1⟩
      have xc : c ≠ x := fun z => hX (by rw [z]; exact hx)
      have lx := h2 x x0 x1
      have lc := h2 c c0 c1
      have Ly := lt_y h c0 c1 hX
      have Lx := lt_x h x0 x1 hx
      have sxx := sx_ok x0 x1 c0 c1
      have vp := iv_in hp.1 hp.2
      have k1 := af_in sxx.1 sxx.2.1 vp.1 vp.2
      have ht := af_in q0.1 q0.2 k1.1 k1.2
      have tim : ∀ d, 0 ≤ d → d < 4 → im (tau H T Sg (4 * go i + f)) (im (pX G a x) d) = im (nu c) (im (sx x c) d) := fun d d0 d1 => by
        have w := im_in hp.1 hp.2 d0 d1
        have w2 := im_in vp.1 vp.2 w.1 w.2
        rw [eF, a2, im_af q0.1 q0.2 k1.1 k1.2 w.1 w.2, im_af sxx.1 sxx.2.1 vp.1 vp.2 w.1 w.2, (im_mi hp.1 hp.2 d0 d1).1]
      have lne : la c ≠ la x := fun z => xc (h3 _ _ c0 c1 x0 x1 z)
      refine ⟨c, la c, la x, ⟨c0, c1, hX, by rw [eF]; exact a1, by rw [eF]; exact a3⟩, by rw [eF, a2]; exact ht, by rw [ei]; exact Lx, Ly, by rw [ei, ef, i5 c c0 c1, if_neg xc], lne, Or.inl rfl, fun _ => ?_, fun z => lne z.symm, fun d d0 d1 df => ?_, fun y' c' y0 y1 hy d0 d1 z => ?_⟩
      · have t1 := tim c c0 c1
        rw [← ef, sxx.2.2.2.1] at t1
        rw [t1, q1 x x0 x1, if_neg (Ne.symm xc)]
      · have w := im_in vp.1 vp.2 d0 d1
        have e2 := (im_mi hp.1 hp.2 d0 d1).2
        have t1 := tim _ w.1 w.2
        rw [e2] at t1
        have t2 := i5 _ w.1 w.2
        rw [e2] at t2
        rw [t1, ei, t2]
        have nc : im (iv (pX G a x)) d ≠ c := fun z => df (by rw [ef, ← z, e2])
        by_cases z : im (iv (pX G a x)) d = x
        · rw [z, sxx.2.2.1, q1 c c0 c1, if_pos rfl, if_pos rfl]
        · rw [sx_c x0 x1 c0 c1 w.1 w.2 z nc, q1 _ w.1 w.2, if_neg nc, if_neg z]
      · have ly := h2 y' y0 y1
        have Ly' := lt_y h y0 y1 hy
        have lc' := Ly'.2.1 c' d0 d1
        rw [mk5_eq ⟨ly.1, ly.2.1⟩ ⟨lc'.1, lc'.2.1⟩ ⟨lx.1, lx.2.1⟩ ⟨lc.1, lc.2.1⟩ (Ne.symm lc'.2.2) (Ne.symm lne)] at z
        rcases z with ⟨z1, z2⟩ | ⟨z1, z2⟩
        · exact absurd (by rw [h3 _ _ y0 y1 x0 x1 z1]; exact hx) hy
        · have ey := h3 _ _ y0 y1 c0 c1 z1
          refine ⟨ey, ?_⟩
          rw [ey] at z2
          have t1 := tim c c0 c1
          rw [← ef, sxx.2.2.2.1] at t1
          rw [t1]
          have w := im_in q0.1 q0.2 x0 x1
          exact lt_u Ly ⟨d0, d1⟩ w (by rw [z2, q1 x x0 x1, if_neg (Ne.symm xc)])
/-- a face of the going ones without a home has no like -/
theorem hm_n {t : Int} {G : Int → Int} {a : Int} {X : Int → Prop} {nw : Int → Int} {s t' : Int} {H T C go gl : Int → Int} {gm : Int} {cl : Int → Int} {cm : Int} {la : Int → Int} {e : Int} {ix jn nu M Sg : Int → Int} (h : CFG t G a X nw s t' H T C go gl gm cl cm la e ix jn nu M Sg) {i f : Int} (i0 : 0 ≤ i) (i1 : i < gm) (f0 : 0 ≤ f) (f1 : f < 4) (hH : H (4 * go i + f) < 0) :
    ∃ ku, LT gl i ku ∧ ∀ y' c', 0 ≤ y' → y' < 4 → ¬ X y' → 0 ≤ c' → c' < 4 → mk5 (la y') (cl (4 * jn y' + c')) = mk5 ku (gl (4 * i + f)) → False := by
  have hh := h
  obtain ⟨hG, hF, hU, -, hL, hC, -, -, hM⟩ := hh
  obtain ⟨⟨h1, h2, h3, h4⟩, ⟨g1, g2, g3, g4⟩, h5, h6⟩ := hL
  have hnw : ∀ y, 0 ≤ y → y < 4 → ¬ X y → 0 ≤ nw y := fun y y0 y1 hy => by
    have := (hF.2.2.2.1 y y0 y1 hy).1
    have := hF.1.2.2.1
    have : 0 ≤ sty (gS G a X) t := (ct_in _ _).1
    omega
  rcases go_face h i0 i1 f0 f1 with ⟨e0, eF⟩ | ⟨x, c, x0, x1, hx, c0, c1, ei, ef, eF⟩
  · by_cases hX : X f
    · have lf := h2 f f0 f1
      refine ⟨e, by rw [e0]; exact lt_a (h := ⟨⟨h1, h2, h3, h4⟩, ⟨g1, g2, g3, g4⟩, h5, h6⟩), fun y' c' y0 y1 hy d0 d1 z => ?_⟩
      have ly := h2 y' y0 y1
      have lc := (lt_y h y0 y1 hy).2.1 c' d0 d1
      rw [e0, show 4 * (0 : Int) + f = f by omega, g4 f f0 f1, mk5_eq ⟨ly.1, ly.2.1⟩ ⟨lc.1, lc.2.1⟩ h1 ⟨lf.1, lf.2.1⟩ (Ne.symm lc.2.2) (Ne.symm lf.2.2)] at z
      rcases z with ⟨z1, -⟩ | ⟨z1, -⟩
      · exact ly.2.2 z1
      · exact hy (by rw [h3 _ _ y0 y1 f0 f1 z1]; exact hX)
    · rw [eF, (hm_a h f0 f1 hX).1] at hH
      have := hnw f f0 f1 hX
      omega
  · by_cases hX : X c
    · have lx := h2 x x0 x1
      have Lx := lt_x h x0 x1 hx
      obtain ⟨i2, i3, i4, i5⟩ := h5 x x0 x1 hx
      refine ⟨la x, by rw [ei]; exact Lx, fun y' c' y0 y1 hy d0 d1 z => ?_⟩
      have ly := h2 y' y0 y1
      have lc := (lt_y h y0 y1 hy).2.1 c' d0 d1
      have lf := Lx.2.1 f f0 f1
      rw [ei, mk5_eq ⟨ly.1, ly.2.1⟩ ⟨lc.1, lc.2.1⟩ ⟨lx.1, lx.2.1⟩ ⟨lf.1, lf.2.1⟩ (Ne.symm lc.2.2) (Ne.symm lf.2.2)] at z
      rcases z with ⟨z1, -⟩ | ⟨z1, -⟩
      · exact hy (by rw [h3 _ _ y0 y1 x0 x1 z1]; exact hx)
      · rw [ef, i5 c c0 c1] at z1
        split at z1
        · exact ly.2.2 z1
        · exact hy (by rw [h3 _ _ y0 y1 c0 c1 z1]; exact hX)
    · rw [eF, (hm_x h x0 x1 hx c0 c1 hX).1] at hH
      have := hnw c c0 c1 hX
      omega
/-- faces of the coming ones that are glued to one another -/
theorem cm_in {t : Int} {G : Int → Int} {a : Int} {X : Int → Prop} {nw : Int → Int} {s t' : Int} {H T C go gl : Int → Int} {gm : Int} {cl : Int → Int} {cm : Int} {la : Int → Int} {e : Int} {ix jn nu M Sg : Int → Int} (h : CFG t G a X nw s t' H T C go gl gm cl cm la e ix jn nu M Sg) {y c : Int} (y0 : 0 ≤ y) (y1 : y < 4) (hy : ¬ X y) (c0 : 0 ≤ c) (c1 : c < 4) {y' c' : Int} (y0' : 0 ≤ y') (y1' : y' < 4) (hy' : ¬ X y') (c0' : 0 ≤ c') (c1' : c' < 4) (hn : 4 * jn y' + c' ≠ 4 * jn y + im (nu y) c) (hm : mk5 (la y') (cl (4 * jn y' + c')) = mk5 (la y) (cl (4 * jn y + im (nu y) c))) : ¬ X c ∧ c ≠ y ∧ y' = c ∧ c' = im (nu c) y := by
  have hh := h
  obtain ⟨hG, hF, hU, -, hL, hC, -, -, hM⟩ := hh
  obtain ⟨⟨h1, h2, h3, h4⟩, -⟩ := hL
  obtain ⟨j0, j1, q0, q1⟩ := hC.2.1 y y0 y1 hy
  obtain ⟨j0', j1', q0', q1'⟩ := hC.2.1 y' y0' y1' hy'
  have ly := h2 y y0 y1
  have ly' := h2 y' y0' y1'
  have Ly := lt_y h y0 y1 hy
  have Ly' := lt_y h y0' y1' hy'
  have w := im_in q0.1 q0.2 c0 c1
  have lc := Ly.2.1 _ w.1 w.2
  have lc' := Ly'.2.1 _ c0' c1'
  rw [mk5_eq ⟨ly'.1, ly'.2.1⟩ ⟨lc'.1, lc'.2.1⟩ ⟨ly.1, ly.2.1⟩ ⟨lc.1, lc.2.1⟩ (Ne.symm lc'.2.2) (Ne.symm lc.2.2)] at hm
  rcases hm with ⟨z1, z2⟩ | ⟨z1, z2⟩
  · have ey := h3 _ _ y0' y1' y0 y1 z1
    rw [ey] at z2
    have := lt_u Ly ⟨c0', c1'⟩ w z2
    exact absurd (by rw [ey, this]) hn
  · rw [q1 c c0 c1] at z1
    split at z1
    · exact absurd z1 ly'.2.2
    · rename_i cy
      have ey := h3 _ _ y0' y1' c0 c1 z1
      refine ⟨by rw [← ey]; exact hy', cy, ey, ?_⟩
      have w' := im_in q0'.1 q0'.2 y0 y1
      have := lt_u Ly' ⟨c0', c1'⟩ w' (by rw [z2, q1' y y0 y1, if_neg (by omega)])
      rw [this, ey]
theorem cm_is {t : Int} {G : Int → Int} {a : Int} {X : Int → Prop} {nw : Int → Int} {s t' : Int} {H T C go gl : Int → Int} {gm : Int} {cl : Int → Int} {cm : Int} {la : Int → Int} {e : Int} {ix jn nu M Sg : Int → Int} (h : CFG t G a X nw s t' H T C go gl gm cl cm la e ix jn nu M Sg) {y c : Int} (y0 : 0 ≤ y) (y1 : y < 4) (hy : ¬ X y) (c0 : 0 ≤ c) (c1 : c < 4) (hc : ¬ X c) (cy : c ≠ y) : mk5 (la c) (cl (4 * jn c + im (nu c) y)) = mk5 (la y) (cl (4 * jn y + im (nu y) c)) ∧ 4 * jn c + im (nu c) y ≠ 4 * jn y + im (nu y) c := by
  have hh := h
  obtain ⟨hG, hF, hU, -, hL, hC, -, -, hM⟩ := hh
  obtain ⟨⟨h1, h2, h3, h4⟩, -⟩ := hL
  obtain ⟨j0, j1, q0, q1⟩ := hC.2.1 y y0 y1 hy
  obtain ⟨j0', j1', q0', q1'⟩ := hC.2.1 c c0 c1 hc
  have ly := h2 y y0 y1
  have lc := h2 c c0 c1
  have ne : la c ≠ la y := fun z => cy (h3 _ _ c0 c1 y0 y1 z)
  rw [q1 c c0 c1, if_neg cy, q1' y y0 y1, if_neg (Ne.symm cy)]
  refine ⟨(mk5_eq ⟨lc.1, lc.2.1⟩ ⟨ly.1, ly.2.1⟩ ⟨ly.1, ly.2.1⟩ ⟨lc.1, lc.2.1⟩ ne (Ne.symm ne)).mpr (Or.inr ⟨rfl, rfl⟩), fun z => ?_⟩
  have w := im_in q0.1 q0.2 c0 c1
  have w' := im_in q0'.1 q0'.2 y0 y1
  exact cy (hC.2.2.1 c y c0 c1 y0 y1 hc hy (by omega))
