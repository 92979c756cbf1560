/-! THE SAME SOLID, NUMBERED OTHERWISE -/
theorem pm_ext {q p : Int} (q0 : 0 ≤ q) (q1 : q < 24) (p0 : 0 ≤ p) (p1 : p < 24) (h : ∀ c, 0 ≤ c → c < 4 → im q c = im p c) : q = p :=
  im_ex q0 q1 p0 p1 (h 0 (by omega) (by omega)) (h 1 (by omega) (by omega)) (h 2 (by omega) (by omega))
theorem af_as {a b c : Int} (a0 : 0 ≤ a) (a1 : a < 24) (b0 : 0 ≤ b) (b1 : b < 24) (c0 : 0 ≤ c) (c1 : c < 24) : af (af a b) c = af a (af b c) := by
  have ab := af_in a0 a1 b0 b1
  have bc := af_in b0 b1 c0 c1
  have l := af_in ab.1 ab.2 c0 c1
  have r := af_in a0 a1 bc.1 bc.2
  refine pm_ext l.1 l.2 r.1 r.2 (fun x x0 x1 => ?_)
  have y := im_in c0 c1 x0 x1
  rw [im_af ab.1 ab.2 c0 c1 x0 x1, im_af a0 a1 b0 b1 y.1 y.2, im_af a0 a1 bc.1 bc.2 x0 x1, im_af b0 b1 c0 c1 x0 x1]
theorem iv_af {a b : Int} (a0 : 0 ≤ a) (a1 : a < 24) (b0 : 0 ≤ b) (b1 : b < 24) : iv (af a b) = af (iv b) (iv a) := by
  have ab := af_in a0 a1 b0 b1
  have l := iv_in ab.1 ab.2
  have ia := iv_in a0 a1
  have ib := iv_in b0 b1
  have r := af_in ib.1 ib.2 ia.1 ia.2
  refine pm_ext l.1 l.2 r.1 r.2 (fun x x0 x1 => ?_)
  have y := im_in l.1 l.2 x0 x1
  have e := (im_mi ab.1 ab.2 x0 x1).2
  have z := im_in b0 b1 y.1 y.2
  rw [im_af a0 a1 b0 b1 y.1 y.2] at e
  rw [im_af ib.1 ib.2 ia.1 ia.2 x0 x1]
  conv => rhs; rw [← e]
  rw [(im_mi a0 a1 z.1 z.2).1, (im_mi b0 b1 y.1 y.2).1]
theorem af_ia {a : Int} (a0 : 0 ≤ a) (a1 : a < 24) : af (iv a) a = 0 ∧ af a (iv a) = 0 ∧ af a 0 = a ∧ af 0 a = a := by
  have ia := iv_in a0 a1
  have p := af_in ia.1 ia.2 a0 a1
  have q := af_in a0 a1 ia.1 ia.2
  have r := af_in a0 a1 (show (0 : Int) ≤ 0 by omega) (show (0 : Int) < 24 by omega)
  have s := af_in (show (0 : Int) ≤ 0 by omega) (show (0 : Int) < 24 by omega) a0 a1
  refine ⟨pm_ext p.1 p.2 (by omega) (by omega) (fun x x0 x1 => ?_), pm_ext q.1 q.2 (by omega) (by omega) (fun x x0 x1 => ?_), pm_ext r.1 r.2 a0 a1 (fun x x0 x1 => ?_), pm_ext s.1 s.2 a0 a1 (fun x x0 x1 => ?_)⟩
  · rw [im_af ia.1 ia.2 a0 a1 x0 x1, (im_mi a0 a1 x0 x1).1, im_id x0 x1]
  · rw [im_af a0 a1 ia.1 ia.2 x0 x1, (im_mi a0 a1 x0 x1).2, im_id x0 x1]
  · rw [im_af a0 a1 (by omega) (by omega) x0 x1, im_id x0 x1]
  · have y := im_in a0 a1 x0 x1
    rw [im_af (by omega) (by omega) a0 a1 x0 x1, im_id y.1 y.2]
/-- the solid G' is G with tet i called m i (back: r), its corners named by s i -/
def IS (t : Int) (G G' m r s : Int → Int) : Prop :=
  (∀ i, 0 ≤ i → i < t → (0 ≤ m i ∧ m i < t ∧ r (m i) = i) ∧ (0 ≤ r i ∧ r i < t ∧ m (r i) = i) ∧ 0 ≤ s i ∧ s i < 24) ∧
  ∀ i f, 0 ≤ i → i < t → 0 ≤ f → f < 4 → G' (4 * m i + im (s i) f) = if G (4 * i + f) < 0 then -1 else 32 * m (G (4 * i + f) / 32) + af (s (G (4 * i + f) / 32)) (af (G (4 * i + f) % 32) (iv (s i)))
/-- two numberings that go on alike -/
def SR (t : Int) (m s : Int → Int) (S S' : BS) : Prop :=
  S'.1 = S.1 ∧ (∀ i, 0 ≤ i → i < t → S'.2.1 (m i) = S.2.1 i) ∧ (∀ j, 0 ≤ j → j < S.1 → S'.2.2.1 j = m (S.2.2.1 j)) ∧ (∀ i, 0 ≤ i → i < t → 0 ≤ S.2.1 i → S'.2.2.2 (m i) = af (S.2.2.2 i) (iv (s i)))
theorem sr_q {t : Int} {G G' m r s : Int → Int} {S S' : BS} {i q : Int} (hG : VG t G) (hI : IS t G G' m r s) (I : BI t G S i) (R : SR t m s S S') (q0 : 0 ≤ q) (q1 : q / 4 < S.1) :
    (bq G S q < 0 → bq G' S' q = -1) ∧ (0 ≤ bq G S q → 0 ≤ bq G' S' q ∧ bq G' S' q / 32 = m (bq G S q / 32) ∧ bp G' S' q = af (s (bq G S q / 32)) (bp G S q)) := by
  obtain ⟨⟨a0, a1⟩, ⟨v0, v1⟩, ⟨m0, m1⟩, hq⟩ := bf_ok hG I q0 q1
  obtain ⟨R1, R2, R3, R4⟩ := R
  obtain ⟨I1, I2, I3, I4, I5⟩ := I
  have e1 := R3 (q / 4) (by omega) q1
  have ha := I2 (q / 4) (by omega) q1
  have e2 := R4 _ a0 a1 (by rw [ha.2.2]; omega)
  have hn := I4 _ a0 a1 (by rw [ha.2.2]; omega)
  obtain ⟨⟨p0, p1, p2⟩, -, s0, s1⟩ := hI.1 _ a0 a1
  have is := iv_in s0 s1
  have e3 : iv (S'.2.2.2 (S'.2.2.1 (q / 4))) = af (s (S.2.2.1 (q / 4))) (iv (S.2.2.2 (S.2.2.1 (q / 4)))) := by
    rw [e1, e2, iv_af hn.1 hn.2 is.1 is.2, iv_iv s0 s1]
  have e4 := hI.2 _ _ a0 a1 m0 m1
  have e5 : bq G' S' q = G' (4 * m (S.2.2.1 (q / 4)) + im (s (S.2.2.1 (q / 4))) (im (iv (S.2.2.2 (S.2.2.1 (q / 4)))) (q % 4))) := by
    unfold bq
    rw [e3, e1, im_af s0 s1 v0 v1 (by omega) (by omega)]
  rw [e4] at e5
  change bq G' S' q = if bq G S q < 0 then _ else 32 * m (bq G S q / 32) + af (s (bq G S q / 32)) (af (bq G S q % 32) (iv (s (S.2.2.1 (q / 4))))) at e5
  refine ⟨fun z => by rw [e5, if_pos z], fun z => ?_⟩
  rw [if_neg (by omega)] at e5
  rcases hq with w | ⟨w, b0, b1, g0, g1⟩
  · omega
  obtain ⟨⟨x0, x1, x2⟩, -, y0, y1⟩ := hI.1 _ b0 b1
  have u := af_in g0 g1 is.1 is.2
  have u2 := af_in y0 y1 u.1 u.2
  have e6 : bq G' S' q / 32 = m (bq G S q / 32) := by rw [e5]; omega
  have e7 : bq G' S' q % 32 = af (s (bq G S q / 32)) (af (bq G S q % 32) (iv (s (S.2.2.1 (q / 4))))) := by rw [e5]; omega
  refine ⟨by rw [e5]; omega, e6, ?_⟩
  unfold bp
  rw [e3, e7, af_as y0 y1 u.1 u.2 (af_in s0 s1 v0 v1).1 (af_in s0 s1 v0 v1).2, af_as g0 g1 is.1 is.2 (af_in s0 s1 v0 v1).1 (af_in s0 s1 v0 v1).2, ← af_as is.1 is.2 s0 s1 v0 v1, (af_ia s0 s1).1, (af_ia v0 v1).2.2.2]
theorem sr_step {t : Int} {G G' m r s : Int → Int} {S S' : BS} {i : Int} (hG : VG t G) (hI : IS t G G' m r s) (I : BI t G S i) (R : SR t m s S S') (i0 : 0 ≤ i) (i1 : i / 4 < S.1) : SR t m s (bstep G S i) (bstep G' S' i) := by
  obtain ⟨qa, qb⟩ := sr_q hG hI I R i0 i1
  obtain ⟨⟨a0, a1⟩, ⟨v0, v1⟩, ⟨m0, m1⟩, hq⟩ := bf_ok hG I i0 i1
  by_cases hc : bq G S i < 0
  · unfold bstep
    rw [if_pos hc, if_pos (by rw [qa hc]; omega)]
    exact R
  · rcases hq with w | ⟨w, b0, b1, g0, g1⟩
    · omega
    obtain ⟨q0, q1, q2⟩ := qb w
    obtain ⟨R1, R2, R3, R4⟩ := R
    obtain ⟨⟨x0, x1, x2⟩, -, y0, y1⟩ := hI.1 _ b0 b1
    have u : 0 ≤ bp G S i ∧ bp G S i < 24 := af_in g0 g1 v0 v1
    unfold bstep
    rw [if_neg hc, if_neg (show ¬ bq G' S' i < 0 by omega), q1, R2 _ b0 b1, q2]
    by_cases hn : S.2.1 (bq G S i / 32) < 0
    · rw [if_pos hn, if_pos hn]
      have inj : ∀ j, 0 ≤ j → j < t → m j = m (bq G S i / 32) → j = bq G S i / 32 := fun j j0 j1 e => by
        have := (hI.1 j j0 j1).1.2.2
        rw [e, x2] at this
        exact this.symm
      refine ⟨by show S'.1 + 1 = S.1 + 1; omega, fun j j0 j1 => ?_, fun j j0 j1 => ?_, fun j j0 j1 j2 => ?_⟩
      · show uf S'.2.1 (m (bq G S i / 32)) S'.1 (m j) = uf S.2.1 (bq G S i / 32) S.1 j
        by_cases z : j = bq G S i / 32
        · rw [z, uf_s, uf_s, R1]
        · rw [uf_n z, uf_n (fun e => z (inj j j0 j1 e)), R2 j j0 j1]
      · have j1 : j < S.1 + 1 := j1
        show uf S'.2.2.1 S'.1 (m (bq G S i / 32)) j = m (uf S.2.2.1 S.1 (bq G S i / 32) j)
        rw [R1]
        by_cases z : j = S.1
        · rw [z, uf_s, uf_s]
        · rw [uf_n z, uf_n z, R3 j j0 (by omega)]
      · have j2 : 0 ≤ uf S.2.1 (bq G S i / 32) S.1 j := j2
        show uf S'.2.2.2 (m (bq G S i / 32)) (iv (af (s (bq G S i / 32)) (bp G S i))) (m j) = af (uf S.2.2.2 (bq G S i / 32) (iv (bp G S i)) j) (iv (s j))
        by_cases z : j = bq G S i / 32
        · rw [z, uf_s, uf_s, iv_af y0 y1 u.1 u.2]
        · rw [uf_n z] at j2
          rw [uf_n z, uf_n (fun e => z (inj j j0 j1 e)), R4 j j0 j1 j2]
    · rw [if_neg hn, if_neg hn]
      exact ⟨R1, R2, R3, R4⟩
theorem sr_all {t : Int} {G G' m r s : Int → Int} {f p : Int} (hG : VG t G) (hC : CN t G) (hI : IS t G G' m r s) (hf : 0 ≤ f ∧ f < t) (hp : 0 ≤ p ∧ p < 24) : ∀ i : Nat, (i : Int) ≤ 4 * t → SR t m s (bst G f p i) (bst G' (m f) (af p (iv (s f))) i)
  | 0, _ => by
    obtain ⟨⟨x0, x1, x2⟩, -, y0, y1⟩ := hI.1 f hf.1 hf.2
    refine ⟨rfl, fun j j0 j1 => ?_, fun j j0 j1 => ?_, fun j j0 j1 j2 => ?_⟩
    · show uf (fun _ => -1) (m f) 0 (m j) = uf (fun _ => -1) f 0 j
      by_cases z : j = f
      · rw [z, uf_s, uf_s]
      · rw [uf_n z, uf_n (fun e => z (by have := (hI.1 j j0 j1).1.2.2; rw [e, x2] at this; exact this.symm))]
    · have j1 : j < 1 := j1
      have e : j = 0 := by omega
      subst e
      show uf (fun _ => 0) 0 (m f) 0 = m (uf (fun _ => 0) 0 f 0)
      rw [uf_s, uf_s]
    · have j2 : 0 ≤ uf (fun _ => -1) f 0 j := j2
      show uf (fun _ => 0) (m f) (af p (iv (s f))) (m j) = af (uf (fun _ => 0) f p j) (iv (s j))
      by_cases z : j = f
      · rw [z, uf_s, uf_s]
      · rw [uf_n z] at j2
        omega
  | i + 1, h => by
    have ih := sr_all hG hC hI hf hp i (by omega)
    have I := bf_all hG hC hf hp i (by omega)
    exact sr_step hG hI I ih (by omega) (bf_conn hG hC I (by omega) (by omega))
theorem is_row {t : Int} {G G' m r s : Int → Int} {f p : Int} (hG : VG t G) (hC : CN t G) (hI : IS t G G' m r s) (hf : 0 ≤ f ∧ f < t) (hp : 0 ≤ p ∧ p < 24) {i : Int} (i0 : 0 ≤ i) (i1 : i < 4 * t) : brow G' (m f) (af p (iv (s f))) i = brow G f p i := by
  have I := bf_all hG hC hf hp i.toNat (by omega)
  have R := sr_all hG hC hI hf hp i.toNat (by omega)
  have R' := sr_all hG hC hI hf hp (i + 1).toNat (by omega)
  rw [Int.toNat_of_nonneg i0] at I
  have hi := bf_conn hG hC I i0 i1
  obtain ⟨qa, qb⟩ := sr_q hG hI I R i0 hi
  obtain ⟨⟨a0, a1⟩, ⟨v0, v1⟩, ⟨m0, m1⟩, hq⟩ := bf_ok hG I i0 hi
  have st := bf_step hG I i0 hi
  rw [← bst_s G f p i0] at st
  unfold brow
  by_cases hc : bq G (bst G f p i.toNat) i < 0
  · rw [if_pos hc, if_pos (by rw [qa hc]; omega)]
  · rcases hq with w | ⟨w, b0, b1, g0, g1⟩
    · omega
    obtain ⟨q0, q1, q2⟩ := qb w
    obtain ⟨n0, n1, n2, n3⟩ := st.2 w
    obtain ⟨⟨x0, x1, x2⟩, -, y0, y1⟩ := hI.1 _ b0 b1
    have u : 0 ≤ bp G (bst G f p i.toNat) i ∧ bp G (bst G f p i.toNat) i < 24 := af_in g0 g1 v0 v1
    have iy := iv_in y0 y1
    have yu := af_in y0 y1 u.1 u.2
    rw [if_neg hc, if_neg (show ¬ bq G' (bst G' (m f) (af p (iv (s f))) i.toNat) i < 0 by omega), q1, q2, R'.2.1 _ b0 b1, R'.2.2.2 _ b0 b1 n0, af_as n2 n3 iy.1 iy.2 yu.1 yu.2, ← af_as iy.1 iy.2 y0 y1 u.1 u.2, (af_ia y0 y1).1, (af_ia u.1 u.2).2.2.2]
theorem is_sym {t : Int} {G G' m r s : Int → Int} (hG : VG t G) (hI : IS t G G' m r s) : IS t G' G r m (fun i => iv (s (r i))) := by
  refine ⟨fun i i0 i1 => ?_, fun i f i0 i1 f0 f1 => ?_⟩
  · obtain ⟨a, b, c⟩ := hI.1 i i0 i1
    obtain ⟨a', b', c'⟩ := hI.1 (r i) b.1 b.2.1
    have := iv_in c'.1 c'.2
    exact ⟨b, a, this.1, this.2⟩
  · obtain ⟨-, ⟨r0, r1, r2⟩, -⟩ := hI.1 i i0 i1
    obtain ⟨-, -, s0, s1⟩ := hI.1 (r i) r0 r1
    have is := iv_in s0 s1
    have fi := im_in is.1 is.2 f0 f1
    have e := hI.2 (r i) (im (iv (s (r i))) f) r0 r1 fi.1 fi.2
    rw [r2, (im_mi s0 s1 f0 f1).2] at e
    show G (4 * r i + im (iv (s (r i))) f) = _
    rcases hG.2.1 (4 * r i + im (iv (s (r i))) f) (by omega) (by omega) with z | ⟨z0, z1, z2, z3, z4⟩
    · rw [if_pos (by omega)] at e
      rw [e, if_pos (by omega), z]
    · rw [if_neg (by omega)] at e
      have z5 : 0 ≤ G (4 * r i + im (iv (s (r i))) f) / 32 := by omega
      have z6 : 0 ≤ G (4 * r i + im (iv (s (r i))) f) % 32 := by omega
      obtain ⟨⟨x0, x1, x2⟩, -, y0, y1⟩ := hI.1 _ z5 z1
      have iy := iv_in y0 y1
      have gi := af_in z6 z2 is.1 is.2
      have w := af_in y0 y1 gi.1 gi.2
      have e1 : G' (4 * i + f) / 32 = m (G (4 * r i + im (iv (s (r i))) f) / 32) := by rw [e]; omega
      have e2 : G' (4 * i + f) % 32 = af (s (G (4 * r i + im (iv (s (r i))) f) / 32)) (af (G (4 * r i + im (iv (s (r i))) f) % 32) (iv (s (r i)))) := by rw [e]; omega
      rw [if_neg (by omega), e1, e2]
      show _ = 32 * r (m (G (4 * r i + im (iv (s (r i))) f) / 32)) + af (iv (s (r (m (G (4 * r i + im (iv (s (r i))) f) / 32))))) (af (af (s (G (4 * r i + im (iv (s (r i))) f) / 32)) (af (G (4 * r i + im (iv (s (r i))) f) % 32) (iv (s (r i))))) (iv (iv (s (r i)))))
      rw [x2, iv_iv s0 s1, af_as y0 y1 gi.1 gi.2 s0 s1, af_as z6 z2 is.1 is.2 s0 s1, (af_ia s0 s1).1, (af_ia z6 z2).2.2.1, ← af_as iy.1 iy.2 y0 y1 z6 z2, (af_ia y0 y1).1, (af_ia z6 z2).2.2.2]
      omega
theorem is_cn {t : Int} {G G' m r s : Int → Int} (hG : VG t G) (hC : CN t G) (hI : IS t G G' m r s) : CN t G' := by
  intro S ⟨i, i0, i1, hi⟩ hS j j0 j1
  obtain ⟨-, ⟨r0, r1, r2⟩, -⟩ := hI.1 i i0 i1
  obtain ⟨-, ⟨u0, u1, u2⟩, -⟩ := hI.1 j j0 j1
  have := hC (fun x => S (m x)) ⟨r i, r0, r1, by show S (m (r i)); rw [r2]; exact hi⟩ (fun k k0 k1 hk hg => ?_) (r j) u0 u1
  · have this : S (m (r j)) := this
    rw [u2] at this
    exact this
  · show S (m (G k / 32))
    have hk : S (m (k / 4)) := hk
    obtain ⟨⟨x0, x1, x2⟩, -, y0, y1⟩ := hI.1 (k / 4) (by omega) (by omega)
    have fi := im_in y0 y1 (show 0 ≤ k % 4 by omega) (show k % 4 < 4 by omega)
    have e := hI.2 (k / 4) (k % 4) (by omega) (by omega) (by omega) (by omega)
    rw [show 4 * (k / 4) + k % 4 = k by omega, if_neg (by omega)] at e
    rcases hG.2.1 k k0 k1 with z | ⟨z0, z1, z2, z3, z4⟩
    · omega
    obtain ⟨⟨p0, p1, p2⟩, -, q0, q1⟩ := hI.1 (G k / 32) (by omega) z1
    have iy := iv_in y0 y1
    have gi := af_in (show 0 ≤ G k % 32 by omega) z2 iy.1 iy.2
    have w := af_in q0 q1 gi.1 gi.2
    have h := hS (4 * m (k / 4) + im (s (k / 4)) (k % 4)) (by omega) (by omega) (by rw [show (4 * m (k / 4) + im (s (k / 4)) (k % 4)) / 4 = m (k / 4) by omega]; exact hk) (by rw [e]; omega)
    rw [e, show (32 * m (G k / 32) + af (s (G k / 32)) (af (G k % 32) (iv (s (k / 4))))) / 32 = m (G k / 32) by omega] at h
    exact h
theorem is_vg {t : Int} {G G' m r s : Int → Int} (hG : VG t G) (hI : IS t G G' m r s) (hE : ∀ k, 4 * t ≤ k → k < 32 → G' k = -1) : VG t G' := by
  refine ⟨hG.1, fun k k0 k1 => ?_, hE⟩
  obtain ⟨-, ⟨r0, r1, r2⟩, -⟩ := hI.1 (k / 4) (by omega) (by omega)
  obtain ⟨-, -, s0, s1⟩ := hI.1 (r (k / 4)) r0 r1
  have is := iv_in s0 s1
  generalize hi : r (k / 4) = i at *
  have fi := im_in is.1 is.2 (show 0 ≤ k % 4 by omega) (show k % 4 < 4 by omega)
  generalize hf : im (iv (s i)) (k % 4) = f at *
  have hf2 : im (s i) f = k % 4 := by rw [← hf]; exact (im_mi s0 s1 (by omega) (by omega)).2
  have e := hI.2 i f r0 r1 fi.1 fi.2
  rw [r2, hf2, show 4 * (k / 4) + k % 4 = k by omega] at e
  rcases hG.2.1 (4 * i + f) (by omega) (by omega) with z | ⟨z0, z1, z2, z3, z4⟩
  · rw [if_pos (by omega)] at e
    exact Or.inl e
  · rw [if_neg (by omega)] at e
    rw [show (4 * i + f) / 4 = i by omega, show (4 * i + f) % 4 = f by omega] at *
    generalize hg : G (4 * i + f) = g at *
    have g5 : 0 ≤ g / 32 := by omega
    have g6 : 0 ≤ g % 32 := by omega
    obtain ⟨⟨x0, x1, x2⟩, -, y0, y1⟩ := hI.1 _ g5 z1
    have gi := af_in g6 z2 is.1 is.2
    have w := af_in y0 y1 gi.1 gi.2
    have gf := im_in g6 z2 fi.1 fi.2
    have e1 : G' k / 32 = m (g / 32) := by rw [e]; omega
    have e2 : G' k % 32 = af (s (g / 32)) (af (g % 32) (iv (s i))) := by rw [e]; omega
    have e3 : im (G' k % 32) (k % 4) = im (s (g / 32)) (im (g % 32) f) := by
      rw [e2, im_af y0 y1 gi.1 gi.2 (by omega) (by omega), im_af g6 z2 is.1 is.2 (by omega) (by omega), hf]
    have e4 := hI.2 (g / 32) (im (g % 32) f) g5 z1 gf.1 gf.2
    have ig := iv_in g6 z2
    have ivy := iv_in y0 y1
    rw [z3, if_neg (by omega), show (32 * i + iv (g % 32)) / 32 = i by omega, show (32 * i + iv (g % 32)) % 32 = iv (g % 32) by omega] at e4
    refine Or.inr ⟨by rw [e]; omega, by rw [e1]; exact x1, by rw [e2]; exact w.2, ?_, ?_⟩
    · rw [e1, e3, e4, e2, iv_af y0 y1 gi.1 gi.2, iv_af g6 z2 is.1 is.2, iv_iv s0 s1, af_as s0 s1 ig.1 ig.2 ivy.1 ivy.2, r2]
    · rw [e1, e3]
      intro h
      have sy := im_in y0 y1 gf.1 gf.2
      have a1 : m (g / 32) = k / 4 := by omega
      have a2 : im (s (g / 32)) (im (g % 32) f) = k % 4 := by omega
      have a3 : g / 32 = i := by rw [← x2, a1, hi]
      rw [a3] at a2
      have a4 := im_ij s0 s1 gf.1 gf.2 fi.1 fi.2 (a2.trans hf2.symm)
      exact z4 (by rw [a3, a4])
/-- the least row of the same solid, numbered otherwise, is the same -/
theorem is_rowq {t : Int} {G G' m r s : Int → Int} (hG : VG t G) (hC : CN t G) (hI : IS t G G' m r s) {q : Int} (q0 : 0 ≤ q) (q1 : q < 24 * t) : ∃ q', 0 ≤ q' ∧ q' < 24 * t ∧ eqn (4 * t) (rowq G' q') (rowq G q) := by
  obtain ⟨⟨x0, x1, x2⟩, -, y0, y1⟩ := hI.1 (q / 24) (by omega) (by omega)
  have iy := iv_in y0 y1
  have w := af_in (show 0 ≤ q % 24 by omega) (show q % 24 < 24 by omega) iy.1 iy.2
  refine ⟨24 * m (q / 24) + af (q % 24) (iv (s (q / 24))), by omega, by omega, fun j j0 j1 => ?_⟩
  unfold rowq
  rw [show (24 * m (q / 24) + af (q % 24) (iv (s (q / 24)))) / 24 = m (q / 24) by omega, show (24 * m (q / 24) + af (q % 24) (iv (s (q / 24)))) % 24 = af (q % 24) (iv (s (q / 24))) by omega]
  exact is_row hG hC hI (by omega) (by omega) j0 j1
theorem lxl_tot {a b : Int → Int} : ∀ n : Nat, eqn n a b ∨ lxl n a b ∨ lxl n b a
  | 0 => Or.inl (fun j j0 j1 => by omega)
  | n + 1 => by
    rcases lxl_tot (a := a) (b := b) n with e | ⟨k, k0, k1, k2, k3⟩ | ⟨k, k0, k1, k2, k3⟩
    · rcases Int.lt_trichotomy (a n) (b n) with z | z | z
      · exact Or.inr (Or.inl ⟨n, by omega, by omega, e, z⟩)
      · refine Or.inl (fun j j0 j1 => ?_)
        rcases Int.lt_or_eq_of_le (show j ≤ n by omega) with y | y
        · exact e j j0 y
        · rw [y]; exact z
      · exact Or.inr (Or.inr ⟨n, by omega, by omega, eqn_sy e, z⟩)
    · exact Or.inr (Or.inl ⟨k, k0, by omega, k2, k3⟩)
    · exact Or.inr (Or.inr ⟨k, k0, by omega, k2, k3⟩)
theorem is_least {t : Int} {G G' m r s L L' : Int → Int} {a b : Int} (hG : VG t G) (hC : CN t G) (hI : IS t G G' m r s) (hE : ∀ k, 4 * t ≤ k → k < 32 → G' k = -1) (h1 : LI t G L (24 * t) a) (h2 : LI t G' L' (24 * t) b) : eqn (4 * t) L L' := by
  have ht := hG.1
  have hG' := is_vg hG hI hE
  have hC' := is_cn hG hC hI
  obtain ⟨q, q0, q1, q2⟩ := h1.2.2.1 (by omega)
  obtain ⟨u, u0, u1, u2⟩ := h2.2.2.1 (by omega)
  obtain ⟨q', a0, a1, a2⟩ := is_rowq hG hC hI q0 q1
  obtain ⟨u', b0, b1, b2⟩ := is_rowq hG' hC' (is_sym hG hI) u0 u1
  have n1 := h2.2.2.2.1 q' a0 a1
  have n2 := h1.2.2.2.1 u' b0 b1
  have e1 := eqn_tr a2 q2
  have e2 := eqn_tr b2 u2
  rcases lxl_tot (a := L) (b := L') (4 * t).toNat with z | z | z
  · rw [Int.toNat_of_nonneg (by omega)] at z
    exact z
  · rw [Int.toNat_of_nonneg (by omega)] at z
    exact absurd (lxl_el e1 z) n1
  · rw [Int.toNat_of_nonneg (by omega)] at z
    exact absurd (lxl_el e2 z) n2
/-- numbers, tets by numbers and names stay as a numbering goes on -/
theorem bst_le {t : Int} {G : Int → Int} {f p : Int} (hG : VG t G) (hC : CN t G) (hf : 0 ≤ f ∧ f < t) (hp : 0 ≤ p ∧ p < 24) {i : Nat} : ∀ n : Nat, ((i + n : Nat) : Int) ≤ 4 * t → (∀ s, 0 ≤ s → s < t → 0 ≤ (bst G f p i).2.1 s → (bst G f p (i + n)).2.1 s = (bst G f p i).2.1 s ∧ (bst G f p (i + n)).2.2.2 s = (bst G f p i).2.2.2 s) ∧ (bst G f p i).1 ≤ (bst G f p (i + n)).1 ∧ ∀ j, 0 ≤ j → j < (bst G f p i).1 → (bst G f p (i + n)).2.2.1 j = (bst G f p i).2.2.1 j
  | 0, _ => ⟨fun s s0 s1 s2 => ⟨rfl, rfl⟩, Int.le_refl _, fun j j0 j1 => rfl⟩
  | n + 1, h => by
    obtain ⟨h1, h2, h3⟩ := bst_le hG hC hf hp (i := i) n (by omega)
    show (∀ s, 0 ≤ s → s < t → 0 ≤ (bst G f p i).2.1 s → (bstep G (bst G f p (i + n)) (i + n : Nat)).2.1 s = (bst G f p i).2.1 s ∧ (bstep G (bst G f p (i + n)) (i + n : Nat)).2.2.2 s = (bst G f p i).2.2.2 s) ∧ (bst G f p i).1 ≤ (bstep G (bst G f p (i + n)) (i + n : Nat)).1 ∧ ∀ j, 0 ≤ j → j < (bst G f p i).1 → (bstep G (bst G f p (i + n)) (i + n : Nat)).2.2.1 j = (bst G f p i).2.2.1 j
    unfold bstep
    split
    · exact ⟨h1, h2, h3⟩
    · split
      · rename_i c1 c2
        refine ⟨fun s s0 s1 s2 => ?_, by show (bst G f p i).1 ≤ (bst G f p (i + n)).1 + 1; omega, fun j j0 j1 => ?_⟩
        · obtain ⟨k1, k2⟩ := h1 s s0 s1 s2
          have ne : s ≠ bq G (bst G f p (i + n)) ((i + n : Nat) : Int) / 32 := fun e => by
            rw [← e, k1] at c2
            omega
          refine ⟨?_, ?_⟩
          · show uf (bst G f p (i + n)).2.1 (bq G (bst G f p (i + n)) ((i + n : Nat) : Int) / 32) _ s = _
            rw [uf_n ne]; exact k1
          · show uf (bst G f p (i + n)).2.2.2 (bq G (bst G f p (i + n)) ((i + n : Nat) : Int) / 32) _ s = _
            rw [uf_n ne]; exact k2
        · show uf (bst G f p (i + n)).2.2.1 (bst G f p (i + n)).1 _ j = _
          rw [uf_n (by omega)]
          exact h3 j j0 j1
      · exact ⟨h1, h2, h3⟩
/-- a numbering's row is the same solid, numbered otherwise -/
theorem row_is {t : Int} {G L : Int → Int} {f p : Int} (hG : VG t G) (hC : CN t G) (hf : 0 ≤ f ∧ f < t) (hp : 0 ≤ p ∧ p < 24) (hL : eqn (4 * t) (brow G f p) L) : IS t G L (bst G f p (4 * t).toNat).2.1 (bst G f p (4 * t).toNat).2.2.1 (bst G f p (4 * t).toNat).2.2.2 := by
  have ht := hG.1
  have I := bf_all hG hC hf hp (4 * t).toNat (by omega)
  rw [Int.toNat_of_nonneg (by omega)] at I
  have hK := I
  obtain ⟨I1, I2, I3, I4, I5⟩ := I
  have hF : (bst G f p (4 * t).toNat).1 = t := by
    have := (I5 (4 * t - 1) (by omega) (by omega)).1
    omega
  have hA : ∀ i, 0 ≤ i → i < t → 0 ≤ (bst G f p (4 * t).toNat).2.1 i ∧ (bst G f p (4 * t).toNat).2.1 i < t ∧ (bst G f p (4 * t).toNat).2.2.1 ((bst G f p (4 * t).toNat).2.1 i) = i := by
    intro i i0 i1
    rcases I3 i i0 i1 with z | z
    · have := bf_room hK i0 i1 (by omega)
      omega
    · rw [hF] at z
      exact z
  refine ⟨fun i i0 i1 => ⟨hA i i0 i1, ?_, I4 i i0 i1 (hA i i0 i1).1⟩, fun i c i0 i1 c0 c1 => ?_⟩
  · have := I2 i i0 (by omega)
    exact this
  · obtain ⟨a0, a1, a2⟩ := hA i i0 i1
    obtain ⟨n0, n1⟩ := I4 i i0 i1 a0
    have ic := im_in n0 n1 c0 c1
    generalize hk : 4 * (bst G f p (4 * t).toNat).2.1 i + im ((bst G f p (4 * t).toNat).2.2.2 i) c = k at *
    rw [← hL k (by omega) (by omega)]
    have k0 : 0 ≤ k := by omega
    have Ik := bf_all hG hC hf hp k.toNat (by omega)
    rw [Int.toNat_of_nonneg k0] at Ik
    have hi := bf_conn hG hC Ik k0 (by omega)
    obtain ⟨-, st⟩ := bf_step hG Ik k0 hi
    rw [← bst_s G f p k0] at st
    obtain ⟨w1, w2, w3⟩ := bst_le hG hC hf hp (i := k.toNat) ((4 * t).toNat - k.toNat) (by omega)
    obtain ⟨v1, v2, v3⟩ := bst_le hG hC hf hp (i := (k + 1).toNat) ((4 * t).toNat - (k + 1).toNat) (by omega)
    rw [show k.toNat + ((4 * t).toNat - k.toNat) = (4 * t).toNat by omega] at w1 w2 w3
    rw [show (k + 1).toNat + ((4 * t).toNat - (k + 1).toNat) = (4 * t).toNat by omega] at v1 v2 v3
    have e4 : k / 4 = (bst G f p (4 * t).toNat).2.1 i := by omega
    have e1 : (bst G f p k.toNat).2.2.1 (k / 4) = i := by
      rw [← w3 (k / 4) (by omega) hi, e4, a2]
    have e2 : 0 ≤ (bst G f p k.toNat).2.1 i := by
      have := (Ik.2.1 (k / 4) (by omega) hi).2.2
      rw [e1] at this
      omega
    have e3 : (bst G f p k.toNat).2.2.2 i = (bst G f p (4 * t).toNat).2.2.2 i := (w1 i i0 i1 e2).2.symm
    have e5 : bq G (bst G f p k.toNat) k = G (4 * i + c) := by
      unfold bq
      rw [e1, e3, show k % 4 = im ((bst G f p (4 * t).toNat).2.2.2 i) c by omega, (im_mi n0 n1 c0 c1).1]
    have e6 : bp G (bst G f p k.toNat) k = af (G (4 * i + c) % 32) (iv ((bst G f p (4 * t).toNat).2.2.2 i)) := by
      unfold bp
      rw [e5, e1, e3]
    unfold brow
    rw [e6]
    rw [e5] at st ⊢
    by_cases z : G (4 * i + c) < 0
    · rw [if_pos z, if_pos z]
    · rw [if_neg z, if_neg z]
      obtain ⟨s0, s1, s2, s3⟩ := st (by omega)
      rcases hG.2.1 (4 * i + c) (by omega) (by omega) with y | y
      · omega
      obtain ⟨u1, u2⟩ := v1 (G (4 * i + c) / 32) (by omega) y.2.1 s0
      rw [u1, u2]
/-- what a solid is renumbered to -/
def stl (t : Int) (G L : Int → Int) : Int → Int := ma_cpy L G 0 0 (4 * t)
theorem stl_in {t : Int} {G L : Int → Int} {j : Int} (j0 : 0 ≤ j) (j1 : j < 4 * t) : stl t G L j = L j := by
  unfold stl ma_cpy
  rw [if_pos (by omega)]
  congr 1
  omega
theorem stl_out {t : Int} {G L : Int → Int} {j : Int} (j1 : 4 * t ≤ j) : stl t G L j = G j := by
  unfold stl ma_cpy
  rw [if_neg (by omega)]
theorem li_is {t : Int} {G L : Int → Int} {a : Int} (hG : VG t G) (hC : CN t G) (h : LI t G L (24 * t) a) : ∃ m r s, IS t G (stl t G L) m r s := by
  have ht := hG.1
  obtain ⟨q, q0, q1, q2⟩ := h.2.2.1 (by omega)
  exact ⟨_, _, _, row_is hG hC (f := q / 24) (p := q % 24) (by omega) (by omega) (fun j j0 j1 => by rw [stl_in j0 j1]; exact q2 j j0 j1)⟩
theorem li_vg {t : Int} {G L : Int → Int} {a : Int} (hG : VG t G) (hC : CN t G) (h : LI t G L (24 * t) a) : VG t (stl t G L) ∧ CN t (stl t G L) := by
  obtain ⟨m, r, s, e⟩ := li_is hG hC h
  exact ⟨is_vg hG e (fun k k0 k1 => by rw [stl_out k0]; exact hG.2.2 k k0 k1), is_cn hG hC e⟩
