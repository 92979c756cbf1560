/-! SURGERY: tets of S go, faces F with a home H F (new tet; corners by T F) are glued there as they were -/
def hmd (H : Int → Int) (F : Int) : Prop := 0 ≤ H F
/-- the code at a face's new place -/
def cyw (G H T : Int → Int) (F : Int) : Int := if G F < 0 then -1 else cyv G H T F
/-- a face of a new solid that is glued well: valid code, glued back, not to itself -/
def okF (t : Int) (C : Int → Int) (n : Int) : Prop := 0 ≤ C n ∧ C n / 32 < t ∧ C n % 32 < 24 ∧ C (4 * (C n / 32) + im (C n % 32) (n % 4)) = 32 * (n / 4) + iv (C n % 32) ∧ 4 * (C n / 32) + im (C n % 32) (n % 4) ≠ n
/-- what is known of a surgery: s stay, t' are there then -/
def SU0 (t : Int) (G : Int → Int) (S : Int → Prop) (s t' : Int) (H T : Int → Int) : Prop :=
  (s = sty S t ∧ 1 ≤ t' ∧ t' ≤ 8 ∧ s < t' ∧ ∃ i, 0 ≤ i ∧ i < t ∧ S i) ∧
  (∀ F, 0 ≤ F → F < 4 * t → ¬ S (F / 4) → H F = sty S (F / 4) ∧ T F = 0) ∧
  (∀ F, 0 ≤ F → F < 4 * t → S (F / 4) → (H F = -1 ∧ 0 ≤ G F ∧ S (G F / 32) ∧ H (pt G F) = -1) ∨ (s ≤ H F ∧ H F < t' ∧ 0 ≤ T F ∧ T F < 24)) ∧
  (∀ F F', 0 ≤ F → F < 4 * t → 0 ≤ F' → F' < 4 * t → S (F / 4) → S (F' / 4) → 0 ≤ H F → 0 ≤ H F' → cyn H T F = cyn H T F' → F = F')
def SU (t : Int) (G : Int → Int) (S : Int → Prop) (s t' : Int) (H T C : Int → Int) : Prop :=
  SU0 t G S s t' H T ∧
  (∀ F, 0 ≤ F → F < 4 * t → 0 ≤ H F → C (cyn H T F) = cyw G H T F) ∧
  (∀ n, 4 * s ≤ n → n < 4 * t' → (∃ F, 0 ≤ F ∧ F < 4 * t ∧ S (F / 4) ∧ 0 ≤ H F ∧ cyn H T F = n) ∨ okF t' C n) ∧
  (∀ n, 4 * t' ≤ n → n < 32 → C n = -1) ∧
  (∀ R : Int → Prop, CS t' C R → (∃ n, s ≤ n ∧ n < t' ∧ R n) → ∀ n, s ≤ n → n < t' → R n)
theorem pt_pt {t : Int} {G : Int → Int} (hG : VG t G) {k : Int} (k0 : 0 ≤ k) (k1 : k < 4 * t) (h : 0 ≤ G k) : 0 ≤ pt G k ∧ pt G k < 4 * t ∧ pt G k / 4 = G k / 32 ∧ pt G k % 4 = im (G k % 32) (k % 4) ∧ 0 ≤ G k % 32 ∧ G k % 32 < 24 ∧ G (pt G k) = 32 * (k / 4) + iv (G k % 32) ∧ pt G (pt G k) = k ∧ pt G k ≠ k := by
  rcases hG.2.1 k k0 k1 with y | ⟨y0, y1, y2, y3, y4⟩
  · omega
  have i := im_in (show 0 ≤ G k % 32 by omega) y2 (show 0 ≤ k % 4 by omega) (show k % 4 < 4 by omega)
  have v := iv_in (show 0 ≤ G k % 32 by omega) y2
  have e : pt G k = 4 * (G k / 32) + im (G k % 32) (k % 4) := by
    unfold pt
    rw [if_neg (by omega)]
  have e2 : pt G k % 4 = im (G k % 32) (k % 4) := by omega
  have e3 : G (pt G k) = 32 * (k / 4) + iv (G k % 32) := by rw [e]; exact y3
  refine ⟨by omega, by omega, by omega, e2, by omega, y2, e3, ?_, by rw [e]; exact y4⟩
  have : pt G (pt G k) = 4 * (G (pt G k) / 32) + im (G (pt G k) % 32) (pt G k % 4) := by
    show (if G (pt G k) < 0 then _ else _) = _
    rw [if_neg (by omega)]
  rw [this, e2, e3, show (32 * (k / 4) + iv (G k % 32)) / 32 = k / 4 by omega, show (32 * (k / 4) + iv (G k % 32)) % 32 = iv (G k % 32) by omega, (im_mi (by omega) y2 (by omega) (by omega)).1]
  omega
/-- homes are kept by gluing -/
theorem su_cl {t : Int} {G : Int → Int} {S : Int → Prop} {s t' : Int} {H T : Int → Int} (hG : VG t G) (h : SU0 t G S s t' H T) {F : Int} (F0 : 0 ≤ F) (F1 : F < 4 * t) (hF : 0 ≤ H F) (g : 0 ≤ G F) : 0 ≤ H (pt G F) := by
  obtain ⟨h1, h2, h3, h4⟩ := h
  obtain ⟨p0, p1, p2, p3, p4, p5, p6, p7, p8⟩ := pt_pt hG F0 F1 g
  by_cases z : S (pt G F / 4)
  · rcases h3 _ p0 p1 z with y | y
    · rw [p7] at y
      omega
    · have := sty_in S (show 0 ≤ t by have := hG.1; omega)
      omega
  · have := sty_in S (show 0 ≤ pt G F / 4 by omega)
    rw [(h2 _ p0 p1 z).1]
    exact this.1
theorem su_hm {t : Int} {G : Int → Int} {S : Int → Prop} {s t' : Int} {H T : Int → Int} (hG : VG t G) (h : SU0 t G S s t' H T) {F : Int} (F0 : 0 ≤ F) (F1 : F < 4 * t) (hF : 0 ≤ H F) : H F < t' ∧ 0 ≤ T F ∧ T F < 24 ∧ (¬ S (F / 4) → H F < s) ∧ (S (F / 4) → s ≤ H F) := by
  obtain ⟨h1, h2, h3, h4⟩ := h
  by_cases z : S (F / 4)
  · rcases h3 F F0 F1 z with y | y
    · omega
    · exact ⟨y.2.1, y.2.2.1, y.2.2.2, fun w => absurd z w, fun _ => y.1⟩
  · obtain ⟨a, b⟩ := h2 F F0 F1 z
    have := sty_lt (S := S) (show 0 ≤ F / 4 by omega) (show F / 4 < t by omega) z
    exact ⟨by omega, by omega, by omega, fun _ => by omega, fun w => absurd w z⟩
theorem su_inj {t : Int} {G : Int → Int} {S : Int → Prop} {s t' : Int} {H T : Int → Int} (hG : VG t G) (h : SU0 t G S s t' H T) {F F' : Int} (F0 : 0 ≤ F) (F1 : F < 4 * t) (hF : 0 ≤ H F) (F0' : 0 ≤ F') (F1' : F' < 4 * t) (hF' : 0 ≤ H F') (e : cyn H T F = cyn H T F') : F = F' := by
  obtain ⟨a1, a2, a3, a4, a5⟩ := su_hm hG h F0 F1 hF
  obtain ⟨b1, b2, b3, b4, b5⟩ := su_hm hG h F0' F1' hF'
  have i := im_in a2 a3 (show 0 ≤ F % 4 by omega) (show F % 4 < 4 by omega)
  have i' := im_in b2 b3 (show 0 ≤ F' % 4 by omega) (show F' % 4 < 4 by omega)
  have e' := e
  unfold cyn at e
  by_cases z : S (F / 4)
  · by_cases z' : S (F' / 4)
    · exact h.2.2.2 F F' F0 F1 F0' F1' z z' hF hF' e'
    · have := a5 z
      have := b4 z'
      omega
  · by_cases z' : S (F' / 4)
    · have := a4 z
      have := b5 z'
      omega
    · obtain ⟨c1, c2⟩ := h.2.1 F F0 F1 z
      obtain ⟨d1, d2⟩ := h.2.1 F' F0' F1' z'
      rw [c2, im_id (by omega) (by omega)] at i
      rw [d2, im_id (by omega) (by omega)] at i'
      rw [c2, d2, im_id (by omega) (by omega), im_id (by omega) (by omega)] at e
      have := sty_inj (S := S) (i := F / 4) (j := F' / 4) (by omega) (by omega) z z' (by omega)
      omega
/-- the place of the glued face; the code back -/
theorem cyv_p {t : Int} {G H T : Int → Int} (hG : VG t G) {F : Int} (F0 : 0 ≤ F) (F1 : F < 4 * t) (g : 0 ≤ G F) (hT : 0 ≤ T F ∧ T F < 24) (hT' : 0 ≤ T (pt G F) ∧ T (pt G F) < 24) : cyv G H T F / 32 = H (pt G F) ∧ 0 ≤ cyv G H T F % 32 ∧ cyv G H T F % 32 < 24 ∧ 4 * (cyv G H T F / 32) + im (cyv G H T F % 32) (im (T F) (F % 4)) = cyn H T (pt G F) ∧ cyv G H T (pt G F) = 32 * H F + iv (cyv G H T F % 32) := by
  obtain ⟨p0, p1, p2, p3, p4, p5, p6, p7, p8⟩ := pt_pt hG F0 F1 g
  have iT := iv_in hT.1 hT.2
  have iT' := iv_in hT'.1 hT'.2
  have a := af_in p4 p5 iT.1 iT.2
  have b := af_in hT'.1 hT'.2 a.1 a.2
  have ig := iv_in p4 p5
  have e1 : cyv G H T F / 32 = H (pt G F) := by unfold cyv; omega
  have e2 : cyv G H T F % 32 = af (T (pt G F)) (af (G F % 32) (iv (T F))) := by unfold cyv; omega
  have f0 : 0 ≤ F % 4 := by omega
  have f1 : F % 4 < 4 := by omega
  have i1 := im_in hT.1 hT.2 f0 f1
  refine ⟨e1, by omega, by omega, ?_, ?_⟩
  · rw [e1, e2, im_af hT'.1 hT'.2 a.1 a.2 i1.1 i1.2, im_af p4 p5 iT.1 iT.2 i1.1 i1.2, (im_mi hT.1 hT.2 f0 f1).1]
    unfold cyn
    rw [p3]
  · rw [e2, iv_af hT'.1 hT'.2 a.1 a.2, iv_af p4 p5 iT.1 iT.2, iv_iv hT.1 hT.2]
    unfold cyv
    rw [p7, p6, show (32 * (F / 4) + iv (G F % 32)) % 32 = iv (G F % 32) by omega, af_as hT.1 hT.2 ig.1 ig.2 iT'.1 iT'.2]
theorem su_vg {t : Int} {G : Int → Int} {S : Int → Prop} {s t' : Int} {H T C : Int → Int} (hG : VG t G) (h : SU t G S s t' H T C) : VG t' C := by
  have ht := hG.1
  have key : ∀ F, 0 ≤ F → F < 4 * t → 0 ≤ H F → C (cyn H T F) = -1 ∨ okF t' C (cyn H T F) := by
    intro F F0 F1 hF
    have e := h.2.1 F F0 F1 hF
    obtain ⟨a1, a2, a3, a4, a5⟩ := su_hm hG h.1 F0 F1 hF
    rcases Int.lt_or_le (G F) 0 with z | z
    · unfold cyw at e
      rw [if_pos z] at e
      exact Or.inl e
    · refine Or.inr ?_
      unfold cyw at e
      rw [if_neg (by omega)] at e
      have hF' := su_cl hG h.1 F0 F1 hF z
      obtain ⟨p0, p1, p2, p3, p4, p5, p6, p7, p8⟩ := pt_pt hG F0 F1 z
      obtain ⟨b1, b2, b3, b4, b5⟩ := su_hm hG h.1 p0 p1 hF'
      obtain ⟨c1, c2, c3, c4, c5⟩ := cyv_p (H := H) hG F0 F1 z ⟨a2, a3⟩ ⟨b2, b3⟩
      have i := im_in a2 a3 (show 0 ≤ F % 4 by omega) (show F % 4 < 4 by omega)
      have n4 : cyn H T F % 4 = im (T F) (F % 4) := by unfold cyn; omega
      have n5 : cyn H T F / 4 = H F := by unfold cyn; omega
      have e' := h.2.1 _ p0 p1 hF'
      have gp : ¬ G (pt G F) < 0 := by
        have := iv_in p4 p5
        omega
      unfold cyw at e'
      rw [if_neg gp] at e'
      unfold okF
      rw [e, n4, n5, c4, e', c5]
      refine ⟨by omega, by omega, c3, rfl, fun w => p8 ?_⟩
      exact su_inj hG h.1 p0 p1 hF' F0 F1 hF w
  refine ⟨⟨h.1.1.2.1, h.1.1.2.2.1⟩, fun n n0 n1 => ?_, h.2.2.2.1⟩
  rcases Int.lt_or_le n (4 * s) with z | z
  · obtain ⟨i, i0, i1, i2, i3⟩ := sty_sur (S := S) t.toNat (n / 4) (by omega) (by rw [Int.toNat_of_nonneg (by omega), ← h.1.1.1]; omega)
    rw [Int.toNat_of_nonneg (by omega)] at i1
    obtain ⟨a, b⟩ := h.1.2.1 (4 * i + n % 4) (by omega) (by omega) (by rw [show (4 * i + n % 4) / 4 = i by omega]; exact i2)
    rw [show (4 * i + n % 4) / 4 = i by omega, i3] at a
    have e : cyn H T (4 * i + n % 4) = n := by
      unfold cyn
      rw [a, b, show (4 * i + n % 4) % 4 = n % 4 by omega, im_id (by omega) (by omega)]
      omega
    have := key (4 * i + n % 4) (by omega) (by omega) (by omega)
    rw [e] at this
    exact this
  · rcases h.2.2.1 n z n1 with ⟨F, F0, F1, F2, F3, F4⟩ | y
    · have := key F F0 F1 F3
      rw [F4] at this
      exact this
    · exact Or.inr y
theorem su_cn {t : Int} {G : Int → Int} {S : Int → Prop} {s t' : Int} {H T C : Int → Int} (hG : VG t G) (hC : CN t G) (h : SU t G S s t' H T C) : CN t' C := by
  have ht := hG.1
  intro R ⟨n, n0, n1, hn⟩ hR
  have h8 := h.2.2.2.2 R hR
  -- what is known of a face with a home in R
  have go : ∀ F, 0 ≤ F → F < 4 * t → 0 ≤ H F → 0 ≤ G F → R (H F) → R (H (pt G F)) := by
    intro F F0 F1 hF g hr
    obtain ⟨a1, a2, a3, a4, a5⟩ := su_hm hG h.1 F0 F1 hF
    have hF' := su_cl hG h.1 F0 F1 hF g
    obtain ⟨p0, p1, p2, p3, p4, p5, p6, p7, p8⟩ := pt_pt hG F0 F1 g
    obtain ⟨b1, b2, b3, b4, b5⟩ := su_hm hG h.1 p0 p1 hF'
    obtain ⟨c1, c2, c3, c4, c5⟩ := cyv_p (H := H) hG F0 F1 g ⟨a2, a3⟩ ⟨b2, b3⟩
    have e := h.2.1 F F0 F1 hF
    unfold cyw at e
    rw [if_neg (by omega)] at e
    have i := im_in a2 a3 (show 0 ≤ F % 4 by omega) (show F % 4 < 4 by omega)
    have n5 : cyn H T F / 4 = H F := by unfold cyn; omega
    have := hR (cyn H T F) (by unfold cyn; omega) (by unfold cyn; omega) (by rw [n5]; exact hr) (by rw [e]; omega)
    rw [e, c1] at this
    exact this
  have all := hC (fun i => (S i → ∃ n, s ≤ n ∧ n < t' ∧ R n) ∧ (¬ S i → R (sty S i))) ?_ ?_
  · -- now all
    intro m m0 m1
    rcases Int.lt_or_le m s with z | z
    · obtain ⟨i, i0, i1, i2, i3⟩ := sty_sur (S := S) t.toNat m m0 (by rw [Int.toNat_of_nonneg (by omega), ← h.1.1.1]; omega)
      rw [Int.toNat_of_nonneg (by omega)] at i1
      have := (all i i0 i1).2 i2
      rw [i3] at this
      exact this
    · obtain ⟨i, i0, i1, i2⟩ := h.1.1.2.2.2.2
      exact h8 ((all i i0 i1).1 i2) m z m1
  · -- one
    rcases Int.lt_or_le n s with z | z
    · obtain ⟨i, i0, i1, i2, i3⟩ := sty_sur (S := S) t.toNat n n0 (by rw [Int.toNat_of_nonneg (by omega), ← h.1.1.1]; omega)
      rw [Int.toNat_of_nonneg (by omega)] at i1
      exact ⟨i, i0, i1, fun w => absurd w i2, fun _ => by rw [i3]; exact hn⟩
    · obtain ⟨i, i0, i1, i2⟩ := h.1.1.2.2.2.2
      exact ⟨i, i0, i1, fun _ => ⟨n, z, n1, hn⟩, fun w => absurd i2 w⟩
  · -- closed
    intro k k0 k1 hk g
    obtain ⟨p0, p1, p2, p3, p4, p5, p6, p7, p8⟩ := pt_pt hG k0 k1 g
    -- from the new tet of the other side
    have fin : 0 ≤ H (pt G k) → R (H (pt G k)) → (S (G k / 32) → ∃ n, s ≤ n ∧ n < t' ∧ R n) ∧ (¬ S (G k / 32) → R (sty S (G k / 32))) := by
      intro q hr
      rw [← p2]
      refine ⟨fun w => ?_, fun w => ?_⟩
      · obtain ⟨b1, b2, b3, b4, b5⟩ := su_hm hG h.1 p0 p1 q
        exact ⟨_, b5 w, b1, hr⟩
      · rw [(h.1.2.1 _ p0 p1 w).1] at hr
        exact hr
    by_cases w : S (k / 4)
    · rcases h.1.2.2.1 k k0 k1 w with y | y
      · refine ⟨fun _ => hk.1 w, fun z => absurd y.2.2.1 z⟩
      · have hs := sty_in S (show 0 ≤ t by omega)
        have hH : 0 ≤ H k := by have := h.1.1.1; omega
        exact fin (su_cl hG h.1 k0 k1 hH g) (go k k0 k1 hH g (h8 (hk.1 w) _ y.1 y.2.1))
    · have e := (h.1.2.1 k k0 k1 w).1
      have hs := sty_in S (show 0 ≤ k / 4 by omega)
      have hH : 0 ≤ H k := by omega
      exact fin (su_cl hG h.1 k0 k1 hH g) (go k k0 k1 hH g (by rw [e]; exact hk.2 w))
