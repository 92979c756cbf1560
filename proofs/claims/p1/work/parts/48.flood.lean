/-! FLOODS: nodes x with neighbours nb f x (f < 4, below 0: none); ok: a node -/
/-- a colour that neighbours share -/
def CI (ok : Int → Prop) (nb : Int → Int → Int) (c : Int → Int) : Prop := ∀ x f, ok x → 0 ≤ f → f < 4 → 0 ≤ nb f x → c (nb f x) = c x
/-- nodes below N, neighbours are nodes, both ways -/
def NB (N : Int) (ok : Int → Prop) (nb : Int → Int → Int) : Prop := (∀ x, ok x → 0 ≤ x ∧ x < N) ∧ ∀ x f, ok x → 0 ≤ f → f < 4 → 0 ≤ nb f x → ok (nb f x) ∧ ∃ g, 0 ≤ g ∧ g < 4 ∧ nb g (nb f x) = x
/-- marks so far: nodes below k are marked, by the first node of their kind -/
def RI (N : Int) (ok : Int → Prop) (nb : Int → Int → Int) (E : Int → Int) (k : Int) : Prop :=
  (∀ x, ok x → E x = -1 ∨ (0 ≤ E x ∧ E x ≤ x ∧ ∀ c, CI ok nb c → c (E x) = c x)) ∧ (∀ x f, ok x → 0 ≤ f → f < 4 → 0 ≤ nb f x → 0 ≤ E x → E (nb f x) = E x) ∧ (∀ x, ok x → x < k → 0 ≤ E x) ∧ (∀ x, 0 ≤ x → x < N → ¬ ok x → E x = -1)
/-- a flood from s under way: n are reached, i are done, of the next one the sides below f -/
def FQ (N : Int) (ok : Int → Prop) (nb : Int → Int → Int) (s : Int) (E0 E q : Int → Int) (n i f : Int) : Prop :=
  (1 ≤ n ∧ 0 ≤ i ∧ i ≤ n) ∧ (∀ j, 0 ≤ j → j < n → ok (q j) ∧ E (q j) = s ∧ E0 (q j) < 0 ∧ ∀ c, CI ok nb c → c (q j) = c s) ∧ (∀ j l, 0 ≤ j → j < n → 0 ≤ l → l < n → q j = q l → j = l) ∧
  (∀ x, 0 ≤ x → x < N → E x = E0 x ∨ (E x = s ∧ ∃ j, 0 ≤ j ∧ j < n ∧ q j = x)) ∧ (∀ j g, 0 ≤ j → 0 ≤ g → g < 4 → (j < i ∨ (j = i ∧ i < n ∧ g < f)) → 0 ≤ nb g (q j) → 0 ≤ E (nb g (q j))) ∧ (0 ≤ s ∧ s < N ∧ E s = s)
theorem fq_0 {N : Int} {ok : Int → Prop} {nb : Int → Int → Int} {s : Int} {E0 q : Int → Int} (hN : NB N ok nb) (hs : ok s) (h0 : E0 s < 0) (hq : q 0 = s) : FQ N ok nb s E0 (uf E0 s s) q 1 0 0 := by
  have hb := hN.1 s hs
  refine ⟨by omega, fun j j0 j1 => ?_, fun j l j0 j1 l0 l1 e => by omega, fun x x0 x1 => ?_, fun j g j0 g0 g1 h => by omega, hb.1, hb.2, uf_s _ _ _⟩
  · have e : j = 0 := by omega
    subst e
    rw [hq, uf_s]
    exact ⟨hs, rfl, h0, fun c hc => rfl⟩
  · by_cases e : x = s
    · subst e
      rw [uf_s]
      exact Or.inr ⟨rfl, 0, by omega, by omega, hq⟩
    · rw [uf_n e]
      exact Or.inl rfl
theorem fq_room {N : Int} {ok : Int → Prop} {nb : Int → Int → Int} {s : Int} {E0 E q : Int → Int} {n i f : Int} (hN : NB N ok nb) (F : FQ N ok nb s E0 E q n i f) : n ≤ N := by
  obtain ⟨F1, F2, F3, F4, F5, F6⟩ := F
  have := bf_pig N.toNat n.toNat (fun j => (q j).toNat) (fun j hj => ?_) (fun j k hj hk e => ?_)
  · omega
  · have a := hN.1 _ (F2 j (by omega) (by omega)).1
    show (q j).toNat < N.toNat
    omega
  · have a := hN.1 _ (F2 j (by omega) (by omega)).1
    have b := hN.1 _ (F2 k (by omega) (by omega)).1
    have e : (q j).toNat = (q k).toNat := e
    have := F3 j k (by omega) (by omega) (by omega) (by omega) (by omega)
    omega
theorem fq_skip {N : Int} {ok : Int → Prop} {nb : Int → Int → Int} {s : Int} {E0 E q : Int → Int} {n i f : Int} (F : FQ N ok nb s E0 E q n i f) (h : 0 ≤ nb f (q i) → 0 ≤ E (nb f (q i))) : FQ N ok nb s E0 E q n i (f + 1) := by
  obtain ⟨F1, F2, F3, F4, F5, F6⟩ := F
  refine ⟨F1, F2, F3, F4, fun j g j0 g0 g1 hj hg => ?_, F6⟩
  rcases hj with z | ⟨z, z1, z2⟩
  · exact F5 j g j0 g0 g1 (Or.inl z) hg
  · rcases Int.lt_or_eq_of_le (show g ≤ f by omega) with y | y
    · exact F5 j g j0 g0 g1 (Or.inr ⟨z, z1, y⟩) hg
    · subst y
      subst z
      exact h hg
theorem fq_add {N : Int} {ok : Int → Prop} {nb : Int → Int → Int} {s : Int} {E0 E q : Int → Int} {n i f : Int} (hN : NB N ok nb) (F : FQ N ok nb s E0 E q n i f) (hi : i < n) (f0 : 0 ≤ f) (f1 : f < 4) (hb : 0 ≤ nb f (q i)) (h : E (nb f (q i)) < 0) : FQ N ok nb s E0 (uf E (nb f (q i)) s) (uf q n (nb f (q i))) (n + 1) i (f + 1) := by
  obtain ⟨F1, F2, F3, F4, F5, F6⟩ := F
  obtain ⟨a1, a2, a3, a4⟩ := F2 i (by omega) hi
  have hk := (hN.2 (q i) f a1 f0 f1 hb).1
  have hk2 := hN.1 _ hk
  have nw : ∀ j, 0 ≤ j → j < n → q j ≠ nb f (q i) := fun j j0 j1 e => by
    have := (F2 j j0 j1).2.1
    rw [e] at this
    omega
  have e0 : E0 (nb f (q i)) < 0 := by
    rcases F4 _ hk2.1 hk2.2 with z | ⟨z, -⟩ <;> omega
  have ns : s ≠ nb f (q i) := fun e => by rw [← e, F6.2.2] at h; omega
  refine ⟨by omega, fun j j0 j1 => ?_, fun j l j0 j1 l0 l1 e => ?_, fun x x0 x1 => ?_, fun j g j0 g0 g1 hj hg => ?_, F6.1, F6.2.1, by rw [uf_n ns]; exact F6.2.2⟩
  · by_cases z : j = n
    · rw [z, uf_s, uf_s]
      refine ⟨hk, rfl, e0, fun c hc => ?_⟩
      rw [hc (q i) f a1 f0 f1 hb]
      exact a4 c hc
    · rw [uf_n z, uf_n (nw j j0 (by omega))]
      exact F2 j j0 (by omega)
  · by_cases z : j = n
    · by_cases y : l = n
      · omega
      · rw [z, uf_s, uf_n y] at e
        exact absurd e.symm (nw l l0 (by omega))
    · by_cases y : l = n
      · rw [y, uf_s, uf_n z] at e
        exact absurd e (nw j j0 (by omega))
      · rw [uf_n z, uf_n y] at e
        exact F3 j l j0 (by omega) l0 (by omega) e
  · by_cases z : x = nb f (q i)
    · rw [z, uf_s]
      exact Or.inr ⟨rfl, n, by omega, by omega, uf_s _ _ _⟩
    · rw [uf_n z]
      rcases F4 x x0 x1 with y | ⟨y, j, j0, j1, j2⟩
      · exact Or.inl y
      · exact Or.inr ⟨y, j, j0, by omega, by rw [uf_n (by omega)]; exact j2⟩
  · have ej : uf q n (nb f (q i)) j = q j := uf_n (by omega)
    rw [ej] at hg ⊢
    by_cases z : nb g (q j) = nb f (q i)
    · rw [z, uf_s]
      omega
    · rw [uf_n z]
      rcases hj with w | ⟨w, w1, w2⟩
      · exact F5 j g j0 g0 g1 (Or.inl w) hg
      · rcases Int.lt_or_eq_of_le (show g ≤ f by omega) with y | y
        · exact F5 j g j0 g0 g1 (Or.inr ⟨w, by omega, y⟩) hg
        · subst y
          subst w
          exact absurd rfl z
theorem fq_next {N : Int} {ok : Int → Prop} {nb : Int → Int → Int} {s : Int} {E0 E q : Int → Int} {n i f : Int} (F : FQ N ok nb s E0 E q n i f) (hi : i < n) (hf : 4 ≤ f) : FQ N ok nb s E0 E q n (i + 1) 0 := by
  obtain ⟨F1, F2, F3, F4, F5, F6⟩ := F
  refine ⟨by omega, F2, F3, F4, fun j g j0 g0 g1 hj hg => ?_, F6⟩
  rcases Int.lt_or_eq_of_le (show j ≤ i by omega) with z | z
  · exact F5 j g j0 g0 g1 (Or.inl z) hg
  · exact F5 j g j0 g0 g1 (Or.inr ⟨z, hi, by omega⟩) hg
theorem fq_end {N : Int} {ok : Int → Prop} {nb : Int → Int → Int} {s : Int} {E0 E q : Int → Int} {n i f : Int} (hN : NB N ok nb) (hR : RI N ok nb E0 s) (hs : ok s) (F : FQ N ok nb s E0 E q n i f) (hi : n ≤ i) : RI N ok nb E (s + 1) := by
  obtain ⟨F1, F2, F3, F4, F5, F6⟩ := F
  obtain ⟨R1, R2, R3, R4⟩ := hR
  have sp : ∀ x, ok x → E x = E0 x ∨ (E x = s ∧ E0 x < 0 ∧ ∃ j, 0 ≤ j ∧ j < n ∧ q j = x) := fun x hx => by
    have hb := hN.1 x hx
    rcases F4 x hb.1 hb.2 with y | ⟨y, j, j0, j1, j2⟩
    · exact Or.inl y
    · refine Or.inr ⟨y, ?_, j, j0, j1, j2⟩
      have := (F2 j j0 j1).2.2.1
      rw [j2] at this
      exact this
  refine ⟨fun x hx => ?_, fun x f hx f0 f1 hn he => ?_, fun x hx hk => ?_, fun x x0 x1 hx => ?_⟩
  · rcases sp x hx with y | ⟨y, y1, j, j0, j1, j2⟩
    · rw [y]
      exact R1 x hx
    · refine Or.inr ⟨by omega, ?_, fun c hc => ?_⟩
      · rcases Int.lt_or_le x s with z | z
        · have := R3 x hx z
          omega
        · omega
      · rw [y, ← j2]
        exact ((F2 j j0 j1).2.2.2 c hc).symm
  · obtain ⟨hk, g, g0, g1, hg⟩ := hN.2 x f hx f0 f1 hn
    rcases sp x hx with y | ⟨y, y1, j, j0, j1, j2⟩
    · rw [y] at he ⊢
      have e := R2 x f hx f0 f1 hn he
      rcases sp _ hk with w | ⟨w, w1, -⟩
      · rw [w, e]
      · omega
    · rw [y]
      have hE := F5 j f j0 f0 f1 (Or.inl (by omega)) (by rw [j2]; exact hn)
      rw [j2] at hE
      rcases sp _ hk with w | ⟨w, w1, -⟩
      · have hx2 := hN.1 x hx
        have := R2 _ g hk g0 g1 (by rw [hg]; exact hx2.1) (by omega)
        rw [hg] at this
        omega
      · exact w
  · rcases Int.lt_or_eq_of_le (show x ≤ s by omega) with z | z
    · have := R3 x hx z
      rcases sp x hx with y | ⟨y, y1, -⟩ <;> omega
    · rw [z, F6.2.2]
      exact F6.1
  · rcases F4 x x0 x1 with y | ⟨y, j, j0, j1, j2⟩
    · rw [y]
      exact R4 x x0 x1 hx
    · exact absurd (j2 ▸ (F2 j j0 j1).1) hx
theorem ri_next {N : Int} {ok : Int → Prop} {nb : Int → Int → Int} {E : Int → Int} {k : Int} (R : RI N ok nb E k) (h : ok k → 0 ≤ E k) : RI N ok nb E (k + 1) := by
  obtain ⟨R1, R2, R3, R4⟩ := R
  refine ⟨R1, R2, fun x hx hk => ?_, R4⟩
  rcases Int.lt_or_eq_of_le (show x ≤ k by omega) with z | z
  · exact R3 x hx z
  · rw [z] at hx ⊢
    exact h hx
theorem ri_0 {N : Int} {ok : Int → Prop} {nb : Int → Int → Int} (hN : NB N ok nb) : RI N ok nb (fun _ => -1) 0 :=
  ⟨fun x hx => Or.inl rfl, fun x f hx f0 f1 hn he => absurd he (by show ¬ (0 : Int) ≤ -1; omega), fun x hx hk => by have := hN.1 x hx; omega, fun x x0 x1 hx => rfl⟩
/-- every node is marked by the first node of its kind -/
def RP (ok : Int → Prop) (nb : Int → Int → Int) (r : Int → Int) : Prop := (∀ x, ok x → 0 ≤ r x ∧ r x ≤ x ∧ ∀ c, CI ok nb c → c (r x) = c x) ∧ CI ok nb r
theorem ri_rp {N : Int} {ok : Int → Prop} {nb : Int → Int → Int} {E : Int → Int} {k : Int} (R : RI N ok nb E k) (hk : ∀ x, ok x → x < k) : RP ok nb E := by
  obtain ⟨R1, R2, R3, R4⟩ := R
  refine ⟨fun x hx => ?_, fun x f hx f0 f1 hn => R2 x f hx f0 f1 hn (R3 x hx (hk x hx))⟩
  have := R3 x hx (hk x hx)
  rcases R1 x hx with z | z
  · omega
  · exact z
theorem rp_eq {ok : Int → Prop} {nb : Int → Int → Int} {r r' : Int → Int} (h : RP ok nb r) (h' : RP ok nb r') (hr : ∀ x, ok x → ok (r x)) (hr' : ∀ x, ok x → ok (r' x)) {x : Int} (hx : ok x) : r x = r' x := by
  have a := (h.1 x hx).2.2 r' h'.2
  have b := (h'.1 x hx).2.2 r h.2
  have c := (h.1 _ (hr' x hx)).2.1
  have d := (h'.1 _ (hr x hx)).2.1
  omega
theorem rp_ok {N : Int} {ok : Int → Prop} {nb : Int → Int → Int} {r : Int → Int} (hN : NB N ok nb) (h : RP ok nb r) {x : Int} (hx : ok x) : ok (r x) := by
  have := (h.1 x hx).2.2 (fun y => @ite _ (ok y) (Classical.propDecidable _) 1 0) (fun y f hy f0 f1 hn => by
    show @ite _ (ok (nb f y)) (Classical.propDecidable _) (1 : Int) 0 = @ite _ (ok y) (Classical.propDecidable _) 1 0
    rw [if_pos hy, if_pos (hN.2 y f hy f0 f1 hn).1])
  have this : @ite _ (ok (r x)) (Classical.propDecidable _) (1 : Int) 0 = @ite _ (ok x) (Classical.propDecidable _) 1 0 := this
  rw [if_pos hx] at this
  by_cases z : ok (r x)
  · exact z
  · rw [if_neg z] at this
    omega
/-- ends of edges of tets (16 t + 4 u + v), corners (4 t + v), and what they are one with beyond face f -/
def oE (t x : Int) : Prop := 0 ≤ x ∧ x < 16 * t ∧ x / 4 % 4 ≠ x % 4
def nE (G : Int → Int) (f x : Int) : Int := if f = x / 4 % 4 ∨ f = x % 4 ∨ G (4 * (x / 16) + f) < 0 then -1 else 16 * (G (4 * (x / 16) + f) / 32) + 4 * im (G (4 * (x / 16) + f) % 32) (x / 4 % 4) + im (G (4 * (x / 16) + f) % 32) (x % 4)
def oC (t x : Int) : Prop := 0 ≤ x ∧ x < 4 * t
def nC (G : Int → Int) (f x : Int) : Int := if f = x % 4 ∨ G (4 * (x / 4) + f) < 0 then -1 else 4 * (G (4 * (x / 4) + f) / 32) + im (G (4 * (x / 4) + f) % 32) (x % 4)
theorem nb_E {t : Int} {G : Int → Int} (hG : VG t G) : NB 128 (oE t) (nE G) := by
  have ht := hG.1
  refine ⟨fun x hx => by unfold oE at hx; omega, fun x f hx f0 f1 hn => ?_⟩
  unfold oE at hx
  have hq : ¬ (f = x / 4 % 4 ∨ f = x % 4 ∨ G (4 * (x / 16) + f) < 0) := fun z => by
    unfold nE at hn
    rw [if_pos z] at hn
    omega
  have e : nE G f x = 16 * (G (4 * (x / 16) + f) / 32) + 4 * im (G (4 * (x / 16) + f) % 32) (x / 4 % 4) + im (G (4 * (x / 16) + f) % 32) (x % 4) := by
    unfold nE
    rw [if_neg hq]
  rcases hG.2.1 (4 * (x / 16) + f) (by omega) (by omega) with z | ⟨z0, z1, z2, z3, z4⟩
  · omega
  rw [show (4 * (x / 16) + f) / 4 = x / 16 by omega, show (4 * (x / 16) + f) % 4 = f by omega] at z3
  generalize hg : G (4 * (x / 16) + f) = g at *
  have p0 : 0 ≤ g % 32 := by omega
  have iu := im_in p0 z2 (show 0 ≤ x / 4 % 4 by omega) (show x / 4 % 4 < 4 by omega)
  have iw := im_in p0 z2 (show 0 ≤ x % 4 by omega) (show x % 4 < 4 by omega)
  have jf := im_in p0 z2 f0 f1
  have ip := iv_in p0 z2
  have n1 : im (g % 32) (x / 4 % 4) ≠ im (g % 32) (x % 4) := fun w => hx.2.2 (im_ij p0 z2 (by omega) (by omega) (by omega) (by omega) w)
  have n2 : im (g % 32) f ≠ im (g % 32) (x / 4 % 4) := fun w => hq (Or.inl (im_ij p0 z2 f0 f1 (by omega) (by omega) w))
  have n3 : im (g % 32) f ≠ im (g % 32) (x % 4) := fun w => hq (Or.inr (Or.inl (im_ij p0 z2 f0 f1 (by omega) (by omega) w)))
  have d1 : nE G f x / 16 = g / 32 := by omega
  have d2 : nE G f x / 4 % 4 = im (g % 32) (x / 4 % 4) := by omega
  have d3 : nE G f x % 4 = im (g % 32) (x % 4) := by omega
  refine ⟨⟨hn, by omega, by omega⟩, im (g % 32) f, jf.1, jf.2, ?_⟩
  show (if im (g % 32) f = nE G f x / 4 % 4 ∨ im (g % 32) f = nE G f x % 4 ∨ G (4 * (nE G f x / 16) + im (g % 32) f) < 0 then -1 else 16 * (G (4 * (nE G f x / 16) + im (g % 32) f) / 32) + 4 * im (G (4 * (nE G f x / 16) + im (g % 32) f) % 32) (nE G f x / 4 % 4) + im (G (4 * (nE G f x / 16) + im (g % 32) f) % 32) (nE G f x % 4)) = x
  rw [d1, d2, d3, z3, if_neg (by omega), show (32 * (x / 16) + iv (g % 32)) / 32 = x / 16 by omega, show (32 * (x / 16) + iv (g % 32)) % 32 = iv (g % 32) by omega, (im_mi p0 z2 (by omega) (by omega)).1, (im_mi p0 z2 (by omega) (by omega)).1]
  omega
theorem nb_C {t : Int} {G : Int → Int} (hG : VG t G) : NB 32 (oC t) (nC G) := by
  have ht := hG.1
  refine ⟨fun x hx => by unfold oC at hx; omega, fun x f hx f0 f1 hn => ?_⟩
  unfold oC at hx
  have hq : ¬ (f = x % 4 ∨ G (4 * (x / 4) + f) < 0) := fun z => by
    unfold nC at hn
    rw [if_pos z] at hn
    omega
  have e : nC G f x = 4 * (G (4 * (x / 4) + f) / 32) + im (G (4 * (x / 4) + f) % 32) (x % 4) := by
    unfold nC
    rw [if_neg hq]
  rcases hG.2.1 (4 * (x / 4) + f) (by omega) (by omega) with z | ⟨z0, z1, z2, z3, z4⟩
  · omega
  rw [show (4 * (x / 4) + f) / 4 = x / 4 by omega, show (4 * (x / 4) + f) % 4 = f by omega] at z3
  generalize hg : G (4 * (x / 4) + f) = g at *
  have p0 : 0 ≤ g % 32 := by omega
  have iw := im_in p0 z2 (show 0 ≤ x % 4 by omega) (show x % 4 < 4 by omega)
  have jf := im_in p0 z2 f0 f1
  have ip := iv_in p0 z2
  have n3 : im (g % 32) f ≠ im (g % 32) (x % 4) := fun w => hq (Or.inl (im_ij p0 z2 f0 f1 (by omega) (by omega) w))
  have d1 : nC G f x / 4 = g / 32 := by omega
  have d3 : nC G f x % 4 = im (g % 32) (x % 4) := by omega
  refine ⟨⟨hn, by omega⟩, im (g % 32) f, jf.1, jf.2, ?_⟩
  show (if im (g % 32) f = nC G f x % 4 ∨ G (4 * (nC G f x / 4) + im (g % 32) f) < 0 then -1 else 4 * (G (4 * (nC G f x / 4) + im (g % 32) f) / 32) + im (G (4 * (nC G f x / 4) + im (g % 32) f) % 32) (nC G f x % 4)) = x
  rw [d1, d3, z3, if_neg (by omega), show (32 * (x / 4) + iv (g % 32)) / 32 = x / 4 by omega, show (32 * (x / 4) + iv (g % 32)) % 32 = iv (g % 32) by omega, (im_mi p0 z2 (by omega) (by omega)).1]
  omega
