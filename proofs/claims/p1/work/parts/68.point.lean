theorem fl_three {t : Int} {G E P : Int → Int} {k : Int} {X : Int → Prop} {nw : Int → Int} (hG : VG t G) (hB : BP t G E P) (hk : oE t k) (h : C3 t G E k) (hX : ∀ x, 0 ≤ x → x < 4 → (X x ↔ x ≠ k / 4 % 4 ∧ x ≠ k % 4)) (hs : t - 3 = sty (gS G (k / 16) X) t) (n1 : nw (k % 4) = t - 3) (n2 : nw (k / 4 % 4) = t - 3 + 1) : FL t G (k / 16) X nw (t - 3) (t - 1) := by
  have ht := hG.1
  have fr := fr_0 hB hG hk h.2.1
  have hk2 := hk
  unfold oE at hk2
  have st := sty_in (gS G (k / 16) X) (show 0 ≤ t by omega)
  have hy : ∀ y, 0 ≤ y → y < 4 → ¬ X y → y = k / 4 % 4 ∨ y = k % 4 := fun y y0 y1 w => by
    rcases Classical.em (y = k / 4 % 4) with e | e
    · exact Or.inl e
    · rcases Classical.em (y = k % 4) with d | d
      · exact Or.inr d
      · exact absurd ((hX y y0 y1).mpr ⟨e, d⟩) w
  obtain ⟨p, q, p0, p1, q0, q1, pu, pv, qu, qv, pq, -⟩ := two_of (m4 (k / 4)).1 (m4 (k / 4)).2 (m4 k).1 (m4 k).2 hk2.2.2
  refine ⟨⟨by omega, by omega, hs, ?_, by omega, by omega⟩, fun x x0 x1 hx => ?_, fun x x' x0 x1 x0' x1' hx hx' ne => ?_, fun y y0 y1 w => ?_, fun y y' y0 y1 y0' y1' w w' e => ?_, fun n a b => ?_⟩
  · omega
  · obtain ⟨a, b⟩ := (hX x x0 x1).mp hx
    refine ⟨fr x x0 x1 a b, ?_⟩
    rcases Classical.em (x = p) with e | e
    · subst e
      exact Ne.symm (h.2.2.2 x q x0 x1 q0 q1 a b qu qv (by omega)).1
    · exact Ne.symm (h.2.2.2 x p x0 x1 p0 p1 a b pu pv e).1
  · obtain ⟨a, b⟩ := (hX x x0 x1).mp hx
    obtain ⟨a', b'⟩ := (hX x' x0' x1').mp hx'
    exact ⟨(h.2.2.2 x x' x0 x1 x0' x1' a b a' b' ne).2, fl_cl3 hG hB hk h x x' x0 x1 x0' x1' a b a' b' ne⟩
  · rcases hy y y0 y1 w with e | e
    · rw [e, n2]; omega
    · rw [e, n1]; omega
  · rcases hy y y0 y1 w with a | a <;> rcases hy y' y0' y1' w' with b | b
    · rw [a, b]
    · rw [a, b, n1, n2] at e; omega
    · rw [a, b, n1, n2] at e; omega
    · rw [a, b]
  · rcases Int.lt_or_le n (t - 3 + 1) with z | z
    · exact ⟨k % 4, (m4 k).1, (m4 k).2, fun w => ((hX _ (m4 k).1 (m4 k).2).mp w).2 rfl, by rw [n1]; omega⟩
    · exact ⟨k / 4 % 4, (m4 (k / 4)).1, (m4 (k / 4)).2, fun w => ((hX _ (m4 (k / 4)).1 (m4 (k / 4)).2).mp w).1 rfl, by rw [n2]; omega⟩
/-- all that there are, in a row -/
theorem ct_get {P : Int → Prop} : ∀ n : Nat, ∃ l : List Int, l.Nodup ∧ (l.length : Int) = ct P n ∧ ∀ x, x ∈ l ↔ 0 ≤ x ∧ x < n ∧ P x
  | 0 => ⟨[], List.nodup_nil, rfl, fun x => ⟨fun h => (by cases h), fun h => by omega⟩⟩
  | n + 1 => by
    obtain ⟨l, h1, h2, h3⟩ := ct_get (P := P) n
    by_cases p : P n
    · refine ⟨(n : Int) :: l, List.nodup_cons.mpr ⟨fun h => by have := (h3 n).mp h; omega, h1⟩, by rw [List.length_cons, (ct_sn n).1 p]; omega, fun x => ?_⟩
      rw [List.mem_cons, h3]
      constructor
      · rintro (e | ⟨a, b, c⟩)
        · rw [e]; exact ⟨by omega, by omega, p⟩
        · exact ⟨a, by omega, c⟩
      · rintro ⟨a, b, c⟩
        by_cases e : x = n
        · exact Or.inl e
        · exact Or.inr ⟨a, by omega, c⟩
    · refine ⟨l, h1, by rw [(ct_sn n).2 p]; exact h2, fun x => ?_⟩
      rw [h3]
      constructor
      · rintro ⟨a, b, c⟩
        exact ⟨a, by omega, c⟩
      · rintro ⟨a, b, c⟩
        refine ⟨a, ?_, c⟩
        by_cases e : x = n
        · rw [e] at c; exact absurd c p
        · omega
def sm (c : Int → Int) : List Int → Int
  | [] => 0
  | a :: l => c a + sm c l
theorem sm_le {A : Int → Prop} {E : Int → Int} {n : Nat} : ∀ l : List Int, l.Nodup → sm (fun r => ct (fun y => A y ∧ E y = r) n) l ≤ ct (fun y => A y ∧ E y ∈ l) n
  | [], _ => by
    have := ct_in (fun y => A y ∧ E y ∈ ([] : List Int)) n
    exact this.1
  | a :: l, h => by
    have h3 := List.nodup_cons.mp h
    have ih := sm_le (A := A) (E := E) (n := n) l h3.2
    have e : ct (fun y => A y ∧ E y ∈ a :: l) n = ct (fun y => (A y ∧ E y = a) ∨ (A y ∧ E y ∈ l)) n := ct_c n (fun q _ _ => by
      rw [List.mem_cons]
      constructor
      · rintro ⟨u, v | v⟩
        · exact Or.inl ⟨u, v⟩
        · exact Or.inr ⟨u, v⟩
      · rintro (⟨u, v⟩ | ⟨u, v⟩)
        · exact ⟨u, Or.inl v⟩
        · exact ⟨u, Or.inr v⟩)
    rw [e, ct_o (P := fun y => A y ∧ E y = a) (R := fun y => A y ∧ E y ∈ l) n (fun j _ _ p q => h3.1 (by rw [← p.2]; exact q.2))]
    show ct (fun y => A y ∧ E y = a) n + sm (fun r => ct (fun y => A y ∧ E y = r) n) l ≤ _
    omega
theorem sm_ge {c : Int → Int} {r0 : Int} : ∀ l : List Int, (∀ r, r ∈ l → 3 ≤ c r) → (r0 ∈ l → 4 ≤ c r0) → l.Nodup → (3 * (l.length : Int) ≤ sm c l ∧ (r0 ∈ l → 3 * (l.length : Int) + 1 ≤ sm c l))
  | [], _, _, _ => ⟨Int.le_refl _, fun h => by cases h⟩
  | a :: l, h1, h2, h3 => by
    have n := List.nodup_cons.mp h3
    obtain ⟨i1, i2⟩ := sm_ge (c := c) (r0 := r0) l (fun r hr => h1 r (List.mem_cons_of_mem _ hr)) (fun hr => h2 (List.mem_cons_of_mem _ hr)) n.2
    have ha := h1 a List.mem_cons_self
    refine ⟨by show _ ≤ c a + sm c l; rw [List.length_cons]; omega, fun h => ?_⟩
    show _ ≤ c a + sm c l
    rw [List.length_cons]
    rcases List.mem_cons.mp h with e | e
    · have := h2 h
      rw [e] at this
      omega
    · have := i2 e
      omega
/-- ends at a point -/
def aP (P : Int → Int) (p y : Int) : Prop := y / 4 % 4 ≠ y % 4 ∧ P (y / 4) = p
theorem ct_aP {P : Int → Int} {p : Int} : ∀ n : Nat, ct (aP P p) (4 * n) = 3 * ct (zP P p) n
  | 0 => rfl
  | n + 1 => by
    have ih := ct_aP (P := P) (p := p) n
    have d : ∀ j : Nat, j < 4 → ((4 * n + j : Nat) : Int) / 4 = n ∧ ((4 * n + j : Nat) : Int) % 4 = j := fun j hj => by omega
    by_cases z : P n = p
    · rw [(ct_sn (P := zP P p) n).1 z]
      have st : ∀ j : Nat, j < 4 → ct (aP P p) (4 * n + j + 1) = ct (aP P p) (4 * n + j) + if (n : Int) % 4 = j then 0 else 1 := fun j hj => by
        obtain ⟨d1, d2⟩ := d j hj
        by_cases e : (n : Int) % 4 = j
        · rw [(ct_sn (P := aP P p) (4 * n + j)).2 (fun w => by unfold aP at w; rw [d1, d2] at w; exact w.1 e), if_pos e]; omega
        · rw [(ct_sn (P := aP P p) (4 * n + j)).1 (by unfold aP; rw [d1, d2]; exact ⟨e, z⟩), if_neg e]
      have s0 := st 0 (by omega)
      have s1 := st 1 (by omega)
      have s2 := st 2 (by omega)
      have s3 := st 3 (by omega)
      rw [show 4 * (n + 1) = 4 * n + 3 + 1 by omega, s3, s2, s1]
      have s0 : ct (aP P p) (4 * n + 1) = _ := s0
      rw [s0, show 4 * n + 0 = 4 * n by omega, ih]
      rcases four_of (m4 n).1 (m4 n).2 with e | e | e | e <;> rw [e] <;> simp <;> omega
    · rw [(ct_sn (P := zP P p) n).2 z]
      have st : ∀ j : Nat, j < 4 → ct (aP P p) (4 * n + j + 1) = ct (aP P p) (4 * n + j) := fun j hj => by
        obtain ⟨d1, d2⟩ := d j hj
        rw [(ct_sn (P := aP P p) (4 * n + j)).2 (fun w => by unfold aP at w; rw [d1] at w; exact z w.2)]
      rw [show 4 * (n + 1) = 4 * n + 3 + 1 by omega, st 3 (by omega), st 2 (by omega), st 1 (by omega)]
      have s0 := st 0 (by omega)
      rw [show 4 * n + 0 = 4 * n by omega] at s0
      rw [s0, ih]
