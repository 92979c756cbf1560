/-! THE ROW OF A NUMBERING -/
/-- no more than there are -/
theorem bf_pig : ∀ (t n : Nat) (f : Nat → Nat), (∀ i, i < n → f i < t) → (∀ i j, i < n → j < n → f i = f j → i = j) → n ≤ t
  | 0, n, f, h1, _ => by
    cases n with
    | zero => exact Nat.le_refl _
    | succ n => exact absurd (h1 0 (by omega)) (by omega)
  | t + 1, n, f, h1, h2 => by
    cases n with
    | zero => omega
    | succ n =>
      have key : n ≤ t := by
        refine bf_pig t n (fun i => if f i = t then f n else f i) (fun i hi => ?_) (fun i j hi hj e => ?_)
        · show (if f i = t then f n else f i) < t
          by_cases q : f i = t
          · rw [if_pos q]
            have a := h1 n (by omega)
            have b : f n ≠ t := fun z => by have := h2 i n (by omega) (by omega) (q.trans z.symm); omega
            omega
          · rw [if_neg q]
            have a := h1 i (by omega)
            omega
        · have e : (if f i = t then f n else f i) = (if f j = t then f n else f j) := e
          by_cases q : f i = t
          · by_cases r : f j = t
            · exact h2 i j (by omega) (by omega) (q.trans r.symm)
            · rw [if_pos q, if_neg r] at e
              have := h2 n j (by omega) (by omega) e
              omega
          · by_cases r : f j = t
            · rw [if_neg q, if_pos r] at e
              have := h2 i n (by omega) (by omega) e
              omega
            · rw [if_neg q, if_neg r] at e
              exact h2 i j (by omega) (by omega) e
      omega
/-- codes: -1, or 32 times a tet and a permutation; faces are glued both ways; none to itself; free behind -/
def VG (t : Int) (G : Int → Int) : Prop := (1 ≤ t ∧ t ≤ 8) ∧ (∀ k, 0 ≤ k → k < 4 * t → G k = -1 ∨ (0 ≤ G k ∧ G k / 32 < t ∧ G k % 32 < 24 ∧ G (4 * (G k / 32) + im (G k % 32) (k % 4)) = 32 * (k / 4) + iv (G k % 32) ∧ 4 * (G k / 32) + im (G k % 32) (k % 4) ≠ k)) ∧ ∀ k, 4 * t ≤ k → k < 32 → G k = -1
/-- a set of tets that gluing does not leave -/
def CS (t : Int) (G : Int → Int) (S : Int → Prop) : Prop := ∀ k, 0 ≤ k → k < 4 * t → S (k / 4) → 0 ≤ G k → S (G k / 32)
/-- the tets hang together -/
def CN (t : Int) (G : Int → Int) : Prop := ∀ S : Int → Prop, (∃ i, 0 ≤ i ∧ i < t ∧ S i) → CS t G S → ∀ i, 0 ≤ i → i < t → S i
/-- how many have numbers; numbers; tets by numbers; new names -/
abbrev BS : Type := Int × (Int → Int) × (Int → Int) × (Int → Int)
/-- the code met at place i, and how it is gone on from there -/
def bq (G : Int → Int) (S : BS) (i : Int) : Int := G (4 * S.2.2.1 (i / 4) + im (iv (S.2.2.2 (S.2.2.1 (i / 4)))) (i % 4))
def bp (G : Int → Int) (S : BS) (i : Int) : Int := af (bq G S i % 32) (iv (S.2.2.2 (S.2.2.1 (i / 4))))
def bstep (G : Int → Int) (S : BS) (i : Int) : BS :=
  if bq G S i < 0 then S else if S.2.1 (bq G S i / 32) < 0 then (S.1 + 1, uf S.2.1 (bq G S i / 32) S.1, uf S.2.2.1 S.1 (bq G S i / 32), uf S.2.2.2 (bq G S i / 32) (iv (bp G S i))) else S
def b0 (f p : Int) : BS := (1, uf (fun _ => -1) f 0, uf (fun _ => 0) 0 f, uf (fun _ => 0) f p)
def bst (G : Int → Int) (f p : Int) : Nat → BS
  | 0 => b0 f p
  | i + 1 => bstep G (bst G f p i) i
/-- the row's number at place i -/
def brow (G : Int → Int) (f p : Int) (i : Int) : Int :=
  if bq G (bst G f p i.toNat) i < 0 then -1 else 32 * (bst G f p (i + 1).toNat).2.1 (bq G (bst G f p i.toNat) i / 32) + af ((bst G f p (i + 1).toNat).2.2.2 (bq G (bst G f p i.toNat) i / 32)) (bp G (bst G f p i.toNat) i)
/-- what holds as a numbering goes on -/
def BI (t : Int) (G : Int → Int) (S : BS) (i : Int) : Prop :=
  (1 ≤ S.1 ∧ S.1 ≤ t) ∧ (∀ j, 0 ≤ j → j < S.1 → 0 ≤ S.2.2.1 j ∧ S.2.2.1 j < t ∧ S.2.1 (S.2.2.1 j) = j) ∧
  (∀ s, 0 ≤ s → s < t → S.2.1 s = -1 ∨ (0 ≤ S.2.1 s ∧ S.2.1 s < S.1 ∧ S.2.2.1 (S.2.1 s) = s)) ∧
  (∀ s, 0 ≤ s → s < t → 0 ≤ S.2.1 s → 0 ≤ S.2.2.2 s ∧ S.2.2.2 s < 24) ∧
  (∀ q, 0 ≤ q → q < i → q / 4 < S.1 ∧ (0 ≤ bq G S q → 0 ≤ S.2.1 (bq G S q / 32)))
theorem bf_0 {t : Int} {G : Int → Int} {f p : Int} (ht : 1 ≤ t) (hf : 0 ≤ f ∧ f < t) (hp : 0 ≤ p ∧ p < 24) : BI t G (b0 f p) 0 := by
  refine ⟨⟨by show (1 : Int) ≤ 1; omega, ht⟩, fun j h0 h1 => ?_, fun s h0 h1 => ?_, fun s h0 h1 h2 => ?_, fun q h0 h1 => by omega⟩
  · have e : j = 0 := by have : j < 1 := h1; omega
    subst e
    show 0 ≤ uf (fun _ => 0) 0 f 0 ∧ uf (fun _ => 0) 0 f 0 < t ∧ uf (fun _ => -1) f 0 (uf (fun _ => 0) 0 f 0) = 0
    rw [uf_s, uf_s]
    exact ⟨hf.1, hf.2, rfl⟩
  · show uf (fun _ => -1) f 0 s = -1 ∨ (0 ≤ uf (fun _ => -1) f 0 s ∧ uf (fun _ => -1) f 0 s < 1 ∧ uf (fun _ => 0) 0 f (uf (fun _ => -1) f 0 s) = s)
    by_cases e : s = f
    · subst e
      rw [uf_s, uf_s]
      exact Or.inr ⟨by omega, by omega, rfl⟩
    · rw [uf_n e]
      exact Or.inl rfl
  · have h2 : 0 ≤ uf (fun _ => -1) f 0 s := h2
    show 0 ≤ uf (fun _ => 0) f p s ∧ uf (fun _ => 0) f p s < 24
    by_cases e : s = f
    · subst e
      rw [uf_s]
      exact hp
    · rw [uf_n e] at h2
      omega
theorem bf_ok {t : Int} {G : Int → Int} {S : BS} {i : Int} (hG : VG t G) (I : BI t G S i) {q : Int} (q0 : 0 ≤ q) (q1 : q / 4 < S.1) :
    let a := S.2.2.1 (q / 4)
    (0 ≤ a ∧ a < t) ∧ (0 ≤ iv (S.2.2.2 a) ∧ iv (S.2.2.2 a) < 24) ∧ (0 ≤ im (iv (S.2.2.2 a)) (q % 4) ∧ im (iv (S.2.2.2 a)) (q % 4) < 4) ∧ (bq G S q = -1 ∨ (0 ≤ bq G S q ∧ 0 ≤ bq G S q / 32 ∧ bq G S q / 32 < t ∧ 0 ≤ bq G S q % 32 ∧ bq G S q % 32 < 24)) := by
  intro a
  obtain ⟨I1, I2, I3, I4, I5⟩ := I
  obtain ⟨a0, a1, a2⟩ := I2 (q / 4) (by omega) q1
  have hn := I4 a a0 a1 (by show 0 ≤ S.2.1 (S.2.2.1 (q / 4)); omega)
  have hv := iv_in hn.1 hn.2
  have hm := im_in hv.1 hv.2 (show 0 ≤ q % 4 by omega) (show q % 4 < 4 by omega)
  refine ⟨⟨a0, a1⟩, hv, hm, ?_⟩
  rcases hG.2.1 (4 * a + im (iv (S.2.2.2 a)) (q % 4)) (by omega) (by omega) with e | e
  · exact Or.inl e
  · refine Or.inr ?_
    show 0 ≤ G (4 * a + im (iv (S.2.2.2 a)) (q % 4)) ∧ _
    exact ⟨e.1, by show 0 ≤ G (4 * a + im (iv (S.2.2.2 a)) (q % 4)) / 32; omega, e.2.1, by show 0 ≤ G (4 * a + im (iv (S.2.2.2 a)) (q % 4)) % 32; omega, e.2.2.1⟩
/-- a tet without a number: fewer have numbers than there are -/
theorem bf_room {t : Int} {G : Int → Int} {S : BS} {i : Int} (I : BI t G S i) {s : Int} (s0 : 0 ≤ s) (s1 : s < t) (h : S.2.1 s < 0) : S.1 < t := by
  obtain ⟨I1, I2, I3, I4, I5⟩ := I
  have key : (S.1 + 1).toNat ≤ t.toNat := by
    refine bf_pig t.toNat (S.1 + 1).toNat (fun j => if (j : Int) = S.1 then s.toNat else (S.2.2.1 j).toNat) (fun j hj => ?_) (fun j k hj hk e => ?_)
    · show (if (j : Int) = S.1 then s.toNat else (S.2.2.1 j).toNat) < t.toNat
      split
      · omega
      · have := I2 j (by omega) (by omega)
        omega
    · have e : (if (j : Int) = S.1 then s.toNat else (S.2.2.1 j).toNat) = (if (k : Int) = S.1 then s.toNat else (S.2.2.1 k).toNat) := e
      by_cases q : (j : Int) = S.1
      · by_cases r : (k : Int) = S.1
        · omega
        · rw [if_pos q, if_neg r] at e
          have a := I2 k (by omega) (by omega)
          have : s = S.2.2.1 k := by omega
          rw [this, a.2.2] at h
          omega
      · by_cases r : (k : Int) = S.1
        · rw [if_neg q, if_pos r] at e
          have a := I2 j (by omega) (by omega)
          have : s = S.2.2.1 j := by omega
          rw [this, a.2.2] at h
          omega
        · rw [if_neg q, if_neg r] at e
          have a := I2 j (by omega) (by omega)
          have b := I2 k (by omega) (by omega)
          have : S.2.2.1 j = S.2.2.1 k := by omega
          rw [this, b.2.2] at a
          omega
  omega
