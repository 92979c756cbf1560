/-! THE LEAST ROW -/
def rowq (G : Int → Int) (q : Int) : Int → Int := brow G (q / 24) (q % 24)
/-- less, by the first unlike number of the first n -/
def lxl (n : Int) (a b : Int → Int) : Prop := ∃ k, 0 ≤ k ∧ k < n ∧ (∀ j, 0 ≤ j → j < k → a j = b j) ∧ a k < b k
def eqn (n : Int) (a b : Int → Int) : Prop := ∀ j, 0 ≤ j → j < n → a j = b j
theorem lxl_tr {n : Int} {a b c : Int → Int} (h1 : lxl n a b) (h2 : lxl n b c) : lxl n a c := by
  obtain ⟨k, k0, k1, k2, k3⟩ := h1
  obtain ⟨m, m0, m1, m2, m3⟩ := h2
  rcases Int.lt_trichotomy k m with z | z | z
  · exact ⟨k, k0, k1, fun j j0 j1 => (k2 j j0 j1).trans (m2 j j0 (by omega)), by rw [← m2 k k0 z]; exact k3⟩
  · subst z
    exact ⟨k, k0, k1, fun j j0 j1 => (k2 j j0 j1).trans (m2 j j0 j1), by omega⟩
  · exact ⟨m, m0, m1, fun j j0 j1 => (k2 j j0 (by omega)).trans (m2 j j0 j1), by rw [k2 m m0 z]; exact m3⟩
theorem lxl_el {n : Int} {a b c : Int → Int} (h1 : eqn n a b) (h2 : lxl n b c) : lxl n a c := by
  obtain ⟨m, m0, m1, m2, m3⟩ := h2
  exact ⟨m, m0, m1, fun j j0 j1 => (h1 j j0 (by omega)).trans (m2 j j0 j1), by rw [h1 m m0 m1]; exact m3⟩
theorem lxl_er {n : Int} {a b c : Int → Int} (h1 : lxl n a b) (h2 : eqn n b c) : lxl n a c := by
  obtain ⟨k, k0, k1, k2, k3⟩ := h1
  exact ⟨k, k0, k1, fun j j0 j1 => (k2 j j0 j1).trans (h2 j j0 (by omega)), by rw [← h2 k k0 k1]; exact k3⟩
theorem lxl_ne {n : Int} {a b : Int → Int} (h1 : lxl n a b) (h2 : eqn n a b) : False := by
  obtain ⟨k, k0, k1, k2, k3⟩ := h1
  have := h2 k k0 k1
  omega
theorem eqn_sy {n : Int} {a b : Int → Int} (h : eqn n a b) : eqn n b a := fun j j0 j1 => (h j j0 j1).symm
theorem eqn_tr {n : Int} {a b c : Int → Int} (h : eqn n a b) (h2 : eqn n b c) : eqn n a c := fun j j0 j1 => (h j j0 j1).trans (h2 j j0 j1)
/-- how many of the first n are so -/
noncomputable def ct (P : Int → Prop) : Nat → Int
  | 0 => 0
  | n + 1 => ct P n + @ite _ (P n) (Classical.propDecidable _) 1 0
theorem ct_y {P : Int → Prop} {q : Int} (h0 : 0 ≤ q) (h : P q) : ct P (q + 1).toNat = ct P q.toNat + 1 := by
  rw [show (q + 1).toNat = q.toNat + 1 by omega]
  show ct P q.toNat + @ite _ (P (q.toNat : Int)) (Classical.propDecidable _) 1 0 = _
  rw [Int.toNat_of_nonneg h0, if_pos h]
theorem ct_n {P : Int → Prop} {q : Int} (h0 : 0 ≤ q) (h : ¬ P q) : ct P (q + 1).toNat = ct P q.toNat := by
  rw [show (q + 1).toNat = q.toNat + 1 by omega]
  show ct P q.toNat + @ite _ (P (q.toNat : Int)) (Classical.propDecidable _) 1 0 = _
  rw [Int.toNat_of_nonneg h0, if_neg h]
  omega
theorem ct_0 {P : Int → Prop} : ∀ n : Nat, (∀ q : Int, 0 ≤ q → q < n → ¬ P q) → ct P n = 0
  | 0, _ => rfl
  | n + 1, h => by
    have ih := ct_0 n (fun q q0 q1 => h q q0 (by omega))
    show ct P n + @ite _ (P (n : Int)) (Classical.propDecidable _) 1 0 = 0
    rw [ih, if_neg (h n (by omega) (by omega))]
    rfl
theorem ct_c {P R : Int → Prop} : ∀ n : Nat, (∀ q : Int, 0 ≤ q → q < n → (P q ↔ R q)) → ct P n = ct R n
  | 0, _ => rfl
  | n + 1, h => by
    have ih := ct_c n (fun q q0 q1 => h q q0 (by omega))
    have e := h n (by omega) (by omega)
    show ct P n + @ite _ (P (n : Int)) (Classical.propDecidable _) 1 0 = ct R n + @ite _ (R (n : Int)) (Classical.propDecidable _) 1 0
    rw [ih]
    by_cases z : P n
    · rw [if_pos z, if_pos (e.mp z)]
    · rw [if_neg z, if_neg (fun y => z (e.mpr y))]
theorem ct_in (P : Int → Prop) : ∀ n : Nat, 0 ≤ ct P n ∧ ct P n ≤ n
  | 0 => ⟨Int.le_refl _, Int.le_refl _⟩
  | n + 1 => by
    have ih := ct_in P n
    show 0 ≤ ct P n + @ite _ (P (n : Int)) (Classical.propDecidable _) 1 0 ∧ ct P n + @ite _ (P (n : Int)) (Classical.propDecidable _) 1 0 ≤ _
    by_cases z : P n
    · rw [if_pos z]; omega
    · rw [if_neg z]; omega
/-- the least row of the first q numberings, and how many have it (behind the first: above all) -/
def LI (t : Int) (G L : Int → Int) (q ties : Int) : Prop :=
  (∀ j, 0 ≤ j → j < 32 → rg (L j)) ∧ (q = 0 → ∀ j, 0 ≤ j → j < 32 → L j = 1073741824) ∧ (0 < q → ∃ r, 0 ≤ r ∧ r < q ∧ eqn (4 * t) (rowq G r) L) ∧ (∀ r, 0 ≤ r → r < q → ¬ lxl (4 * t) (rowq G r) L) ∧ ties = ct (fun r => eqn (4 * t) (rowq G r) L) q.toNat
theorem li_less {t : Int} {G L L' : Int → Int} {q ties : Int} (ht : 1 ≤ t ∧ t ≤ 8) (q0 : 0 ≤ q) (I : LI t G L q ties) (hr : ∀ j, 0 ≤ j → j < 4 * t → rg (L' j)) (e1 : ∀ j, 0 ≤ j → j < 4 * t → L' j = rowq G q j) (e2 : ∀ j, 4 * t ≤ j → j < 32 → L' j = L j) (hl : lxl (4 * t) (rowq G q) L) : LI t G L' (q + 1) 1 := by
  obtain ⟨I1, I2, I3, I4, I5⟩ := I
  have eq : eqn (4 * t) (rowq G q) L' := fun j j0 j1 => (e1 j j0 j1).symm
  have hl' : lxl (4 * t) L' L := lxl_el (eqn_sy eq) hl
  refine ⟨fun j j0 j1 => ?_, fun z => by omega, fun _ => ⟨q, q0, by omega, eq⟩, fun r r0 r1 z => ?_, ?_⟩
  · rcases Int.lt_or_le j (4 * t) with z | z
    · exact hr j j0 z
    · rw [e2 j z j1]; exact I1 j j0 j1
  · rcases Int.lt_or_eq_of_le (show r ≤ q by omega) with y | y
    · exact I4 r r0 y (lxl_tr z hl')
    · subst y
      exact lxl_ne z eq
  · have : ct (fun r => eqn (4 * t) (rowq G r) L') q.toNat = 0 := ct_0 _ (fun r r0 r1 z => I4 r r0 (by omega) (lxl_el z hl'))
    rw [ct_y q0 eq, this]
    rfl
theorem li_same {t : Int} {G L L' : Int → Int} {q ties : Int} (ht : 1 ≤ t ∧ t ≤ 8) (q0 : 0 ≤ q) (qp : 0 < q) (I : LI t G L q ties) (e1 : ∀ j, 0 ≤ j → j < 32 → L' j = L j) : (eqn (4 * t) (rowq G q) L → LI t G L' (q + 1) (ties + 1)) ∧ (lxl (4 * t) L (rowq G q) → LI t G L' (q + 1) ties) := by
  obtain ⟨I1, I2, I3, I4, I5⟩ := I
  have ee : eqn (4 * t) L' L := fun j j0 j1 => e1 j j0 (by omega)
  have hc : ct (fun r => eqn (4 * t) (rowq G r) L') q.toNat = ct (fun r => eqn (4 * t) (rowq G r) L) q.toNat := ct_c _ (fun r r0 r1 => ⟨fun z => eqn_tr z ee, fun z => eqn_tr z (eqn_sy ee)⟩)
  have hx : ∃ r, 0 ≤ r ∧ r < q + 1 ∧ eqn (4 * t) (rowq G r) L' := by
    obtain ⟨r, r0, r1, r2⟩ := I3 qp
    exact ⟨r, r0, by omega, eqn_tr r2 (eqn_sy ee)⟩
  constructor
  · intro h
    refine ⟨fun j j0 j1 => by rw [e1 j j0 j1]; exact I1 j j0 j1, fun z => by omega, fun _ => hx, fun r r0 r1 z => ?_, ?_⟩
    · rcases Int.lt_or_eq_of_le (show r ≤ q by omega) with y | y
      · exact I4 r r0 y (lxl_er z ee)
      · subst y
        exact lxl_ne z (eqn_tr h (eqn_sy ee))
    · rw [ct_y q0 (eqn_tr h (eqn_sy ee)), hc, I5]
  · intro h
    refine ⟨fun j j0 j1 => by rw [e1 j j0 j1]; exact I1 j j0 j1, fun z => by omega, fun _ => hx, fun r r0 r1 z => ?_, ?_⟩
    · rcases Int.lt_or_eq_of_le (show r ≤ q by omega) with y | y
      · exact I4 r r0 y (lxl_er z ee)
      · subst y
        exact lxl_ne (lxl_tr (lxl_er z ee) h) (fun _ _ _ => rfl)
    · rw [ct_n q0 (fun z => lxl_ne h (eqn_sy (eqn_tr z ee))), hc, I5]
