/-! permutations by their numbers -/
def im (p c : Int) : Int := ma_tf 0 (4 * p + c)
def iv (p : Int) : Int := ma_tf 1 p
def od (p : Int) : Int := ma_tf 2 p
def sx (i j : Int) : Int := ma_tf 3 (4 * i + j)
def af (q p : Int) : Int := ma_tf 4 (24 * q + p)
theorem pm_nat {P : Int → Prop} {n : Nat} (h : ∀ k : Nat, k < n → P k) {x : Int} (h0 : 0 ≤ x) (h1 : x < n) : P x := by
  have := h x.toNat (by omega)
  rwa [Int.toNat_of_nonneg h0] at this
theorem pn_im : ∀ p : Nat, p < 24 → ∀ c : Nat, c < 4 → 0 ≤ im p c ∧ im p c < 4 := by decide +kernel
theorem pn_iv : ∀ p : Nat, p < 24 → 0 ≤ iv p ∧ iv p < 24 := by decide +kernel
theorem pn_od : ∀ p : Nat, p < 24 → 0 ≤ od p ∧ od p < 2 ∧ od (iv p) = od p := by decide +kernel
theorem pn_ii : ∀ p : Nat, p < 24 → iv (iv p) = p := by decide +kernel
theorem pn_mi : ∀ p : Nat, p < 24 → ∀ c : Nat, c < 4 → im (iv p) (im p c) = c ∧ im p (im (iv p) c) = c := by decide +kernel
theorem pn_af : ∀ q : Nat, q < 24 → ∀ p : Nat, p < 24 → 0 ≤ af q p ∧ af q p < 24 := by decide +kernel
theorem pn_ma : ∀ q : Nat, q < 24 → ∀ p : Nat, p < 24 → ∀ c : Nat, c < 4 → im (af q p) c = im q (im p c) := by decide +kernel
theorem pn_oa : ∀ q : Nat, q < 24 → ∀ p : Nat, p < 24 → od (af q p) = (od q + od p) % 2 := by decide +kernel
theorem pn_ex : ∀ q : Nat, q < 24 → ∀ p : Nat, p < 24 → im q 0 = im p 0 → im q 1 = im p 1 → im q 2 = im p 2 → q = p := by decide +kernel
theorem pn_sx : ∀ i : Nat, i < 4 → ∀ j : Nat, j < 4 → 0 ≤ sx i j ∧ sx i j < 24 ∧ im (sx i j) i = j ∧ im (sx i j) j = i ∧ iv (sx i j) = sx i j ∧ sx i j = sx j i := by decide +kernel
theorem pn_sc : ∀ i : Nat, i < 4 → ∀ j : Nat, j < 4 → ∀ c : Nat, c < 4 → c ≠ i → c ≠ j → im (sx i j) c = c := by decide +kernel
theorem pn_ij : ∀ p : Nat, p < 24 → ∀ c : Nat, c < 4 → ∀ e : Nat, e < 4 → im p c = im p e → c = e := by decide +kernel
theorem pn_sm : ∀ p : Nat, p < 24 → im p 0 + im p 1 + im p 2 + im p 3 = 6 := by decide +kernel
theorem im_in {p c : Int} (p0 : 0 ≤ p) (p1 : p < 24) (c0 : 0 ≤ c) (c1 : c < 4) : 0 ≤ im p c ∧ im p c < 4 :=
  pm_nat (P := fun p => 0 ≤ im p c ∧ im p c < 4) (n := 24) (fun k hk => pm_nat (P := fun c => 0 ≤ im k c ∧ im k c < 4) (n := 4) (fun c hc => pn_im k hk c hc) c0 c1) p0 p1
theorem iv_in {p : Int} (p0 : 0 ≤ p) (p1 : p < 24) : 0 ≤ iv p ∧ iv p < 24 := pm_nat (P := fun p => 0 ≤ iv p ∧ iv p < 24) (n := 24) pn_iv p0 p1
theorem od_in {p : Int} (p0 : 0 ≤ p) (p1 : p < 24) : 0 ≤ od p ∧ od p < 2 ∧ od (iv p) = od p := pm_nat (P := fun p => 0 ≤ od p ∧ od p < 2 ∧ od (iv p) = od p) (n := 24) pn_od p0 p1
theorem iv_iv {p : Int} (p0 : 0 ≤ p) (p1 : p < 24) : iv (iv p) = p := pm_nat (P := fun p => iv (iv p) = p) (n := 24) pn_ii p0 p1
theorem im_mi {p c : Int} (p0 : 0 ≤ p) (p1 : p < 24) (c0 : 0 ≤ c) (c1 : c < 4) : im (iv p) (im p c) = c ∧ im p (im (iv p) c) = c :=
  pm_nat (P := fun p => im (iv p) (im p c) = c ∧ im p (im (iv p) c) = c) (n := 24) (fun k hk => pm_nat (P := fun c => im (iv k) (im k c) = c ∧ im k (im (iv k) c) = c) (n := 4) (fun c hc => pn_mi k hk c hc) c0 c1) p0 p1
theorem af_in {q p : Int} (q0 : 0 ≤ q) (q1 : q < 24) (p0 : 0 ≤ p) (p1 : p < 24) : 0 ≤ af q p ∧ af q p < 24 :=
  pm_nat (P := fun q => 0 ≤ af q p ∧ af q p < 24) (n := 24) (fun k hk => pm_nat (P := fun p => 0 ≤ af k p ∧ af k p < 24) (n := 24) (fun c hc => pn_af k hk c hc) p0 p1) q0 q1
theorem im_af {q p c : Int} (q0 : 0 ≤ q) (q1 : q < 24) (p0 : 0 ≤ p) (p1 : p < 24) (c0 : 0 ≤ c) (c1 : c < 4) : im (af q p) c = im q (im p c) :=
  pm_nat (P := fun q => im (af q p) c = im q (im p c)) (n := 24) (fun k hk => pm_nat (P := fun p => im (af k p) c = im k (im p c)) (n := 24) (fun e he => pm_nat (P := fun c => im (af k e) c = im k (im e c)) (n := 4) (fun c hc => pn_ma k hk e he c hc) c0 c1) p0 p1) q0 q1
theorem od_af {q p : Int} (q0 : 0 ≤ q) (q1 : q < 24) (p0 : 0 ≤ p) (p1 : p < 24) : od (af q p) = (od q + od p) % 2 :=
  pm_nat (P := fun q => od (af q p) = (od q + od p) % 2) (n := 24) (fun k hk => pm_nat (P := fun p => od (af k p) = (od k + od p) % 2) (n := 24) (fun c hc => pn_oa k hk c hc) p0 p1) q0 q1
theorem im_ex {q p : Int} (q0 : 0 ≤ q) (q1 : q < 24) (p0 : 0 ≤ p) (p1 : p < 24) (e0 : im q 0 = im p 0) (e1 : im q 1 = im p 1) (e2 : im q 2 = im p 2) : q = p := by
  have h := pm_nat (P := fun q => im q 0 = im p 0 → im q 1 = im p 1 → im q 2 = im p 2 → q = p) (n := 24) (fun k hk => pm_nat (P := fun p => im k 0 = im p 0 → im k 1 = im p 1 → im k 2 = im p 2 → (k : Int) = p) (n := 24) (fun c hc a b d => by rw [pn_ex k hk c hc a b d]) p0 p1) q0 q1
  exact h e0 e1 e2
theorem im_ij {p c e : Int} (p0 : 0 ≤ p) (p1 : p < 24) (c0 : 0 ≤ c) (c1 : c < 4) (e0 : 0 ≤ e) (e1 : e < 4) (h : im p c = im p e) : c = e := by
  have h1 := im_mi p0 p1 c0 c1
  have h2 := im_mi p0 p1 e0 e1
  rw [← h1.1, h, h2.1]
theorem sx_ok {i j : Int} (i0 : 0 ≤ i) (i1 : i < 4) (j0 : 0 ≤ j) (j1 : j < 4) : 0 ≤ sx i j ∧ sx i j < 24 ∧ im (sx i j) i = j ∧ im (sx i j) j = i ∧ iv (sx i j) = sx i j ∧ sx i j = sx j i :=
  pm_nat (P := fun i => 0 ≤ sx i j ∧ sx i j < 24 ∧ im (sx i j) i = j ∧ im (sx i j) j = i ∧ iv (sx i j) = sx i j ∧ sx i j = sx j i) (n := 4) (fun k hk => pm_nat (P := fun j => 0 ≤ sx k j ∧ sx k j < 24 ∧ im (sx k j) k = j ∧ im (sx k j) j = k ∧ iv (sx k j) = sx k j ∧ sx k j = sx j k) (n := 4) (fun c hc => pn_sx k hk c hc) j0 j1) i0 i1
theorem sx_c {i j c : Int} (i0 : 0 ≤ i) (i1 : i < 4) (j0 : 0 ≤ j) (j1 : j < 4) (c0 : 0 ≤ c) (c1 : c < 4) (hi : c ≠ i) (hj : c ≠ j) : im (sx i j) c = c := by
  have h := pm_nat (P := fun i => c ≠ i → c ≠ j → im (sx i j) c = c) (n := 4) (fun k hk => pm_nat (P := fun j => c ≠ k → c ≠ j → im (sx k j) c = c) (n := 4) (fun e he => pm_nat (P := fun c => c ≠ k → c ≠ e → im (sx k e) c = c) (n := 4) (fun c hc a b => pn_sc k hk e he c hc (by omega) (by omega)) c0 c1) j0 j1) i0 i1
  exact h hi hj
theorem im_sm {p : Int} (p0 : 0 ≤ p) (p1 : p < 24) : im p 0 + im p 1 + im p 2 + im p 3 = 6 := pm_nat (P := fun p => im p 0 + im p 1 + im p 2 + im p 3 = 6) (n := 24) pn_sm p0 p1
/-- the inverse of a composition, the identity -/
theorem iv_0 : iv 0 = 0 := by decide +kernel
theorem im_0 : ∀ c : Nat, c < 4 → im 0 c = c := by decide +kernel
theorem im_id {c : Int} (c0 : 0 ≤ c) (c1 : c < 4) : im 0 c = c := pm_nat (P := fun c => im 0 c = c) (n := 4) im_0 c0 c1
