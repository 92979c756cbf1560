/-! SETS OF TETS AS BITS -/
def tb (m i : Int) : Prop := m / 2 ^ i.toNat % 2 = 1
def MK (m : Int) (S : Int → Prop) : Prop := 0 ≤ m ∧ m < 256 ∧ ∀ i, 0 ≤ i → i < 8 → (tb m i ↔ S i)
theorem tb_nat (n k : Nat) : tb (n : Int) (k : Int) ↔ n.testBit k = true := by
  unfold tb
  rw [Int.toNat_natCast, Nat.testBit_eq_decide_div_mod_eq, decide_eq_true_iff]
  have e : (n : Int) / 2 ^ k = ((n / 2 ^ k : Nat) : Int) := by
    rw [Int.natCast_ediv, Int.natCast_pow]
    rfl
  rw [e]
  omega
theorem mk_0 : MK 0 (fun _ => False) := by
  refine ⟨by omega, by omega, fun i i0 i1 => ⟨fun h => ?_, fun h => h.elim⟩⟩
  unfold tb at h
  rw [Int.zero_ediv] at h
  omega
theorem mk_iff {m : Int} {S T : Int → Prop} (h : MK m S) (e : ∀ i, 0 ≤ i → i < 8 → (S i ↔ T i)) : MK m T := ⟨h.1, h.2.1, fun i i0 i1 => (h.2.2 i i0 i1).trans (e i i0 i1)⟩
theorem mk_oo {a b : Int} {S T : Int → Prop} (ha : MK a S) (hb : MK b T) : MK (bi_or a b) (fun i => S i ∨ T i) := by
  obtain ⟨a0, a1, a2⟩ := ha
  obtain ⟨b0, b1, b2⟩ := hb
  rw [bn_or a0 (by omega) b0 (by omega)]
  have hl : a.toNat ||| b.toNat < 2 ^ 8 := Nat.or_lt_two_pow (by omega) (by omega)
  refine ⟨by omega, by omega, fun i i0 i1 => ?_⟩
  have ei : i = (i.toNat : Int) := by omega
  have x := a2 i i0 i1
  have y := b2 i i0 i1
  rw [ei, show a = (a.toNat : Int) by omega, tb_nat] at x
  rw [ei, show b = (b.toNat : Int) by omega, tb_nat] at y
  rw [ei, tb_nat, Nat.testBit_or, Bool.or_eq_true, x, y]
theorem sh_n : ∀ j : Nat, j < 8 → 0 ≤ bi_shl 1 j ∧ bi_shl 1 j < 256 ∧ ∀ i : Nat, i < 8 → (bi_shl 1 j / 2 ^ i % 2 = 1 ↔ i = j) := by decide +kernel
theorem mk_1 {j : Int} (j0 : 0 ≤ j) (j1 : j < 8) : MK (bi_shl 1 j) (fun i => i = j) := by
  have h := sh_n j.toNat (by omega)
  rw [Int.toNat_of_nonneg j0] at h
  refine ⟨h.1, h.2.1, fun i i0 i1 => ?_⟩
  have := h.2.2 i.toNat (by omega)
  unfold tb
  rw [this]
  omega
theorem mk_or {m j : Int} {S : Int → Prop} (h : MK m S) (j0 : 0 ≤ j) (j1 : j < 8) : MK (bi_or m (bi_shl 1 j)) (fun i => S i ∨ i = j) := mk_oo h (mk_1 j0 j1)
theorem mk_eq {a b : Int} {S T : Int → Prop} (ha : MK a S) (hb : MK b T) : (a = b ↔ ∀ i, 0 ≤ i → i < 8 → (S i ↔ T i)) := by
  constructor
  · intro e i i0 i1
    rw [← ha.2.2 i i0 i1, ← hb.2.2 i i0 i1, e]
  · intro e
    have : a.toNat = b.toNat := by
      refine Nat.eq_of_testBit_eq (fun i => ?_)
      by_cases hi : i < 8
      · have x := ha.2.2 i (by omega) (by omega)
        have y := hb.2.2 i (by omega) (by omega)
        have z := e i (by omega) (by omega)
        rw [show a = (a.toNat : Int) by have := ha.1; omega, tb_nat] at x
        rw [show b = (b.toNat : Int) by have := hb.1; omega, tb_nat] at y
        rw [← x, ← y] at z
        rw [Bool.eq_iff_iff]
        exact z
      · have la : a.toNat < 2 ^ i := Nat.lt_of_lt_of_le (show a.toNat < 2 ^ 8 by have := ha.1; have := ha.2.1; omega) (Nat.pow_le_pow_right (by omega) (by omega))
        have lb : b.toNat < 2 ^ i := Nat.lt_of_lt_of_le (show b.toNat < 2 ^ 8 by have := hb.1; have := hb.2.1; omega) (Nat.pow_le_pow_right (by omega) (by omega))
        rw [Nat.testBit_lt_two_pow la, Nat.testBit_lt_two_pow lb]
    have := ha.1
    have := hb.1
    omega
/-- how many bits -/
def pcn (m : Int) : Int := m % 2 + m / 2 % 2 + m / 4 % 2 + m / 8 % 2 + m / 16 % 2 + m / 32 % 2 + m / 64 % 2 + m / 128 % 2
theorem pc_3 : ∀ a : Nat, a < 8 → ∀ b : Nat, b < 8 → ∀ c : Nat, c < 8 → (pcn (bi_or (bi_or (bi_shl 1 a) (bi_shl 1 b)) (bi_shl 1 c)) = 3 ↔ a ≠ b ∧ a ≠ c ∧ b ≠ c) := by decide +kernel
theorem pc_4n : ∀ n : Nat, n < 64 → ∀ m : Nat, m < 64 → (pcn (bi_or (bi_or (bi_or (bi_shl 1 ((n / 8) : Nat)) (bi_shl 1 ((n % 8) : Nat))) (bi_shl 1 ((m / 8) : Nat))) (bi_shl 1 ((m % 8) : Nat))) = 4 ↔ (n / 8) ≠ (n % 8) ∧ (n / 8) ≠ (m / 8) ∧ (n / 8) ≠ (m % 8) ∧ (n % 8) ≠ (m / 8) ∧ (n % 8) ≠ (m % 8) ∧ (m / 8) ≠ (m % 8)) := by decide +kernel
theorem pc_4 {a b c e : Nat} (ha : a < 8) (hb : b < 8) (hc : c < 8) (he : e < 8) : pcn (bi_or (bi_or (bi_or (bi_shl 1 a) (bi_shl 1 b)) (bi_shl 1 c)) (bi_shl 1 e)) = 4 ↔ a ≠ b ∧ a ≠ c ∧ a ≠ e ∧ b ≠ c ∧ b ≠ e ∧ c ≠ e := by
  have h := pc_4n (8 * a + b) (by omega) (8 * c + e) (by omega)
  rw [show (8 * a + b) / 8 = a by omega, show (8 * a + b) % 8 = b by omega, show (8 * c + e) / 8 = c by omega, show (8 * c + e) % 8 = e by omega] at h
  exact h
