/-! bits of whole numbers -/
theorem bn_toNat {a : Int} (h0 : 0 ≤ a) (h1 : a ≤ 2147483647) : (Int32.ofInt a).toBitVec.toNat = a.toNat := by
  have e : Int32.ofInt a = nI a.toNat := by
    apply Int32.toInt_inj.mp
    rw [nI_toInt (by omega)]
    show iw a = _
    rw [iw_of (by omega) h1]
    omega
  rw [e, pk_tn (by omega)]
theorem bn_nI {a : Int} (h0 : 0 ≤ a) (h1 : a ≤ 2147483647) : Int32.ofInt a = nI a.toNat := by
  apply Int32.toInt_inj.mp
  rw [nI_toInt (by omega)]
  show iw a = _
  rw [iw_of (by omega) h1]
  omega
theorem bn_int {n : Nat} (h : n < 2 ^ 31) : (nI n).toInt = (n : Int) := nI_toInt h
theorem bn_and {a b : Int} (a0 : 0 ≤ a) (a1 : a ≤ 2147483647) (b0 : 0 ≤ b) (b1 : b ≤ 2147483647) : bi_and a b = ((a.toNat &&& b.toNat : Nat) : Int) := by
  unfold bi_and
  rw [bn_nI a0 a1, bn_nI b0 b1]
  have e : nI a.toNat &&& nI b.toNat = nI (a.toNat &&& b.toNat) := by
    apply Int32.toBitVec_inj.mp
    apply BitVec.eq_of_toNat_eq
    rw [Int32.toBitVec_and, BitVec.toNat_and, pk_tn (by omega), pk_tn (by omega), pk_tn (Nat.lt_of_le_of_lt Nat.and_le_left (by omega))]
  rw [e, bn_int (Nat.lt_of_le_of_lt Nat.and_le_left (by omega))]
theorem bn_or {a b : Int} (a0 : 0 ≤ a) (a1 : a ≤ 2147483647) (b0 : 0 ≤ b) (b1 : b ≤ 2147483647) : bi_or a b = ((a.toNat ||| b.toNat : Nat) : Int) := by
  unfold bi_or
  rw [bn_nI a0 a1, bn_nI b0 b1]
  have hl : a.toNat ||| b.toNat < 2 ^ 31 := Nat.or_lt_two_pow (by omega) (by omega)
  have e : nI a.toNat ||| nI b.toNat = nI (a.toNat ||| b.toNat) := by
    apply Int32.toBitVec_inj.mp
    apply BitVec.eq_of_toNat_eq
    rw [Int32.toBitVec_or, BitVec.toNat_or, pk_tn (by omega), pk_tn (by omega), pk_tn (by omega)]
  rw [e, bn_int hl]
theorem bn_xor {a b : Int} (a0 : 0 ≤ a) (a1 : a ≤ 2147483647) (b0 : 0 ≤ b) (b1 : b ≤ 2147483647) : bi_xor a b = ((a.toNat ^^^ b.toNat : Nat) : Int) := by
  unfold bi_xor
  rw [bn_nI a0 a1, bn_nI b0 b1]
  have hl : a.toNat ^^^ b.toNat < 2 ^ 31 := Nat.xor_lt_two_pow (by omega) (by omega)
  have e : nI a.toNat ^^^ nI b.toNat = nI (a.toNat ^^^ b.toNat) := by
    apply Int32.toBitVec_inj.mp
    apply BitVec.eq_of_toNat_eq
    rw [Int32.toBitVec_xor, BitVec.toNat_xor, pk_tn (by omega), pk_tn (by omega), pk_tn (by omega)]
  rw [e, bn_int hl]
theorem bn_s31 : ∀ k : Nat, k < 32 → ((nI k &&& 31).toBitVec.smod 32).toNat = k := by decide +kernel
theorem bn_shr {a k : Int} (a0 : 0 ≤ a) (a1 : a ≤ 2147483647) (k0 : 0 ≤ k) (k1 : k < 32) : bi_shr a k = a / 2 ^ k.toNat := by
  unfold bi_shr
  rw [bn_nI a0 a1, bn_nI k0 (by omega), pk_shrN (by omega) _ k.toNat (bn_s31 _ (by omega))]
  have hd : a.toNat / 2 ^ k.toNat ≤ a.toNat := Nat.div_le_self _ _
  rw [bn_int (by omega)]
  rw [Int.natCast_ediv, Int.toNat_of_nonneg a0]
  simp
/-- shifts to the left: the rest is the same -/
theorem bn_shl (a : Int) {k : Int} (k0 : 0 ≤ k) (k1 : k < 32) : Int32.ofInt (bi_shl a k) = Int32.ofInt (a * 2 ^ k.toNat) := by
  unfold bi_shl
  rw [Int32.ofInt_toInt]
  apply Int32.toBitVec_inj.mp
  apply BitVec.eq_of_toNat_eq
  rw [bn_nI k0 (by omega), pk_shl _ _ k.toNat (bn_s31 _ (by omega))]
  have e1 : ∀ z : Int, (Int32.ofInt z).toBitVec = BitVec.ofInt 32 z := fun z => rfl
  rw [e1, e1, BitVec.toNat_ofInt, BitVec.toNat_ofInt]
  have h2 : (2 : Int) ^ k.toNat = ((2 ^ k.toNat : Nat) : Int) := by simp
  rw [h2]
  have h3 := Int.emod_nonneg a (show ((2 ^ 32 : Nat) : Int) ≠ 0 by decide)
  have h4 : ((a % ((2 ^ 32 : Nat) : Int)).toNat * 2 ^ k.toNat % 2 ^ 32 : Nat) = ((a * ((2 ^ k.toNat : Nat) : Int)) % ((2 ^ 32 : Nat) : Int)).toNat := by
    apply Int.ofNat.inj
    show (((a % ((2 ^ 32 : Nat) : Int)).toNat * 2 ^ k.toNat % 2 ^ 32 : Nat) : Int) = (((a * ((2 ^ k.toNat : Nat) : Int)) % ((2 ^ 32 : Nat) : Int)).toNat : Int)
    rw [Int.toNat_of_nonneg (Int.emod_nonneg _ (by decide)), Int.natCast_emod, Int.natCast_mul, Int.toNat_of_nonneg h3, Int.mul_emod (a % _) _, Int.emod_emod, ← Int.mul_emod]
  exact h4
theorem bn_tn (a : Int) : (Int32.ofInt a).toBitVec.toNat = (a % 4294967296).toNat := by
  show (BitVec.ofInt 32 a).toNat = _
  rw [BitVec.toNat_ofInt]
  rfl
theorem bn_mask (a : Int) (k : Nat) (hk : k ≤ 30) {y : Int} (hy : (Int32.ofInt y).toBitVec.toNat = 2 ^ k - 1) : bi_and a y = a % 2 ^ k := by
  unfold bi_and
  rw [pk_and _ k hy, bn_tn]
  have hl : (a % 4294967296).toNat % 2 ^ k < 2 ^ k := Nat.mod_lt _ (Nat.two_pow_pos k)
  have h2 : 2 ^ k ≤ 2 ^ 30 := Nat.pow_le_pow_right (by decide) hk
  rw [bn_int (by omega)]
  rw [Int.natCast_emod, Int.toNat_of_nonneg (Int.emod_nonneg _ (by decide))]
  have h3 : ((2 ^ k : Nat) : Int) = 2 ^ k := by simp
  rw [h3]
  refine Int.emod_emod_of_dvd a ?_
  refine ⟨2 ^ (32 - k), ?_⟩
  rw [← Int.pow_add, show k + (32 - k) = 32 by omega]
  rfl
theorem bn_shrA (a : Int) {k : Int} (k0 : 0 ≤ k) (k1 : k < 32) : bi_shr a k = iw a / 2 ^ k.toNat := by
  unfold bi_shr
  rw [bn_nI k0 (by omega), pk_shr _ _ k.toNat (bn_s31 _ (by omega)), Int.shiftRight_eq_div_pow]
  show iw a / _ = _
  simp
theorem bn_or5a (a b : Nat) (h : b < 32) : 2 ^ 5 * a ||| b = 2 ^ 5 * a + b := (Nat.two_pow_add_eq_or_of_lt (i := 5) h a).symm
section MAB
variable {scr : Option (Nat × (Int → Int))} {M : ma_M} {d kc ks pc : Nat} {lv : List (Option ma_V)} {st : List ma_V} {h : ma_H} {nx : Nat} {Q : Option ma_V → ma_H → Nat → Prop}
/-- a shift by y, which is a factor of m -/
theorem ma_kshl {x y : Int} (m : Int) (hd : decode M.2.1 pc = .ok (.ishl, 1)) (hy : 0 ≤ y ∧ y < 32 ∧ (2 : Int) ^ y.toNat = m) (K : ma_J scr M d kc ks (pc + 1) lv (vi (x * m) :: st) h nx Q) : ma_J scr M d kc ks pc lv (vi y :: vi x :: st) h nx Q := by
  obtain ⟨y0, y1, rfl⟩ := hy
  refine ma_go (fun _ _ _ _ _ _ _ _ _ _ _ _ _ _ _ _ _ CX k => lv_ishl CX.1 CX.2.1 hd ?_) K
  have e := bn_shl x y0 y1
  unfold bi_shl at e
  rw [Int32.ofInt_toInt] at e
  rw [e]
  exact k
theorem ma_kshr {x y : Int} (m : Int) (hd : decode M.2.1 pc = .ok (.ishr, 1)) (hy : 0 ≤ y ∧ y < 32 ∧ (2 : Int) ^ y.toNat = m) (hx : -2147483648 ≤ x ∧ x ≤ 2147483647) (K : ma_J scr M d kc ks (pc + 1) lv (vi (x / m) :: st) h nx Q) : ma_J scr M d kc ks pc lv (vi y :: vi x :: st) h nx Q := by
  obtain ⟨y0, y1, rfl⟩ := hy
  refine ma_ishr hd ?_
  rw [bn_shrA x y0 y1, iw_of hx.1 hx.2]
  exact K
theorem ma_kand {x y : Int} (k : Nat) (m : Int) (hd : decode M.2.1 pc = .ok (.iand, 1)) (hk : k ≤ 30) (hy : (Int32.ofInt y).toBitVec.toNat = 2 ^ k - 1) (hm : (2 : Int) ^ k = m) (K : ma_J scr M d kc ks (pc + 1) lv (vi (x % m) :: st) h nx Q) : ma_J scr M d kc ks pc lv (vi y :: vi x :: st) h nx Q := by
  subst hm
  refine ma_iand hd ?_
  rw [bn_mask x k hk hy]
  exact K
/-- 32 times a tet, and a permutation -/
theorem bn_or5 {a b : Int} (a0 : 0 ≤ a) (a1 : a ≤ 1000) (b0 : 0 ≤ b) (b1 : b < 32) : bi_or (a * 32) b = 32 * a + b := by
  rw [bn_or (by omega) (by omega) b0 (by omega)]
  have e : (a * 32).toNat = 2 ^ 5 * a.toNat := by omega
  rw [e, bn_or5a a.toNat b.toNat (by omega)]
  omega
theorem ma_kor5 {x y : Int} (hd : decode M.2.1 pc = .ok (.ior, 1)) (hx : 0 ≤ x ∧ x ≤ 1000) (hy : 0 ≤ y ∧ y < 32) (K : ma_J scr M d kc ks (pc + 1) lv (vi (32 * x + y) :: st) h nx Q) : ma_J scr M d kc ks pc lv (vi y :: vi (x * 32) :: st) h nx Q := by
  refine ma_ior hd ?_
  rw [bn_or5 hx.1 hx.2 hy.1 hy.2]
  exact K
theorem ma_kdiv {x y : Int} (hd : decode M.2.1 pc = .ok (.idiv, 1)) (hx : 0 ≤ x ∧ x ≤ 2147483647) (hy : 0 < y ∧ y ≤ 2147483647) (K : ma_J scr M d kc ks (pc + 1) lv (vi (x / y) :: st) h nx Q) : ma_J scr M d kc ks pc lv (vi y :: vi x :: st) h nx Q := by
  have e1 : iw x = x := iw_of (by omega) (by omega)
  have e2 : iw y = y := iw_of (by omega) (by omega)
  refine ma_idiv hd (by omega) ?_
  rw [e1, e2, Int.tdiv_eq_ediv_of_nonneg hx.1]
  exact K
theorem ma_kmod {x y : Int} (hd : decode M.2.1 pc = .ok (.irem, 1)) (hx : 0 ≤ x ∧ x ≤ 2147483647) (hy : 0 < y ∧ y ≤ 2147483647) (K : ma_J scr M d kc ks (pc + 1) lv (vi (x % y) :: st) h nx Q) : ma_J scr M d kc ks pc lv (vi y :: vi x :: st) h nx Q := by
  have e1 : iw x = x := iw_of (by omega) (by omega)
  have e2 : iw y = y := iw_of (by omega) (by omega)
  refine ma_irem hd (by omega) ?_
  rw [e1, e2, Int.tmod_eq_emod_of_nonneg hx.1]
  exact K
end MAB
