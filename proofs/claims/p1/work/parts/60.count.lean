theorem ct_sn {P : Int → Prop} (n : Nat) : (P n → ct P (n + 1) = ct P n + 1) ∧ (¬ P n → ct P (n + 1) = ct P n) := by
  constructor
  · intro h
    have := ct_y (P := P) (q := (n : Int)) (by omega) h
    rw [show ((n : Int) + 1).toNat = n + 1 by omega, show ((n : Int)).toNat = n by omega] at this
    exact this
  · intro h
    have := ct_n (P := P) (q := (n : Int)) (by omega) h
    rw [show ((n : Int) + 1).toNat = n + 1 by omega, show ((n : Int)).toNat = n by omega] at this
    exact this
theorem ct_not {P : Int → Prop} : ∀ n : Nat, ct P n + ct (fun j => ¬ P j) n = n
  | 0 => rfl
  | n + 1 => by
    have ih := ct_not (P := P) n
    by_cases h : P n
    · rw [(ct_sn n).1 h, (ct_sn (P := fun j => ¬ P j) n).2 (fun z => z h)]
      omega
    · rw [(ct_sn n).2 h, (ct_sn (P := fun j => ¬ P j) n).1 h]
      omega
theorem ct_o {P R : Int → Prop} : ∀ n : Nat, (∀ j : Int, 0 ≤ j → j < n → P j → ¬ R j) → ct (fun j => P j ∨ R j) n = ct P n + ct R n
  | 0, _ => rfl
  | n + 1, h => by
    have ih := ct_o (P := P) (R := R) n (fun j j0 j1 => h j j0 (by omega))
    by_cases p : P n
    · have r := h n (by omega) (by omega) p
      rw [(ct_sn n).1 p, (ct_sn n).2 r, (ct_sn (P := fun j => P j ∨ R j) n).1 (Or.inl p)]
      omega
    · by_cases r : R n
      · rw [(ct_sn n).2 p, (ct_sn n).1 r, (ct_sn (P := fun j => P j ∨ R j) n).1 (Or.inr r)]
        omega
      · rw [(ct_sn n).2 p, (ct_sn n).2 r, (ct_sn (P := fun j => P j ∨ R j) n).2 (fun z => by rcases z with z | z; exact p z; exact r z)]
        omega
theorem ct_1 {a : Int} (a0 : 0 ≤ a) : ∀ n : Nat, ct (fun j => j = a) n = if a < n then 1 else 0
  | 0 => by
    rw [if_neg (by omega)]
    rfl
  | n + 1 => by
    have ih := ct_1 a0 n
    by_cases h : (n : Int) = a
    · rw [(ct_sn (P := fun j => j = a) n).1 h, ih, if_neg (by omega), if_pos (by omega)]
      rfl
    · rw [(ct_sn (P := fun j => j = a) n).2 h, ih]
      by_cases z : a < n
      · rw [if_pos z, if_pos (by omega)]
      · rw [if_neg z, if_neg (by omega)]
theorem sty_1 {t a : Int} (a0 : 0 ≤ a) (a1 : a < t) : sty (fun i => i = a) t = t - 1 := by
  have h := ct_not (P := fun j => j = a) t.toNat
  rw [ct_1 a0, if_pos (by omega)] at h
  show ct (fun j => ¬ (j = a)) t.toNat = t - 1
  omega
theorem sty_2 {t a b : Int} (a0 : 0 ≤ a) (a1 : a < t) (b0 : 0 ≤ b) (b1 : b < t) (ab : a ≠ b) : sty (fun i => i = a ∨ i = b) t = t - 2 := by
  have h := ct_not (P := fun j => j = a ∨ j = b) t.toNat
  rw [ct_o t.toNat (fun j _ _ p q => by omega), ct_1 a0, ct_1 b0, if_pos (by omega), if_pos (by omega)] at h
  show ct (fun j => ¬ (j = a ∨ j = b)) t.toNat = t - 2
  omega
theorem sty_3 {t a b c : Int} (a0 : 0 ≤ a) (a1 : a < t) (b0 : 0 ≤ b) (b1 : b < t) (c0 : 0 ≤ c) (c1 : c < t) (ab : a ≠ b) (ac : a ≠ c) (bc : b ≠ c) : sty (fun i => (i = a ∨ i = b) ∨ i = c) t = t - 3 := by
  have h := ct_not (P := fun j => (j = a ∨ j = b) ∨ j = c) t.toNat
  rw [ct_o (P := fun j => j = a ∨ j = b) t.toNat (fun j _ _ p q => by omega), ct_o t.toNat (fun j _ _ p q => by omega), ct_1 a0, ct_1 b0, ct_1 c0, if_pos (by omega), if_pos (by omega), if_pos (by omega)] at h
  show ct (fun j => ¬ ((j = a ∨ j = b) ∨ j = c)) t.toNat = t - 3
  omega
theorem sty_in (S : Int → Prop) {i : Int} (i0 : 0 ≤ i) : 0 ≤ sty S i ∧ sty S i ≤ i := by
  have := ct_in (fun j => ¬ S j) i.toNat
  unfold sty
  omega
theorem sty_mono {S : Int → Prop} {i : Int} (i0 : 0 ≤ i) : ∀ n : Nat, sty S i ≤ sty S (i + n)
  | 0 => by
    rw [show i + ((0 : Nat) : Int) = i by omega]
    exact Int.le_refl _
  | n + 1 => by
    have ih := sty_mono (S := S) i0 n
    rw [show i + ((n + 1 : Nat) : Int) = i + n + 1 by omega]
    by_cases h : S (i + n)
    · rw [sty_s (by omega) h]; exact ih
    · rw [sty_n (by omega) h]; omega
theorem sty_lt {S : Int → Prop} {i j : Int} (i0 : 0 ≤ i) (ij : i < j) (h : ¬ S i) : sty S i < sty S j := by
  have := sty_mono (S := S) (i := i + 1) (by omega) (j - (i + 1)).toNat
  rw [show i + 1 + ((j - (i + 1)).toNat : Int) = j by omega, sty_n i0 h] at this
  omega
theorem sty_inj {S : Int → Prop} {i j : Int} (i0 : 0 ≤ i) (j0 : 0 ≤ j) (hi : ¬ S i) (hj : ¬ S j) (e : sty S i = sty S j) : i = j := by
  rcases Int.lt_trichotomy i j with z | z | z
  · have := sty_lt i0 z hi
    omega
  · exact z
  · have := sty_lt j0 z hj
    omega
theorem sty_sur {S : Int → Prop} : ∀ (n : Nat) (m : Int), 0 ≤ m → m < sty S n → ∃ i : Int, 0 ≤ i ∧ i < (n : Int) ∧ ¬ S i ∧ sty S i = m
  | 0, m, m0, m1 => by
    have := sty_in S (show (0 : Int) ≤ ((0 : Nat) : Int) by omega)
    omega
  | n + 1, m, m0, m1 => by
    by_cases h : S n
    · have e := sty_s (S := S) (i := (n : Int)) (by omega) h
      obtain ⟨i, a, b, c, d⟩ := sty_sur (S := S) n m m0 (by rw [← e]; exact_mod_cast m1)
      exact ⟨i, a, by omega, c, d⟩
    · have e := sty_n (S := S) (i := (n : Int)) (by omega) h
      rw [show ((n + 1 : Nat) : Int) = (n : Int) + 1 by omega, e] at m1
      rcases Int.lt_or_eq_of_le (show m ≤ sty S n by omega) with z | z
      · obtain ⟨i, a, b, c, d⟩ := sty_sur (S := S) n m m0 z
        exact ⟨i, a, by omega, c, d⟩
      · exact ⟨n, by omega, by omega, h, z.symm⟩
theorem uf_r {f : Int → Int} {k z a b n : Int} (h : ∀ j, 0 ≤ j → j < n → a ≤ f j ∧ f j < b) (hz : a ≤ z ∧ z < b) : ∀ j, 0 ≤ j → j < n → a ≤ uf f k z j ∧ uf f k z j < b := fun j j0 j1 => by
  unfold uf
  split
  · exact hz
  · exact h j j0 j1
theorem lo_in (S : Int → Prop) {t : Int} (ht : t ≤ 8) : ∀ j, 0 ≤ j → j < 4 * t → -1 ≤ lo S j ∧ lo S j < 8 := fun j j0 j1 => by
  unfold lo
  have := sty_in S (show 0 ≤ j / 4 by omega)
  by_cases h : S (j / 4)
  · rw [if_pos h]; omega
  · rw [if_neg h]; omega
