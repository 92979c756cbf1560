/-- how many of the first n are below 0 -/
def nc (f : Int → Int) : Nat → Int
  | 0 => 0
  | n + 1 => nc f n + (if f n < 0 then 1 else 0)
theorem nc_in (f : Int → Int) : ∀ n : Nat, 0 ≤ nc f n ∧ nc f n ≤ n
  | 0 => by simp [nc]
  | n + 1 => by
    have ih := nc_in f n
    unfold nc
    split <;> omega
theorem nc_s {f : Int → Int} {i : Int} (h : 0 ≤ i) : nc f (i + 1).toNat = nc f i.toNat + (if f i < 0 then 1 else 0) := by
  rw [show (i + 1).toNat = i.toNat + 1 by omega]
  show nc f i.toNat + (if f (i.toNat : Int) < 0 then 1 else 0) = _
  rw [Int.toNat_of_nonneg h]
def rg (x : Int) : Prop := -2147483648 ≤ x ∧ x ≤ 2147483647
set_option maxHeartbeats 1000000 in
theorem l_X8_freeFaces {h : ma_H} {a g nx d : Nat} {t : Int} {G : Int → Int} {Q : Option ma_V → ma_H → Nat → Prop} (ha : h a = co 8 [vi t, vr g]) (hg : h g = ci 32 G) (ht : 0 ≤ t ∧ t ≤ 8) (hG : ∀ j, 0 ≤ j → j < 32 → rg (G j)) (K : Q (some (vi (nc G (4 * t).toNat))) h nx) :
    ∀ (n : Nat) (face free : Int), 0 ≤ face → face ≤ 4 * t → 4 * t - face < n → free = nc G face.toNat → ma_J none mX8_freeFaces d 0 0 4 [some (vr a), some (vi free), some (vi face)] [] h nx Q := by
  intro n
  induction n with
  | zero => intro face free h0 h1 h2; omega
  | succ n ih =>
    intro face free h0 h1 h2 hf
    refine ma_iload_n dX8_freeFaces_4 rfl ?_
    refine ma_iconst dX8_freeFaces_5 ?_
    refine ma_aload_n dX8_freeFaces_6 rfl ?_
    refine ma_getf dX8_freeFaces_7 fX8_9 (by assumption) (by rfl) ?_
    refine ma_imul dX8_freeFaces_10 ?_
    refine ma_rcmp_ge 32 dX8_freeFaces_11 rfl (by constructor <;> omega) (by constructor <;> omega) (fun c11 => ?_) (fun c11 => ?_)
    · -- 32
      refine ma_iload_n dX8_freeFaces_32 rfl ?_
      exact ma_iret dX8_freeFaces_33 rfl (by rw [show face = 4 * t by omega] at hf; rw [hf]; exact K)
    · -- 14
      refine ma_aload_n dX8_freeFaces_14 rfl ?_
      refine ma_getf dX8_freeFaces_15 fX8_15 (by assumption) (by rfl) ?_
      refine ma_iload_n dX8_freeFaces_18 rfl ?_
      refine ma_iald dX8_freeFaces_19 (by assumption) (by omega) (by omega) (by decide) ?_
      refine ma_rif_ge 26 dX8_freeFaces_20 rfl (hG _ (by omega) (by omega)) (fun c20 => ?_) (fun c20 => ?_)
      · -- 26
        refine ma_iinc dX8_freeFaces_26 rfl (by decide) ?_
        refine ma_goto 4 dX8_freeFaces_29 rfl ?_
        exact ih (face + 1) _ (by omega) (by omega) (by omega) (by rw [nc_s h0, hf]; split <;> omega)
      · -- 23
        refine ma_iinc dX8_freeFaces_23 rfl (by decide) ?_
        refine ma_iinc dX8_freeFaces_26 rfl (by decide) ?_
        refine ma_goto 4 dX8_freeFaces_29 rfl ?_
        exact ih (face + 1) _ (by omega) (by omega) (by omega) (by rw [nc_s h0, hf]; split <;> omega)
theorem c_X8_freeFaces {h : ma_H} {a g nx d : Nat} {t : Int} {G : Int → Int} {Q : Option ma_V → ma_H → Nat → Prop} (ha : h a = co 8 [vi t, vr g]) (hg : h g = ci 32 G) (ht : 0 ≤ t ∧ t ≤ 8) (hG : ∀ j, 0 ≤ j → j < 32 → rg (G j)) (K : Q (some (vi (nc G (4 * t).toNat))) h nx) : ma_Ct mX8_freeFaces d 0 0 [vr a] h nx Q := by
  refine ma_Ct.of (by decide +kernel) (Nat.le_of_ble_eq_true rfl) ?_
  refine ma_iconst dX8_freeFaces_0 ?_
  refine ma_istore_n dX8_freeFaces_1 (by decide) ?_
  refine ma_iconst dX8_freeFaces_2 ?_
  refine ma_istore_n dX8_freeFaces_3 (by decide) ?_
  exact l_X8_freeFaces ha hg ht hG K 40 0 0 (by omega) (by omega) (by omega) rfl
