theorem od_1 {T : Int → Int} {n y : Int} : (0 ≤ dg T n y 10 ∧ (o3 T n 48 10 (-1) y) = -1 ∧ (o1 T n 48 10 (-1) y) = dg T n y 10 ∧ (o2 T n 48 10 (-1) y) = y + 1) ∨ (dg T n y 10 < 0 ∧ (o3 T n 48 10 (-1) y) = y) := by
  unfold o1 o2 o3 dg
  by_cases c : 0 ≤ sg T n y - 48 ∧ sg T n y - 48 < 10
  · rw [if_pos c, if_neg (by omega), if_pos (by omega), if_pos (by omega)]
    exact Or.inl ⟨c.1, rfl, rfl, rfl⟩
  · rw [if_neg c, if_pos (by omega)]
    exact Or.inr ⟨by decide, rfl⟩
theorem od_2 {T : Int → Int} {n a m w x : Int} (h : w ≠ -1) : o3 T n a m w x = w := by
  unfold o3
  rw [if_neg (by omega)]
theorem od3 {T : Int → Int} {n y : Int} (y0 : 0 ≤ y) : (dg T n y 10 < 0 ∧ (o3 T n 48 10 (-1) y) = y ∧ (o3 T n 48 10 (o3 T n 48 10 (-1) y) (o2 T n 48 10 (-1) y)) = y ∧ (o3 T n 48 10 (o3 T n 48 10 (o3 T n 48 10 (-1) y) (o2 T n 48 10 (-1) y)) (o2 T n 48 10 (o3 T n 48 10 (-1) y) (o2 T n 48 10 (-1) y))) = y) ∨ (0 ≤ dg T n y 10 ∧ (o3 T n 48 10 (-1) y) = -1 ∧ (o1 T n 48 10 (-1) y) = dg T n y 10 ∧ (o2 T n 48 10 (-1) y) = y + 1 ∧ ((dg T n (y + 1) 10 < 0 ∧ (o3 T n 48 10 (o3 T n 48 10 (-1) y) (o2 T n 48 10 (-1) y)) = y + 1 ∧ (o3 T n 48 10 (o3 T n 48 10 (o3 T n 48 10 (-1) y) (o2 T n 48 10 (-1) y)) (o2 T n 48 10 (o3 T n 48 10 (-1) y) (o2 T n 48 10 (-1) y))) = y + 1) ∨ (0 ≤ dg T n (y + 1) 10 ∧ (o3 T n 48 10 (o3 T n 48 10 (-1) y) (o2 T n 48 10 (-1) y)) = -1 ∧ (o1 T n 48 10 (o3 T n 48 10 (-1) y) (o2 T n 48 10 (-1) y)) = dg T n (y + 1) 10 ∧ (o2 T n 48 10 (o3 T n 48 10 (-1) y) (o2 T n 48 10 (-1) y)) = y + 1 + 1 ∧ ((dg T n (y + 1 + 1) 10 < 0 ∧ (o3 T n 48 10 (o3 T n 48 10 (o3 T n 48 10 (-1) y) (o2 T n 48 10 (-1) y)) (o2 T n 48 10 (o3 T n 48 10 (-1) y) (o2 T n 48 10 (-1) y))) = y + 1 + 1) ∨ (0 ≤ dg T n (y + 1 + 1) 10 ∧ (o3 T n 48 10 (o3 T n 48 10 (o3 T n 48 10 (-1) y) (o2 T n 48 10 (-1) y)) (o2 T n 48 10 (o3 T n 48 10 (-1) y) (o2 T n 48 10 (-1) y))) = -1 ∧ (o1 T n 48 10 (o3 T n 48 10 (o3 T n 48 10 (-1) y) (o2 T n 48 10 (-1) y)) (o2 T n 48 10 (o3 T n 48 10 (-1) y) (o2 T n 48 10 (-1) y))) = dg T n (y + 1 + 1) 10 ∧ (o2 T n 48 10 (o3 T n 48 10 (o3 T n 48 10 (-1) y) (o2 T n 48 10 (-1) y)) (o2 T n 48 10 (o3 T n 48 10 (-1) y) (o2 T n 48 10 (-1) y))) = y + 1 + 1 + 1))))) := by
  rcases od_1 (T := T) (n := n) (y := y) with ⟨p1, p2, p3, p4⟩ | ⟨p1, p2⟩
  · refine Or.inr ⟨p1, p2, p3, p4, ?_⟩
    rw [p2, p4]
    rcases od_1 (T := T) (n := n) (y := y + 1) with ⟨q1, q2, q3, q4⟩ | ⟨q1, q2⟩
    · refine Or.inr ⟨q1, q2, q3, q4, ?_⟩
      rw [q2, q4]
      rcases od_1 (T := T) (n := n) (y := y + 1 + 1) with ⟨r1, r2, r3, r4⟩ | ⟨r1, r2⟩
      · exact Or.inr ⟨r1, r2, r3, r4⟩
      · exact Or.inl ⟨r1, r2⟩
    · refine Or.inl ⟨q1, q2, ?_⟩
      rw [q2]
      exact od_2 (by omega)
  · refine Or.inl ⟨p1, p2, ?_, ?_⟩
    · rw [p2]; exact od_2 (by omega)
    · rw [p2, od_2 (w := y) (by omega)]
      exact od_2 (by omega)
/-- the steps that were read, as the model has them -/
def AT (T : Int → Int) (n i : Int) (A : Int → Int) : Prop := ∀ (j : Nat) (c : Int), (j : Int) < i → 0 ≤ c → c < 4 → A (4 * (j : Int) + c) = if c = 0 then kd (sg T n (ta T n j)) else td T n (ta T n j) c
theorem at_s {T : Int → Int} {n i : Int} {A : Int → Int} {b0 b1 b2 b3 x : Int} (i0 : 0 ≤ i) (h : AT T n i A) (ex : x = ta T n i.toNat) (e0 : b0 = kd (sg T n x)) (e1 : b1 = td T n x 1) (e2 : b2 = td T n x 2) (e3 : b3 = td T n x 3) : AT T n (i + 1) (uf (uf (uf (uf A (4 * i) b0) (4 * i + 1) b1) (4 * i + 2) b2) (4 * i + 3) b3) := by
  intro j c hj c0 c4
  rcases Int.lt_or_eq_of_le (show (j : Int) ≤ i by omega) with z | z
  · rw [uf_n (by omega), uf_n (by omega), uf_n (by omega), uf_n (by omega)]
    exact h j c z c0 c4
  · have ej : j = i.toNat := by omega
    rw [z, ej, ← ex]
    rcases (show c = 0 ∨ c = 1 ∨ c = 2 ∨ c = 3 by omega) with rfl | rfl | rfl | rfl
    · rw [uf_n (by omega), uf_n (by omega), uf_n (by omega), Int.add_zero, uf_s, if_pos rfl]; exact e0
    · rw [uf_n (by omega), uf_n (by omega), uf_s, if_neg (by decide)]; exact e1
    · rw [uf_n (by omega), uf_s, if_neg (by decide)]; exact e2
    · rw [uf_s, if_neg (by decide)]; exact e3
def KJ (I J : Nat → Int) : Prop := ∀ k, k ≠ 2 → k ≠ 15 → k ≠ 16 → k ≠ 17 → k ≠ 43 → J k = I k
theorem l_rx9 {g : ma_H} {nx d : Nat} {J : Nat → Int} {n x w : Int} {Q : Option ma_V → ma_H → Nat → Prop} (hn : 0 ≤ n ∧ n ≤ 80) (e15 : J 15 = n) (e16 : J 16 = x) (x0 : 0 ≤ x ∧ x ≤ 1000) (e17 : J 17 = w) (w0 : -1 ≤ w ∧ w ≤ 1000) (wn : w ≠ -1) (K : Q (some (vi 0)) (mj g J) nx) (q1 q2 : Option ma_V) : ma_J none mX12_readTrail (d + 3) 0 0 9 [some (vr 73), q1, q2] [] (mj g J) nx Q := by
  refine ma_aload_n dX12_readTrail_9 rfl ?_
  refine ma_cV [] dX12_readTrail_10 wX12_fine lX12_192 iX12_fine sX12_fine rfl (by first | exact mj_73 _ _ | exact (ma_up_n (by decide)).trans (ma_up_s _ _ _)) (Nat.le_of_ble_eq_true rfl) ?_
  refine c_X12_fine e17 w0 (fun z => ?_) (fun z => ?_)
  · -- k1
    refine ma_rif_eq 206 dX12_readTrail_13 rfl (by decide) (fun c13 => absurd c13 (by decide)) (fun c13 => ?_)
    exact absurd z wn
  · -- k0
    refine ma_rif_eq 206 dX12_readTrail_13 rfl (by decide) (fun c13 => ?_) (fun c13 => absurd c13 (by decide))
    refine ma_aload_n dX12_readTrail_206 rfl ?_
    refine ma_cV [] dX12_readTrail_207 wX12_wasRight lX12_218 iX12_wasRight sX12_wasRight rfl (by first | exact mj_73 _ _ | exact (ma_up_n (by decide)).trans (ma_up_s _ _ _)) (Nat.le_of_ble_eq_true rfl) ?_
    refine c_X12_wasRight hn e15 e16 x0 e17 w0 (fun y => absurd y wn) (fun w2 y => ?_)
    rcases y with ⟨-, y⟩ | ⟨y, -⟩
    · subst y
      exact ma_zret dX12_readTrail_210 rfl (Or.inl rfl) (by rw [iu_id e17]; exact K)
    · exact absurd y wn
