/-- the k-th digit of the step at x -/
def td (T : Int → Int) (n x k : Int) : Int := if dn (kd (sg T n x)) < k then 0 else dg T n (x + k) 10
/-- where a sign of the step at x can't stand, or -1 -/
def tf (T : Int → Int) (n x : Int) : Int := if kd (sg T n x) < 0 then x else if td T n x 1 < 0 then x + 1 else if td T n x 2 < 0 then x + 2 else if td T n x 3 < 0 then x + 3 else -1
/-- where the i-th step begins -/
def ta (T : Int → Int) (n : Int) : Nat → Int
  | 0 => 0
  | i + 1 => ta T n i + 1 + dn (kd (sg T n (ta T n i)))
def tk (T : Int → Int) (n x i : Int) (S : Int → Int) (k : Int) : Int → Int := fun j => if 4 * i + 1 ≤ j ∧ j < 4 * i + k then td T n x (j - 4 * i) else S j
/-- the steps that were read -/
def ts (T : Int → Int) (n : Int) (S : Int → Int) : Nat → Int → Int
  | 0 => S
  | i + 1 => tk T n (ta T n i) i (uf (ts T n S i) (4 * (i : Int)) (kd (sg T n (ta T n i)))) 4
theorem dn_in (k : Int) : 1 ≤ dn k ∧ dn k ≤ 3 := by
  unfold dn
  repeat' split
  all_goals omega
theorem kd_in (w : Int) : -1 ≤ kd w ∧ kd w ≤ 3 := by
  unfold kd
  repeat' split
  all_goals omega
theorem td_in (T : Int → Int) (n x k : Int) : -1 ≤ td T n x k ∧ td T n x k < 10 := by
  have := dg_in (T := T) (n := n) (x + k) (show (0 : Int) ≤ 10 by omega)
  unfold td
  split <;> omega
theorem ta_ge (T : Int → Int) (n : Int) : ∀ i : Nat, 2 * (i : Int) ≤ ta T n i
  | 0 => by unfold ta; omega
  | i + 1 => by
    have := ta_ge T n i
    have := dn_in (kd (sg T n (ta T n i)))
    unfold ta
    omega
theorem tk_s (T : Int → Int) (n x i : Int) (S : Int → Int) {k : Int} (hk : 1 ≤ k) : uf (tk T n x i S k) (4 * i + k) (td T n x k) = tk T n x i S (k + 1) := by
  funext j
  unfold uf tk
  by_cases e : j = 4 * i + k
  · rw [if_pos e, if_pos (by omega), show j - 4 * i = k by omega]
  · rw [if_neg e]
    by_cases e2 : 4 * i + 1 ≤ j ∧ j < 4 * i + k
    · rw [if_pos e2, if_pos (by omega)]
    · rw [if_neg e2, if_neg (by omega)]
theorem tk_1 (T : Int → Int) (n x i : Int) (S : Int → Int) : tk T n x i S 1 = S := by
  funext j
  unfold tk
  rw [if_neg (by omega)]
set_option maxHeartbeats 1000000 in
theorem l_X5_readTrail_58 {h : ma_H} {nx d : Nat} {n x i q m : Int} {T S : Int → Int} {Q : Option ma_V → ma_H → Nat → Prop} (ha : h 33 = co 5 [vi n, vr 34, vi m, vr 35]) (h1 : h 34 = ci 80 T) (hn : 0 ≤ n ∧ n ≤ 80) (hT : ∀ j, 0 ≤ j → j < 80 → 0 ≤ T j ∧ T j < 256) (hx : 0 ≤ x ∧ x < 80) (hi : 0 ≤ i ∧ i < 40) (KF : ∀ k S', 1 ≤ k → k < 4 → (∀ j, 1 ≤ j → j < k → 0 ≤ td T n x j) → td T n x k < 0 → Q (some (vi (-1 - x - k))) (ma_up h 35 (ci 160 S')) nx) (KO : ∀ x5 x6, (∀ j, 1 ≤ j → j < 4 → 0 ≤ td T n x j) → ma_J none mX5_readTrail (d + 2) 0 0 118 [some (vr 33), some (vi x), some (vi i), some (vi q), some (vi (dn (kd (sg T n x)))), x5, x6] [] (ma_up h 35 (ci 160 (tk T n x i S 4))) nx Q) :
    ∀ (m : Nat) (k : Int) (x6 : Option ma_V), 1 ≤ k → k ≤ 4 → 4 - k < m → (∀ j, 1 ≤ j → j < k → 0 ≤ td T n x j) → ma_J none mX5_readTrail (d + 2) 0 0 58 [some (vr 33), some (vi x), some (vi i), some (vi q), some (vi (dn (kd (sg T n x)))), some (vi k), x6] [] (ma_up h 35 (ci 160 (tk T n x i S k))) nx Q := by
  intro m
  have d1 := dn_in (kd (sg T n x))
  induction m with
  | zero => intro k x6 h0 h1 h2; omega
  | succ m ih =>
    intro k x6 h0 h3 h4 hk
    have d2 := td_in T n x k
    refine ma_iload dX5_readTrail_58 rfl ?_
    refine ma_iconst dX5_readTrail_60 ?_
    refine ma_rcmp_ge 118 dX5_readTrail_61 rfl (by constructor <;> omega) (by constructor <;> omega) (fun c61 => ?_) (fun c61 => ?_)
    · -- 118
      rw [show k = 4 by omega]
      exact KO _ _ (fun j j0 j1 => hk j j0 (by omega))
    · -- 64
      refine ma_iload dX5_readTrail_64 rfl ?_
      refine ma_iload dX5_readTrail_66 rfl ?_
      refine ma_rcmp_le 75 dX5_readTrail_68 rfl (by constructor <;> omega) (by constructor <;> omega) (fun c68 => ?_) (fun c68 => ?_)
      · -- 75
        refine ma_aload_n dX5_readTrail_75 rfl ?_
        refine ma_iload_n dX5_readTrail_76 rfl ?_
        refine ma_iload dX5_readTrail_77 rfl ?_
        refine ma_iadd dX5_readTrail_79 ?_
        refine ma_bipush dX5_readTrail_80 ?_
        refine ma_cV [_, _] dX5_readTrail_82 wX5_digitAt lX5_26 iX5_digitAt sX5_digitAt rfl (by first | assumption | exact ma_up_s _ _ _ | (rw [ma_up_n (by decide)]; assumption)) (Nat.le_of_ble_eq_true rfl) ?_
        refine c_X5_digitAt (by rw [ma_up_n (by decide)]; exact ha) (by rw [ma_up_n (by decide)]; exact h1) hn hT (by constructor <;> omega) (by constructor <;> omega) ?_
        rw [show dg T n (x + k) 10 = td T n x k by unfold td; rw [if_neg (by omega)]]
        refine ma_istoreN dX5_readTrail_85 (by decide) rfl ?_
        refine ma_iload dX5_readTrail_87 rfl ?_
        refine ma_rif_ge 99 dX5_readTrail_89 rfl (by constructor <;> omega) (fun c89 => ?_) (fun c89 => ?_)
        · -- 99
          refine ma_aload_n dX5_readTrail_99 rfl ?_
          refine ma_getf dX5_readTrail_100 fX5_15 (by first | assumption | exact ma_up_s _ _ _ | (rw [ma_up_n (by decide)]; assumption)) (by rfl) ?_
          refine ma_iconst dX5_readTrail_103 ?_
          refine ma_iload_n dX5_readTrail_104 rfl ?_
          refine ma_imul dX5_readTrail_105 ?_
          refine ma_iload dX5_readTrail_106 rfl ?_
          refine ma_iadd dX5_readTrail_108 ?_
          refine ma_iload dX5_readTrail_109 rfl ?_
          refine ma_iast dX5_readTrail_111 (by first | assumption | exact ma_up_s _ _ _ | (rw [ma_up_n (by decide)]; assumption)) (by omega) (by omega) (by omega) ?_
          rw [ma_up_up, tk_s T n x i S h0]
          refine ma_iincN dX5_readTrail_112 rfl (by decide) rfl ?_
          refine ma_goto 58 dX5_readTrail_115 rfl ?_
          exact ih (k + 1) (some (vi (td T n x k))) (by omega) (by omega) (by omega) (fun j j0 j1 => by
            rcases Int.lt_or_eq_of_le (show j ≤ k by omega) with z | z
            · exact hk j j0 z
            · rw [z]; omega)
        · -- 92
          refine ma_iconst dX5_readTrail_92 ?_
          refine ma_iload_n dX5_readTrail_93 rfl ?_
          refine ma_isub dX5_readTrail_94 ?_
          refine ma_iload dX5_readTrail_95 rfl ?_
          refine ma_isub dX5_readTrail_97 ?_
          exact ma_iret dX5_readTrail_98 rfl (KF k _ h0 (by omega) hk (by omega))
      · -- 71
        refine ma_iconst dX5_readTrail_71 ?_
        refine ma_goto 85 dX5_readTrail_72 rfl ?_
        have z0 : td T n x k = 0 := by unfold td; rw [if_pos (by omega)]
        refine ma_istoreN dX5_readTrail_85 (by decide) rfl ?_
        refine ma_iload dX5_readTrail_87 rfl ?_
        refine ma_rif_ge 99 dX5_readTrail_89 rfl (by decide) (fun c89 => ?_) (fun c89 => absurd c89 (by decide))
        refine ma_aload_n dX5_readTrail_99 rfl ?_
        refine ma_getf dX5_readTrail_100 fX5_15 (by first | assumption | exact ma_up_s _ _ _ | (rw [ma_up_n (by decide)]; assumption)) (by rfl) ?_
        refine ma_iconst dX5_readTrail_103 ?_
        refine ma_iload_n dX5_readTrail_104 rfl ?_
        refine ma_imul dX5_readTrail_105 ?_
        refine ma_iload dX5_readTrail_106 rfl ?_
        refine ma_iadd dX5_readTrail_108 ?_
        refine ma_iload dX5_readTrail_109 rfl ?_
        refine ma_iast dX5_readTrail_111 (by first | assumption | exact ma_up_s _ _ _ | (rw [ma_up_n (by decide)]; assumption)) (by omega) (by omega) (by omega) ?_
        rw [ma_up_up, show uf (tk T n x i S k) (4 * i + k) 0 = uf (tk T n x i S k) (4 * i + k) (td T n x k) by rw [z0], tk_s T n x i S h0]
        refine ma_iincN dX5_readTrail_112 rfl (by decide) rfl ?_
        refine ma_goto 58 dX5_readTrail_115 rfl ?_
        exact ih (k + 1) (some (vi (0))) (by omega) (by omega) (by omega) (fun j j0 j1 => by
          rcases Int.lt_or_eq_of_le (show j ≤ k by omega) with z | z
          · exact hk j j0 z
          · rw [z]; omega)
