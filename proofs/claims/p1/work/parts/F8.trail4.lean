theorem mj_a {h : ma_H} {J : Nat → Int} {a b : ma_C} : ma_up (mj (ma_up h 101 a) J) 101 b = mj (ma_up h 101 b) J := by
  show ma_up (ma_up (ma_up h 101 a) 73 _) 101 b = _
  rw [ma_up_cm _ _ _ (by decide : (73 : Nat) ≠ 101), ma_up_up]
theorem o2_b (T : Int → Int) (n a m w x : Int) : x ≤ o2 T n a m w x ∧ o2 T n a m w x ≤ x + 1 := by
  unfold o2
  split <;> omega
theorem o3_b {T : Int → Int} {n a m w x : Int} (hw : -1 ≤ w ∧ w ≤ 1000) (hx : 0 ≤ x ∧ x ≤ 1000) : -1 ≤ o3 T n a m w x ∧ o3 T n a m w x ≤ 1000 := by
  unfold o3
  split <;> omega
theorem o1_b {T Tm : Int → Int} {n w x : Int} (hX : TX T Tm n) (hn : 0 ≤ n ∧ n ≤ 80) : 0 ≤ o1 T n 48 10 w x ∧ o1 T n 48 10 w x ≤ 9 := by
  unfold o1
  split <;> omega
theorem td_two {T : Int → Int} {n x : Int} (t1 : td T n x 1 = dg T n (x + 1) 10) (t2 : td T n x 2 = dg T n (x + 2) 10) (p : 0 ≤ dg T n (x + 1) 10) (q : 0 ≤ dg T n (x + 2) 10) {j : Int} (j1 : 1 ≤ j) (j2 : j < 3) : 0 ≤ td T n x j := by
  rcases (show j = 1 ∨ j = 2 by omega) with e | e
  · rw [e, t1]; exact p
  · rw [e, t2]; exact q
theorem td_all {T : Int → Int} {n x : Int} (t1 : 0 ≤ td T n x 1) (t2 : 0 ≤ td T n x 2) (t3 : 0 ≤ td T n x 3) : ∀ j, 1 ≤ j → j < 4 → 0 ≤ td T n x j := by
  intro j j1 j2
  rcases (show j = 1 ∨ j = 2 ∨ j = 3 by omega) with e | e | e
  · rw [e]; exact t1
  · rw [e]; exact t2
  · rw [e]; exact t3
set_option maxHeartbeats 4000000 in
theorem l_mt9 {h : ma_H} {nx d : Nat} {I : Nat → Int} {T Tm : Int → Int} {n : Int} {Q : Option ma_V → ma_H → Nat → Prop} (h75 : h 75 = cb 80 Tm) (hX : TX T Tm n) (hn : 0 ≤ n ∧ n ≤ 80) (KF : ∀ (i : Int) A J, 0 ≤ i → TOK T n i → ta T n i.toNat < n → 0 ≤ tf T n (ta T n i.toNat) → J 17 = tf T n (ta T n i.toNat) → J 2 = 0 → KJ I J → Q (some (vi 0)) (mj (ma_up h 101 (ci 320 A)) J) nx) (KO : ∀ (i : Int) A J, 0 ≤ i → i ≤ 40 → TOK T n i → n ≤ ta T n i.toNat → AT T n i A → J 43 = i → J 2 = 0 → KJ I J → Q (some (vi 1)) (mj (ma_up h 101 (ci 320 A)) J) nx) :
    ∀ (m : Nat) (i : Int) (A : Int → Int) (J : Nat → Int) (x : Int) (q1 q2 : Option ma_V), 0 ≤ i → i ≤ 40 → 40 - i < m → x = ta T n i.toNat → TOK T n i → AT T n i A → J 15 = n → J 16 = x → J 17 = -1 → J 43 = i → J 2 = 0 → KJ I J → ma_J none mX12_readTrail (d + 3) 0 0 9 [some (vr 73), q1, q2] [] (mj (ma_up h 101 (ci 320 A)) J) nx Q := by
  intro m
  induction m with
  | zero => intro i A J x q1 q2 i0 i1 im; omega
  | succ m ih =>
    intro i A J x q1 q2 i0 i1 im ex hok hA e15 e16 e17 e43 e2 kj
    have x0 : 0 ≤ x ∧ x ≤ 1000 := by
      have a := ta_ge T n i.toNat
      have b := ta_le hn i0 i1 hok
      omega
    have ilt : x < n → i < 40 := fun z => by
      have a := ta_ge T n i.toNat
      omega
    refine ma_aload_n dX12_readTrail_9 rfl ?_
    refine ma_cV [] dX12_readTrail_10 wX12_fine lX12_192 iX12_fine sX12_fine rfl (by first | exact mj_73 _ _ | exact (ma_up_n (by decide)).trans (ma_up_s _ _ _)) (Nat.le_of_ble_eq_true rfl) ?_
    refine c_X12_fine e17 (by decide) (fun z => ?_) (fun z => absurd rfl z)
    · -- k1
      refine ma_rif_eq 206 dX12_readTrail_13 rfl (by decide) (fun c13 => absurd c13 (by decide)) (fun c13 => ?_)
      refine ma_aload_n dX12_readTrail_16 rfl ?_
      refine ma_getf dX12_readTrail_17 fX12_186 (by first | exact mj_73 _ _ | exact (ma_up_n (by decide)).trans (ma_up_s _ _ _)) (by rfl) ?_
      rw [e16]
      refine ma_aload_n dX12_readTrail_20 rfl ?_
      refine ma_getf dX12_readTrail_21 fX12_183 (by first | exact mj_73 _ _ | exact (ma_up_n (by decide)).trans (ma_up_s _ _ _)) (by rfl) ?_
      rw [e15]
      refine ma_rcmp_ge 206 dX12_readTrail_24 rfl (by constructor <;> omega) (by constructor <;> omega) (fun c24 => ?_) (fun c24 => ?_)
      · -- 206
        refine ma_aload_n dX12_readTrail_206 rfl ?_
        refine ma_cV [] dX12_readTrail_207 wX12_wasRight lX12_218 iX12_wasRight sX12_wasRight rfl (by first | exact mj_73 _ _ | exact (ma_up_n (by decide)).trans (ma_up_s _ _ _)) (Nat.le_of_ble_eq_true rfl) ?_
        refine c_X12_wasRight hn e15 e16 x0 e17 (by decide) (fun _ y => ?_) (fun w2 y => ?_)
        · exact ma_zret dX12_readTrail_210 rfl (Or.inr rfl) (KO i A J i0 i1 hok (by rw [← ex]; omega) hA e43 e2 kj)
        · exfalso
          rcases y with y | y <;> omega
      · -- 27
        have b1 := o2_b T n 48 10 (-1) (x + 1)
        have c1 := o3_b (T := T) (n := n) (a := 48) (m := 10) (w := -1) (x := x + 1) (by decide) (by omega)
        have b2 := o2_b T n 48 10 (o3 T n 48 10 (-1) (x + 1)) (o2 T n 48 10 (-1) (x + 1))
        have c2 := o3_b (T := T) (n := n) (a := 48) (m := 10) (w := (o3 T n 48 10 (-1) (x + 1))) (x := (o2 T n 48 10 (-1) (x + 1))) c1 (by omega)
        have b3 := o2_b T n 48 10 (o3 T n 48 10 (o3 T n 48 10 (-1) (x + 1)) (o2 T n 48 10 (-1) (x + 1))) (o2 T n 48 10 (o3 T n 48 10 (-1) (x + 1)) (o2 T n 48 10 (-1) (x + 1)))
        have c3 := o3_b (T := T) (n := n) (a := 48) (m := 10) (w := (o3 T n 48 10 (o3 T n 48 10 (-1) (x + 1)) (o2 T n 48 10 (-1) (x + 1)))) (x := (o2 T n 48 10 (o3 T n 48 10 (-1) (x + 1)) (o2 T n 48 10 (-1) (x + 1)))) c2 (by omega)
        refine ma_aload_n dX12_readTrail_27 rfl ?_
        refine ma_cV [] dX12_readTrail_28 wX12_here lX12_196 iX12_here sX12_here rfl (by first | exact mj_73 _ _ | exact (ma_up_n (by decide)).trans (ma_up_s _ _ _)) (Nat.le_of_ble_eq_true rfl) ?_
        refine c_X12_here ((ma_up_n (by decide)).trans h75) hX hn e15 e16 x0 ?_
        have sb := sg_x hX hn x
        refine ma_istore_nN dX12_readTrail_31 (by decide) rfl ?_
        refine ma_iload_n dX12_readTrail_32 rfl ?_
        refine ma_bipush dX12_readTrail_33 ?_
        refine ma_rcmp_ne 42 dX12_readTrail_35 rfl (by constructor <;> omega) (by constructor <;> omega) (fun c35 => ?_) (fun c35 => ?_)
        · -- 42
          refine ma_iload_n dX12_readTrail_42 rfl ?_
          refine ma_bipush dX12_readTrail_43 ?_
          refine ma_rcmp_ne 52 dX12_readTrail_45 rfl (by constructor <;> omega) (by constructor <;> omega) (fun c45 => ?_) (fun c45 => ?_)
          · -- 52
            refine ma_iload_n dX12_readTrail_52 rfl ?_
            refine ma_bipush dX12_readTrail_53 ?_
            refine ma_rcmp_ne 62 dX12_readTrail_55 rfl (by constructor <;> omega) (by constructor <;> omega) (fun c55 => ?_) (fun c55 => ?_)
            · -- 62
              refine ma_iload_n dX12_readTrail_62 rfl ?_
              refine ma_bipush dX12_readTrail_63 ?_
              refine ma_rcmp_ne 72 dX12_readTrail_65 rfl (by constructor <;> omega) (by constructor <;> omega) (fun c65 => ?_) (fun c65 => ?_)
              · -- 72
                refine ma_iconst dX12_readTrail_72 ?_
                refine ma_istore_nN dX12_readTrail_73 (by decide) rfl ?_
                refine ma_iload_n dX12_readTrail_74 rfl ?_
                refine ma_iconst dX12_readTrail_75 ?_
                refine ma_rcmp_ne 90 dX12_readTrail_76 rfl (by decide) (by decide) (fun c76 => absurd c76 (by decide)) (fun c76 => ?_)
                refine ma_aload_n dX12_readTrail_79 rfl ?_
                refine ma_aload_n dX12_readTrail_80 rfl ?_
                refine ma_getf dX12_readTrail_81 fX12_186 (by first | exact mj_73 _ _ | exact (ma_up_n (by decide)).trans (ma_up_s _ _ _)) (by rfl) ?_
                rw [e16]
                refine ma_cV [_] dX12_readTrail_84 wX12_fault lX12_200 iX12_fault sX12_fault rfl (by first | exact mj_73 _ _ | exact (ma_up_n (by decide)).trans (ma_up_s _ _ _)) (Nat.le_of_ble_eq_true rfl) ?_
                refine c_X12_fault (p := x) e17 (by decide) ?_
                rw [if_pos rfl]
                refine ma_goto 9 dX12_readTrail_87 rfl ?_
                have kk : kd (sg T n x) = -1 := by unfold kd; rw [if_neg (by omega), if_neg (by omega), if_neg (by omega), if_neg (by omega)]
                have tb := tf_kd (T := T) (n := n) (x := x) (by omega)
                rw [ex] at tb
                refine l_rx9 (x := x) (w := x) hn (by exact e15) (by exact e16) x0 (by rfl) (by omega) (by omega) (KF i A _ i0 hok (by rw [← ex]; omega) (by rw [tb, ← ex]; omega) ?_ (by exact e2) (fun k a b c e f => by first | (simp only [iu, a, b, c, e, f, if_false]; exact kj k a b c e f) | (simp [iu, a, b, c, e, f]; exact kj k a b c e f))) _ _
                rw [tb, ← ex]; rfl
              · -- 68
                refine ma_iconst dX12_readTrail_68 ?_
                refine ma_goto 73 dX12_readTrail_69 rfl ?_
                refine ma_istore_nN dX12_readTrail_73 (by decide) rfl ?_
                refine ma_iload_n dX12_readTrail_74 rfl ?_
                refine ma_iconst dX12_readTrail_75 ?_
                refine ma_rcmp_ne 90 dX12_readTrail_76 rfl (by decide) (by decide) (fun c76 => ?_) (fun c76 => absurd c76 (by decide))
                refine ma_aload_n dX12_readTrail_90 rfl ?_
                refine ma_dup dX12_readTrail_91 rfl ?_
                refine ma_getf dX12_readTrail_92 fX12_186 (by first | exact mj_73 _ _ | exact (ma_up_n (by decide)).trans (ma_up_s _ _ _)) (by rfl) ?_
                rw [e16]
                refine ma_iconst dX12_readTrail_95 ?_
                refine ma_iadd dX12_readTrail_96 ?_
                refine ma_puti dX12_readTrail_97 fX12_186 (by first | exact mj_73 _ _ | exact (ma_up_n (by decide)).trans (ma_up_s _ _ _)) (Nat.le_of_ble_eq_true rfl) ?_
                rw [mo_16, mj_p]
                refine ma_aload_n dX12_readTrail_100 rfl ?_
                refine ma_getf dX12_readTrail_101 fX12_93 (by first | exact mj_73 _ _ | exact (ma_up_n (by decide)).trans (ma_up_s _ _ _)) (by rfl) ?_
                refine ma_iconst dX12_readTrail_104 ?_
                refine ma_aload_n dX12_readTrail_105 rfl ?_
                refine ma_getf (v := vi i) dX12_readTrail_106 fX12_448 (by first | exact mj_73 _ _ | exact (ma_up_n (by decide)).trans (ma_up_s _ _ _)) (by show some (vi _) = some (vi i); exact congrArg (fun z => some (vi z)) e43) ?_
                refine ma_imul dX12_readTrail_109 ?_
                refine ma_iload_n dX12_readTrail_110 rfl ?_
                refine ma_iast dX12_readTrail_111 (by first | exact mj_73 _ _ | exact (ma_up_n (by decide)).trans (ma_up_s _ _ _)) (by omega) (by omega) (by omega) ?_
                rw [mj_a]
                refine ma_aload_n dX12_readTrail_112 rfl ?_
                refine ma_getf dX12_readTrail_113 fX12_93 (by first | exact mj_73 _ _ | exact (ma_up_n (by decide)).trans (ma_up_s _ _ _)) (by rfl) ?_
                refine ma_iconst dX12_readTrail_116 ?_
                refine ma_aload_n dX12_readTrail_117 rfl ?_
                refine ma_getf (v := vi i) dX12_readTrail_118 fX12_448 (by first | exact mj_73 _ _ | exact (ma_up_n (by decide)).trans (ma_up_s _ _ _)) (by show some (vi _) = some (vi i); exact congrArg (fun z => some (vi z)) e43) ?_
                refine ma_imul dX12_readTrail_121 ?_
                refine ma_iconst dX12_readTrail_122 ?_
                refine ma_iadd dX12_readTrail_123 ?_
                refine ma_aload_n dX12_readTrail_124 rfl ?_
                refine ma_bipush dX12_readTrail_125 ?_
                refine ma_bipush dX12_readTrail_127 ?_
                refine ma_cV [_, _] dX12_readTrail_129 wX12_oneOf lX12_204 iX12_oneOf sX12_oneOf rfl (by first | exact mj_73 _ _ | exact (ma_up_n (by decide)).trans (ma_up_s _ _ _)) (Nat.le_of_ble_eq_true rfl) ?_
                refine c_X12_oneOf (x := (x + 1)) (w := (-1)) ((ma_up_n (by decide)).trans h75) hX hn e15 rfl (by omega) (show iu J 16 (x + 1) 17 = -1 from e17) (by omega) (by decide) (by decide) ?_
                refine ma_iast dX12_readTrail_132 (by first | exact mj_73 _ _ | exact (ma_up_n (by decide)).trans (ma_up_s _ _ _)) (by omega) (by omega) (by omega) ?_
                rw [mj_a]
                refine ma_aload_n dX12_readTrail_133 rfl ?_
                refine ma_getf dX12_readTrail_134 fX12_93 (by first | exact mj_73 _ _ | exact (ma_up_n (by decide)).trans (ma_up_s _ _ _)) (by rfl) ?_
                refine ma_iconst dX12_readTrail_137 ?_
                refine ma_aload_n dX12_readTrail_138 rfl ?_
                refine ma_getf (v := vi i) dX12_readTrail_139 fX12_448 (by first | exact mj_73 _ _ | exact (ma_up_n (by decide)).trans (ma_up_s _ _ _)) (by show some (vi _) = some (vi i); exact congrArg (fun z => some (vi z)) e43) ?_
                refine ma_imul dX12_readTrail_142 ?_
                refine ma_iconst dX12_readTrail_143 ?_
                refine ma_iadd dX12_readTrail_144 ?_
                refine ma_iload_n dX12_readTrail_145 rfl ?_
                refine ma_iconst dX12_readTrail_146 ?_
                refine ma_rcmp_ne 154 dX12_readTrail_147 rfl (by decide) (by decide) (fun c147 => ?_) (fun c147 => absurd c147 (by decide))
                refine ma_aload_n dX12_readTrail_154 rfl ?_
                refine ma_bipush dX12_readTrail_155 ?_
                refine ma_bipush dX12_readTrail_157 ?_
                refine ma_cV [_, _] dX12_readTrail_159 wX12_oneOf lX12_204 iX12_oneOf sX12_oneOf rfl (by first | exact mj_73 _ _ | exact (ma_up_n (by decide)).trans (ma_up_s _ _ _)) (Nat.le_of_ble_eq_true rfl) ?_
                refine c_X12_oneOf (x := (o2 T n 48 10 (-1) (x + 1))) (w := (o3 T n 48 10 (-1) (x + 1))) ((ma_up_n (by decide)).trans h75) hX hn e15 rfl (by omega) rfl (by omega) (by decide) (by decide) ?_
                refine ma_iast dX12_readTrail_162 (by first | exact mj_73 _ _ | exact (ma_up_n (by decide)).trans (ma_up_s _ _ _)) (by omega) (by omega) (by omega) ?_
                rw [mj_a]
                refine ma_aload_n dX12_readTrail_163 rfl ?_
                refine ma_getf dX12_readTrail_164 fX12_93 (by first | exact mj_73 _ _ | exact (ma_up_n (by decide)).trans (ma_up_s _ _ _)) (by rfl) ?_
                refine ma_iconst dX12_readTrail_167 ?_
                refine ma_aload_n dX12_readTrail_168 rfl ?_
                refine ma_getf (v := vi i) dX12_readTrail_169 fX12_448 (by first | exact mj_73 _ _ | exact (ma_up_n (by decide)).trans (ma_up_s _ _ _)) (by show some (vi _) = some (vi i); exact congrArg (fun z => some (vi z)) e43) ?_
                refine ma_imul dX12_readTrail_172 ?_
                refine ma_iconst dX12_readTrail_173 ?_
                refine ma_iadd dX12_readTrail_174 ?_
                refine ma_iload_n dX12_readTrail_175 rfl ?_
                refine ma_iconst dX12_readTrail_176 ?_
                refine ma_rcmp_ne 191 dX12_readTrail_177 rfl (by decide) (by decide) (fun c177 => ?_) (fun c177 => absurd c177 (by decide))
                refine ma_iconst dX12_readTrail_191 ?_
                refine ma_iast dX12_readTrail_192 (by first | exact mj_73 _ _ | exact (ma_up_n (by decide)).trans (ma_up_s _ _ _)) (by omega) (by omega) (by omega) ?_
                rw [mj_a]
                refine ma_aload_n dX12_readTrail_193 rfl ?_
                refine ma_dup dX12_readTrail_194 rfl ?_
                refine ma_getf (v := vi i) dX12_readTrail_195 fX12_448 (by first | exact mj_73 _ _ | exact (ma_up_n (by decide)).trans (ma_up_s _ _ _)) (by show some (vi _) = some (vi i); exact congrArg (fun z => some (vi z)) e43) ?_
                refine ma_iconst dX12_readTrail_198 ?_
                refine ma_iadd dX12_readTrail_199 ?_
                refine ma_puti dX12_readTrail_200 fX12_448 (by first | exact mj_73 _ _ | exact (ma_up_n (by decide)).trans (ma_up_s _ _ _)) (Nat.le_of_ble_eq_true rfl) ?_
                rw [mo_43, mj_p]
                refine ma_goto 9 dX12_readTrail_203 rfl ?_
                have kk : kd (sg T n x) = 3 := by rw [c65]; rfl
                have dd : dn (kd (sg T n x)) = 2 := by rw [kk]; rfl
                have t1 : td T n x 1 = dg T n (x + 1) 10 := by unfold td; rw [dd, if_neg (by decide)]
                have t2 : td T n x 2 = dg T n (x + 2) 10 := by unfold td; rw [dd, if_neg (by decide)]
                have t3 : td T n x 3 = 0 := by unfold td; rw [dd, if_pos (by decide)]
                have od := od3 (T := T) (n := n) (y := x + 1) (by omega)
                have x2e : x + 1 + 1 = x + 2 := by omega
                have x3e : x + 1 + 1 + 1 = x + 3 := by omega
                rcases od with ⟨p1, p2, p5, p6⟩ | ⟨p1, p2, p3, p4, ⟨q1, q2, q5⟩ | ⟨q1, q2, q3, q4, -⟩⟩
                · -- fault 1
                  have tb := tf_bad (T := T) (n := n) (x := x) (k := 1) (by omega) (by decide) (by decide) (fun j j1 j2 => by omega) (by rw [t1]; exact p1)
                  have we : (o3 T n 48 10 (o3 T n 48 10 (-1) (x + 1)) (o2 T n 48 10 (-1) (x + 1))) = x + 1 := by rw [p5]
                  rw [ex] at tb
                  refine l_rx9 (x := (o2 T n 48 10 (o3 T n 48 10 (-1) (x + 1)) (o2 T n 48 10 (-1) (x + 1)))) (w := (o3 T n 48 10 (o3 T n 48 10 (-1) (x + 1)) (o2 T n 48 10 (-1) (x + 1)))) hn (by exact e15) (by rfl) (by omega) (by rfl) (by omega) (by omega) (KF i _ _ i0 hok (by rw [← ex]; omega) (by rw [tb, ← ex]; omega) ?_ ?_ ?_) _ _
                  · rw [tb, ← ex]; exact we
                  · exact e2
                  · exact (fun k a b c e f => by first | (simp only [iu, a, b, c, e, f, if_false]; exact kj k a b c e f) | (simp [iu, a, b, c, e, f]; exact kj k a b c e f))
                · -- fault 2
                  have tb := tf_bad (T := T) (n := n) (x := x) (k := 2) (by omega) (by decide) (by decide) (fun j j1 j2 => by rw [show j = 1 by omega, t1]; exact p1) (by rw [t2]; rw [x2e] at q1; exact q1)
                  have we : (o3 T n 48 10 (o3 T n 48 10 (-1) (x + 1)) (o2 T n 48 10 (-1) (x + 1))) = x + 2 := by rw [q2]; omega
                  rw [ex] at tb
                  refine l_rx9 (x := (o2 T n 48 10 (o3 T n 48 10 (-1) (x + 1)) (o2 T n 48 10 (-1) (x + 1)))) (w := (o3 T n 48 10 (o3 T n 48 10 (-1) (x + 1)) (o2 T n 48 10 (-1) (x + 1)))) hn (by exact e15) (by rfl) (by omega) (by rfl) (by omega) (by omega) (KF i _ _ i0 hok (by rw [← ex]; omega) (by rw [tb, ← ex]; omega) ?_ ?_ ?_) _ _
                  · rw [tb, ← ex]; exact we
                  · exact e2
                  · exact (fun k a b c e f => by first | (simp only [iu, a, b, c, e, f, if_false]; exact kj k a b c e f) | (simp [iu, a, b, c, e, f]; exact kj k a b c e f))
                · -- good
                  have tdo : ∀ j, 1 ≤ j → j < 4 → 0 ≤ td T n x j := td_all (by rw [t1]; exact p1) (by rw [t2, ← x2e]; exact q1) (by rw [t3]; decide)
                  have tfo := tf_ok (T := T) (n := n) (x := x) (by omega) tdo
                  refine ih (i + 1) _ _ (o2 T n 48 10 (o3 T n 48 10 (-1) (x + 1)) (o2 T n 48 10 (-1) (x + 1))) _ _ (by omega) (by omega) (by omega) ?_ (tok_s i0 hok (by rw [← ex]; omega) (by rw [← ex]; exact tfo)) (at_s i0 hA ex kk.symm ?_ ?_ ?_) (by exact e15) (by rfl) (by exact q2) (by rfl) (by exact e2) (fun k a b c e f => by first | (simp only [iu, a, b, c, e, f, if_false]; exact kj k a b c e f) | (simp [iu, a, b, c, e, f]; exact kj k a b c e f))
                  · rw [toN i0]; show _ = ta T n i.toNat + 1 + dn (kd (sg T n (ta T n i.toNat))); rw [← ex, dd, q4]; try omega
                  · rw [t1, ← p3]
                  · rw [t2, ← x2e, ← q3]
                  · rw [t3]
            · -- 58
              refine ma_iconst dX12_readTrail_58 ?_
              refine ma_goto 73 dX12_readTrail_59 rfl ?_
              refine ma_istore_nN dX12_readTrail_73 (by decide) rfl ?_
              refine ma_iload_n dX12_readTrail_74 rfl ?_
              refine ma_iconst dX12_readTrail_75 ?_
              refine ma_rcmp_ne 90 dX12_readTrail_76 rfl (by decide) (by decide) (fun c76 => ?_) (fun c76 => absurd c76 (by decide))
              refine ma_aload_n dX12_readTrail_90 rfl ?_
              refine ma_dup dX12_readTrail_91 rfl ?_
              refine ma_getf dX12_readTrail_92 fX12_186 (by first | exact mj_73 _ _ | exact (ma_up_n (by decide)).trans (ma_up_s _ _ _)) (by rfl) ?_
              rw [e16]
              refine ma_iconst dX12_readTrail_95 ?_
              refine ma_iadd dX12_readTrail_96 ?_
              refine ma_puti dX12_readTrail_97 fX12_186 (by first | exact mj_73 _ _ | exact (ma_up_n (by decide)).trans (ma_up_s _ _ _)) (Nat.le_of_ble_eq_true rfl) ?_
              rw [mo_16, mj_p]
              refine ma_aload_n dX12_readTrail_100 rfl ?_
              refine ma_getf dX12_readTrail_101 fX12_93 (by first | exact mj_73 _ _ | exact (ma_up_n (by decide)).trans (ma_up_s _ _ _)) (by rfl) ?_
              refine ma_iconst dX12_readTrail_104 ?_
              refine ma_aload_n dX12_readTrail_105 rfl ?_
              refine ma_getf (v := vi i) dX12_readTrail_106 fX12_448 (by first | exact mj_73 _ _ | exact (ma_up_n (by decide)).trans (ma_up_s _ _ _)) (by show some (vi _) = some (vi i); exact congrArg (fun z => some (vi z)) e43) ?_
              refine ma_imul dX12_readTrail_109 ?_
              refine ma_iload_n dX12_readTrail_110 rfl ?_
              refine ma_iast dX12_readTrail_111 (by first | exact mj_73 _ _ | exact (ma_up_n (by decide)).trans (ma_up_s _ _ _)) (by omega) (by omega) (by omega) ?_
              rw [mj_a]
              refine ma_aload_n dX12_readTrail_112 rfl ?_
              refine ma_getf dX12_readTrail_113 fX12_93 (by first | exact mj_73 _ _ | exact (ma_up_n (by decide)).trans (ma_up_s _ _ _)) (by rfl) ?_
              refine ma_iconst dX12_readTrail_116 ?_
              refine ma_aload_n dX12_readTrail_117 rfl ?_
              refine ma_getf (v := vi i) dX12_readTrail_118 fX12_448 (by first | exact mj_73 _ _ | exact (ma_up_n (by decide)).trans (ma_up_s _ _ _)) (by show some (vi _) = some (vi i); exact congrArg (fun z => some (vi z)) e43) ?_
              refine ma_imul dX12_readTrail_121 ?_
              refine ma_iconst dX12_readTrail_122 ?_
              refine ma_iadd dX12_readTrail_123 ?_
              refine ma_aload_n dX12_readTrail_124 rfl ?_
              refine ma_bipush dX12_readTrail_125 ?_
              refine ma_bipush dX12_readTrail_127 ?_
              refine ma_cV [_, _] dX12_readTrail_129 wX12_oneOf lX12_204 iX12_oneOf sX12_oneOf rfl (by first | exact mj_73 _ _ | exact (ma_up_n (by decide)).trans (ma_up_s _ _ _)) (Nat.le_of_ble_eq_true rfl) ?_
              refine c_X12_oneOf (x := (x + 1)) (w := (-1)) ((ma_up_n (by decide)).trans h75) hX hn e15 rfl (by omega) (show iu J 16 (x + 1) 17 = -1 from e17) (by omega) (by decide) (by decide) ?_
              refine ma_iast dX12_readTrail_132 (by first | exact mj_73 _ _ | exact (ma_up_n (by decide)).trans (ma_up_s _ _ _)) (by omega) (by omega) (by omega) ?_
              rw [mj_a]
              refine ma_aload_n dX12_readTrail_133 rfl ?_
              refine ma_getf dX12_readTrail_134 fX12_93 (by first | exact mj_73 _ _ | exact (ma_up_n (by decide)).trans (ma_up_s _ _ _)) (by rfl) ?_
              refine ma_iconst dX12_readTrail_137 ?_
              refine ma_aload_n dX12_readTrail_138 rfl ?_
              refine ma_getf (v := vi i) dX12_readTrail_139 fX12_448 (by first | exact mj_73 _ _ | exact (ma_up_n (by decide)).trans (ma_up_s _ _ _)) (by show some (vi _) = some (vi i); exact congrArg (fun z => some (vi z)) e43) ?_
              refine ma_imul dX12_readTrail_142 ?_
              refine ma_iconst dX12_readTrail_143 ?_
              refine ma_iadd dX12_readTrail_144 ?_
              refine ma_iload_n dX12_readTrail_145 rfl ?_
              refine ma_iconst dX12_readTrail_146 ?_
              refine ma_rcmp_ne 154 dX12_readTrail_147 rfl (by decide) (by decide) (fun c147 => absurd c147 (by decide)) (fun c147 => ?_)
              refine ma_iconst dX12_readTrail_150 ?_
              refine ma_goto 162 dX12_readTrail_151 rfl ?_
              refine ma_iast dX12_readTrail_162 (by first | exact mj_73 _ _ | exact (ma_up_n (by decide)).trans (ma_up_s _ _ _)) (by omega) (by omega) (by omega) ?_
              rw [mj_a]
              refine ma_aload_n dX12_readTrail_163 rfl ?_
              refine ma_getf dX12_readTrail_164 fX12_93 (by first | exact mj_73 _ _ | exact (ma_up_n (by decide)).trans (ma_up_s _ _ _)) (by rfl) ?_
              refine ma_iconst dX12_readTrail_167 ?_
              refine ma_aload_n dX12_readTrail_168 rfl ?_
              refine ma_getf (v := vi i) dX12_readTrail_169 fX12_448 (by first | exact mj_73 _ _ | exact (ma_up_n (by decide)).trans (ma_up_s _ _ _)) (by show some (vi _) = some (vi i); exact congrArg (fun z => some (vi z)) e43) ?_
              refine ma_imul dX12_readTrail_172 ?_
              refine ma_iconst dX12_readTrail_173 ?_
              refine ma_iadd dX12_readTrail_174 ?_
              refine ma_iload_n dX12_readTrail_175 rfl ?_
              refine ma_iconst dX12_readTrail_176 ?_
              refine ma_rcmp_ne 191 dX12_readTrail_177 rfl (by decide) (by decide) (fun c177 => ?_) (fun c177 => absurd c177 (by decide))
              refine ma_iconst dX12_readTrail_191 ?_
              refine ma_iast dX12_readTrail_192 (by first | exact mj_73 _ _ | exact (ma_up_n (by decide)).trans (ma_up_s _ _ _)) (by omega) (by omega) (by omega) ?_
              rw [mj_a]
              refine ma_aload_n dX12_readTrail_193 rfl ?_
              refine ma_dup dX12_readTrail_194 rfl ?_
              refine ma_getf (v := vi i) dX12_readTrail_195 fX12_448 (by first | exact mj_73 _ _ | exact (ma_up_n (by decide)).trans (ma_up_s _ _ _)) (by show some (vi _) = some (vi i); exact congrArg (fun z => some (vi z)) e43) ?_
              refine ma_iconst dX12_readTrail_198 ?_
              refine ma_iadd dX12_readTrail_199 ?_
              refine ma_puti dX12_readTrail_200 fX12_448 (by first | exact mj_73 _ _ | exact (ma_up_n (by decide)).trans (ma_up_s _ _ _)) (Nat.le_of_ble_eq_true rfl) ?_
              rw [mo_43, mj_p]
              refine ma_goto 9 dX12_readTrail_203 rfl ?_
              have kk : kd (sg T n x) = 2 := by rw [c55]; rfl
              have dd : dn (kd (sg T n x)) = 1 := by rw [kk]; rfl
              have t1 : td T n x 1 = dg T n (x + 1) 10 := by unfold td; rw [dd, if_neg (by decide)]
              have t2 : td T n x 2 = 0 := by unfold td; rw [dd, if_pos (by decide)]
              have t3 : td T n x 3 = 0 := by unfold td; rw [dd, if_pos (by decide)]
              have od := od3 (T := T) (n := n) (y := x + 1) (by omega)
              have x2e : x + 1 + 1 = x + 2 := by omega
              have x3e : x + 1 + 1 + 1 = x + 3 := by omega
              rcases od with ⟨p1, p2, p5, p6⟩ | ⟨p1, p2, p3, p4, -⟩
              · -- fault 1
                have tb := tf_bad (T := T) (n := n) (x := x) (k := 1) (by omega) (by decide) (by decide) (fun j j1 j2 => by omega) (by rw [t1]; exact p1)
                have we : (o3 T n 48 10 (-1) (x + 1)) = x + 1 := by rw [p2]
                rw [ex] at tb
                refine l_rx9 (x := (o2 T n 48 10 (-1) (x + 1))) (w := (o3 T n 48 10 (-1) (x + 1))) hn (by exact e15) (by rfl) (by omega) (by rfl) (by omega) (by omega) (KF i _ _ i0 hok (by rw [← ex]; omega) (by rw [tb, ← ex]; omega) ?_ ?_ ?_) _ _
                · rw [tb, ← ex]; exact we
                · exact e2
                · exact (fun k a b c e f => by first | (simp only [iu, a, b, c, e, f, if_false]; exact kj k a b c e f) | (simp [iu, a, b, c, e, f]; exact kj k a b c e f))
              · -- good
                have tdo : ∀ j, 1 ≤ j → j < 4 → 0 ≤ td T n x j := td_all (by rw [t1]; exact p1) (by rw [t2]; decide) (by rw [t3]; decide)
                have tfo := tf_ok (T := T) (n := n) (x := x) (by omega) tdo
                refine ih (i + 1) _ _ (o2 T n 48 10 (-1) (x + 1)) _ _ (by omega) (by omega) (by omega) ?_ (tok_s i0 hok (by rw [← ex]; omega) (by rw [← ex]; exact tfo)) (at_s i0 hA ex kk.symm ?_ ?_ ?_) (by exact e15) (by rfl) (by exact p2) (by rfl) (by exact e2) (fun k a b c e f => by first | (simp only [iu, a, b, c, e, f, if_false]; exact kj k a b c e f) | (simp [iu, a, b, c, e, f]; exact kj k a b c e f))
                · rw [toN i0]; show _ = ta T n i.toNat + 1 + dn (kd (sg T n (ta T n i.toNat))); rw [← ex, dd, p4]; try omega
                · rw [t1, ← p3]
                · rw [t2]
                · rw [t3]
          · -- 48
            refine ma_iconst dX12_readTrail_48 ?_
            refine ma_goto 73 dX12_readTrail_49 rfl ?_
            refine ma_istore_nN dX12_readTrail_73 (by decide) rfl ?_
            refine ma_iload_n dX12_readTrail_74 rfl ?_
            refine ma_iconst dX12_readTrail_75 ?_
            refine ma_rcmp_ne 90 dX12_readTrail_76 rfl (by decide) (by decide) (fun c76 => ?_) (fun c76 => absurd c76 (by decide))
            refine ma_aload_n dX12_readTrail_90 rfl ?_
            refine ma_dup dX12_readTrail_91 rfl ?_
            refine ma_getf dX12_readTrail_92 fX12_186 (by first | exact mj_73 _ _ | exact (ma_up_n (by decide)).trans (ma_up_s _ _ _)) (by rfl) ?_
            rw [e16]
            refine ma_iconst dX12_readTrail_95 ?_
            refine ma_iadd dX12_readTrail_96 ?_
            refine ma_puti dX12_readTrail_97 fX12_186 (by first | exact mj_73 _ _ | exact (ma_up_n (by decide)).trans (ma_up_s _ _ _)) (Nat.le_of_ble_eq_true rfl) ?_
            rw [mo_16, mj_p]
            refine ma_aload_n dX12_readTrail_100 rfl ?_
            refine ma_getf dX12_readTrail_101 fX12_93 (by first | exact mj_73 _ _ | exact (ma_up_n (by decide)).trans (ma_up_s _ _ _)) (by rfl) ?_
            refine ma_iconst dX12_readTrail_104 ?_
            refine ma_aload_n dX12_readTrail_105 rfl ?_
            refine ma_getf (v := vi i) dX12_readTrail_106 fX12_448 (by first | exact mj_73 _ _ | exact (ma_up_n (by decide)).trans (ma_up_s _ _ _)) (by show some (vi _) = some (vi i); exact congrArg (fun z => some (vi z)) e43) ?_
            refine ma_imul dX12_readTrail_109 ?_
            refine ma_iload_n dX12_readTrail_110 rfl ?_
            refine ma_iast dX12_readTrail_111 (by first | exact mj_73 _ _ | exact (ma_up_n (by decide)).trans (ma_up_s _ _ _)) (by omega) (by omega) (by omega) ?_
            rw [mj_a]
            refine ma_aload_n dX12_readTrail_112 rfl ?_
            refine ma_getf dX12_readTrail_113 fX12_93 (by first | exact mj_73 _ _ | exact (ma_up_n (by decide)).trans (ma_up_s _ _ _)) (by rfl) ?_
            refine ma_iconst dX12_readTrail_116 ?_
            refine ma_aload_n dX12_readTrail_117 rfl ?_
            refine ma_getf (v := vi i) dX12_readTrail_118 fX12_448 (by first | exact mj_73 _ _ | exact (ma_up_n (by decide)).trans (ma_up_s _ _ _)) (by show some (vi _) = some (vi i); exact congrArg (fun z => some (vi z)) e43) ?_
            refine ma_imul dX12_readTrail_121 ?_
            refine ma_iconst dX12_readTrail_122 ?_
            refine ma_iadd dX12_readTrail_123 ?_
            refine ma_aload_n dX12_readTrail_124 rfl ?_
            refine ma_bipush dX12_readTrail_125 ?_
            refine ma_bipush dX12_readTrail_127 ?_
            refine ma_cV [_, _] dX12_readTrail_129 wX12_oneOf lX12_204 iX12_oneOf sX12_oneOf rfl (by first | exact mj_73 _ _ | exact (ma_up_n (by decide)).trans (ma_up_s _ _ _)) (Nat.le_of_ble_eq_true rfl) ?_
            refine c_X12_oneOf (x := (x + 1)) (w := (-1)) ((ma_up_n (by decide)).trans h75) hX hn e15 rfl (by omega) (show iu J 16 (x + 1) 17 = -1 from e17) (by omega) (by decide) (by decide) ?_
            refine ma_iast dX12_readTrail_132 (by first | exact mj_73 _ _ | exact (ma_up_n (by decide)).trans (ma_up_s _ _ _)) (by omega) (by omega) (by omega) ?_
            rw [mj_a]
            refine ma_aload_n dX12_readTrail_133 rfl ?_
            refine ma_getf dX12_readTrail_134 fX12_93 (by first | exact mj_73 _ _ | exact (ma_up_n (by decide)).trans (ma_up_s _ _ _)) (by rfl) ?_
            refine ma_iconst dX12_readTrail_137 ?_
            refine ma_aload_n dX12_readTrail_138 rfl ?_
            refine ma_getf (v := vi i) dX12_readTrail_139 fX12_448 (by first | exact mj_73 _ _ | exact (ma_up_n (by decide)).trans (ma_up_s _ _ _)) (by show some (vi _) = some (vi i); exact congrArg (fun z => some (vi z)) e43) ?_
            refine ma_imul dX12_readTrail_142 ?_
            refine ma_iconst dX12_readTrail_143 ?_
            refine ma_iadd dX12_readTrail_144 ?_
            refine ma_iload_n dX12_readTrail_145 rfl ?_
            refine ma_iconst dX12_readTrail_146 ?_
            refine ma_rcmp_ne 154 dX12_readTrail_147 rfl (by decide) (by decide) (fun c147 => ?_) (fun c147 => absurd c147 (by decide))
            refine ma_aload_n dX12_readTrail_154 rfl ?_
            refine ma_bipush dX12_readTrail_155 ?_
            refine ma_bipush dX12_readTrail_157 ?_
            refine ma_cV [_, _] dX12_readTrail_159 wX12_oneOf lX12_204 iX12_oneOf sX12_oneOf rfl (by first | exact mj_73 _ _ | exact (ma_up_n (by decide)).trans (ma_up_s _ _ _)) (Nat.le_of_ble_eq_true rfl) ?_
            refine c_X12_oneOf (x := (o2 T n 48 10 (-1) (x + 1))) (w := (o3 T n 48 10 (-1) (x + 1))) ((ma_up_n (by decide)).trans h75) hX hn e15 rfl (by omega) rfl (by omega) (by decide) (by decide) ?_
            refine ma_iast dX12_readTrail_162 (by first | exact mj_73 _ _ | exact (ma_up_n (by decide)).trans (ma_up_s _ _ _)) (by omega) (by omega) (by omega) ?_
            rw [mj_a]
            refine ma_aload_n dX12_readTrail_163 rfl ?_
            refine ma_getf dX12_readTrail_164 fX12_93 (by first | exact mj_73 _ _ | exact (ma_up_n (by decide)).trans (ma_up_s _ _ _)) (by rfl) ?_
            refine ma_iconst dX12_readTrail_167 ?_
            refine ma_aload_n dX12_readTrail_168 rfl ?_
            refine ma_getf (v := vi i) dX12_readTrail_169 fX12_448 (by first | exact mj_73 _ _ | exact (ma_up_n (by decide)).trans (ma_up_s _ _ _)) (by show some (vi _) = some (vi i); exact congrArg (fun z => some (vi z)) e43) ?_
            refine ma_imul dX12_readTrail_172 ?_
            refine ma_iconst dX12_readTrail_173 ?_
            refine ma_iadd dX12_readTrail_174 ?_
            refine ma_iload_n dX12_readTrail_175 rfl ?_
            refine ma_iconst dX12_readTrail_176 ?_
            refine ma_rcmp_ne 191 dX12_readTrail_177 rfl (by decide) (by decide) (fun c177 => absurd c177 (by decide)) (fun c177 => ?_)
            refine ma_aload_n dX12_readTrail_180 rfl ?_
            refine ma_bipush dX12_readTrail_181 ?_
            refine ma_bipush dX12_readTrail_183 ?_
            refine ma_cV [_, _] dX12_readTrail_185 wX12_oneOf lX12_204 iX12_oneOf sX12_oneOf rfl (by first | exact mj_73 _ _ | exact (ma_up_n (by decide)).trans (ma_up_s _ _ _)) (Nat.le_of_ble_eq_true rfl) ?_
            refine c_X12_oneOf (x := (o2 T n 48 10 (o3 T n 48 10 (-1) (x + 1)) (o2 T n 48 10 (-1) (x + 1)))) (w := (o3 T n 48 10 (o3 T n 48 10 (-1) (x + 1)) (o2 T n 48 10 (-1) (x + 1)))) ((ma_up_n (by decide)).trans h75) hX hn e15 rfl (by omega) rfl (by omega) (by decide) (by decide) ?_
            refine ma_goto 192 dX12_readTrail_188 rfl ?_
            refine ma_iast dX12_readTrail_192 (by first | exact mj_73 _ _ | exact (ma_up_n (by decide)).trans (ma_up_s _ _ _)) (by omega) (by omega) (by omega) ?_
            rw [mj_a]
            refine ma_aload_n dX12_readTrail_193 rfl ?_
            refine ma_dup dX12_readTrail_194 rfl ?_
            refine ma_getf (v := vi i) dX12_readTrail_195 fX12_448 (by first | exact mj_73 _ _ | exact (ma_up_n (by decide)).trans (ma_up_s _ _ _)) (by show some (vi _) = some (vi i); exact congrArg (fun z => some (vi z)) e43) ?_
            refine ma_iconst dX12_readTrail_198 ?_
            refine ma_iadd dX12_readTrail_199 ?_
            refine ma_puti dX12_readTrail_200 fX12_448 (by first | exact mj_73 _ _ | exact (ma_up_n (by decide)).trans (ma_up_s _ _ _)) (Nat.le_of_ble_eq_true rfl) ?_
            rw [mo_43, mj_p]
            refine ma_goto 9 dX12_readTrail_203 rfl ?_
            have kk : kd (sg T n x) = 1 := by rw [c45]; rfl
            have dd : dn (kd (sg T n x)) = 3 := by rw [kk]; rfl
            have t1 : td T n x 1 = dg T n (x + 1) 10 := by unfold td; rw [dd, if_neg (by decide)]
            have t2 : td T n x 2 = dg T n (x + 2) 10 := by unfold td; rw [dd, if_neg (by decide)]
            have t3 : td T n x 3 = dg T n (x + 3) 10 := by unfold td; rw [dd, if_neg (by decide)]
            have od := od3 (T := T) (n := n) (y := x + 1) (by omega)
            have x2e : x + 1 + 1 = x + 2 := by omega
            have x3e : x + 1 + 1 + 1 = x + 3 := by omega
            rcases od with ⟨p1, p2, p5, p6⟩ | ⟨p1, p2, p3, p4, ⟨q1, q2, q5⟩ | ⟨q1, q2, q3, q4, ⟨r1, r2⟩ | ⟨r1, r2, r3, r4⟩⟩⟩
            · -- fault 1
              have tb := tf_bad (T := T) (n := n) (x := x) (k := 1) (by omega) (by decide) (by decide) (fun j j1 j2 => by omega) (by rw [t1]; exact p1)
              have we : (o3 T n 48 10 (o3 T n 48 10 (o3 T n 48 10 (-1) (x + 1)) (o2 T n 48 10 (-1) (x + 1))) (o2 T n 48 10 (o3 T n 48 10 (-1) (x + 1)) (o2 T n 48 10 (-1) (x + 1)))) = x + 1 := by rw [p6]
              rw [ex] at tb
              refine l_rx9 (x := (o2 T n 48 10 (o3 T n 48 10 (o3 T n 48 10 (-1) (x + 1)) (o2 T n 48 10 (-1) (x + 1))) (o2 T n 48 10 (o3 T n 48 10 (-1) (x + 1)) (o2 T n 48 10 (-1) (x + 1))))) (w := (o3 T n 48 10 (o3 T n 48 10 (o3 T n 48 10 (-1) (x + 1)) (o2 T n 48 10 (-1) (x + 1))) (o2 T n 48 10 (o3 T n 48 10 (-1) (x + 1)) (o2 T n 48 10 (-1) (x + 1))))) hn (by exact e15) (by rfl) (by omega) (by rfl) (by omega) (by omega) (KF i _ _ i0 hok (by rw [← ex]; omega) (by rw [tb, ← ex]; omega) ?_ ?_ ?_) _ _
              · rw [tb, ← ex]; exact we
              · exact e2
              · exact (fun k a b c e f => by first | (simp only [iu, a, b, c, e, f, if_false]; exact kj k a b c e f) | (simp [iu, a, b, c, e, f]; exact kj k a b c e f))
            · -- fault 2
              have tb := tf_bad (T := T) (n := n) (x := x) (k := 2) (by omega) (by decide) (by decide) (fun j j1 j2 => by rw [show j = 1 by omega, t1]; exact p1) (by rw [t2]; rw [x2e] at q1; exact q1)
              have we : (o3 T n 48 10 (o3 T n 48 10 (o3 T n 48 10 (-1) (x + 1)) (o2 T n 48 10 (-1) (x + 1))) (o2 T n 48 10 (o3 T n 48 10 (-1) (x + 1)) (o2 T n 48 10 (-1) (x + 1)))) = x + 2 := by rw [q5]; omega
              rw [ex] at tb
              refine l_rx9 (x := (o2 T n 48 10 (o3 T n 48 10 (o3 T n 48 10 (-1) (x + 1)) (o2 T n 48 10 (-1) (x + 1))) (o2 T n 48 10 (o3 T n 48 10 (-1) (x + 1)) (o2 T n 48 10 (-1) (x + 1))))) (w := (o3 T n 48 10 (o3 T n 48 10 (o3 T n 48 10 (-1) (x + 1)) (o2 T n 48 10 (-1) (x + 1))) (o2 T n 48 10 (o3 T n 48 10 (-1) (x + 1)) (o2 T n 48 10 (-1) (x + 1))))) hn (by exact e15) (by rfl) (by omega) (by rfl) (by omega) (by omega) (KF i _ _ i0 hok (by rw [← ex]; omega) (by rw [tb, ← ex]; omega) ?_ ?_ ?_) _ _
              · rw [tb, ← ex]; exact we
              · exact e2
              · exact (fun k a b c e f => by first | (simp only [iu, a, b, c, e, f, if_false]; exact kj k a b c e f) | (simp [iu, a, b, c, e, f]; exact kj k a b c e f))
            · -- fault 3
              have tb := tf_bad (T := T) (n := n) (x := x) (k := 3) (by omega) (by decide) (by decide) (fun j j1 j2 => td_two t1 t2 p1 (by rw [x2e] at q1; exact q1) j1 j2) (by rw [t3]; rw [x3e] at r1; exact r1)
              have we : (o3 T n 48 10 (o3 T n 48 10 (o3 T n 48 10 (-1) (x + 1)) (o2 T n 48 10 (-1) (x + 1))) (o2 T n 48 10 (o3 T n 48 10 (-1) (x + 1)) (o2 T n 48 10 (-1) (x + 1)))) = x + 3 := by rw [r2]; omega
              rw [ex] at tb
              refine l_rx9 (x := (o2 T n 48 10 (o3 T n 48 10 (o3 T n 48 10 (-1) (x + 1)) (o2 T n 48 10 (-1) (x + 1))) (o2 T n 48 10 (o3 T n 48 10 (-1) (x + 1)) (o2 T n 48 10 (-1) (x + 1))))) (w := (o3 T n 48 10 (o3 T n 48 10 (o3 T n 48 10 (-1) (x + 1)) (o2 T n 48 10 (-1) (x + 1))) (o2 T n 48 10 (o3 T n 48 10 (-1) (x + 1)) (o2 T n 48 10 (-1) (x + 1))))) hn (by exact e15) (by rfl) (by omega) (by rfl) (by omega) (by omega) (KF i _ _ i0 hok (by rw [← ex]; omega) (by rw [tb, ← ex]; omega) ?_ ?_ ?_) _ _
              · rw [tb, ← ex]; exact we
              · exact e2
              · exact (fun k a b c e f => by first | (simp only [iu, a, b, c, e, f, if_false]; exact kj k a b c e f) | (simp [iu, a, b, c, e, f]; exact kj k a b c e f))
            · -- good
              have tdo : ∀ j, 1 ≤ j → j < 4 → 0 ≤ td T n x j := td_all (by rw [t1]; exact p1) (by rw [t2, ← x2e]; exact q1) (by rw [t3, ← x3e]; exact r1)
              have tfo := tf_ok (T := T) (n := n) (x := x) (by omega) tdo
              refine ih (i + 1) _ _ (o2 T n 48 10 (o3 T n 48 10 (o3 T n 48 10 (-1) (x + 1)) (o2 T n 48 10 (-1) (x + 1))) (o2 T n 48 10 (o3 T n 48 10 (-1) (x + 1)) (o2 T n 48 10 (-1) (x + 1)))) _ _ (by omega) (by omega) (by omega) ?_ (tok_s i0 hok (by rw [← ex]; omega) (by rw [← ex]; exact tfo)) (at_s i0 hA ex kk.symm ?_ ?_ ?_) (by exact e15) (by rfl) (by exact r2) (by rfl) (by exact e2) (fun k a b c e f => by first | (simp only [iu, a, b, c, e, f, if_false]; exact kj k a b c e f) | (simp [iu, a, b, c, e, f]; exact kj k a b c e f))
              · rw [toN i0]; show _ = ta T n i.toNat + 1 + dn (kd (sg T n (ta T n i.toNat))); rw [← ex, dd, r4]; try omega
              · rw [t1, ← p3]
              · rw [t2, ← x2e, ← q3]
              · rw [t3, ← x3e, ← r3]
        · -- 38
          refine ma_iconst dX12_readTrail_38 ?_
          refine ma_goto 73 dX12_readTrail_39 rfl ?_
          refine ma_istore_nN dX12_readTrail_73 (by decide) rfl ?_
          refine ma_iload_n dX12_readTrail_74 rfl ?_
          refine ma_iconst dX12_readTrail_75 ?_
          refine ma_rcmp_ne 90 dX12_readTrail_76 rfl (by decide) (by decide) (fun c76 => ?_) (fun c76 => absurd c76 (by decide))
          refine ma_aload_n dX12_readTrail_90 rfl ?_
          refine ma_dup dX12_readTrail_91 rfl ?_
          refine ma_getf dX12_readTrail_92 fX12_186 (by first | exact mj_73 _ _ | exact (ma_up_n (by decide)).trans (ma_up_s _ _ _)) (by rfl) ?_
          rw [e16]
          refine ma_iconst dX12_readTrail_95 ?_
          refine ma_iadd dX12_readTrail_96 ?_
          refine ma_puti dX12_readTrail_97 fX12_186 (by first | exact mj_73 _ _ | exact (ma_up_n (by decide)).trans (ma_up_s _ _ _)) (Nat.le_of_ble_eq_true rfl) ?_
          rw [mo_16, mj_p]
          refine ma_aload_n dX12_readTrail_100 rfl ?_
          refine ma_getf dX12_readTrail_101 fX12_93 (by first | exact mj_73 _ _ | exact (ma_up_n (by decide)).trans (ma_up_s _ _ _)) (by rfl) ?_
          refine ma_iconst dX12_readTrail_104 ?_
          refine ma_aload_n dX12_readTrail_105 rfl ?_
          refine ma_getf (v := vi i) dX12_readTrail_106 fX12_448 (by first | exact mj_73 _ _ | exact (ma_up_n (by decide)).trans (ma_up_s _ _ _)) (by show some (vi _) = some (vi i); exact congrArg (fun z => some (vi z)) e43) ?_
          refine ma_imul dX12_readTrail_109 ?_
          refine ma_iload_n dX12_readTrail_110 rfl ?_
          refine ma_iast dX12_readTrail_111 (by first | exact mj_73 _ _ | exact (ma_up_n (by decide)).trans (ma_up_s _ _ _)) (by omega) (by omega) (by omega) ?_
          rw [mj_a]
          refine ma_aload_n dX12_readTrail_112 rfl ?_
          refine ma_getf dX12_readTrail_113 fX12_93 (by first | exact mj_73 _ _ | exact (ma_up_n (by decide)).trans (ma_up_s _ _ _)) (by rfl) ?_
          refine ma_iconst dX12_readTrail_116 ?_
          refine ma_aload_n dX12_readTrail_117 rfl ?_
          refine ma_getf (v := vi i) dX12_readTrail_118 fX12_448 (by first | exact mj_73 _ _ | exact (ma_up_n (by decide)).trans (ma_up_s _ _ _)) (by show some (vi _) = some (vi i); exact congrArg (fun z => some (vi z)) e43) ?_
          refine ma_imul dX12_readTrail_121 ?_
          refine ma_iconst dX12_readTrail_122 ?_
          refine ma_iadd dX12_readTrail_123 ?_
          refine ma_aload_n dX12_readTrail_124 rfl ?_
          refine ma_bipush dX12_readTrail_125 ?_
          refine ma_bipush dX12_readTrail_127 ?_
          refine ma_cV [_, _] dX12_readTrail_129 wX12_oneOf lX12_204 iX12_oneOf sX12_oneOf rfl (by first | exact mj_73 _ _ | exact (ma_up_n (by decide)).trans (ma_up_s _ _ _)) (Nat.le_of_ble_eq_true rfl) ?_
          refine c_X12_oneOf (x := (x + 1)) (w := (-1)) ((ma_up_n (by decide)).trans h75) hX hn e15 rfl (by omega) (show iu J 16 (x + 1) 17 = -1 from e17) (by omega) (by decide) (by decide) ?_
          refine ma_iast dX12_readTrail_132 (by first | exact mj_73 _ _ | exact (ma_up_n (by decide)).trans (ma_up_s _ _ _)) (by omega) (by omega) (by omega) ?_
          rw [mj_a]
          refine ma_aload_n dX12_readTrail_133 rfl ?_
          refine ma_getf dX12_readTrail_134 fX12_93 (by first | exact mj_73 _ _ | exact (ma_up_n (by decide)).trans (ma_up_s _ _ _)) (by rfl) ?_
          refine ma_iconst dX12_readTrail_137 ?_
          refine ma_aload_n dX12_readTrail_138 rfl ?_
          refine ma_getf (v := vi i) dX12_readTrail_139 fX12_448 (by first | exact mj_73 _ _ | exact (ma_up_n (by decide)).trans (ma_up_s _ _ _)) (by show some (vi _) = some (vi i); exact congrArg (fun z => some (vi z)) e43) ?_
          refine ma_imul dX12_readTrail_142 ?_
          refine ma_iconst dX12_readTrail_143 ?_
          refine ma_iadd dX12_readTrail_144 ?_
          refine ma_iload_n dX12_readTrail_145 rfl ?_
          refine ma_iconst dX12_readTrail_146 ?_
          refine ma_rcmp_ne 154 dX12_readTrail_147 rfl (by decide) (by decide) (fun c147 => ?_) (fun c147 => absurd c147 (by decide))
          refine ma_aload_n dX12_readTrail_154 rfl ?_
          refine ma_bipush dX12_readTrail_155 ?_
          refine ma_bipush dX12_readTrail_157 ?_
          refine ma_cV [_, _] dX12_readTrail_159 wX12_oneOf lX12_204 iX12_oneOf sX12_oneOf rfl (by first | exact mj_73 _ _ | exact (ma_up_n (by decide)).trans (ma_up_s _ _ _)) (Nat.le_of_ble_eq_true rfl) ?_
          refine c_X12_oneOf (x := (o2 T n 48 10 (-1) (x + 1))) (w := (o3 T n 48 10 (-1) (x + 1))) ((ma_up_n (by decide)).trans h75) hX hn e15 rfl (by omega) rfl (by omega) (by decide) (by decide) ?_
          refine ma_iast dX12_readTrail_162 (by first | exact mj_73 _ _ | exact (ma_up_n (by decide)).trans (ma_up_s _ _ _)) (by omega) (by omega) (by omega) ?_
          rw [mj_a]
          refine ma_aload_n dX12_readTrail_163 rfl ?_
          refine ma_getf dX12_readTrail_164 fX12_93 (by first | exact mj_73 _ _ | exact (ma_up_n (by decide)).trans (ma_up_s _ _ _)) (by rfl) ?_
          refine ma_iconst dX12_readTrail_167 ?_
          refine ma_aload_n dX12_readTrail_168 rfl ?_
          refine ma_getf (v := vi i) dX12_readTrail_169 fX12_448 (by first | exact mj_73 _ _ | exact (ma_up_n (by decide)).trans (ma_up_s _ _ _)) (by show some (vi _) = some (vi i); exact congrArg (fun z => some (vi z)) e43) ?_
          refine ma_imul dX12_readTrail_172 ?_
          refine ma_iconst dX12_readTrail_173 ?_
          refine ma_iadd dX12_readTrail_174 ?_
          refine ma_iload_n dX12_readTrail_175 rfl ?_
          refine ma_iconst dX12_readTrail_176 ?_
          refine ma_rcmp_ne 191 dX12_readTrail_177 rfl (by decide) (by decide) (fun c177 => ?_) (fun c177 => absurd c177 (by decide))
          refine ma_iconst dX12_readTrail_191 ?_
          refine ma_iast dX12_readTrail_192 (by first | exact mj_73 _ _ | exact (ma_up_n (by decide)).trans (ma_up_s _ _ _)) (by omega) (by omega) (by omega) ?_
          rw [mj_a]
          refine ma_aload_n dX12_readTrail_193 rfl ?_
          refine ma_dup dX12_readTrail_194 rfl ?_
          refine ma_getf (v := vi i) dX12_readTrail_195 fX12_448 (by first | exact mj_73 _ _ | exact (ma_up_n (by decide)).trans (ma_up_s _ _ _)) (by show some (vi _) = some (vi i); exact congrArg (fun z => some (vi z)) e43) ?_
          refine ma_iconst dX12_readTrail_198 ?_
          refine ma_iadd dX12_readTrail_199 ?_
          refine ma_puti dX12_readTrail_200 fX12_448 (by first | exact mj_73 _ _ | exact (ma_up_n (by decide)).trans (ma_up_s _ _ _)) (Nat.le_of_ble_eq_true rfl) ?_
          rw [mo_43, mj_p]
          refine ma_goto 9 dX12_readTrail_203 rfl ?_
          have kk : kd (sg T n x) = 0 := by rw [c35]; rfl
          have dd : dn (kd (sg T n x)) = 2 := by rw [kk]; rfl
          have t1 : td T n x 1 = dg T n (x + 1) 10 := by unfold td; rw [dd, if_neg (by decide)]
          have t2 : td T n x 2 = dg T n (x + 2) 10 := by unfold td; rw [dd, if_neg (by decide)]
          have t3 : td T n x 3 = 0 := by unfold td; rw [dd, if_pos (by decide)]
          have od := od3 (T := T) (n := n) (y := x + 1) (by omega)
          have x2e : x + 1 + 1 = x + 2 := by omega
          have x3e : x + 1 + 1 + 1 = x + 3 := by omega
          rcases od with ⟨p1, p2, p5, p6⟩ | ⟨p1, p2, p3, p4, ⟨q1, q2, q5⟩ | ⟨q1, q2, q3, q4, -⟩⟩
          · -- fault 1
            have tb := tf_bad (T := T) (n := n) (x := x) (k := 1) (by omega) (by decide) (by decide) (fun j j1 j2 => by omega) (by rw [t1]; exact p1)
            have we : (o3 T n 48 10 (o3 T n 48 10 (-1) (x + 1)) (o2 T n 48 10 (-1) (x + 1))) = x + 1 := by rw [p5]
            rw [ex] at tb
            refine l_rx9 (x := (o2 T n 48 10 (o3 T n 48 10 (-1) (x + 1)) (o2 T n 48 10 (-1) (x + 1)))) (w := (o3 T n 48 10 (o3 T n 48 10 (-1) (x + 1)) (o2 T n 48 10 (-1) (x + 1)))) hn (by exact e15) (by rfl) (by omega) (by rfl) (by omega) (by omega) (KF i _ _ i0 hok (by rw [← ex]; omega) (by rw [tb, ← ex]; omega) ?_ ?_ ?_) _ _
            · rw [tb, ← ex]; exact we
            · exact e2
            · exact (fun k a b c e f => by first | (simp only [iu, a, b, c, e, f, if_false]; exact kj k a b c e f) | (simp [iu, a, b, c, e, f]; exact kj k a b c e f))
          · -- fault 2
            have tb := tf_bad (T := T) (n := n) (x := x) (k := 2) (by omega) (by decide) (by decide) (fun j j1 j2 => by rw [show j = 1 by omega, t1]; exact p1) (by rw [t2]; rw [x2e] at q1; exact q1)
            have we : (o3 T n 48 10 (o3 T n 48 10 (-1) (x + 1)) (o2 T n 48 10 (-1) (x + 1))) = x + 2 := by rw [q2]; omega
            rw [ex] at tb
            refine l_rx9 (x := (o2 T n 48 10 (o3 T n 48 10 (-1) (x + 1)) (o2 T n 48 10 (-1) (x + 1)))) (w := (o3 T n 48 10 (o3 T n 48 10 (-1) (x + 1)) (o2 T n 48 10 (-1) (x + 1)))) hn (by exact e15) (by rfl) (by omega) (by rfl) (by omega) (by omega) (KF i _ _ i0 hok (by rw [← ex]; omega) (by rw [tb, ← ex]; omega) ?_ ?_ ?_) _ _
            · rw [tb, ← ex]; exact we
            · exact e2
            · exact (fun k a b c e f => by first | (simp only [iu, a, b, c, e, f, if_false]; exact kj k a b c e f) | (simp [iu, a, b, c, e, f]; exact kj k a b c e f))
          · -- good
            have tdo : ∀ j, 1 ≤ j → j < 4 → 0 ≤ td T n x j := td_all (by rw [t1]; exact p1) (by rw [t2, ← x2e]; exact q1) (by rw [t3]; decide)
            have tfo := tf_ok (T := T) (n := n) (x := x) (by omega) tdo
            refine ih (i + 1) _ _ (o2 T n 48 10 (o3 T n 48 10 (-1) (x + 1)) (o2 T n 48 10 (-1) (x + 1))) _ _ (by omega) (by omega) (by omega) ?_ (tok_s i0 hok (by rw [← ex]; omega) (by rw [← ex]; exact tfo)) (at_s i0 hA ex kk.symm ?_ ?_ ?_) (by exact e15) (by rfl) (by exact q2) (by rfl) (by exact e2) (fun k a b c e f => by first | (simp only [iu, a, b, c, e, f, if_false]; exact kj k a b c e f) | (simp [iu, a, b, c, e, f]; exact kj k a b c e f))
            · rw [toN i0]; show _ = ta T n i.toNat + 1 + dn (kd (sg T n (ta T n i.toNat))); rw [← ex, dd, q4]; try omega
            · rw [t1, ← p3]
            · rw [t2, ← x2e, ← q3]
            · rw [t3]
theorem c_X12_readTrail {h : ma_H} {nx d : Nat} {I : Nat → Int} {T Tm : Int → Int} {n : Int} {Q : Option ma_V → ma_H → Nat → Prop} {A0 : Int → Int} (h101 : h 101 = ci 320 A0) (h75 : h 75 = cb 80 Tm) (hX : TX T Tm n) (hn : 0 ≤ n ∧ n ≤ 80) (e2 : I 2 = n) (KF : ∀ (i : Int) A J, 0 ≤ i → TOK T n i → ta T n i.toNat < n → 0 ≤ tf T n (ta T n i.toNat) → J 17 = tf T n (ta T n i.toNat) → J 2 = 0 → KJ I J → Q (some (vi 0)) (mj (ma_up h 101 (ci 320 A)) J) nx) (KO : ∀ (i : Int) A J, 0 ≤ i → i ≤ 40 → TOK T n i → n ≤ ta T n i.toNat → AT T n i A → J 43 = i → J 2 = 0 → KJ I J → Q (some (vi 1)) (mj (ma_up h 101 (ci 320 A)) J) nx) : ma_Ct mX12_readTrail (d + 3) 0 0 [vr 73] (mj h I) nx Q := by
  refine ma_Ct.of (by decide +kernel) (Nat.le_of_ble_eq_true rfl) ?_
  refine ma_aload_n dX12_readTrail_0 rfl ?_
  refine ma_cV [] dX12_readTrail_1 wX12_begin lX12_212 iX12_begin sX12_begin rfl (by first | exact mj_73 _ _ | exact hM) (Nat.le_of_ble_eq_true rfl) ?_
  refine c_X12_begin ?_
  refine ma_aload_n dX12_readTrail_4 rfl ?_
  refine ma_iconst dX12_readTrail_5 ?_
  refine ma_puti dX12_readTrail_6 fX12_448 (by first | exact mj_73 _ _ | exact hM) (Nat.le_of_ble_eq_true rfl) ?_
  rw [mo_43, mj_p]
  have q := l_mt9 (d := d) h75 hX hn KF KO 41 0 A0 (iu (iu (iu (iu (iu I 15 (I 2)) 16 0) 17 (-1)) 2 0) 43 0) 0 none none (by decide) (by decide) (by decide) rfl (fun j hj => by omega) (fun j c hj => by omega) (by exact e2) (by rfl) (by rfl) (by rfl) (by rfl) (fun k a b c e f => by simp [iu, a, b, c, e, f])
  rw [ma_up_id h101] at q
  exact q
