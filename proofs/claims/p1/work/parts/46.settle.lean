set_option maxHeartbeats 2000000 in
theorem l_X2_settle_24 {h : ma_H} {b g d : Nat} {t : Int} {G : Int → Int} {Q : Option ma_V → ma_H → Nat → Prop} (hN : ∀ L A B C, nh h L A B C 39 = co 2 [vr 40, vr 41, vr 42, vr 43]) (hB : ∀ L A B C, nh h L A B C b = co 8 [vi t, vr g]) (hE : ∀ L A B C, nh h L A B C g = ci 32 G) (hG : VG t G) (hC : CN t G) (tet : Int) (htet : 0 ≤ tet ∧ tet < t)
    (KO : ∀ (ties : Int) (L A B C : Int → Int) (x5 : Option ma_V), LI t G L (24 * (tet + 1)) ties → ma_J none mX2_settle (d + 2) 0 0 65 [some (vr 39), some (vr b), some (vi ties), some (vi tet), some (vi 24), x5] [] (nh h L A B C) 1000000 Q) (n : Nat) :
    ∀ (turn ties : Int) (L A B C : Int → Int) (x5 : Option ma_V), 0 ≤ turn → turn ≤ 24 → 24 - turn < n → LI t G L (24 * tet + turn) ties → ma_J none mX2_settle (d + 2) 0 0 24 [some (vr 39), some (vr b), some (vi ties), some (vi tet), some (vi turn), x5] [] (nh h L A B C) 1000000 Q := by
  have ht := hG.1
  induction n with
  | zero => intro turn ties L A B C x5 h0 h1 h2; omega
  | succ n ih =>
    intro turn ties L A B C x5 h0 h1 h2 I
    have hrq : rowq G (24 * tet + turn) = brow G tet turn ∨ turn = 24 := by
      rcases Int.lt_or_eq_of_le h1 with z | z
      · refine Or.inl ?_
        unfold rowq
        rw [show (24 * tet + turn) / 24 = tet by omega, show (24 * tet + turn) % 24 = turn by omega]
      · exact Or.inr z
    refine ma_iload dX2_settle_24 rfl ?_
    refine ma_bipush dX2_settle_26 ?_
    refine ma_rcmp_ge 65 dX2_settle_28 rfl (by constructor <;> omega) (by constructor <;> omega) (fun c28 => ?_) (fun c28 => ?_)
    · -- 65
      have e24 : turn = 24 := by omega
      subst e24
      exact KO ties L A B C _ (by rw [show 24 * (tet + 1) = 24 * tet + 24 by omega]; exact I)
    · -- 31
      have hrq : rowq G (24 * tet + turn) = brow G tet turn := by
        rcases hrq with z | z
        · exact z
        · omega
      refine ma_aload_n dX2_settle_31 rfl ?_
      refine ma_aload_n dX2_settle_32 rfl ?_
      refine ma_iload_n dX2_settle_33 rfl ?_
      refine ma_iload dX2_settle_34 rfl ?_
      refine ma_cV [_, _, _] dX2_settle_36 wX2_compare lX2_37 iX2_compare sX2_compare rfl (by first | exact nh_40 | exact nh_41 | exact nh_42 | exact nh_43 | exact hN _ _ _ _ | exact hB _ _ _ _ | exact hE _ _ _ _) (Nat.le_of_ble_eq_true rfl) ?_
      refine c_X2_compare hN hB hE hG hC (by constructor <;> omega) (by constructor <;> omega) I.1 (fun L' A' B' C' e1 e2 => ?_) (fun L' A' B' C' e1 e2 => ?_) (fun L' A' B' C' e1 e2 e3 => ?_)
      · -- k1
        refine ma_istoreN dX2_settle_39 (by decide) rfl ?_
        refine ma_iload dX2_settle_41 rfl ?_
        refine ma_rif_ge 51 dX2_settle_43 rfl (by decide) (fun c43 => ?_) (fun c43 => absurd c43 (by decide))
        refine ma_iload dX2_settle_51 rfl ?_
        refine ma_rif_ne 59 dX2_settle_53 rfl (by decide) (fun c53 => ?_) (fun c53 => absurd c53 (by decide))
        refine ma_iincN dX2_settle_59 rfl (by decide) rfl ?_
        refine ma_goto 24 dX2_settle_62 rfl ?_
        have hq : 0 < 24 * tet + turn := by
          rcases Int.lt_or_eq_of_le (show 0 ≤ 24 * tet + turn by omega) with z | z
          · exact z
          · exfalso
            obtain ⟨k, k0, k1, k2, k3⟩ := e2
            have w := I.2.1 z.symm k k0 (by omega)
            have w2 := brow_in hG hC (f := tet) (p := turn) (by constructor <;> omega) (by constructor <;> omega) k0 k1
            omega
        exact ih (turn + 1) ties L' A' B' C' _ (by omega) (by omega) (by omega) (by rw [show 24 * tet + (turn + 1) = 24 * tet + turn + 1 by omega]; exact (li_same ht (by omega) hq I e1).2 (by rw [hrq]; obtain ⟨k, k0, k1, k2, k3⟩ := e2; exact ⟨k, k0, k1, fun j j0 j1 => (k2 j j0 j1).symm, k3⟩))
      · -- k0
        refine ma_istoreN dX2_settle_39 (by decide) rfl ?_
        refine ma_iload dX2_settle_41 rfl ?_
        refine ma_rif_ge 51 dX2_settle_43 rfl (by decide) (fun c43 => ?_) (fun c43 => absurd c43 (by decide))
        refine ma_iload dX2_settle_51 rfl ?_
        refine ma_rif_ne 59 dX2_settle_53 rfl (by decide) (fun c53 => absurd c53 (by decide)) (fun c53 => ?_)
        refine ma_iincN dX2_settle_56 rfl (by decide) rfl ?_
        refine ma_iincN dX2_settle_59 rfl (by decide) rfl ?_
        refine ma_goto 24 dX2_settle_62 rfl ?_
        have hq : 0 < 24 * tet + turn := by
          rcases Int.lt_or_eq_of_le (show 0 ≤ 24 * tet + turn by omega) with z | z
          · exact z
          · exfalso
            have w := I.2.1 z.symm 0 (by omega) (by omega)
            have w2 := brow_in hG hC (f := tet) (p := turn) (i := 0) (by constructor <;> omega) (by constructor <;> omega) (by omega) (by omega)
            have w3 := e2 0 (by omega) (by omega)
            omega
        exact ih (turn + 1) (ties + 1) L' A' B' C' _ (by omega) (by omega) (by omega) (by rw [show 24 * tet + (turn + 1) = 24 * tet + turn + 1 by omega]; exact (li_same ht (by omega) hq I e1).1 (by rw [hrq]; exact e2))
      · -- k-1
        refine ma_istoreN dX2_settle_39 (by decide) rfl ?_
        refine ma_iload dX2_settle_41 rfl ?_
        refine ma_rif_ge 51 dX2_settle_43 rfl (by decide) (fun c43 => absurd c43 (by decide)) (fun c43 => ?_)
        refine ma_iconst dX2_settle_46 ?_
        refine ma_istore_nN dX2_settle_47 (by decide) rfl ?_
        refine ma_goto 59 dX2_settle_48 rfl ?_
        refine ma_iincN dX2_settle_59 rfl (by decide) rfl ?_
        refine ma_goto 24 dX2_settle_62 rfl ?_
        exact ih (turn + 1) 1 L' A' B' C' _ (by omega) (by omega) (by omega) (by rw [show 24 * tet + (turn + 1) = 24 * tet + turn + 1 by omega]; exact li_less ht (by omega) I (fun j j0 j1 => by rw [e1 j j0 j1]; have w := brow_in hG hC (f := tet) (p := turn) (i := j) (by constructor <;> omega) (by constructor <;> omega) j0 j1; unfold rg; omega) (fun j j0 j1 => by rw [hrq]; exact e1 j j0 j1) e2 (by rw [hrq]; exact e3))
set_option maxHeartbeats 2000000 in
theorem l_X2_settle_13 {h : ma_H} {b g d : Nat} {t : Int} {G : Int → Int} {Q : Option ma_V → ma_H → Nat → Prop} (hN : ∀ L A B C, nh h L A B C 39 = co 2 [vr 40, vr 41, vr 42, vr 43]) (hB : ∀ L A B C, nh h L A B C b = co 8 [vi t, vr g]) (hE : ∀ L A B C, nh h L A B C g = ci 32 G) (hG : VG t G) (hC : CN t G) (K : ∀ L A B C ties, LI t G L (24 * t) ties → Q (some (vi ties)) (ma_up (nh h L A B C) g (ci 32 (ma_cpy L G 0 0 (4 * t)))) 1000000) (n : Nat) :
    ∀ (tet ties : Int) (L A B C : Int → Int) (x4 x5 : Option ma_V), 0 ≤ tet → tet ≤ t → t - tet < n → LI t G L (24 * tet) ties → ma_J none mX2_settle (d + 2) 0 0 13 [some (vr 39), some (vr b), some (vi ties), some (vi tet), x4, x5] [] (nh h L A B C) 1000000 Q := by
  have ht := hG.1
  induction n with
  | zero => intro tet ties L A B C x4 x5 h0 h1 h2; omega
  | succ n ih =>
    intro tet ties L A B C x4 x5 h0 h1 h2 I
    have KO2 : tet < t → ∀ (ties : Int) (L A B C : Int → Int) (x4 x5 : Option ma_V), LI t G L (24 * (tet + 1)) ties → ma_J none mX2_settle (d + 2) 0 0 65 [some (vr 39), some (vr b), some (vi ties), some (vi tet), x4, x5] [] (nh h L A B C) 1000000 Q := by
      intro htt ties L A B C x4 x5 I2
      refine ma_iincN dX2_settle_65 rfl (by decide) rfl ?_
      refine ma_goto 13 dX2_settle_68 rfl ?_
      exact ih (tet + 1) ties L A B C _ _ (by omega) (by omega) (by omega) I2
    refine ma_iload_n dX2_settle_13 rfl ?_
    refine ma_aload_n dX2_settle_14 rfl ?_
    refine ma_getf dX2_settle_15 fX2_31 (by first | exact nh_40 | exact nh_41 | exact nh_42 | exact nh_43 | exact hN _ _ _ _ | exact hB _ _ _ _ | exact hE _ _ _ _) (by rfl) ?_
    refine ma_rcmp_ge 71 dX2_settle_18 rfl (by constructor <;> omega) (by constructor <;> omega) (fun c18 => ?_) (fun c18 => ?_)
    · -- 71
      refine ma_aload_n dX2_settle_71 rfl ?_
      refine ma_getf dX2_settle_72 fX2_9 (by first | exact nh_40 | exact nh_41 | exact nh_42 | exact nh_43 | exact hN _ _ _ _ | exact hB _ _ _ _ | exact hE _ _ _ _) (by rfl) ?_
      refine ma_iconst dX2_settle_75 ?_
      refine ma_aload_n dX2_settle_76 rfl ?_
      refine ma_getf dX2_settle_77 fX2_41 (by first | exact nh_40 | exact nh_41 | exact nh_42 | exact nh_43 | exact hN _ _ _ _ | exact hB _ _ _ _ | exact hE _ _ _ _) (by rfl) ?_
      refine ma_iconst dX2_settle_80 ?_
      refine ma_iconst dX2_settle_81 ?_
      refine ma_aload_n dX2_settle_82 rfl ?_
      refine ma_getf dX2_settle_83 fX2_31 (by first | exact nh_40 | exact nh_41 | exact nh_42 | exact nh_43 | exact hN _ _ _ _ | exact hB _ _ _ _ | exact hE _ _ _ _) (by rfl) ?_
      refine ma_imul dX2_settle_86 ?_
      refine ma_copy dX2_settle_87 lX2_44 ac_n ac_s ac_i (by first | exact nh_40 | exact nh_41 | exact nh_42 | exact nh_43 | exact hN _ _ _ _ | exact hB _ _ _ _ | exact hE _ _ _ _) (by first | exact nh_40 | exact nh_41 | exact nh_42 | exact nh_43 | exact hN _ _ _ _ | exact hB _ _ _ _ | exact hE _ _ _ _) (by omega) (by omega) (by omega) (by omega) (by omega) (by omega) (by omega) (by omega) (Nat.le_of_ble_eq_true rfl) ?_
      refine ma_iload_n dX2_settle_90 rfl ?_
      exact ma_iret dX2_settle_91 rfl (K L A B C ties (by rw [show 24 * t = 24 * tet by omega]; exact I))
    · -- 21
      refine ma_iconst dX2_settle_21 ?_
      refine ma_istoreN dX2_settle_22 (by decide) rfl ?_
      exact l_X2_settle_24 hN hB hE hG hC tet (by constructor <;> omega) (fun ties L A B C x5 I2 => KO2 (by omega) ties L A B C _ _ I2) 25 0 ties L A B C _ (by omega) (by omega) (by omega) (by rw [show 24 * tet + 0 = 24 * tet by omega]; exact I)
theorem c_X2_settle {h : ma_H} {b g d : Nat} {t : Int} {G : Int → Int} {Q : Option ma_V → ma_H → Nat → Prop} (hN : ∀ L A B C, nh h L A B C 39 = co 2 [vr 40, vr 41, vr 42, vr 43]) (hB : ∀ L A B C, nh h L A B C b = co 8 [vi t, vr g]) (hE : ∀ L A B C, nh h L A B C g = ci 32 G) (hG : VG t G) (hC : CN t G) {L A B C : Int → Int} (K : ∀ L A B C ties, LI t G L (24 * t) ties → Q (some (vi ties)) (ma_up (nh h L A B C) g (ci 32 (ma_cpy L G 0 0 (4 * t)))) 1000000) : ma_Ct mX2_settle (d + 2) 0 0 [vr 39, vr b] (nh h L A B C) 1000000 Q := by
  have ht := hG.1
  refine ma_Ct.of (by decide +kernel) (Nat.le_of_ble_eq_true rfl) ?_
  refine ma_aload_n dX2_settle_0 rfl ?_
  refine ma_getf dX2_settle_1 fX2_9 (by first | exact nh_40 | exact nh_41 | exact nh_42 | exact nh_43 | exact hN _ _ _ _ | exact hB _ _ _ _ | exact hE _ _ _ _) (by rfl) ?_
  refine ma_ldc (n := 1073741824) dX2_settle_4 vX2_24 (by decide +kernel) ?_
  refine ma_cS [_, _] dX2_settle_6 wJ7_fill_53178 lX2_25 tJ7_fill_53178 (Nat.le_of_ble_eq_true rfl) ?_
  refine c_J7_fill_53178 nh_40 (by omega) ?_
  rw [nh_p40]
  refine ma_iconst dX2_settle_9 ?_
  refine ma_istore_nN dX2_settle_10 (by decide) rfl ?_
  refine ma_iconst dX2_settle_11 ?_
  refine ma_istore_nN dX2_settle_12 (by decide) rfl ?_
  exact l_X2_settle_13 hN hB hE hG hC K 9 0 0 _ _ _ _ _ _ (by omega) (by omega) (by omega) ⟨fun j j0 j1 => (by show -2147483648 ≤ (1073741824 : Int) ∧ (1073741824 : Int) ≤ 2147483647; decide), fun _ j j0 j1 => rfl, fun z => by omega, fun r r0 r1 => by omega, rfl⟩
