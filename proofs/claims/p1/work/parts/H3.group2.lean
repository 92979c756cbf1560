theorem l_lg42 {h : ma_H} {nx d : Nat} {J : Nat → Int} {Aa : Int → Int} {x5 x6 : Option ma_V} {Q : Option ma_V → ma_H → Nat → Prop} (e73 : h 73 = co 12 (mo J)) (e74 : h 74 = ci 33 Aa) (gA : ∀ f, 0 ≤ f → f < 4 → Aa (1 + 4 * 0 + f) = -1) (K : ∀ i x4, ma_J none mX12_layGenerators (d + 1) 0 0 177 [some (vr 73), some (vi 1), some (vi 0), some (vi i), x4, x5, x6] [] h nx Q) :
    ∀ (m : Nat) (i : Int) (x4 : Option ma_V), (0 ≤ i) → (i ≤ 4) → (4 - i < m) → ma_J none mX12_layGenerators (d + 1) 0 0 42 [some (vr 73), some (vi 1), some (vi 0), some (vi i), x4, x5, x6] [] h nx Q := by
  intro m
  induction m with
  | zero => intro i x4 i0 i1 hm; omega
  | succ m ih =>
    intro i x4 i0 i1 hm
    refine ma_iload_n dX12_layGenerators_42 rfl ?_
    refine ma_iconst dX12_layGenerators_43 ?_
    refine ma_rcmp_ge 177 dX12_layGenerators_44 rfl (by constructor <;> omega) (by constructor <;> omega) (fun c44 => ?_) (fun c44 => ?_)
    · -- 177
      exact K i x4
    · -- 47
      refine ma_aload_n dX12_layGenerators_47 rfl ?_
      refine ma_getf dX12_layGenerators_48 fX12_9 (by first | exact e73 | exact e74) (by rfl) ?_
      refine ma_iload_n dX12_layGenerators_51 rfl ?_
      refine ma_iload_n dX12_layGenerators_52 rfl ?_
      refine ma_cS [_, _, _] dX12_layGenerators_53 wX12_glue lX12_150 tX12_glue (Nat.le_of_ble_eq_true rfl) ?_
      refine c_X12_glue e74 (by decide) ⟨i0, by omega⟩ ?_
      rw [gA i i0 (by omega)]
      refine ma_istoreN dX12_layGenerators_56 (by decide) rfl ?_
      refine ma_iload dX12_layGenerators_58 rfl ?_
      refine ma_iconst dX12_layGenerators_60 ?_
      refine ma_rcmp_eq 171 dX12_layGenerators_61 rfl (by decide) (by decide) (fun c61 => ?_) (fun c61 => absurd rfl c61)
      refine ma_iincN dX12_layGenerators_171 rfl (by decide) rfl ?_
      refine ma_goto 42 dX12_layGenerators_174 rfl ?_
      exact ih (i + 1) _ (by omega) (by omega) (by omega)
theorem l_lg28 {h : ma_H} {nx d : Nat} {J : Nat → Int} {Aa : Int → Int} {x2 : Int} {x3 x4 x5 x6 : Option ma_V} {Q : Option ma_V → ma_H → Nat → Prop} (e73 : h 73 = co 12 (mo J)) (e74 : h 74 = ci 33 Aa) (hA : AG 1 GM Aa) (K : Q none h nx) : ma_J none mX12_layGenerators (d + 1) 0 0 28 [some (vr 73), some (vi 1), some (vi x2), x3, x4, x5, x6] [] h nx Q := by
  refine ma_iconst dX12_layGenerators_28 ?_
  refine ma_istore_nN dX12_layGenerators_29 (by decide) rfl ?_
  refine ma_iload_n dX12_layGenerators_30 rfl ?_
  refine ma_aload_n dX12_layGenerators_31 rfl ?_
  refine ma_getf dX12_layGenerators_32 fX12_9 (by first | exact e73 | exact e74) (by rfl) ?_
  refine ma_iconst dX12_layGenerators_35 ?_
  refine ma_iald dX12_layGenerators_36 (by first | exact e73 | exact e74) (by omega) (by omega) (by omega) ?_
  rw [hA.1]
  refine ma_rcmp_ge 183 dX12_layGenerators_37 rfl (by decide) (by decide) (fun c37 => absurd c37 (by decide)) (fun c37 => ?_)
  refine ma_iconst dX12_layGenerators_40 ?_
  refine ma_istore_nN dX12_layGenerators_41 (by decide) rfl ?_
  refine l_lg42 e73 e74 (fun f f0 f1 => ?_) (fun i x4 => ?_) 5 0 x4 (by decide) (by decide) (by decide)
  · rw [show (1 + 4 * 0 + f : Int) = 1 + f by omega, hA.2 f f0 (by omega)]
    rfl
  · -- behind
    refine ma_iincN dX12_layGenerators_177 rfl (by decide) rfl ?_
    refine ma_goto 30 dX12_layGenerators_180 rfl ?_
    refine ma_iload_n dX12_layGenerators_30 rfl ?_
    refine ma_aload_n dX12_layGenerators_31 rfl ?_
    refine ma_getf dX12_layGenerators_32 fX12_9 (by first | exact e73 | exact e74) (by rfl) ?_
    refine ma_iconst dX12_layGenerators_35 ?_
    refine ma_iald dX12_layGenerators_36 (by first | exact e73 | exact e74) (by omega) (by omega) (by omega) ?_
    rw [hA.1]
    refine ma_rcmp_ge 183 dX12_layGenerators_37 rfl (by decide) (by decide) (fun c37 => ?_) (fun c37 => absurd c37 (by decide))
    exact ma_vret dX12_layGenerators_183 rfl K
theorem l_lg9 {h0 : ma_H} {nx d : Nat} {J : Nat → Int} {Aa : Int → Int} {x3 x4 x5 x6 : Option ma_V} {Q : Option ma_V → ma_H → Nat → Prop} (h74 : h0 74 = ci 33 Aa) (hA : AG 1 GM Aa) (K : ∀ h', kp h0 h' [73, 90] → h' 73 = co 12 (mo J) → Q none h' nx) :
    ∀ (m : Nat) (i : Int) (h : ma_H), (0 ≤ i) → (i ≤ 32) → (32 - i < m) → (h 73 = co 12 (mo J)) → (∃ V, h 90 = ci 32 V) → (kp h0 h [73, 90]) → ma_J none mX12_layGenerators (d + 1) 0 0 9 [some (vr 73), some (vi 1), some (vi i), x3, x4, x5, x6] [] h nx Q := by
  intro m
  induction m with
  | zero => intro i h i0 i1 hm e73 e90 ek; omega
  | succ m ih =>
    intro i h i0 i1 hm e73 e90 ek
    obtain ⟨V, e90⟩ := e90
    refine ma_iload_n dX12_layGenerators_9 rfl ?_
    refine ma_bipush dX12_layGenerators_10 ?_
    refine ma_rcmp_ge 28 dX12_layGenerators_12 rfl (by constructor <;> omega) (by constructor <;> omega) (fun c12 => ?_) (fun c12 => ?_)
    · -- 28
      exact l_lg28 e73 ((ek 74 (by decide)).trans h74) hA (K h ek e73)
    · -- 15
      refine ma_aload_n dX12_layGenerators_15 rfl ?_
      refine ma_getf dX12_layGenerators_16 fX12_60 (by first | exact e73 | exact e90) (by rfl) ?_
      refine ma_iload_n dX12_layGenerators_19 rfl ?_
      refine ma_iconst dX12_layGenerators_20 ?_
      refine ma_iast dX12_layGenerators_21 (by first | exact e73 | exact e90) (by omega) (by omega) (by omega) ?_
      refine ma_iincN dX12_layGenerators_22 rfl (by decide) rfl ?_
      refine ma_goto 9 dX12_layGenerators_25 rfl ?_
      exact ih (i + 1) _ (by omega) (by omega) (by omega) ((ma_up_n (by decide)).trans e73) ⟨_, ma_up_s _ _ _⟩ (kp_up (by simp) ek)
theorem c_X12_layGenerators0 {h : ma_H} {nx d : Nat} {I : Nat → Int} {Aa S : Int → Int} {Q : Option ma_V → ma_H → Nat → Prop} (hM : h 73 = co 12 (mo I)) (h74 : h 74 = ci 33 Aa) (hA : AG 1 GM Aa) (h90 : h 90 = ci 32 S) (K : ∀ h', kp h h' [73, 90] → h' 73 = co 12 (mo (iu I 25 0)) → Q none h' nx) : ma_Ct mX12_layGenerators (d + 1) 0 0 [vr 73] h nx Q := by
  refine ma_Ct.of (by decide +kernel) (Nat.le_of_ble_eq_true rfl) ?_
  refine ma_iconst dX12_layGenerators_0 ?_
  refine ma_istore_nN dX12_layGenerators_1 (by decide) rfl ?_
  refine ma_aload_n dX12_layGenerators_2 rfl ?_
  refine ma_iconst dX12_layGenerators_3 ?_
  refine ma_puti dX12_layGenerators_4 fX12_334 (by first | exact hM) (Nat.le_of_ble_eq_true rfl) ?_
  rw [mo_25]
  refine ma_iconst dX12_layGenerators_7 ?_
  refine ma_istore_nN dX12_layGenerators_8 (by decide) rfl ?_
  exact l_lg9 h74 hA K 33 0 _ (by decide) (by decide) (by decide) (ma_up_s _ _ _) ⟨_, (ma_up_n (by decide)).trans h90⟩ (kp_up (by simp) (kp_rf _ _))
theorem gm_fe {E P : Int → Int} (hB : BP 1 GM E P) {x : Int} (x0 : 0 ≤ x) (x1 : x < 16 * 1) (hc : cP E x) : fP E GM (16 * 1) 0 x := by
  have f := gm_free (E := E) (P := P) x0 (by omega) hc.1
  rw [hc.2] at f
  exact f
theorem l_ls27 {h : ma_H} {nx d : Nat} {n : Int} {J : Nat → Int} {E P F R Aa fi : Int → Int} {x2 : Option ma_V} {Q : Option ma_V → ma_H → Nat → Prop} (e73 : h 73 = co 12 (mo J)) (e74 : h 74 = ci 33 Aa) (hA : AG 1 GM Aa) (e86 : h 86 = ci 128 F) (e87 : h 87 = ci 32 R) (e88 : h 88 = ci 48 fi) (hB : BQ 1 GM E P F R) (n1 : 0 ≤ n ∧ n ≤ 48) (hF : FE E fi n (16 * 1)) (e22 : J 22 = n) (K : Q none h nx) :
    ∀ (m : Nat) (i : Int), (0 ≤ i) → (i ≤ n) → (n - i < m) → ma_J none mX12_laySums (d + 3) 0 0 27 [some (vr 73), some (vi i), x2] [] h nx Q := by
  intro m
  induction m with
  | zero => intro i i0 i1 hm; omega
  | succ m ih =>
    intro i i0 i1 hm
    refine ma_iload_n dX12_laySums_27 rfl ?_
    refine ma_aload_n dX12_laySums_28 rfl ?_
    refine ma_getf dX12_laySums_29 fX12_300 (by first | exact e73 | exact e74) (by rfl) ?_
    rw [e22]
    refine ma_rcmp_ge 108 dX12_laySums_32 rfl (by constructor <;> omega) (by constructor <;> omega) (fun c32 => ?_) (fun c32 => ?_)
    · -- 108
      exact ma_vret dX12_laySums_108 rfl K
    · -- 35
      refine ma_aload_n dX12_laySums_35 rfl ?_
      refine ma_aload_n dX12_laySums_36 rfl ?_
      refine ma_getf dX12_laySums_37 fX12_9 (by first | exact e73 | exact e74) (by rfl) ?_
      refine ma_aload_n dX12_laySums_40 rfl ?_
      refine ma_iload_n dX12_laySums_41 rfl ?_
      refine ma_cV [_] dX12_laySums_42 wX12_edgeAt lX12_303 iX12_edgeAt sX12_edgeAt rfl (by first | exact e73 | exact e74) (Nat.le_of_ble_eq_true rfl) ?_
      have fk := hF.2.1 i i0 (by omega)
      refine c_X12_edgeAt e73 e86 e88 gm_vg hB ⟨i0, by omega⟩ fk ?_
      refine ma_cV [_, _] dX12_laySums_45 wX12_isFree lX12_272 iX12_isFree sX12_isFree rfl (by first | exact e73 | exact e74) (Nat.le_of_ble_eq_true rfl) ?_
      refine c_X12_isFree e73 e74 gm_vg hA e86 e87 hB (by unfold rg; omega) (fun z => ?_) (fun z => absurd (gm_fe hB.1 fk.1 fk.2.1 fk.2.2) z)
      · -- k1
        refine ma_rif_eq 54 dX12_laySums_48 rfl (by decide) (fun c48 => absurd c48 (by decide)) (fun c48 => ?_)
        refine ma_goto 102 dX12_laySums_51 rfl ?_
        refine ma_iincN dX12_laySums_102 rfl (by decide) rfl ?_
        refine ma_goto 27 dX12_laySums_105 rfl ?_
        exact ih (i + 1) (by omega) (by omega) (by omega)
set_option maxHeartbeats 2000000 in
theorem c_X12_laySums0 {h : ma_H} {nx d : Nat} {I : Nat → Int} {Aa F0 R0 fi0 S : Int → Int} {Q : Option ma_V → ma_H → Nat → Prop} (hM : h 73 = co 12 (mo I)) (h74 : h 74 = ci 33 Aa) (hA : AG 1 GM Aa) (h86 : h 86 = ci 128 F0) (h87 : h 87 = ci 32 R0) (h88 : h 88 = ci 48 fi0) (h90 : h 90 = ci 32 S) (K : ∀ h' J, h' 73 = co 12 (mo J) → J 25 = 0 → Q none h' nx) : ma_Ct mX12_laySums (d + 4) 0 0 [vr 73] h nx Q := by
  refine ma_Ct.of (by decide +kernel) (Nat.le_of_ble_eq_true rfl) ?_
  refine ma_aload_n dX12_laySums_0 rfl ?_
  refine ma_aload_n dX12_laySums_1 rfl ?_
  refine ma_getf dX12_laySums_2 fX12_9 (by first | exact hM | exact g73 | exact q73 | exact ma_up_s _ _ _ | exact (ma_up_n (by decide)).trans ((ma_up_n (by decide)).trans hM)) (by rfl) ?_
  refine ma_cV [_] dX12_laySums_5 wX12_layJoined lX12_269 iX12_layJoined sX12_layJoined rfl (by first | exact hM | exact g73 | exact q73 | exact ma_up_s _ _ _ | exact (ma_up_n (by decide)).trans ((ma_up_n (by decide)).trans hM)) (Nat.le_of_ble_eq_true rfl) ?_
  refine c_X12_layJoined hM h74 (by decide) gm_vg hA h86 h87 (fun E P F R hB => ?_)
  have g73 : (ma_up (ma_up h 86 (ci 128 F)) 87 (ci 32 R)) 73 = co 12 (mo I) := (ma_up_n (by decide)).trans ((ma_up_n (by decide)).trans hM)
  refine ma_aload_n dX12_laySums_8 rfl ?_
  refine ma_aload_n dX12_laySums_9 rfl ?_
  refine ma_getf dX12_laySums_10 fX12_9 (by first | exact hM | exact g73 | exact q73 | exact ma_up_s _ _ _ | exact (ma_up_n (by decide)).trans ((ma_up_n (by decide)).trans hM)) (by rfl) ?_
  refine ma_cV [_] dX12_laySums_13 wX12_layEdges lX12_309 iX12_layEdges sX12_layEdges rfl (by first | exact hM | exact g73 | exact q73 | exact ma_up_s _ _ _ | exact (ma_up_n (by decide)).trans ((ma_up_n (by decide)).trans hM)) (Nat.le_of_ble_eq_true rfl) ?_
  refine c_X12_layEdges g73 ((ma_up_n (by decide)).trans ((ma_up_n (by decide)).trans h74)) (by decide) gm_vg hA ((ma_up_n (by decide)).trans (ma_up_s _ _ _)) hB ((ma_up_n (by decide)).trans ((ma_up_n (by decide)).trans h88)) (fun fi n n1 hF => ?_)
  refine ma_aload_n dX12_laySums_16 rfl ?_
  refine ma_cV [] dX12_laySums_17 wX12_layGenerators lX12_342 iX12_layGenerators sX12_layGenerators rfl (by first | exact hM | exact g73 | exact q73 | exact ma_up_s _ _ _ | exact (ma_up_n (by decide)).trans ((ma_up_n (by decide)).trans hM)) (Nat.le_of_ble_eq_true rfl) ?_
  refine c_X12_layGenerators0 (ma_up_s _ _ _) ((ma_up_n (by decide)).trans ((ma_up_n (by decide)).trans ((ma_up_n (by decide)).trans ((ma_up_n (by decide)).trans h74)))) hA ((ma_up_n (by decide)).trans ((ma_up_n (by decide)).trans ((ma_up_n (by decide)).trans ((ma_up_n (by decide)).trans h90)))) (fun q k1 q73 => ?_)
  refine ma_aload_n dX12_laySums_20 rfl ?_
  refine ma_iconst dX12_laySums_21 ?_
  refine ma_puti dX12_laySums_22 fX12_345 (by first | exact hM | exact g73 | exact q73 | exact ma_up_s _ _ _ | exact (ma_up_n (by decide)).trans ((ma_up_n (by decide)).trans hM)) (Nat.le_of_ble_eq_true rfl) ?_
  rw [mo_27]
  refine ma_iconst dX12_laySums_25 ?_
  refine ma_istore_nN dX12_laySums_26 (by decide) rfl ?_
  have qn : ∀ j, j ≠ 73 → j ≠ 90 → (ma_up q 73 (co 12 (mo (iu (iu (iu I 22 n) 25 0) 27 0)))) j = (ma_up (ma_up (ma_up (ma_up h 86 (ci 128 F)) 87 (ci 32 R)) 88 (ci 48 fi)) 73 (co 12 (mo (iu I 22 n)))) j := fun j a b => (ma_up_n a).trans (k1 j (by simp; exact ⟨a, b⟩))
  refine l_ls27 (n := n) (ma_up_s _ _ _) ((qn 74 (by decide) (by decide)).trans ((ma_up_n (by decide)).trans ((ma_up_n (by decide)).trans ((ma_up_n (by decide)).trans ((ma_up_n (by decide)).trans h74))))) hA ((qn 86 (by decide) (by decide)).trans rfl) ((qn 87 (by decide) (by decide)).trans rfl) ((qn 88 (by decide) (by decide)).trans rfl) hB ⟨by rw [hF.1]; exact (ct_in _ _).1, n1⟩ hF rfl ?_ (n.toNat + 1) 0 (by decide) (by rw [hF.1]; exact (ct_in _ _).1) (by omega)
  exact K _ (iu (iu (iu I 22 n) 25 0) 27 0) (ma_up_s _ _ _) rfl
theorem c_X12_group0 {h : ma_H} {nx d : Nat} {I : Nat → Int} {Aa F0 R0 fi0 S : Int → Int} {Q : Option ma_V → ma_H → Nat → Prop} (hM : h 73 = co 12 (mo I)) (h74 : h 74 = ci 33 Aa) (hA : AG 1 GM Aa) (h86 : h 86 = ci 128 F0) (h87 : h 87 = ci 32 R0) (h88 : h 88 = ci 48 fi0) (h90 : h 90 = ci 32 S) (K : ∀ h', Q (some (vi 0)) h' nx) : ma_Ct mX12_group (d + 5) 0 0 [vr 73] h nx Q := by
  refine ma_Ct.of (by decide +kernel) (Nat.le_of_ble_eq_true rfl) ?_
  refine ma_aload_n dX12_group_0 rfl ?_
  refine ma_iconst dX12_group_1 ?_
  refine ma_puti dX12_group_2 fX12_128 (by first | exact hM | exact e73 | exact ma_up_s _ _ _) (Nat.le_of_ble_eq_true rfl) ?_
  rw [mo_5]
  refine ma_aload_n dX12_group_5 rfl ?_
  refine ma_cV [] dX12_group_6 wX12_laySums lX12_366 iX12_laySums sX12_laySums rfl (by first | exact hM | exact e73 | exact ma_up_s _ _ _) (Nat.le_of_ble_eq_true rfl) ?_
  refine c_X12_laySums0 (ma_up_s _ _ _) ((ma_up_n (by decide)).trans h74) hA ((ma_up_n (by decide)).trans h86) ((ma_up_n (by decide)).trans h87) ((ma_up_n (by decide)).trans h88) ((ma_up_n (by decide)).trans h90) (fun h' J e73 e25 => ?_)
  refine ma_aload_n dX12_group_9 rfl ?_
  refine ma_iconst dX12_group_10 ?_
  refine ma_puti dX12_group_11 fX12_132 (by first | exact hM | exact e73 | exact ma_up_s _ _ _) (Nat.le_of_ble_eq_true rfl) ?_
  rw [mo_4]
  refine ma_iconst dX12_group_14 ?_
  refine ma_istore_nN dX12_group_15 (by decide) rfl ?_
  refine ma_iload_n dX12_group_16 rfl ?_
  refine ma_aload_n dX12_group_17 rfl ?_
  refine ma_getf dX12_group_18 fX12_334 (by first | exact hM | exact e73 | exact ma_up_s _ _ _) (by rfl) ?_
  rw [iu_n (by decide), e25]
  refine ma_rcmp_ge 81 dX12_group_21 rfl (by decide) (by decide) (fun c21 => ?_) (fun c21 => absurd c21 (by decide))
  refine ma_aload_n dX12_group_81 rfl ?_
  refine ma_getf dX12_group_82 fX12_334 (by first | exact hM | exact e73 | exact ma_up_s _ _ _) (by rfl) ?_
  rw [iu_n (by decide), e25]
  refine ma_iload_n dX12_group_85 rfl ?_
  refine ma_isub dX12_group_86 ?_
  exact ma_iret dX12_group_87 rfl (K _)
