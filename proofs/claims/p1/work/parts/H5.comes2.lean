theorem c_X12_isFound0 {h : ma_H} {nx d : Nat} {I : Nat → Int} {Q : Option ma_V → ma_H → Nat → Prop} (hM : h 73 = co 12 (mo I)) (e50 : I 50 = 0) (K : Q (some (vi 0)) h nx) : ma_Ct mX12_isFound d 0 0 [vr 73, vr 100] h nx Q := by
  refine ma_Ct.of (by decide +kernel) (Nat.le_of_ble_eq_true rfl) ?_
  refine ma_iconst dX12_isFound_0 ?_
  refine ma_istore_nN dX12_isFound_1 (by decide) rfl ?_
  refine ma_iload_n dX12_isFound_2 rfl ?_
  refine ma_aload_n dX12_isFound_3 rfl ?_
  refine ma_getf dX12_isFound_4 fX12_472 (by exact hM) (by rfl) ?_
  rw [e50]
  refine ma_rcmp_ge 69 dX12_isFound_7 rfl (by decide) (by decide) (fun c7 => ?_) (fun c7 => absurd c7 (by decide))
  refine ma_iconst dX12_isFound_69 ?_
  exact ma_zret dX12_isFound_70 rfl (Or.inl rfl) K
theorem l_fi2 {hz : ma_H} {nx d : Nat} {J : Nat → Int} {Q : Option ma_V → ma_H → Nat → Prop} {W S : Int → Int} (e50 : J 50 = 0) (K : ∀ h', kp hz h' [73, 102, 103] → h' 73 = co 12 (mo (iu J 50 (0 + 1))) → (∃ V, h' 102 = ci 4950 V) → (∃ V, h' 103 = ci 150 V) → Q none h' nx) :
    ∀ (m : Nat) (i : Int) (h : ma_H), (0 ≤ i) → (i ≤ 33) → (33 - i < m) → (h 73 = co 12 (mo J)) → (h 100 = ci 33 W) → (∃ V, h 102 = ci 4950 V) → (h 103 = ci 150 S) → (kp hz h [73, 102, 103]) → ma_J none mX12_find d 0 0 2 [some (vr 73), some (vr 100), some (vi 1), some (vi i)] [] h nx Q := by
  intro m
  induction m with
  | zero => intro i h i0 i1 hm e73 e100 e102 e103 ek; omega
  | succ m ih =>
    intro i h i0 i1 hm e73 e100 e102 e103 ek
    obtain ⟨V, e102⟩ := e102
    refine ma_iload_n dX12_find_2 rfl ?_
    refine ma_bipush dX12_find_3 ?_
    refine ma_rcmp_ge 31 dX12_find_5 rfl (by constructor <;> omega) (by constructor <;> omega) (fun c5 => ?_) (fun c5 => ?_)
    · -- 31
      refine ma_aload_n dX12_find_31 rfl ?_
      refine ma_getf dX12_find_32 fX12_99 (by first | exact e73 | exact e103 | exact (ma_up_n (by decide)).trans e73) (by rfl) ?_
      refine ma_aload_n dX12_find_35 rfl ?_
      refine ma_getf dX12_find_36 fX12_472 (by first | exact e73 | exact e103 | exact (ma_up_n (by decide)).trans e73) (by rfl) ?_
      rw [e50]
      refine ma_iload_n dX12_find_39 rfl ?_
      refine ma_iast dX12_find_40 (by first | exact e73 | exact e103 | exact (ma_up_n (by decide)).trans e73) (by omega) (by omega) (by omega) ?_
      refine ma_aload_n dX12_find_41 rfl ?_
      refine ma_dup dX12_find_42 rfl ?_
      refine ma_getf dX12_find_43 fX12_472 (by first | exact e73 | exact e103 | exact (ma_up_n (by decide)).trans e73) (by rfl) ?_
      rw [e50]
      refine ma_iconst dX12_find_46 ?_
      refine ma_iadd dX12_find_47 ?_
      refine ma_puti dX12_find_48 fX12_472 (by first | exact e73 | exact e103 | exact (ma_up_n (by decide)).trans e73) (Nat.le_of_ble_eq_true rfl) ?_
      rw [mo_50]
      exact ma_vret dX12_find_51 rfl (K _ (kp_up (by simp) (kp_up (by simp) ek)) (ma_up_s _ _ _) ⟨_, (ma_up_n (by decide)).trans ((ma_up_n (by decide)).trans e102)⟩ ⟨_, (ma_up_n (by decide)).trans (ma_up_s _ _ _)⟩)
    · -- 8
      refine ma_aload_n dX12_find_8 rfl ?_
      refine ma_getf dX12_find_9 fX12_96 (by first | exact e73 | exact e100 | exact e102) (by rfl) ?_
      refine ma_bipush dX12_find_12 ?_
      refine ma_aload_n dX12_find_14 rfl ?_
      refine ma_getf dX12_find_15 fX12_472 (by first | exact e73 | exact e100 | exact e102) (by rfl) ?_
      rw [e50]
      refine ma_imul dX12_find_18 ?_
      refine ma_iload_n dX12_find_19 rfl ?_
      refine ma_iadd dX12_find_20 ?_
      refine ma_aload_n dX12_find_21 rfl ?_
      refine ma_iload_n dX12_find_22 rfl ?_
      refine ma_iald dX12_find_23 (by first | exact e73 | exact e100 | exact e102) (by omega) (by omega) (by omega) ?_
      refine ma_iast dX12_find_24 (by first | exact e73 | exact e100 | exact e102) (by omega) (by omega) (by omega) ?_
      refine ma_iincN dX12_find_25 rfl (by decide) rfl ?_
      refine ma_goto 2 dX12_find_28 rfl ?_
      exact ih (i + 1) _ (by omega) (by omega) (by omega) ((ma_up_n (by decide)).trans e73) ((ma_up_n (by decide)).trans e100) ⟨_, ma_up_s _ _ _⟩ ((ma_up_n (by decide)).trans e103) (kp_up (by simp) ek)
theorem c_X12_find0 {h : ma_H} {nx d : Nat} {I : Nat → Int} {W V S : Int → Int} {Q : Option ma_V → ma_H → Nat → Prop} (hM : h 73 = co 12 (mo I)) (e50 : I 50 = 0) (h100 : h 100 = ci 33 W) (h102 : h 102 = ci 4950 V) (h103 : h 103 = ci 150 S) (K : ∀ h', kp h h' [73, 102, 103] → h' 73 = co 12 (mo (iu I 50 (0 + 1))) → (∃ V, h' 102 = ci 4950 V) → (∃ V, h' 103 = ci 150 V) → Q none h' nx) : ma_Ct mX12_find d 0 0 [vr 73, vr 100, vi 1] h nx Q := by
  refine ma_Ct.of (by decide +kernel) (Nat.le_of_ble_eq_true rfl) ?_
  refine ma_iconst dX12_find_0 ?_
  refine ma_istore_nN dX12_find_1 (by decide) rfl ?_
  exact l_fi2 e50 K 34 0 _ (by decide) (by decide) (by decide) hM h100 ⟨_, h102⟩ h103 (kp_rf _ _)
theorem l_cm99 {nx d : Nat} {r : Int} {V : Int → Int} {Q : Option ma_V → ma_H → Nat → Prop} (K : ∀ h', Q (some (vi r)) h' nx) :
    ∀ (m : Nat) (i : Int) (h : ma_H) (J : Nat → Int), (0 ≤ i) → (i ≤ 4) → (4 - i < m) → (h 73 = co 12 (mo J)) → (∃ f, h 76 = cl 96 f) → (h 104 = ci 4 V) → (J 4 = i) → (J 50 = r) → ma_J none mX12_comes (d + 8) 0 0 99 [some (vr 73), some (vi i)] [] h nx Q := by
  intro m
  induction m with
  | zero => intro i h J i0 i1 hm e73 e76 e104 e4 e50; omega
  | succ m ih =>
    intro i h J i0 i1 hm e73 e76 e104 e4 e50
    obtain ⟨f, e76⟩ := e76
    refine ma_iload_n dX12_comes_99 rfl ?_
    refine ma_iconst dX12_comes_100 ?_
    refine ma_rcmp_ge 121 dX12_comes_101 rfl (by constructor <;> omega) (by constructor <;> omega) (fun c101 => ?_) (fun c101 => ?_)
    · -- 121
      refine ma_aload_n dX12_comes_121 rfl ?_
      refine ma_getf dX12_comes_122 fX12_472 (by first | exact e73 | exact e104) (by rfl) ?_
      rw [e50]
      exact ma_iret dX12_comes_125 rfl (K h)
    · -- 104
      refine ma_aload_n dX12_comes_104 rfl ?_
      refine ma_aload_n dX12_comes_105 rfl ?_
      refine ma_getf dX12_comes_106 fX12_102 (by first | exact e73 | exact e104) (by rfl) ?_
      refine ma_iload_n dX12_comes_109 rfl ?_
      refine ma_iald dX12_comes_110 (by first | exact e73 | exact e104) (by omega) (by omega) (by omega) ?_
      refine ma_i2l dX12_comes_111 ?_
      refine ma_cV [_] dX12_comes_112 wX12_tell lX12_231 iX12_tell sX12_tell rfl (by first | exact e73 | exact e104) (Nat.le_of_ble_eq_true rfl) ?_
      refine c_X12_tell (n := 0) e73 e76 (by omega) ?_
      refine ma_iincN dX12_comes_115 rfl (by decide) rfl ?_
      refine ma_goto 99 dX12_comes_118 rfl ?_
      exact ih (i + 1) _ (iu J 4 (J 4 + 1)) (by omega) (by omega) (by omega) (ma_up_s _ _ _) ⟨_, (ma_up_n (by decide)).trans (ma_up_s _ _ _)⟩ ((ma_up_n (by decide)).trans ((ma_up_n (by decide)).trans e104)) (by rw [iu_s]; omega) (by rw [iu_n (by decide)]; exact e50)
theorem lpk_80 : ∀ i : Nat, i < 120 → (lpk i = 160 ↔ (i : Int) = 80) := by decide +kernel
theorem gm_ok {E P : Int → Int} (hB : BP 1 GM E P) {i : Int} (i0 : 0 ≤ i) (i1 : i < 120) : (lfi i < 1 ∧ RFE 1 GM (lso i) (plc 1 (lso i) (lfi i) (lse i) (lth i))) ↔ i = 80 := by
  rw [ok_rf gm_vg hB i0 i1]
  have pk := lpk_in i0 i1
  rw [gm_rf hB pk.1 pk.2]
  exact pm_nat (P := fun i => lpk i = 160 ↔ i = 80) (n := 120) lpk_80 i0 i1
theorem gm_pl : plc 1 (lso 80) (lfi 80) (lse 80) (lth 80) = 160 := by decide +kernel
theorem i44 : lso 80 = 2 := by decide +kernel
set_option maxHeartbeats 4000000 in
theorem l_cm32 {nx d : Nat} {E P G1 Aa f : Int → Int} {Q : Option ma_V → ma_H → Nat → Prop} (hB : BP 1 GM E P) (hst : STP 1 GM 160 4 G1) (hA : AG 1 GM Aa) (K : ∀ h', Q (some (vi 1)) h' nx) :
    ∀ (m : Nat) (i : Int) (h : ma_H) (J : Nat → Int), (0 ≤ i) → (i ≤ 120) → (120 - i < m) → (h 73 = co 12 (mo J)) → (SMO h) → (h 74 = ci 33 Aa) → (h 76 = cl 96 f) → (∃ W, h 100 = ci 33 W) → (∃ V, h 102 = ci 4950 V) → (∃ V, h 103 = ci 150 V) → (∃ V, h 104 = ci 4 V) → (J 50 = if i ≤ 80 then 0 else 1) → ma_J none mX12_comes (d + 8) 0 0 32 [some (vr 73), some (vi i)] [] h nx Q := by
  intro m
  induction m with
  | zero => intro i h J i0 i1 hm e73 hS e74 e76 e100 e102 e103 e104 e50; omega
  | succ m ih =>
    intro i h J i0 i1 hm e73 hS e74 e76 e100 e102 e103 e104 e50
    obtain ⟨W0, e100⟩ := e100
    obtain ⟨V0, e102⟩ := e102
    obtain ⟨V1, e103⟩ := e103
    obtain ⟨V, e104⟩ := e104
    refine ma_iload_n dX12_comes_32 rfl ?_
    refine ma_bipush dX12_comes_33 ?_
    refine ma_rcmp_ge 92 dX12_comes_35 rfl (by constructor <;> omega) (by constructor <;> omega) (fun c35 => ?_) (fun c35 => ?_)
    · -- 92
      refine ma_aload_n dX12_comes_92 rfl ?_
      refine ma_iconst dX12_comes_93 ?_
      refine ma_puti dX12_comes_94 fX12_132 (by first | exact e73) (Nat.le_of_ble_eq_true rfl) ?_
      rw [mo_4]
      refine ma_iconst dX12_comes_97 ?_
      refine ma_istore_nN dX12_comes_98 (by decide) rfl ?_
      exact l_cm99 (r := 1) K 5 0 _ (iu J 4 0) (by decide) (by decide) (by decide) (ma_up_s _ _ _) ⟨_, (ma_up_n (by decide)).trans e76⟩ ((ma_up_n (by decide)).trans e104) (iu_s _ _ _) (by rw [iu_n (by decide), e50]; split <;> omega)
    · -- 38
      refine ma_aload_n dX12_comes_38 rfl ?_
      refine ma_aload_n dX12_comes_39 rfl ?_
      refine ma_getf dX12_comes_40 fX12_9 (by first | exact e73 | exact e74 | exact e100 | exact g2 | exact ((ma_up_n (by decide)).trans g2) | exact k104 | exact ma_up_s _ _ _) (by rfl) ?_
      refine ma_iload_n dX12_comes_43 rfl ?_
      refine ma_cV [_, _] dX12_comes_44 wX12_goPlace lX12_475 iX12_goPlace sX12_goPlace rfl (by first | exact e73 | exact e74 | exact e100 | exact g2 | exact ((ma_up_n (by decide)).trans g2) | exact k104 | exact ma_up_s _ _ _) (Nat.le_of_ble_eq_true rfl) ?_
      refine c_X12_goPlace e73 hS e74 (by decide) e100 gm_vg gm_cn hA i0 (by omega) (t1 := 4) (G1 := G1) (fun a b => by have z := (gm_ok hB i0 (by omega)).mp ⟨a, b⟩; rw [z, gm_pl]; exact hst) (fun h' I' z g => ?_) (fun h' I' A' z g w wA => ?_)
      · -- k0
        refine ma_rif_ne 53 dX12_comes_47 rfl (by decide) (fun c47 => absurd c47 (by decide)) (fun c47 => ?_)
        refine ma_goto 86 dX12_comes_50 rfl ?_
        refine ma_iincN dX12_comes_86 rfl (by decide) rfl ?_
        refine ma_goto 32 dX12_comes_89 rfl ?_
        have zi : i ≠ 80 := fun y => z ((gm_ok hB i0 (by omega)).mpr y)
        obtain ⟨g1, g2, g3, g4, g5, g6⟩ := g
        exact ih (i + 1) h' I' (by omega) (by omega) (by omega) g2 g5 ((g1 74 (by decide)).trans e74) ((g1 76 (by decide)).trans e76) g6 ⟨_, (g1 102 (by decide)).trans e102⟩ ⟨_, (g1 103 (by decide)).trans e103⟩ ⟨_, (g1 104 (by decide)).trans e104⟩ (by rw [g3 50 (by decide) (by decide) (by decide) (by decide) (by decide) (by decide) (by decide), e50]; split <;> split <;> omega)
      · -- k1
        refine ma_rif_ne 53 dX12_comes_47 rfl (by decide) (fun c47 => ?_) (fun c47 => absurd c47 (by decide))
        have zi : i = 80 := (gm_ok hB i0 (by omega)).mp z
        subst zi
        obtain ⟨g1, g2, g3, g4, g5, g6⟩ := g
        have s44 : I' 44 = 2 := g4.1.trans i44
        have s50 : I' 50 = 0 := by rw [g3 50 (by decide) (by decide) (by decide) (by decide) (by decide) (by decide) (by decide), e50]; rfl
        have k104 : h' 104 = ci 4 V := (g1 104 (by decide)).trans e104
        refine ma_aload_n dX12_comes_53 rfl ?_
        refine ma_getf dX12_comes_54 fX12_102 (by first | exact e73 | exact e74 | exact e100 | exact g2 | exact ((ma_up_n (by decide)).trans g2) | exact k104 | exact ma_up_s _ _ _) (by rfl) ?_
        refine ma_aload_n dX12_comes_57 rfl ?_
        refine ma_getf dX12_comes_58 fX12_460 (by first | exact e73 | exact e74 | exact e100 | exact g2 | exact ((ma_up_n (by decide)).trans g2) | exact k104 | exact ma_up_s _ _ _) (by rfl) ?_
        rw [s44]
        refine ma_dup2 dX12_comes_61 rfl rfl ?_
        refine ma_iald dX12_comes_62 (by first | exact e73 | exact e74 | exact e100 | exact g2 | exact ((ma_up_n (by decide)).trans g2) | exact k104 | exact ma_up_s _ _ _) (by omega) (by omega) (by omega) ?_
        refine ma_iconst dX12_comes_63 ?_
        refine ma_iadd dX12_comes_64 ?_
        refine ma_iast dX12_comes_65 (by first | exact e73 | exact e74 | exact e100 | exact g2 | exact ((ma_up_n (by decide)).trans g2) | exact k104 | exact ma_up_s _ _ _) (by omega) (by omega) (by omega) ?_
        refine ma_aload_n dX12_comes_66 rfl ?_
        refine ma_aload_n dX12_comes_67 rfl ?_
        refine ma_getf dX12_comes_68 fX12_90 (by first | exact e73 | exact e74 | exact e100 | exact g2 | exact ((ma_up_n (by decide)).trans g2) | exact k104 | exact ma_up_s _ _ _) (by rfl) ?_
        refine ma_cV [_] dX12_comes_71 wX12_isFound lX12_478 iX12_isFound sX12_isFound rfl (by first | exact e73 | exact e74 | exact e100 | exact g2 | exact ((ma_up_n (by decide)).trans g2) | exact k104 | exact ma_up_s _ _ _) (Nat.le_of_ble_eq_true rfl) ?_
        refine c_X12_isFound0 ((ma_up_n (by decide)).trans g2) s50 ?_
        refine ma_rif_ne 86 dX12_comes_74 rfl (by decide) (fun c74 => absurd rfl c74) (fun c74 => ?_)
        refine ma_aload_n dX12_comes_77 rfl ?_
        refine ma_aload_n dX12_comes_78 rfl ?_
        refine ma_getf dX12_comes_79 fX12_90 (by first | exact e73 | exact e74 | exact e100 | exact g2 | exact ((ma_up_n (by decide)).trans g2) | exact k104 | exact ma_up_s _ _ _) (by rfl) ?_
        refine ma_iconst dX12_comes_82 ?_
        refine ma_cV [_, _] dX12_comes_83 wX12_find lX12_481 iX12_find sX12_find rfl (by first | exact e73 | exact e74 | exact e100 | exact g2 | exact ((ma_up_n (by decide)).trans g2) | exact k104 | exact ma_up_s _ _ _) (Nat.le_of_ble_eq_true rfl) ?_
        refine c_X12_find0 ((ma_up_n (by decide)).trans g2) s50 ((ma_up_n (by decide)).trans w) ((ma_up_n (by decide)).trans ((g1 102 (by decide)).trans e102)) ((ma_up_n (by decide)).trans ((g1 103 (by decide)).trans e103)) (fun h2 q1 q73 q102 q103 => ?_)
        refine ma_iincN dX12_comes_86 rfl (by decide) rfl ?_
        refine ma_goto 32 dX12_comes_89 rfl ?_
        obtain ⟨V2, q102⟩ := q102
        obtain ⟨V3, q103⟩ := q103
        exact ih (80 + 1) h2 (iu I' 50 (0 + 1)) (by omega) (by omega) (by omega) q73 (smo_kq q1 (by decide) (smo_n (by decide) (by decide) g5)) ((q1 74 (by decide)).trans ((ma_up_n (by decide)).trans ((g1 74 (by decide)).trans e74))) ((q1 76 (by decide)).trans ((ma_up_n (by decide)).trans ((g1 76 (by decide)).trans e76))) ⟨_, (q1 100 (by decide)).trans ((ma_up_n (by decide)).trans w)⟩ ⟨_, q102⟩ ⟨_, q103⟩ ⟨_, (q1 104 (by decide)).trans (ma_up_s _ _ _)⟩ (by rw [iu_s]; rfl)
theorem l_cm12 {hz : ma_H} {nx d : Nat} {J : Nat → Int} {Q : Option ma_V → ma_H → Nat → Prop} (K : ∀ h, kp hz h [73, 104] → h 73 = co 12 (mo J) → (∃ V, h 104 = ci 4 V) → ma_J none mX12_comes (d + 8) 0 0 32 [some (vr 73), some (vi 0)] [] h nx Q) :
    ∀ (m : Nat) (i : Int) (h : ma_H), (0 ≤ i) → (i ≤ 4) → (4 - i < m) → (h 73 = co 12 (mo J)) → (∃ V, h 104 = ci 4 V) → (kp hz h [73, 104]) → ma_J none mX12_comes (d + 8) 0 0 12 [some (vr 73), some (vi i)] [] h nx Q := by
  intro m
  induction m with
  | zero => intro i h i0 i1 hm e73 e104 ek; omega
  | succ m ih =>
    intro i h i0 i1 hm e73 e104 ek
    obtain ⟨V, e104⟩ := e104
    refine ma_iload_n dX12_comes_12 rfl ?_
    refine ma_iconst dX12_comes_13 ?_
    refine ma_rcmp_ge 30 dX12_comes_14 rfl (by constructor <;> omega) (by constructor <;> omega) (fun c14 => ?_) (fun c14 => ?_)
    · -- 30
      refine ma_iconst dX12_comes_30 ?_
      refine ma_istore_nN dX12_comes_31 (by decide) rfl ?_
      exact K h ek e73 ⟨_, e104⟩
    · -- 17
      refine ma_aload_n dX12_comes_17 rfl ?_
      refine ma_getf dX12_comes_18 fX12_102 (by first | exact e73 | exact e104) (by rfl) ?_
      refine ma_iload_n dX12_comes_21 rfl ?_
      refine ma_iconst dX12_comes_22 ?_
      refine ma_iast dX12_comes_23 (by first | exact e73 | exact e104) (by omega) (by omega) (by omega) ?_
      refine ma_iincN dX12_comes_24 rfl (by decide) rfl ?_
      refine ma_goto 12 dX12_comes_27 rfl ?_
      exact ih (i + 1) _ (by omega) (by omega) (by omega) ((ma_up_n (by decide)).trans e73) ⟨_, ma_up_s _ _ _⟩ (kp_up (by simp) ek)
theorem c_X12_comes0 {h : ma_H} {nx d : Nat} {I : Nat → Int} {E P G1 Aa f W V V1 V2 : Int → Int} {Q : Option ma_V → ma_H → Nat → Prop} (hM : h 73 = co 12 (mo I)) (hS : SMO h) (h74 : h 74 = ci 33 Aa) (hA : AG 1 GM Aa) (h76 : h 76 = cl 96 f) (h100 : h 100 = ci 33 W) (h102 : h 102 = ci 4950 V) (h103 : h 103 = ci 150 V1) (h104 : h 104 = ci 4 V2) (hB : BP 1 GM E P) (hst : STP 1 GM 160 4 G1) (K : ∀ h', Q (some (vi 1)) h' nx) : ma_Ct mX12_comes (d + 8) 0 0 [vr 73] h nx Q := by
  refine ma_Ct.of (by decide +kernel) (Nat.le_of_ble_eq_true rfl) ?_
  refine ma_aload_n dX12_comes_0 rfl ?_
  refine ma_iconst dX12_comes_1 ?_
  refine ma_puti dX12_comes_2 fX12_128 (by first | exact hM | exact ma_up_s _ _ _) (Nat.le_of_ble_eq_true rfl) ?_
  rw [mo_5]
  refine ma_aload_n dX12_comes_5 rfl ?_
  refine ma_iconst dX12_comes_6 ?_
  refine ma_puti dX12_comes_7 fX12_472 (by first | exact hM | exact ma_up_s _ _ _) (Nat.le_of_ble_eq_true rfl) ?_
  rw [mo_50]
  refine ma_iconst dX12_comes_10 ?_
  refine ma_istore_nN dX12_comes_11 (by decide) rfl ?_
  refine l_cm12 (hz := h) (J := iu (iu I 5 0) 50 0) (fun h1 k e73 e104 => ?_) 5 0 _ (by decide) (by decide) (by decide) (ma_up_s _ _ _) ⟨_, (ma_up_n (by decide)).trans ((ma_up_n (by decide)).trans h104)⟩ (kp_up (by simp) (kp_up (by simp) (kp_rf _ _)))
  exact l_cm32 hB hst hA K 121 0 h1 _ (by decide) (by decide) (by decide) e73 (smo_kq k (by decide) hS) ((k 74 (by decide)).trans h74) ((k 76 (by decide)).trans h76) ⟨_, (k 100 (by decide)).trans h100⟩ ⟨_, (k 102 (by decide)).trans h102⟩ ⟨_, (k 103 (by decide)).trans h103⟩ e104 (by rw [iu_s]; rfl)
