theorem bst_up {G : Int → Int} {S : BS} {i j : Int} (hj : j < S.1) : j < (bstep G S i).1 ∧ (bstep G S i).2.2.1 j = S.2.2.1 j := by
  unfold bstep
  split
  · exact ⟨hj, rfl⟩
  · split
    · refine ⟨by show j < S.1 + 1; omega, ?_⟩
      show uf S.2.2.1 S.1 _ j = _
      rw [uf_n (by omega)]
    · exact ⟨hj, rfl⟩
set_option maxHeartbeats 2000000 in
theorem l_X12_lN_in {h : ma_H} {a nx d : Nat} {f0 p0 as t : Int} {G Aa La L f : Int → Int} {Q : Option ma_V → ma_H → Nat → Prop} {I : Nat → Int} {i tt : Int} (hG : VG t G) (hM : h 73 = co 12 (mo I)) (h77 : h 77 = ci 64 f) (hf : PB f) (ha : h a = ci 33 Aa) (na : a < 78 ∨ 84 < a) (hAa : ∀ j, 0 ≤ j → j < 32 → Aa (1 + j) = cv (G j)) (h82 : h 82 = ci 33 La) (hLv : as = 1 → ∀ j, 0 ≤ j → j < 32 → La (1 + j) = cv (L j) ∧ vc (L j)) (hi8 : 0 ≤ i ∧ i < 8) (hit : i < t) (K0 : as = 1 → (∃ k, 0 ≤ k ∧ k < 4 * t ∧ (∀ j, 0 ≤ j → j < k → brow G f0 p0 j = L j) ∧ L k < brow G f0 p0 k) → ∀ N M O R C V, Q (some (vi 0)) (gh h N M O R C V) nx) (KO : ∀ (sm mn : Int) (N M O R C V : Int → Int) (x10 x11 x12 x13 : Option ma_V), BI t G (bst G f0 p0 (4 * (i + 1)).toNat) (4 * (i + 1)) → i < (bst G f0 p0 (4 * (i + 1)).toNat).1 → mn = (bst G f0 p0 (4 * (i + 1)).toNat).1 → RM t (bst G f0 p0 (4 * (i + 1)).toNat) N M O C → TR t (brow G f0 p0) R (4 * (i + 1)) → SMP as sm (brow G f0 p0) L (4 * (i + 1)) → ma_J none mX12_layNumbering (d + 2) 0 0 341 [some (vr 73), some (vr a), some (vi f0), some (vi p0), some (vi as), some (vi mn), some (vi sm), some (vi i), some (vi tt), some (vi 4), x10, x11, x12, x13] [] (gh h N M O R C V) nx Q) :
    ∀ (m : Nat) (nm : Int) (sm mn : Int) (N M O R C V : Int → Int) (x10 x11 x12 x13 : Option ma_V), 0 ≤ nm → nm ≤ 4 → 4 - nm < m → BI t G (bst G f0 p0 (4 * i + nm).toNat) (4 * i + nm) → i < (bst G f0 p0 (4 * i + nm).toNat).1 → tt = (bst G f0 p0 (4 * i + nm).toNat).2.2.1 i → mn = (bst G f0 p0 (4 * i + nm).toNat).1 → RM t (bst G f0 p0 (4 * i + nm).toNat) N M O C → TR t (brow G f0 p0) R (4 * i + nm) → SMP as sm (brow G f0 p0) L (4 * i + nm) → ma_J none mX12_layNumbering (d + 2) 0 0 128 [some (vr 73), some (vr a), some (vi f0), some (vi p0), some (vi as), some (vi mn), some (vi sm), some (vi i), some (vi tt), some (vi nm), x10, x11, x12, x13] [] (gh h N M O R C V) nx Q := by
  intro m
  induction m with
  | zero => intro nm sm mn N M O R C V x10 x11 x12 x13 h0 h1 h2; omega
  | succ m ih =>
    intro nm sm mn N M O R C V x10 x11 x12 x13 h0 h1 h2 hI hi htt hmn hR hT hS
    refine ma_iload dX12_layNumbering_128 rfl ?_
    refine ma_iconst dX12_layNumbering_130 ?_
    refine ma_rcmp_ge 341 dX12_layNumbering_131 rfl (by constructor <;> omega) (by constructor <;> omega) (fun c131 => ?_) (fun c131 => ?_)
    · -- 341
      have e4 : nm = 4 := by omega
      subst e4
      exact KO sm mn N M O R C V _ _ _ _ (by rw [show 4 * i + 4 = 4 * (i + 1) by omega] at hI; exact hI) (by rw [show 4 * i + 4 = 4 * (i + 1) by omega] at hi; exact hi) (by rw [show 4 * i + 4 = 4 * (i + 1) by omega] at hmn; exact hmn) (by rw [show 4 * i + 4 = 4 * (i + 1) by omega] at hR; exact hR) (by rw [show 4 * i + 4 = 4 * (i + 1) by omega] at hT; exact hT) (by rw [show 4 * i + 4 = 4 * (i + 1) by omega] at hS; exact hS)
    · -- 134
      have n0 : 0 ≤ 4 * i + nm := by omega
      have es := bst_s G f0 p0 n0
      have hi4 : (4 * i + nm) / 4 < (bst G f0 p0 (4 * i + nm).toNat).1 := by rw [show (4 * i + nm) / 4 = i by omega]; exact hi
      have st := (bf_step hG hI n0 hi4).1
      have ups := bst_up (G := G) (i := 4 * i + nm) hi
      rw [← es] at st ups
      have e9 : 4 * i + nm + 1 = 4 * i + (nm + 1) := by omega
      refine l_X12_lN128 hG hM h77 hf ha na hAa h82 hLv hi8 ⟨h0, by omega⟩ hI hi htt hmn hR hT hS (fun sm' mn' N M O R C V y10 y11 y12 y13 a1 a2 a3 a4 => ?_) (fun q ⟨k, k0, k1, k2, k3⟩ => K0 q ⟨k, k0, by omega, k2, k3⟩)
      rw [e9] at st ups a1 a2
      exact ih (nm + 1) sm' mn' N M O R C V _ _ _ _ (by omega) (by omega) (by omega) st ups.1 (by rw [ups.2]; exact htt) a1 a2 a3 a4
set_option maxHeartbeats 2000000 in
theorem l_X12_lN109 {h : ma_H} {a nx d : Nat} {f0 p0 as t : Int} {G Aa La L f : Int → Int} {Q : Option ma_V → ma_H → Nat → Prop} {I : Nat → Int} (hG : VG t G) (hM : h 73 = co 12 (mo I)) (h77 : h 77 = ci 64 f) (hf : PB f) (ha : h a = ci 33 Aa) (na : a < 78 ∨ 84 < a) (hAa : ∀ j, 0 ≤ j → j < 32 → Aa (1 + j) = cv (G j)) (h82 : h 82 = ci 33 La) (hLv : as = 1 → ∀ j, 0 ≤ j → j < 32 → La (1 + j) = cv (L j) ∧ vc (L j)) (K0 : as = 1 → (∃ k, 0 ≤ k ∧ k < 4 * t ∧ (∀ j, 0 ≤ j → j < k → brow G f0 p0 j = L j) ∧ L k < brow G f0 p0 k) → ∀ N M O R C V, Q (some (vi 0)) (gh h N M O R C V) nx) (KF : ∀ (i sm : Int) (N M O R C V : Int → Int), 0 ≤ i → i ≤ t → BI t G (bst G f0 p0 (4 * i).toNat) (4 * i) → i = (bst G f0 p0 (4 * i).toNat).1 → TR t (brow G f0 p0) R (4 * i) → SMP as sm (brow G f0 p0) L (4 * i) → Q (some (vi i)) (gh h N M O R C V) nx) :
    ∀ (m : Nat) (i : Int) (sm mn : Int) (N M O R C V : Int → Int) (x8 x9 x10 x11 x12 x13 : Option ma_V), 0 ≤ i → i ≤ t → t - i < m → BI t G (bst G f0 p0 (4 * i).toNat) (4 * i) → i ≤ (bst G f0 p0 (4 * i).toNat).1 → mn = (bst G f0 p0 (4 * i).toNat).1 → RM t (bst G f0 p0 (4 * i).toNat) N M O C → TR t (brow G f0 p0) R (4 * i) → SMP as sm (brow G f0 p0) L (4 * i) → ma_J none mX12_layNumbering (d + 2) 0 0 109 [some (vr 73), some (vr a), some (vi f0), some (vi p0), some (vi as), some (vi mn), some (vi sm), some (vi i), x8, x9, x10, x11, x12, x13] [] (gh h N M O R C V) nx Q := by
  have htt := hG.1
  intro m
  induction m with
  | zero => intro i sm mn N M O R C V x8 x9 x10 x11 x12 x13 h0 h1 h2; omega
  | succ m ih =>
    intro i sm mn N M O R C V x8 x9 x10 x11 x12 x13 h0 h1 h2 hI hi hmn hR hT hS
    have hI1 := hI.1
    have KO2 : i < t → ∀ (sm' mn' : Int) (N' M' O' R' C' V' : Int → Int) (x8 x9 x10 x11 x12 x13 : Option ma_V), BI t G (bst G f0 p0 (4 * (i + 1)).toNat) (4 * (i + 1)) → i < (bst G f0 p0 (4 * (i + 1)).toNat).1 → mn' = (bst G f0 p0 (4 * (i + 1)).toNat).1 → RM t (bst G f0 p0 (4 * (i + 1)).toNat) N' M' O' C' → TR t (brow G f0 p0) R' (4 * (i + 1)) → SMP as sm' (brow G f0 p0) L (4 * (i + 1)) → ma_J none mX12_layNumbering (d + 2) 0 0 341 [some (vr 73), some (vr a), some (vi f0), some (vi p0), some (vi as), some (vi mn'), some (vi sm'), some (vi i), x8, x9, x10, x11, x12, x13] [] (gh h N' M' O' R' C' V') nx Q := by
      intro hit sm' mn' N' M' O' R' C' V' x8 x9 x10 x11 x12 x13 b1 b2 b3 b4 b5 b6
      refine ma_iincN dX12_layNumbering_341 rfl (by decide) rfl ?_
      refine ma_goto 109 dX12_layNumbering_344 rfl ?_
      exact ih (i + 1) sm' mn' N' M' O' R' C' V' _ _ _ _ _ _ (by omega) (by omega) (by omega) b1 (by omega) b3 b4 b5 b6
    refine ma_iload dX12_layNumbering_109 rfl ?_
    refine ma_iload dX12_layNumbering_111 rfl ?_
    refine ma_rcmp_ge 347 dX12_layNumbering_113 rfl (by constructor <;> omega) (by constructor <;> omega) (fun c113 => ?_) (fun c113 => ?_)
    · -- 347
      refine ma_iload dX12_layNumbering_347 rfl ?_
      have ei : i = mn := by omega
      rw [← ei]
      exact ma_iret dX12_layNumbering_349 rfl (KF i sm N M O R C V h0 (by omega) hI (by omega) hT hS)
    · -- 116
      refine ma_aload_n dX12_layNumbering_116 rfl ?_
      refine ma_getf dX12_layNumbering_117 fX12_30 (by first | exact gh_78 | exact gh_79 | exact gh_80 | exact gh_81 | exact gh_83 | exact gh_84 | exact (gh_n (by first | omega | assumption)).trans (by assumption)) (by rfl) ?_
      refine ma_iload dX12_layNumbering_120 rfl ?_
      refine ma_iald dX12_layNumbering_122 (by first | exact gh_78 | exact gh_79 | exact gh_80 | exact gh_81 | exact gh_83 | exact gh_84 | exact (gh_n (by first | omega | assumption)).trans (by assumption)) (by omega) (by omega) (by omega) ?_
      rw [hR.2.1 i h0 (by omega)]
      refine ma_istoreN dX12_layNumbering_123 (by decide) rfl ?_
      refine ma_iconst dX12_layNumbering_125 ?_
      refine ma_istoreN dX12_layNumbering_126 (by decide) rfl ?_
      exact l_X12_lN_in hG hM h77 hf ha na hAa h82 hLv ⟨h0, by omega⟩ (by omega) K0 (fun sm' mn' N' M' O' R' C' V' y10 y11 y12 y13 b1 b2 b3 b4 b5 b6 => KO2 (by omega) sm' mn' N' M' O' R' C' V' _ _ _ _ _ _ b1 b2 b3 b4 b5 b6) 5 0 sm mn N M O R C V _ _ _ _ (by omega) (by omega) (by omega) (by rw [show 4 * i + 0 = 4 * i by omega]; exact hI) (by rw [show 4 * i + 0 = 4 * i by omega]; omega) (by rw [show 4 * i + 0 = 4 * i by omega]) (by rw [show 4 * i + 0 = 4 * i by omega]; exact hmn) (by rw [show 4 * i + 0 = 4 * i by omega]; exact hR) (by rw [show 4 * i + 0 = 4 * i by omega]; exact hT) (by rw [show 4 * i + 0 = 4 * i by omega]; exact hS)
