set_option maxHeartbeats 1000000 in
theorem l_ft43 {h : ma_H} {nx d : Nat} {t : Int} {I : Nat → Int} {G Aa E P f F R fi : Int → Int} {Q : Option ma_V → ma_H → Nat → Prop} (h74 : h 74 = ci 33 Aa) (hG : VG t G) (hA : AG t G Aa) (hB : BQ t G E P F R) {hn k nn : Int} {A C : Int → Int} (h109 : h 109 = ci 8 A) (h110 : h 110 = ci 8 C) (e59 : I 59 = hn) (n0 : 0 ≤ hn ∧ hn ≤ 8) (hv : ∀ i, 0 ≤ i → i < hn → (0 ≤ A i ∧ A i ≤ 4) ∧ 0 ≤ C i ∧ C i ≤ 48 ∧ (A i = 3 → C i < 8)) (k0 : 0 ≤ k ∧ k < 48) (hk : 0 ≤ fi k ∧ fi k < 16 * t ∧ cP E (fi k)) (K : ∀ (fl x : Int), ((fl = 1 ∧ ∀ i, 0 ≤ i → i < hn → FT t G E P (A i) (C i) (fi k)) ∨ (fl = 0 ∧ ¬ ∀ i, 0 ≤ i → i < hn → FT t G E P (A i) (C i) (fi k))) → ma_J none mX12_fits (d + 7) 0 0 90 [some (vr 73), some (vi nn), some (vi k), some (vi fl), some (vi x)] [] (rh h I f F R fi) nx Q) :
    ∀ (m : Nat) (j fl : Int), 0 ≤ j → j ≤ hn → hn - j < m → ((fl = 1 ∧ ∀ i, 0 ≤ i → i < j → FT t G E P (A i) (C i) (fi k)) ∨ (fl = 0 ∧ ¬ ∀ i, 0 ≤ i → i < j → FT t G E P (A i) (C i) (fi k))) → ma_J none mX12_fits (d + 7) 0 0 43 [some (vr 73), some (vi nn), some (vi k), some (vi fl), some (vi j)] [] (rh h I f F R fi) nx Q := by
  intro m
  induction m with
  | zero => intro j fl j0 j1 km; omega
  | succ m ih =>
    intro j fl j0 j1 km hfl
    refine ma_iload dX12_fits_43 rfl ?_
    refine ma_aload_n dX12_fits_45 rfl ?_
    refine ma_getf dX12_fits_46 fX12_498 (by first | exact rh_73 | exact ((rh_n (by decide)).trans h74) | exact rh_86 | exact rh_87 | exact rh_88 | exact ((rh_n (by decide)).trans h109) | exact ((rh_n (by decide)).trans h110)) (by rfl) ?_
    rw [e59]
    refine ma_rcmp_ge 90 dX12_fits_49 rfl (by constructor <;> omega) (by constructor <;> omega) (fun c49 => ?_) (fun c49 => ?_)
    · -- 90
      have e : j = hn := by omega
      subst e
      exact K fl _ hfl
    · -- 52
      refine ma_iload_n dX12_fits_52 rfl ?_
      refine ma_rif_eq 82 dX12_fits_53 rfl (by constructor <;> omega) (fun c53 => ?_) (fun c53 => ?_)
      · -- 82
        refine ma_iconst dX12_fits_82 ?_
        refine ma_istore_nN dX12_fits_83 (by decide) rfl ?_
        refine ma_iincN dX12_fits_84 rfl (by decide) rfl ?_
        refine ma_goto 43 dX12_fits_87 rfl ?_
        refine ih (j + 1) 0 (by omega) (by omega) (by omega) (Or.inr ⟨rfl, fun z => ?_⟩)
        rcases hfl with y | y
        · omega
        · exact y.2 (fun i i0 i1 => z i i0 (by omega))
      · -- 56
        refine ma_aload_n dX12_fits_56 rfl ?_
        refine ma_iload_n dX12_fits_57 rfl ?_
        refine ma_aload_n dX12_fits_58 rfl ?_
        refine ma_getf dX12_fits_59 fX12_118 (by first | exact rh_73 | exact ((rh_n (by decide)).trans h74) | exact rh_86 | exact rh_87 | exact rh_88 | exact ((rh_n (by decide)).trans h109) | exact ((rh_n (by decide)).trans h110)) (by rfl) ?_
        refine ma_iload dX12_fits_62 rfl ?_
        refine ma_iald dX12_fits_64 (by first | exact rh_73 | exact ((rh_n (by decide)).trans h74) | exact rh_86 | exact rh_87 | exact rh_88 | exact ((rh_n (by decide)).trans h109) | exact ((rh_n (by decide)).trans h110)) (by omega) (by omega) (by omega) ?_
        refine ma_aload_n dX12_fits_65 rfl ?_
        refine ma_getf dX12_fits_66 fX12_121 (by first | exact rh_73 | exact ((rh_n (by decide)).trans h74) | exact rh_86 | exact rh_87 | exact rh_88 | exact ((rh_n (by decide)).trans h109) | exact ((rh_n (by decide)).trans h110)) (by rfl) ?_
        refine ma_iload dX12_fits_69 rfl ?_
        refine ma_iald dX12_fits_71 (by first | exact rh_73 | exact ((rh_n (by decide)).trans h74) | exact rh_86 | exact rh_87 | exact rh_88 | exact ((rh_n (by decide)).trans h109) | exact ((rh_n (by decide)).trans h110)) (by omega) (by omega) (by omega) ?_
        refine ma_cV [_, _, _] dX12_fits_72 wX12_isSo lX12_504 iX12_isSo sX12_isSo rfl (by first | exact rh_73 | exact ((rh_n (by decide)).trans h74) | exact rh_86 | exact rh_87 | exact rh_88 | exact ((rh_n (by decide)).trans h109) | exact ((rh_n (by decide)).trans h110)) (Nat.le_of_ble_eq_true rfl) ?_
        refine c_X12_isSo h74 hG hA hB (hv j j0 (by omega)).1 (hv j j0 (by omega)).2 k0 hk (fun hf => ?_) (fun hf => ?_)
        · -- k1
          refine ma_rif_eq 82 dX12_fits_75 rfl (by decide) (fun c75 => absurd c75 (by decide)) (fun c75 => ?_)
          refine ma_iconst dX12_fits_78 ?_
          refine ma_goto 83 dX12_fits_79 rfl ?_
          refine ma_istore_nN dX12_fits_83 (by decide) rfl ?_
          refine ma_iincN dX12_fits_84 rfl (by decide) rfl ?_
          refine ma_goto 43 dX12_fits_87 rfl ?_
          refine ih (j + 1) 1 (by omega) (by omega) (by omega) (Or.inl ⟨rfl, fun i i0 i1 => ?_⟩)
          rcases Int.lt_or_eq_of_le (show i ≤ j by omega) with z | z
          · rcases hfl with y | y
            · exact y.2 i i0 z
            · omega
          · rw [z]; exact hf
        · -- k0
          refine ma_rif_eq 82 dX12_fits_75 rfl (by decide) (fun c75 => ?_) (fun c75 => absurd c75 (by decide))
          refine ma_iconst dX12_fits_82 ?_
          refine ma_istore_nN dX12_fits_83 (by decide) rfl ?_
          refine ma_iincN dX12_fits_84 rfl (by decide) rfl ?_
          refine ma_goto 43 dX12_fits_87 rfl ?_
          exact ih (j + 1) 0 (by omega) (by omega) (by omega) (Or.inr ⟨rfl, fun z => hf (z j j0 (by omega))⟩)
set_option maxHeartbeats 2000000 in
theorem l_ft30 {h : ma_H} {nx d : Nat} {t : Int} {I : Nat → Int} {G Aa E P f F R fi A C : Int → Int} {Q : Option ma_V → ma_H → Nat → Prop} (h74 : h 74 = ci 33 Aa) (hG : VG t G) (hA : AG t G Aa) (hB : BQ t G E P F R) {hn n : Int} (h109 : h 109 = ci 8 A) (h110 : h 110 = ci 8 C) (e59 : I 59 = hn) (n0 : 0 ≤ hn ∧ hn ≤ 8) (hv : ∀ i, 0 ≤ i → i < hn → (0 ≤ A i ∧ A i ≤ 4) ∧ 0 ≤ C i ∧ C i ≤ 48 ∧ (A i = 3 → C i < 8)) (nb : n ≤ 48) (hF : FE E fi n (16 * t)) (K : ∀ nn s T, FR (fun i => ∀ j, 0 ≤ j → j < hn → FT t G E P (A j) (C j) (fi i)) fi f n nn s T → Q (some (vi nn)) (rh h (iu (iu (iu I 5 0) 22 n) 4 s) T F R fi) nx) :
    ∀ (m : Nat) (k nn s : Int) (T : Int → Int) (w3 w4 : Option ma_V), 0 ≤ k → k ≤ n → n - k < m → FR (fun i => ∀ j, 0 ≤ j → j < hn → FT t G E P (A j) (C j) (fi i)) fi f k nn s T → (0 ≤ nn ∧ nn ≤ k) → ma_J none mX12_fits (d + 7) 0 0 30 [some (vr 73), some (vi nn), some (vi k), w3, w4] [] (rh h (iu (iu (iu I 5 0) 22 n) 4 s) T F R fi) nx Q := by
  have ht := hG.1
  intro m
  induction m with
  | zero => intro k nn s T w3 w4 k0 k1 km; omega
  | succ m ih =>
    intro k nn s T w3 w4 k0 k1 km hR nnb
    have fb : k < n → 0 ≤ fi k ∧ fi k < 16 * t ∧ cP E (fi k) := fun z => hF.2.1 k k0 z
    refine ma_iload_n dX12_fits_30 rfl ?_
    refine ma_aload_n dX12_fits_31 rfl ?_
    refine ma_getf dX12_fits_32 fX12_300 (by first | exact rh_73 | exact ((rh_n (by decide)).trans h74) | exact rh_86 | exact rh_87 | exact rh_88 | exact ((rh_n (by decide)).trans h109) | exact ((rh_n (by decide)).trans h110)) (by rfl) ?_
    rw [iu_n (by decide), iu_s]
    refine ma_rcmp_ge 152 dX12_fits_35 rfl (by constructor <;> omega) (by constructor <;> omega) (fun c35 => ?_) (fun c35 => ?_)
    · -- 152
      have e : k = n := by omega
      subst e
      refine ma_iload_n dX12_fits_152 rfl ?_
      exact ma_iret dX12_fits_153 rfl (K nn s T hR)
    · -- 38
      refine ma_iconst dX12_fits_38 ?_
      refine ma_istore_nN dX12_fits_39 (by decide) rfl ?_
      refine ma_iconst dX12_fits_40 ?_
      refine ma_istoreN dX12_fits_41 (by decide) rfl ?_
      have hk := fb (by omega)
      have hk0 := hk.1
      have hk1 := hk.2.1
      refine l_ft43 h74 hG hA hB h109 h110 (by rw [iu_n (by decide), iu_n (by decide), iu_n (by decide)]; exact e59) n0 hv (by omega) hk (fun fl x hfl => ?_) 9 0 1 (by decide) (by omega) (by omega) (Or.inl ⟨rfl, fun i i0 i1 => by omega⟩)
      refine ma_iload_n dX12_fits_90 rfl ?_
      refine ma_rif_ne 97 dX12_fits_91 rfl (by constructor <;> omega) (fun c91 => ?_) (fun c91 => ?_)
      · -- 97
        refine ma_iload_n dX12_fits_97 rfl ?_
        refine ma_rif_ne 143 dX12_fits_98 rfl (by constructor <;> omega) (fun c98 => ?_) (fun c98 => ?_)
        · -- 143
          refine ma_iincN dX12_fits_143 rfl (by decide) rfl ?_
          refine ma_iincN dX12_fits_146 rfl (by decide) rfl ?_
          refine ma_goto 30 dX12_fits_149 rfl ?_
          have hz : ∀ i, 0 ≤ i → i < hn → FT t G E P (A i) (C i) (fi k) := by
            rcases hfl with y | y
            · exact y.2
            · omega
          exact ih (k + 1) _ s T _ _ (by omega) (by omega) (by omega) (fr_m k0 hR hz c98) (by omega)
        · -- 101
          have hz : ∀ i, 0 ≤ i → i < hn → FT t G E P (A i) (C i) (fi k) := by
            rcases hfl with y | y
            · exact y.2
            · omega
          have ff := fr_f (g := fi) k0 hR hz c98
          obtain ⟨s0, ff⟩ := ff
          subst s0
          refine ma_aload_n dX12_fits_101 rfl ?_
          refine ma_aload_n dX12_fits_102 rfl ?_
          refine ma_getf dX12_fits_103 fX12_54 (by first | exact rh_73 | exact ((rh_n (by decide)).trans h74) | exact rh_86 | exact rh_87 | exact rh_88 | exact ((rh_n (by decide)).trans h109) | exact ((rh_n (by decide)).trans h110)) (by rfl) ?_
          refine ma_iload_n dX12_fits_106 rfl ?_
          refine ma_iald dX12_fits_107 (by first | exact rh_73 | exact ((rh_n (by decide)).trans h74) | exact rh_86 | exact rh_87 | exact rh_88 | exact ((rh_n (by decide)).trans h109) | exact ((rh_n (by decide)).trans h110)) (by omega) (by omega) (by omega) ?_
          refine ma_bipush dX12_fits_108 ?_
          refine ma_kdiv dX12_fits_110 (by constructor <;> omega) (by constructor <;> omega) ?_
          refine ma_i2l dX12_fits_111 ?_
          refine ma_cV [_] dX12_fits_112 wX12_tell lX12_231 iX12_tell sX12_tell rfl (by first | exact rh_73 | exact ((rh_n (by decide)).trans h74) | exact rh_86 | exact rh_87 | exact rh_88 | exact ((rh_n (by decide)).trans h109) | exact ((rh_n (by decide)).trans h110)) (Nat.le_of_ble_eq_true rfl) ?_
          refine r_tell (_) rfl (by rw [iu_s]; decide) (iw_of (by omega) (by omega)) ?_
          rw [iu_s, iu_u]
          refine ma_aload_n dX12_fits_115 rfl ?_
          refine ma_aload_n dX12_fits_116 rfl ?_
          refine ma_getf dX12_fits_117 fX12_54 (by first | exact rh_73 | exact ((rh_n (by decide)).trans h74) | exact rh_86 | exact rh_87 | exact rh_88 | exact ((rh_n (by decide)).trans h109) | exact ((rh_n (by decide)).trans h110)) (by rfl) ?_
          refine ma_iload_n dX12_fits_120 rfl ?_
          refine ma_iald dX12_fits_121 (by first | exact rh_73 | exact ((rh_n (by decide)).trans h74) | exact rh_86 | exact rh_87 | exact rh_88 | exact ((rh_n (by decide)).trans h109) | exact ((rh_n (by decide)).trans h110)) (by omega) (by omega) (by omega) ?_
          refine ma_iconst dX12_fits_122 ?_
          refine ma_kdiv dX12_fits_123 (by constructor <;> omega) (by constructor <;> omega) ?_
          refine ma_iconst dX12_fits_124 ?_
          refine ma_kmod dX12_fits_125 (by constructor <;> omega) (by constructor <;> omega) ?_
          refine ma_i2l dX12_fits_126 ?_
          refine ma_cV [_] dX12_fits_127 wX12_tell lX12_231 iX12_tell sX12_tell rfl (by first | exact rh_73 | exact ((rh_n (by decide)).trans h74) | exact rh_86 | exact rh_87 | exact rh_88 | exact ((rh_n (by decide)).trans h109) | exact ((rh_n (by decide)).trans h110)) (Nat.le_of_ble_eq_true rfl) ?_
          refine r_tell (_) rfl (by rw [iu_s]; decide) (iw_of (by omega) (by omega)) ?_
          rw [iu_s, iu_u]
          refine ma_aload_n dX12_fits_130 rfl ?_
          refine ma_aload_n dX12_fits_131 rfl ?_
          refine ma_getf dX12_fits_132 fX12_54 (by first | exact rh_73 | exact ((rh_n (by decide)).trans h74) | exact rh_86 | exact rh_87 | exact rh_88 | exact ((rh_n (by decide)).trans h109) | exact ((rh_n (by decide)).trans h110)) (by rfl) ?_
          refine ma_iload_n dX12_fits_135 rfl ?_
          refine ma_iald dX12_fits_136 (by first | exact rh_73 | exact ((rh_n (by decide)).trans h74) | exact rh_86 | exact rh_87 | exact rh_88 | exact ((rh_n (by decide)).trans h109) | exact ((rh_n (by decide)).trans h110)) (by omega) (by omega) (by omega) ?_
          refine ma_iconst dX12_fits_137 ?_
          refine ma_kmod dX12_fits_138 (by constructor <;> omega) (by constructor <;> omega) ?_
          refine ma_i2l dX12_fits_139 ?_
          refine ma_cV [_] dX12_fits_140 wX12_tell lX12_231 iX12_tell sX12_tell rfl (by first | exact rh_73 | exact ((rh_n (by decide)).trans h74) | exact rh_86 | exact rh_87 | exact rh_88 | exact ((rh_n (by decide)).trans h109) | exact ((rh_n (by decide)).trans h110)) (Nat.le_of_ble_eq_true rfl) ?_
          refine r_tell (_) rfl (by rw [iu_s]; decide) (iw_of (by omega) (by omega)) ?_
          rw [iu_s, iu_u]
          refine ma_iincN dX12_fits_143 rfl (by decide) rfl ?_
          refine ma_iincN dX12_fits_146 rfl (by decide) rfl ?_
          refine ma_goto 30 dX12_fits_149 rfl ?_
          exact ih (k + 1) _ _ _ _ _ (by omega) (by omega) (by omega) ff (by omega)
      · -- 94
        refine ma_goto 146 dX12_fits_94 rfl ?_
        refine ma_iincN dX12_fits_146 rfl (by decide) rfl ?_
        refine ma_goto 30 dX12_fits_149 rfl ?_
        exact ih (k + 1) nn s T _ _ (by omega) (by omega) (by omega) (fr_n k0 hR (fun z => hfl.elim (fun y => by omega) (fun y => y.2 z))) (by omega)
theorem c_X12_fits {h : ma_H} {nx d : Nat} {I : Nat → Int} {t hn : Int} {G Aa f F0 R0 fi0 A C : Int → Int} {Q : Option ma_V → ma_H → Nat → Prop} (h74 : h 74 = ci 33 Aa) (hG : VG t G) (hA : AG t G Aa) (h109 : h 109 = ci 8 A) (h110 : h 110 = ci 8 C) (e59 : I 59 = hn) (n0 : 0 ≤ hn ∧ hn ≤ 8) (hv : ∀ i, 0 ≤ i → i < hn → (0 ≤ A i ∧ A i ≤ 4) ∧ 0 ≤ C i ∧ C i ≤ 48 ∧ (A i = 3 → C i < 8)) (K : ∀ E P F R fi n nn s T, BQ t G E P F R → FE E fi n (16 * t) → FR (fun i => ∀ j, 0 ≤ j → j < hn → FT t G E P (A j) (C j) (fi i)) fi f n nn s T → Q (some (vi nn)) (rh h (iu (iu (iu I 5 0) 22 n) 4 s) T F R fi) nx) : ma_Ct mX12_fits (d + 7) 0 0 [vr 73] (rh h I f F0 R0 fi0) nx Q := by
  have ht := hG.1
  refine ma_Ct.of (by decide +kernel) (Nat.le_of_ble_eq_true rfl) ?_
  refine ma_aload_n dX12_fits_0 rfl ?_
  refine ma_iconst dX12_fits_1 ?_
  refine ma_puti dX12_fits_2 fX12_128 (by first | exact rh_73 | exact ((rh_n (by decide)).trans h74) | exact rh_86 | exact rh_87 | exact rh_88 | exact ((rh_n (by decide)).trans h109) | exact ((rh_n (by decide)).trans h110)) (Nat.le_of_ble_eq_true rfl) ?_
  rw [mo_5, rh_p]
  refine ma_aload_n dX12_fits_5 rfl ?_
  refine ma_aload_n dX12_fits_6 rfl ?_
  refine ma_getf dX12_fits_7 fX12_9 (by first | exact rh_73 | exact ((rh_n (by decide)).trans h74) | exact rh_86 | exact rh_87 | exact rh_88 | exact ((rh_n (by decide)).trans h109) | exact ((rh_n (by decide)).trans h110)) (by rfl) ?_
  refine ma_cV [_] dX12_fits_10 wX12_layJoined lX12_269 iX12_layJoined sX12_layJoined rfl (by first | exact rh_73 | exact ((rh_n (by decide)).trans h74) | exact rh_86 | exact rh_87 | exact rh_88 | exact ((rh_n (by decide)).trans h109) | exact ((rh_n (by decide)).trans h110)) (Nat.le_of_ble_eq_true rfl) ?_
  refine r_lj h74 hG hA (fun E P F R hB => ?_)
  refine ma_aload_n dX12_fits_13 rfl ?_
  refine ma_aload_n dX12_fits_14 rfl ?_
  refine ma_getf dX12_fits_15 fX12_9 (by first | exact rh_73 | exact ((rh_n (by decide)).trans h74) | exact rh_86 | exact rh_87 | exact rh_88 | exact ((rh_n (by decide)).trans h109) | exact ((rh_n (by decide)).trans h110)) (by rfl) ?_
  refine ma_cV [_] dX12_fits_18 wX12_layEdges lX12_309 iX12_layEdges sX12_layEdges rfl (by first | exact rh_73 | exact ((rh_n (by decide)).trans h74) | exact rh_86 | exact rh_87 | exact rh_88 | exact ((rh_n (by decide)).trans h109) | exact ((rh_n (by decide)).trans h110)) (Nat.le_of_ble_eq_true rfl) ?_
  refine r_le h74 hG hA hB (fun fi n n0_ hF => ?_)
  refine ma_iconst dX12_fits_21 ?_
  refine ma_istore_nN dX12_fits_22 (by decide) rfl ?_
  refine ma_aload_n dX12_fits_23 rfl ?_
  refine ma_iconst dX12_fits_24 ?_
  refine ma_puti dX12_fits_25 fX12_132 (by first | exact rh_73 | exact ((rh_n (by decide)).trans h74) | exact rh_86 | exact rh_87 | exact rh_88 | exact ((rh_n (by decide)).trans h109) | exact ((rh_n (by decide)).trans h110)) (Nat.le_of_ble_eq_true rfl) ?_
  rw [mo_4, rh_p]
  refine ma_iconst dX12_fits_28 ?_
  refine ma_istore_nN dX12_fits_29 (by decide) rfl ?_
  exact l_ft30 h74 hG hA hB h109 h110 e59 n0 hv n0_ hF (fun nn s T hR => K E P F R fi n nn s T hB hF hR) 50 0 0 0 f none none (by decide) (by have := hF.1; have := ct_in (cP E) (16 * t).toNat; omega) (by omega) ⟨rfl, Or.inl ⟨rfl, rfl, rfl⟩⟩ (by decide)
