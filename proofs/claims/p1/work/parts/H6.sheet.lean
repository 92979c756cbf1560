theorem kp_nh {h h' : ma_H} {l : List Nat} {L A B C : Int → Int} (a : 40 ∈ l) (b : 41 ∈ l) (c : 42 ∈ l) (e : 43 ∈ l) (k : kp h h' l) : kp h (nh h' L A B C) l := kp_up e (kp_up c (kp_up b (kp_up a k)))
theorem gm_L {L : Int → Int} {ties : Int} (h : LI 1 GM L (24 * 1) ties) {j : Int} (j0 : 0 ≤ j) (j1 : j < 4) : L j = -1 := by
  obtain ⟨r, r0, r1, e⟩ := h.2.2.1 (by decide)
  rw [← e j j0 (by omega)]
  unfold rowq brow
  rw [if_pos]
  unfold bq
  exact gm_n _
theorem gm_ct {L : Int → Int} (h : ∀ j, 0 ≤ j → j < 4 → L j = -1) : ct (fun j => L j < 0) (4 * 1 : Int).toNat = 4 := by
  have e0 : L 0 = -1 := h 0 (by decide) (by decide)
  have e1 : L 1 = -1 := h 1 (by decide) (by decide)
  have e2 : L 2 = -1 := h 2 (by decide) (by decide)
  have e3 : L 3 = -1 := h 3 (by decide) (by decide)
  rw [← nc_ct]
  show nc L 4 = 4
  have g : ∀ (n : Nat) (k : Int), (n : Int) = k → L k = -1 → nc L (n + 1) = nc L n + 1 := fun n k a b => by
    show nc L n + (if L n < 0 then 1 else 0) = _
    rw [a, b, if_pos (by decide)]
  rw [g 3 3 rfl e3, g 2 2 rfl e2, g 1 1 rfl e1, g 0 0 rfl e0]
  rfl
theorem c_X11_alikeF {h : ma_H} {d : Nat} {t u q0 : Int} {G F0 : Int → Int} {Q : Option ma_V → ma_H → Nat → Prop} (hx : h 0 = co 11 (xo q0)) (h1 : h 1 = co 8 [vi t, vr 2]) (h2 : h 2 = ci 32 G) (h5 : h 5 = co 8 [vi u, vr 6]) (h6 : h 6 = ci 32 F0) (hn : h 39 = co 2 [vr 40, vr 41, vr 42, vr 43]) (hS : SN h) (hG : VG t G) (hC : CN t G) (K : ∀ h' L ties, kp h h' (5 :: 6 :: [40, 41, 42, 43]) → LI t G L (24 * t) ties → Q (some (vi ties)) h' 1000000) : ma_Ct mX11_alike (d + 3) 0 0 [vr 0] h 1000000 Q := by
  refine ma_Ct.of (by decide +kernel) (Nat.le_of_ble_eq_true rfl) ?_
  refine ma_aload_n dX11_alike_0 rfl ?_
  refine ma_getf dX11_alike_1 fX11_19 (by first | assumption | exact (ma_up_n (by decide)).trans (by assumption) | exact (ma_up_n (by decide)).trans ((ma_up_n (by decide)).trans (by assumption))) (by rfl) ?_
  refine ma_aload_n dX11_alike_4 rfl ?_
  refine ma_getf dX11_alike_5 fX11_10 (by first | assumption | exact (ma_up_n (by decide)).trans (by assumption) | exact (ma_up_n (by decide)).trans ((ma_up_n (by decide)).trans (by assumption))) (by rfl) ?_
  refine ma_cV [_] dX11_alike_8 wX8_copy lX11_120 iX8_copy sX8_copy rfl (by first | assumption | exact (ma_up_n (by decide)).trans (by assumption) | exact (ma_up_n (by decide)).trans ((ma_up_n (by decide)).trans (by assumption))) (Nat.le_of_ble_eq_true rfl) ?_
  refine c_X8_copy h5 h6 h1 h2 (by decide) (by decide) (by decide) ?_
  refine ma_aload_n dX11_alike_11 rfl ?_
  refine ma_getf dX11_alike_12 fX11_61 (by first | assumption | exact (ma_up_n (by decide)).trans (by assumption) | exact (ma_up_n (by decide)).trans ((ma_up_n (by decide)).trans (by assumption))) (by rfl) ?_
  refine ma_aload_n dX11_alike_15 rfl ?_
  refine ma_getf dX11_alike_16 fX11_19 (by first | assumption | exact (ma_up_n (by decide)).trans (by assumption) | exact (ma_up_n (by decide)).trans ((ma_up_n (by decide)).trans (by assumption))) (by rfl) ?_
  refine ma_cV [_] dX11_alike_19 wX2_settle lX11_117 iX2_settle sX2_settle rfl (by first | assumption | exact (ma_up_n (by decide)).trans (by assumption) | exact (ma_up_n (by decide)).trans ((ma_up_n (by decide)).trans (by assumption))) (Nat.le_of_ble_eq_true rfl) ?_
  obtain ⟨L, A, B', C', n1, n2, n3, n4⟩ := hS
  rw [nh_of (h := (ma_up (ma_up h 5 (co 8 [vi t, vr 6])) 6 (ci 32 G))) ((ma_up_n (by decide)).trans ((ma_up_n (by decide)).trans n1)) ((ma_up_n (by decide)).trans ((ma_up_n (by decide)).trans n2)) ((ma_up_n (by decide)).trans ((ma_up_n (by decide)).trans n3)) ((ma_up_n (by decide)).trans ((ma_up_n (by decide)).trans n4))]
  refine c_X2_settle (fun L A B C => (nh_n (by omega)).trans ((ma_up_n (by decide)).trans ((ma_up_n (by decide)).trans hn))) (fun L A B C => (nh_n (by omega)).trans ((ma_up_n (by decide)).trans (ma_up_s _ _ _))) (fun L A B C => (nh_n (by omega)).trans (ma_up_s _ _ _)) hG hC (fun L A B' C' ties hLI => ?_)
  exact ma_iret dX11_alike_22 rfl (K _ L ties (kp_up (by simp) (kp_nh (by simp) (by simp) (by simp) (by simp) (kp_up (by simp) (kp_up (by simp) (kp_rf _ _))))) hLI)
theorem c_X11_sheetEntry {h : ma_H} {nx d : Nat} {k x : Int} {Q : Option ma_V → ma_H → Nat → Prop} (hk : rg k) (K : ∀ y, Q (some (vi y)) h nx) : ma_Ct mX11_sheetEntry d 0 0 [vi k, vi x] h nx Q := by
  unfold rg at hk
  refine ma_Ct.of (by decide +kernel) (Nat.le_of_ble_eq_true rfl) ?_
  refine ma_iload_n dX11_sheetEntry_0 rfl ?_
  refine ma_rif_ne 7 dX11_sheetEntry_1 rfl (by constructor <;> omega) (fun c1 => ?_) (fun c1 => ?_)
  · -- 7
    refine ma_iload_n dX11_sheetEntry_7 rfl ?_
    refine ma_iconst dX11_sheetEntry_8 ?_
    refine ma_rcmp_ne 17 dX11_sheetEntry_9 rfl (by constructor <;> omega) (by constructor <;> omega) (fun c9 => ?_) (fun c9 => ?_)
    · -- 17
      refine ma_iload_n dX11_sheetEntry_17 rfl ?_
      exact ma_iret dX11_sheetEntry_18 rfl (K _)
    · -- 12
      refine ma_iload_n dX11_sheetEntry_12 rfl ?_
      refine ma_i2s dX11_sheetEntry_13 ?_
      refine ma_goto 18 dX11_sheetEntry_14 rfl ?_
      exact ma_iret dX11_sheetEntry_18 rfl (K _)
  · -- 4
    refine ma_iload_n dX11_sheetEntry_4 rfl ?_
    refine ma_i2b dX11_sheetEntry_5 ?_
    exact ma_iret dX11_sheetEntry_6 rfl (K _)
theorem c_X8_hangsTogether1 {h : ma_H} {a nx d : Nat} {r : ma_V} {Q : Option ma_V → ma_H → Nat → Prop} (ha : h a = co 8 [vi 1, r]) (K : Q (some (vi 1)) h nx) : ma_Ct mX8_hangsTogether d 0 0 [vr a] h nx Q := by
  refine ma_Ct.of (by decide +kernel) (Nat.le_of_ble_eq_true rfl) ?_
  refine ma_iconst dX8_hangsTogether_0 ?_
  refine ma_istore_nN dX8_hangsTogether_1 (by decide) rfl ?_
  refine ma_iconst dX8_hangsTogether_2 ?_
  refine ma_istore_nN dX8_hangsTogether_3 (by decide) rfl ?_
  refine ma_iload_n dX8_hangsTogether_4 rfl ?_
  refine ma_aload_n dX8_hangsTogether_5 rfl ?_
  refine ma_getf dX8_hangsTogether_6 fX8_9 (by exact ha) (by rfl) ?_
  refine ma_rcmp_ge 69 dX8_hangsTogether_9 rfl (by decide) (by decide) (fun c9 => ?_) (fun c9 => absurd c9 (by decide))
  refine ma_iload_n dX8_hangsTogether_69 rfl ?_
  refine ma_iconst dX8_hangsTogether_70 ?_
  refine ma_aload_n dX8_hangsTogether_71 rfl ?_
  refine ma_getf dX8_hangsTogether_72 fX8_9 (by exact ha) (by rfl) ?_
  refine ma_ishl dX8_hangsTogether_75 ?_
  rw [show bi_shl 1 1 = 2 from by decide +kernel]
  refine ma_iconst dX8_hangsTogether_76 ?_
  refine ma_isub dX8_hangsTogether_77 ?_
  refine ma_rcmp_ne 85 dX8_hangsTogether_78 rfl (by decide) (by decide) (fun c78 => absurd rfl c78) (fun c78 => ?_)
  refine ma_iconst dX8_hangsTogether_81 ?_
  refine ma_goto 86 dX8_hangsTogether_82 rfl ?_
  exact ma_zret dX8_hangsTogether_86 rfl (Or.inr rfl) K
theorem l_sh46 {h : ma_H} {nx d : Nat} {k n f p q0 : Int} {Q : Option ma_V → ma_H → Nat → Prop} (hx : h 0 = co 11 (xo q0)) (h1 : h 1 = co 8 [vi 1, vr 2]) (hk : rg k) (hn0 : rg n) (K : ∀ i, ma_J none mX11_sheet (d + 3) 0 0 95 [some (vr 0), some (vi k), some (vi n), some (vi f), some (vi p), some (vi i)] [] (ma_up (ma_up h 5 (co 8 [vi 1, vr 6])) 6 (ci 32 GM)) nx Q) :
    ∀ (m : Nat) (i : Int), (0 ≤ i) → (i ≤ 4) → (4 - i < m) → ma_J none mX11_sheet (d + 3) 0 0 46 [some (vr 0), some (vi k), some (vi n), some (vi f), some (vi p), some (vi i)] [] (ma_up (ma_up h 5 (co 8 [vi 1, vr 6])) 6 (ci 32 GM)) nx Q := by
  unfold rg at hn0
  intro m
  induction m with
  | zero => intro i i0 i1 hm; omega
  | succ m ih =>
    intro i i0 i1 hm
    refine ma_iload dX11_sheet_46 rfl ?_
    refine ma_iconst dX11_sheet_48 ?_
    refine ma_aload_n dX11_sheet_49 rfl ?_
    refine ma_getf dX11_sheet_50 fX11_10 (by first | exact ((ma_up_n (by decide)).trans ((ma_up_n (by decide)).trans hx)) | exact ((ma_up_n (by decide)).trans ((ma_up_n (by decide)).trans h1)) | exact (ma_up_n (by decide)).trans (ma_up_s _ _ _) | exact ma_up_s _ _ _) (by rfl) ?_
    refine ma_getf dX11_sheet_53 fX11_123 (by first | exact ((ma_up_n (by decide)).trans ((ma_up_n (by decide)).trans hx)) | exact ((ma_up_n (by decide)).trans ((ma_up_n (by decide)).trans h1)) | exact (ma_up_n (by decide)).trans (ma_up_s _ _ _) | exact ma_up_s _ _ _) (by rfl) ?_
    refine ma_imul dX11_sheet_56 ?_
    refine ma_rcmp_ge 95 dX11_sheet_57 rfl (by constructor <;> omega) (by constructor <;> omega) (fun c57 => ?_) (fun c57 => ?_)
    · -- 95
      exact K i
    · -- 60
      refine ma_iload dX11_sheet_60 rfl ?_
      refine ma_iload_n dX11_sheet_62 rfl ?_
      refine ma_rcmp_ge 80 dX11_sheet_63 rfl (by constructor <;> omega) (by constructor <;> omega) (fun c63 => ?_) (fun c63 => ?_)
      · -- 80
        refine ma_aload_n dX11_sheet_80 rfl ?_
        refine ma_getf dX11_sheet_81 fX11_19 (by first | exact ((ma_up_n (by decide)).trans ((ma_up_n (by decide)).trans hx)) | exact ((ma_up_n (by decide)).trans ((ma_up_n (by decide)).trans h1)) | exact (ma_up_n (by decide)).trans (ma_up_s _ _ _) | exact ma_up_s _ _ _) (by rfl) ?_
        refine ma_iload dX11_sheet_84 rfl ?_
        refine ma_cV [_] dX11_sheet_86 wX8_free lX11_158 iX8_free sX8_free rfl (by first | exact ((ma_up_n (by decide)).trans ((ma_up_n (by decide)).trans hx)) | exact ((ma_up_n (by decide)).trans ((ma_up_n (by decide)).trans h1)) | exact (ma_up_n (by decide)).trans (ma_up_s _ _ _) | exact ma_up_s _ _ _) (Nat.le_of_ble_eq_true rfl) ?_
        refine c_X8_free ((ma_up_n (by decide)).trans (ma_up_s _ _ _)) (ma_up_s _ _ _) (by decide) ⟨i0, by omega⟩ (Or.inl rfl) (fun z => ?_) (fun z => absurd z (Int.not_le.mpr (gm_n i)))
        refine ma_iincN dX11_sheet_89 rfl (by decide) rfl ?_
        refine ma_goto 46 dX11_sheet_92 rfl ?_
        exact ih (i + 1) (by omega) (by omega) (by omega)
      · -- 66
        refine ma_iload_n dX11_sheet_66 rfl ?_
        refine ma_iload_n dX11_sheet_67 rfl ?_
        refine ma_iload dX11_sheet_68 rfl ?_
        refine ma_iload dX11_sheet_70 rfl ?_
        refine ma_imul dX11_sheet_72 ?_
        refine ma_iadd dX11_sheet_73 ?_
        refine ma_cS [_, _] dX11_sheet_74 wX11_sheetEntry lX11_154 tX11_sheetEntry (Nat.le_of_ble_eq_true rfl) ?_
        refine c_X11_sheetEntry hk (fun y => ?_)
        refine ma_if_ge 89 dX11_sheet_77 rfl (fun c77 => ?_) (fun c77 => ?_)
        · -- 89
          refine ma_iincN dX11_sheet_89 rfl (by decide) rfl ?_
          refine ma_goto 46 dX11_sheet_92 rfl ?_
          exact ih (i + 1) (by omega) (by omega) (by omega)
        · -- 80
          refine ma_aload_n dX11_sheet_80 rfl ?_
          refine ma_getf dX11_sheet_81 fX11_19 (by first | exact ((ma_up_n (by decide)).trans ((ma_up_n (by decide)).trans hx)) | exact ((ma_up_n (by decide)).trans ((ma_up_n (by decide)).trans h1)) | exact (ma_up_n (by decide)).trans (ma_up_s _ _ _) | exact ma_up_s _ _ _) (by rfl) ?_
          refine ma_iload dX11_sheet_84 rfl ?_
          refine ma_cV [_] dX11_sheet_86 wX8_free lX11_158 iX8_free sX8_free rfl (by first | exact ((ma_up_n (by decide)).trans ((ma_up_n (by decide)).trans hx)) | exact ((ma_up_n (by decide)).trans ((ma_up_n (by decide)).trans h1)) | exact (ma_up_n (by decide)).trans (ma_up_s _ _ _) | exact ma_up_s _ _ _) (Nat.le_of_ble_eq_true rfl) ?_
          refine c_X8_free ((ma_up_n (by decide)).trans (ma_up_s _ _ _)) (ma_up_s _ _ _) (by decide) ⟨i0, by omega⟩ (Or.inl rfl) (fun z => ?_) (fun z => absurd z (Int.not_le.mpr (gm_n i)))
          refine ma_iincN dX11_sheet_89 rfl (by decide) rfl ?_
          refine ma_goto 46 dX11_sheet_92 rfl ?_
          exact ih (i + 1) (by omega) (by omega) (by omega)
theorem cpy_in {L : Int → Int} {j : Int} (j0 : 0 ≤ j) (j1 : j < 4) : ma_cpy L GM 0 0 (4 * 1) j = L j := by
  unfold ma_cpy
  rw [if_pos (by omega)]
  congr 1
  omega
theorem cpy_rg {L : Int → Int} {ties j : Int} (h : LI 1 GM L (24 * 1) ties) (j0 : 0 ≤ j) (j1 : j < 32) : rg (ma_cpy L GM 0 0 (4 * 1) j) := by
  by_cases z : j < 4
  · rw [cpy_in j0 z]
    exact h.1 j j0 j1
  · unfold ma_cpy
    rw [if_neg (by omega)]
    show rg (-1)
    unfold rg
    decide
set_option maxHeartbeats 2000000 in
theorem l_sh95 {h : ma_H} {d : Nat} {k n f p q0 i u : Int} {F0 : Int → Int} {Q : Option ma_V → ma_H → Nat → Prop} (hx : h 0 = co 11 (xo q0)) (h1 : h 1 = co 8 [vi 1, vr 2]) (h2 : h 2 = ci 32 GM) (h5 : h 5 = co 8 [vi u, vr 6]) (h6 : h 6 = ci 32 F0) (hn : h 39 = co 2 [vr 40, vr 41, vr 42, vr 43]) (hS : SN h) (K : ∀ h', kp h h' (1 :: 2 :: 5 :: 6 :: [40, 41, 42, 43]) → Q (some (vi 4)) h' 1000000) : ma_J none mX11_sheet (d + 3) 0 0 95 [some (vr 0), some (vi k), some (vi n), some (vi f), some (vi p), some (vi i)] [] (ma_up (ma_up h 5 (co 8 [vi 1, vr 6])) 6 (ci 32 GM)) 1000000 Q := by
  refine ma_aload_n dX11_sheet_95 rfl ?_
  refine ma_getf dX11_sheet_96 fX11_19 (by first | exact ((ma_up_n (by decide)).trans ((ma_up_n (by decide)).trans hx)) | exact ((ma_up_n (by decide)).trans ((nh_n (by omega)).trans ((ma_up_n (by decide)).trans ((ma_up_n (by decide)).trans hx)))) | exact ((ma_up_n (by decide)).trans ((ma_up_n (by decide)).trans hn)) | exact (ma_up_n (by decide)).trans (ma_up_s _ _ _) | exact ((ma_up_n (by decide)).trans ((nh_n (by omega)).trans ((ma_up_n (by decide)).trans (ma_up_s _ _ _)))) | exact ((ma_up_n (by decide)).trans ((nh_n (by omega)).trans ((ma_up_n (by decide)).trans ((ma_up_n (by decide)).trans h1)))) | exact (ma_up_n (by decide)).trans ((ma_up_n (by decide)).trans ((ma_up_n (by decide)).trans ((nh_n (by omega)).trans ((ma_up_n (by decide)).trans ((ma_up_n (by decide)).trans hx)))))) (by rfl) ?_
  refine ma_cV [] dX11_sheet_99 wX8_hangsTogether lX11_109 iX8_hangsTogether sX8_hangsTogether rfl (by first | exact ((ma_up_n (by decide)).trans ((ma_up_n (by decide)).trans hx)) | exact ((ma_up_n (by decide)).trans ((nh_n (by omega)).trans ((ma_up_n (by decide)).trans ((ma_up_n (by decide)).trans hx)))) | exact ((ma_up_n (by decide)).trans ((ma_up_n (by decide)).trans hn)) | exact (ma_up_n (by decide)).trans (ma_up_s _ _ _) | exact ((ma_up_n (by decide)).trans ((nh_n (by omega)).trans ((ma_up_n (by decide)).trans (ma_up_s _ _ _)))) | exact ((ma_up_n (by decide)).trans ((nh_n (by omega)).trans ((ma_up_n (by decide)).trans ((ma_up_n (by decide)).trans h1)))) | exact (ma_up_n (by decide)).trans ((ma_up_n (by decide)).trans ((ma_up_n (by decide)).trans ((nh_n (by omega)).trans ((ma_up_n (by decide)).trans ((ma_up_n (by decide)).trans hx)))))) (Nat.le_of_ble_eq_true rfl) ?_
  refine c_X8_hangsTogether1 ((ma_up_n (by decide)).trans (ma_up_s _ _ _)) ?_
  refine ma_rif_ne 108 dX11_sheet_102 rfl (by decide) (fun c102 => ?_) (fun c102 => absurd c102 (by decide))
  refine ma_aload_n dX11_sheet_108 rfl ?_
  refine ma_getf dX11_sheet_109 fX11_61 (by first | exact ((ma_up_n (by decide)).trans ((ma_up_n (by decide)).trans hx)) | exact ((ma_up_n (by decide)).trans ((nh_n (by omega)).trans ((ma_up_n (by decide)).trans ((ma_up_n (by decide)).trans hx)))) | exact ((ma_up_n (by decide)).trans ((ma_up_n (by decide)).trans hn)) | exact (ma_up_n (by decide)).trans (ma_up_s _ _ _) | exact ((ma_up_n (by decide)).trans ((nh_n (by omega)).trans ((ma_up_n (by decide)).trans (ma_up_s _ _ _)))) | exact ((ma_up_n (by decide)).trans ((nh_n (by omega)).trans ((ma_up_n (by decide)).trans ((ma_up_n (by decide)).trans h1)))) | exact (ma_up_n (by decide)).trans ((ma_up_n (by decide)).trans ((ma_up_n (by decide)).trans ((nh_n (by omega)).trans ((ma_up_n (by decide)).trans ((ma_up_n (by decide)).trans hx)))))) (by rfl) ?_
  refine ma_aload_n dX11_sheet_112 rfl ?_
  refine ma_getf dX11_sheet_113 fX11_19 (by first | exact ((ma_up_n (by decide)).trans ((ma_up_n (by decide)).trans hx)) | exact ((ma_up_n (by decide)).trans ((nh_n (by omega)).trans ((ma_up_n (by decide)).trans ((ma_up_n (by decide)).trans hx)))) | exact ((ma_up_n (by decide)).trans ((ma_up_n (by decide)).trans hn)) | exact (ma_up_n (by decide)).trans (ma_up_s _ _ _) | exact ((ma_up_n (by decide)).trans ((nh_n (by omega)).trans ((ma_up_n (by decide)).trans (ma_up_s _ _ _)))) | exact ((ma_up_n (by decide)).trans ((nh_n (by omega)).trans ((ma_up_n (by decide)).trans ((ma_up_n (by decide)).trans h1)))) | exact (ma_up_n (by decide)).trans ((ma_up_n (by decide)).trans ((ma_up_n (by decide)).trans ((nh_n (by omega)).trans ((ma_up_n (by decide)).trans ((ma_up_n (by decide)).trans hx)))))) (by rfl) ?_
  refine ma_cV [_] dX11_sheet_116 wX2_settle lX11_117 iX2_settle sX2_settle rfl (by first | exact ((ma_up_n (by decide)).trans ((ma_up_n (by decide)).trans hx)) | exact ((ma_up_n (by decide)).trans ((nh_n (by omega)).trans ((ma_up_n (by decide)).trans ((ma_up_n (by decide)).trans hx)))) | exact ((ma_up_n (by decide)).trans ((ma_up_n (by decide)).trans hn)) | exact (ma_up_n (by decide)).trans (ma_up_s _ _ _) | exact ((ma_up_n (by decide)).trans ((nh_n (by omega)).trans ((ma_up_n (by decide)).trans (ma_up_s _ _ _)))) | exact ((ma_up_n (by decide)).trans ((nh_n (by omega)).trans ((ma_up_n (by decide)).trans ((ma_up_n (by decide)).trans h1)))) | exact (ma_up_n (by decide)).trans ((ma_up_n (by decide)).trans ((ma_up_n (by decide)).trans ((nh_n (by omega)).trans ((ma_up_n (by decide)).trans ((ma_up_n (by decide)).trans hx)))))) (Nat.le_of_ble_eq_true rfl) ?_
  obtain ⟨L, A, B', C', n1, n2, n3, n4⟩ := hS
  rw [nh_of (h := (ma_up (ma_up h 5 (co 8 [vi 1, vr 6])) 6 (ci 32 GM))) ((ma_up_n (by decide)).trans ((ma_up_n (by decide)).trans n1)) ((ma_up_n (by decide)).trans ((ma_up_n (by decide)).trans n2)) ((ma_up_n (by decide)).trans ((ma_up_n (by decide)).trans n3)) ((ma_up_n (by decide)).trans ((ma_up_n (by decide)).trans n4))]
  refine c_X2_settle (fun L A B C => (nh_n (by omega)).trans ((ma_up_n (by decide)).trans ((ma_up_n (by decide)).trans hn))) (fun L A B C => (nh_n (by omega)).trans ((ma_up_n (by decide)).trans (ma_up_s _ _ _))) (fun L A B C => (nh_n (by omega)).trans (ma_up_s _ _ _)) gm_vg gm_cn (fun L A B' C' ties hLI => ?_)
  refine ma_pop dX11_sheet_119 rfl ?_
  refine ma_aload_n dX11_sheet_120 rfl ?_
  refine ma_getf dX11_sheet_121 fX11_10 (by first | exact ((ma_up_n (by decide)).trans ((ma_up_n (by decide)).trans hx)) | exact ((ma_up_n (by decide)).trans ((nh_n (by omega)).trans ((ma_up_n (by decide)).trans ((ma_up_n (by decide)).trans hx)))) | exact ((ma_up_n (by decide)).trans ((ma_up_n (by decide)).trans hn)) | exact (ma_up_n (by decide)).trans (ma_up_s _ _ _) | exact ((ma_up_n (by decide)).trans ((nh_n (by omega)).trans ((ma_up_n (by decide)).trans (ma_up_s _ _ _)))) | exact ((ma_up_n (by decide)).trans ((nh_n (by omega)).trans ((ma_up_n (by decide)).trans ((ma_up_n (by decide)).trans h1)))) | exact (ma_up_n (by decide)).trans ((ma_up_n (by decide)).trans ((ma_up_n (by decide)).trans ((nh_n (by omega)).trans ((ma_up_n (by decide)).trans ((ma_up_n (by decide)).trans hx)))))) (by rfl) ?_
  refine ma_aload_n dX11_sheet_124 rfl ?_
  refine ma_getf dX11_sheet_125 fX11_19 (by first | exact ((ma_up_n (by decide)).trans ((ma_up_n (by decide)).trans hx)) | exact ((ma_up_n (by decide)).trans ((nh_n (by omega)).trans ((ma_up_n (by decide)).trans ((ma_up_n (by decide)).trans hx)))) | exact ((ma_up_n (by decide)).trans ((ma_up_n (by decide)).trans hn)) | exact (ma_up_n (by decide)).trans (ma_up_s _ _ _) | exact ((ma_up_n (by decide)).trans ((nh_n (by omega)).trans ((ma_up_n (by decide)).trans (ma_up_s _ _ _)))) | exact ((ma_up_n (by decide)).trans ((nh_n (by omega)).trans ((ma_up_n (by decide)).trans ((ma_up_n (by decide)).trans h1)))) | exact (ma_up_n (by decide)).trans ((ma_up_n (by decide)).trans ((ma_up_n (by decide)).trans ((nh_n (by omega)).trans ((ma_up_n (by decide)).trans ((ma_up_n (by decide)).trans hx)))))) (by rfl) ?_
  refine ma_cV [_] dX11_sheet_128 wX8_copy lX11_120 iX8_copy sX8_copy rfl (by first | exact ((ma_up_n (by decide)).trans ((ma_up_n (by decide)).trans hx)) | exact ((ma_up_n (by decide)).trans ((nh_n (by omega)).trans ((ma_up_n (by decide)).trans ((ma_up_n (by decide)).trans hx)))) | exact ((ma_up_n (by decide)).trans ((ma_up_n (by decide)).trans hn)) | exact (ma_up_n (by decide)).trans (ma_up_s _ _ _) | exact ((ma_up_n (by decide)).trans ((nh_n (by omega)).trans ((ma_up_n (by decide)).trans (ma_up_s _ _ _)))) | exact ((ma_up_n (by decide)).trans ((nh_n (by omega)).trans ((ma_up_n (by decide)).trans ((ma_up_n (by decide)).trans h1)))) | exact (ma_up_n (by decide)).trans ((ma_up_n (by decide)).trans ((ma_up_n (by decide)).trans ((nh_n (by omega)).trans ((ma_up_n (by decide)).trans ((ma_up_n (by decide)).trans hx)))))) (Nat.le_of_ble_eq_true rfl) ?_
  refine c_X8_copy ((ma_up_n (by decide)).trans ((nh_n (by omega)).trans ((ma_up_n (by decide)).trans ((ma_up_n (by decide)).trans h1)))) ((ma_up_n (by decide)).trans ((nh_n (by omega)).trans ((ma_up_n (by decide)).trans ((ma_up_n (by decide)).trans h2)))) ((ma_up_n (by decide)).trans ((nh_n (by omega)).trans ((ma_up_n (by decide)).trans (ma_up_s _ _ _)))) (ma_up_s _ _ _) (by decide) (by decide) (by decide) ?_
  refine ma_aload_n dX11_sheet_131 rfl ?_
  refine ma_getf dX11_sheet_132 fX11_10 (by first | exact ((ma_up_n (by decide)).trans ((ma_up_n (by decide)).trans hx)) | exact ((ma_up_n (by decide)).trans ((nh_n (by omega)).trans ((ma_up_n (by decide)).trans ((ma_up_n (by decide)).trans hx)))) | exact ((ma_up_n (by decide)).trans ((ma_up_n (by decide)).trans hn)) | exact (ma_up_n (by decide)).trans (ma_up_s _ _ _) | exact ((ma_up_n (by decide)).trans ((nh_n (by omega)).trans ((ma_up_n (by decide)).trans (ma_up_s _ _ _)))) | exact ((ma_up_n (by decide)).trans ((nh_n (by omega)).trans ((ma_up_n (by decide)).trans ((ma_up_n (by decide)).trans h1)))) | exact (ma_up_n (by decide)).trans ((ma_up_n (by decide)).trans ((ma_up_n (by decide)).trans ((nh_n (by omega)).trans ((ma_up_n (by decide)).trans ((ma_up_n (by decide)).trans hx)))))) (by rfl) ?_
  refine ma_cV [] dX11_sheet_135 wX8_freeFaces lX11_162 iX8_freeFaces sX8_freeFaces rfl (by first | exact ((ma_up_n (by decide)).trans ((ma_up_n (by decide)).trans hx)) | exact ((ma_up_n (by decide)).trans ((nh_n (by omega)).trans ((ma_up_n (by decide)).trans ((ma_up_n (by decide)).trans hx)))) | exact ((ma_up_n (by decide)).trans ((ma_up_n (by decide)).trans hn)) | exact (ma_up_n (by decide)).trans (ma_up_s _ _ _) | exact ((ma_up_n (by decide)).trans ((nh_n (by omega)).trans ((ma_up_n (by decide)).trans (ma_up_s _ _ _)))) | exact ((ma_up_n (by decide)).trans ((nh_n (by omega)).trans ((ma_up_n (by decide)).trans ((ma_up_n (by decide)).trans h1)))) | exact (ma_up_n (by decide)).trans ((ma_up_n (by decide)).trans ((ma_up_n (by decide)).trans ((nh_n (by omega)).trans ((ma_up_n (by decide)).trans ((ma_up_n (by decide)).trans hx)))))) (Nat.le_of_ble_eq_true rfl) ?_
  refine c_X8_freeFaces ((ma_up_n (by decide)).trans (ma_up_s _ _ _)) (ma_up_s _ _ _) (by decide) (fun j a b => cpy_rg hLI a b) ?_
  rw [nc_ct, gm_ct (fun j a b => by rw [cpy_in a (by omega)]; exact gm_L hLI a b)]
  exact ma_iret dX11_sheet_138 rfl (K _ (kp_up (by simp) (kp_up (by simp) (kp_up (by simp) (kp_nh (by simp) (by simp) (by simp) (by simp) (kp_up (by simp) (kp_up (by simp) (kp_rf _ _))))))))
theorem c_X11_sheet0 {h : ma_H} {d : Nat} {k n f p q0 u : Int} {F0 : Int → Int} {Q : Option ma_V → ma_H → Nat → Prop} (hx : h 0 = co 11 (xo q0)) (h1 : h 1 = co 8 [vi 1, vr 2]) (h2 : h 2 = ci 32 GM) (h5 : h 5 = co 8 [vi u, vr 6]) (h6 : h 6 = ci 32 F0) (hn : h 39 = co 2 [vr 40, vr 41, vr 42, vr 43]) (hS : SN h) (hk : rg k) (hn0 : rg n) (K1 : k < 0 ∨ 3 < k ∨ 32 < n → Q (some (vi (-1))) h 1000000) (K3 : k = 3 ∧ n ≤ 32 → Q (some (vi (-3))) h 1000000) (K2 : (0 ≤ k ∧ k < 3) ∧ n < 0 → Q (some (vi (-2))) h 1000000) (K : (0 ≤ k ∧ k < 3) ∧ 0 ≤ n ∧ n ≤ 32 → ∀ h', kp h h' (1 :: 2 :: 5 :: 6 :: [40, 41, 42, 43]) → Q (some (vi 4)) h' 1000000) : ma_Ct mX11_sheet (d + 3) 0 0 [vr 0, vi k, vi n, vi f, vi p] h 1000000 Q := by
  have hk' := hk
  have hn' := hn0
  unfold rg at hk' hn'
  refine ma_Ct.of (by decide +kernel) (Nat.le_of_ble_eq_true rfl) ?_
  refine ma_iload_n dX11_sheet_0 rfl ?_
  refine ma_rif_lt 15 dX11_sheet_1 rfl (by constructor <;> omega) (fun c1 => ?_) (fun c1 => ?_)
  · -- 15
    refine ma_iconst dX11_sheet_15 ?_
    exact ma_iret dX11_sheet_16 rfl (K1 (by omega))
  · -- 4
    refine ma_iload_n dX11_sheet_4 rfl ?_
    refine ma_iconst dX11_sheet_5 ?_
    refine ma_rcmp_gt 15 dX11_sheet_6 rfl (by constructor <;> omega) (by constructor <;> omega) (fun c6 => ?_) (fun c6 => ?_)
    · -- 15
      refine ma_iconst dX11_sheet_15 ?_
      exact ma_iret dX11_sheet_16 rfl (K1 (by omega))
    · -- 9
      refine ma_iload_n dX11_sheet_9 rfl ?_
      refine ma_bipush dX11_sheet_10 ?_
      refine ma_rcmp_le 17 dX11_sheet_12 rfl (by constructor <;> omega) (by constructor <;> omega) (fun c12 => ?_) (fun c12 => ?_)
      · -- 17
        refine ma_iload_n dX11_sheet_17 rfl ?_
        refine ma_iconst dX11_sheet_18 ?_
        refine ma_rcmp_ne 25 dX11_sheet_19 rfl (by constructor <;> omega) (by constructor <;> omega) (fun c19 => ?_) (fun c19 => ?_)
        · -- 25
          refine ma_iload_n dX11_sheet_25 rfl ?_
          refine ma_rif_ge 32 dX11_sheet_26 rfl (by constructor <;> omega) (fun c26 => ?_) (fun c26 => ?_)
          · -- 32
            refine ma_aload_n dX11_sheet_32 rfl ?_
            refine ma_getf dX11_sheet_33 fX11_19 (by first | exact hx | exact h1 | exact h5) (by rfl) ?_
            refine ma_aload_n dX11_sheet_36 rfl ?_
            refine ma_getf dX11_sheet_37 fX11_10 (by first | exact hx | exact h1 | exact h5) (by rfl) ?_
            refine ma_cV [_] dX11_sheet_40 wX8_copy lX11_120 iX8_copy sX8_copy rfl (by first | exact hx | exact h1 | exact h5) (Nat.le_of_ble_eq_true rfl) ?_
            refine c_X8_copy h5 h6 h1 h2 (by decide) (by decide) (by decide) ?_
            refine ma_iconst dX11_sheet_43 ?_
            refine ma_istoreN dX11_sheet_44 (by decide) rfl ?_
            exact l_sh46 hx h1 hk hn0 (fun i => l_sh95 hx h1 h2 h5 h6 hn hS (K (by omega))) 5 0 (by decide) (by decide) (by decide)
          · -- 29
            refine ma_bipush dX11_sheet_29 ?_
            exact ma_iret dX11_sheet_31 rfl (K2 (by omega))
        · -- 22
          refine ma_bipush dX11_sheet_22 ?_
          exact ma_iret dX11_sheet_24 rfl (K3 (by omega))
      · -- 15
        refine ma_iconst dX11_sheet_15 ?_
        exact ma_iret dX11_sheet_16 rfl (K1 (by omega))
theorem l_sm59 {h : ma_H} {nx d : Nat} {k n f p : Int} {J : Nat → Int} {Aa : Int → Int} {Q : Option ma_V → ma_H → Nat → Prop} (e73 : h 73 = co 12 (mo J)) (e74 : h 74 = ci 33 Aa) (e85 : h 85 = ci 33 Aa) (hA : AG 1 GM Aa) (hk : rg k) (hn0 : rg n) (K : ∀ v i a b c, ma_J none mX12_sheet (d + 4) 0 0 187 [some (vr 73), some (vi k), some (vi n), some (vi f), some (vi p), some (vi v), some (vi i), a, b, c] [] h nx Q) :
    ∀ (m : Nat) (i : Int) (v : Int) (a : Option ma_V) (b : Option ma_V) (c : Option ma_V), (0 ≤ i) → (i ≤ 4) → (4 - i < m) → ma_J none mX12_sheet (d + 4) 0 0 59 [some (vr 73), some (vi k), some (vi n), some (vi f), some (vi p), some (vi v), some (vi i), a, b, c] [] h nx Q := by
  unfold rg at hn0 hk
  intro m
  induction m with
  | zero => intro i v a b c i0 i1 hm; omega
  | succ m ih =>
    intro i v a b c i0 i1 hm
    refine ma_iload dX12_sheet_59 rfl ?_
    refine ma_iconst dX12_sheet_61 ?_
    refine ma_aload_n dX12_sheet_62 rfl ?_
    refine ma_getf dX12_sheet_63 fX12_9 (by first | exact e73 | exact e74 | exact e85) (by rfl) ?_
    refine ma_iconst dX12_sheet_66 ?_
    refine ma_iald dX12_sheet_67 (by first | exact e73 | exact e74 | exact e85) (by omega) (by omega) (by omega) ?_
    rw [hA.1]
    refine ma_imul dX12_sheet_68 ?_
    refine ma_rcmp_ge 187 dX12_sheet_69 rfl (by constructor <;> omega) (by constructor <;> omega) (fun c69 => ?_) (fun c69 => ?_)
    · -- 187
      exact K v i a b c
    · -- 72
      refine ma_iload_n dX12_sheet_72 rfl ?_
      refine ma_rif_ne 82 dX12_sheet_73 rfl (by constructor <;> omega) (fun c73 => ?_) (fun c73 => ?_)
      · -- 82
        refine ma_iload_n dX12_sheet_82 rfl ?_
        refine ma_iconst dX12_sheet_83 ?_
        refine ma_rcmp_ne 93 dX12_sheet_84 rfl (by constructor <;> omega) (by constructor <;> omega) (fun c84 => ?_) (fun c84 => ?_)
        · -- 93
          refine ma_iload dX12_sheet_93 rfl ?_
          refine ma_istoreN dX12_sheet_95 (by decide) rfl ?_
          refine ma_iload dX12_sheet_97 rfl ?_
          refine ma_iconst dX12_sheet_99 ?_
          refine ma_kdiv dX12_sheet_100 (by constructor <;> omega) (by constructor <;> omega) ?_
          refine ma_istoreN dX12_sheet_101 (by decide) rfl ?_
          refine ma_aload_n dX12_sheet_103 rfl ?_
          refine ma_getf dX12_sheet_104 fX12_45 (by first | exact e73 | exact e74 | exact e85) (by rfl) ?_
          refine ma_iload dX12_sheet_107 rfl ?_
          refine ma_iload dX12_sheet_109 rfl ?_
          refine ma_iconst dX12_sheet_111 ?_
          refine ma_kmod dX12_sheet_112 (by constructor <;> omega) (by constructor <;> omega) ?_
          refine ma_cS [_, _, _] dX12_sheet_113 wX12_glue lX12_150 tX12_glue (Nat.le_of_ble_eq_true rfl) ?_
          refine c_X12_glue e85 (by omega) (by omega) ?_
          rw [show (1 + 4 * (i / 4) + i % 4 : Int) = 1 + i by omega, hA.2 i i0 (by omega), show cv (GM i) = -1 from rfl]
          refine ma_istoreN dX12_sheet_116 (by decide) rfl ?_
          refine ma_iload dX12_sheet_118 rfl ?_
          refine ma_iload_n dX12_sheet_120 rfl ?_
          refine ma_rcmp_ge 129 dX12_sheet_121 rfl (by constructor <;> omega) (by constructor <;> omega) (fun c121 => ?_) (fun c121 => ?_)
          · -- 129
            refine ma_iload dX12_sheet_129 rfl ?_
            refine ma_iconst dX12_sheet_131 ?_
            refine ma_rcmp_eq 174 dX12_sheet_132 rfl (by decide) (by decide) (fun c132 => ?_) (fun c132 => absurd rfl c132)
            refine ma_iload dX12_sheet_174 rfl ?_
            refine ma_iload dX12_sheet_176 rfl ?_
            refine ma_iadd dX12_sheet_178 ?_
            refine ma_istoreN dX12_sheet_179 (by decide) rfl ?_
            refine ma_iincN dX12_sheet_181 rfl (by decide) rfl ?_
            refine ma_goto 59 dX12_sheet_184 rfl ?_
            exact ih (i + 1) _ _ _ _ (by omega) (by omega) (by omega)
          · -- 124
            refine ma_iload dX12_sheet_124 rfl ?_
            refine ma_if_ge 174 dX12_sheet_126 rfl (fun c126 => ?_) (fun c126 => ?_)
            · -- 174
              refine ma_iload dX12_sheet_174 rfl ?_
              refine ma_iload dX12_sheet_176 rfl ?_
              refine ma_iadd dX12_sheet_178 ?_
              refine ma_istoreN dX12_sheet_179 (by decide) rfl ?_
              refine ma_iincN dX12_sheet_181 rfl (by decide) rfl ?_
              refine ma_goto 59 dX12_sheet_184 rfl ?_
              exact ih (i + 1) _ _ _ _ (by omega) (by omega) (by omega)
            · -- 129
              refine ma_iload dX12_sheet_129 rfl ?_
              refine ma_iconst dX12_sheet_131 ?_
              refine ma_rcmp_eq 174 dX12_sheet_132 rfl (by decide) (by decide) (fun c132 => ?_) (fun c132 => absurd rfl c132)
              refine ma_iload dX12_sheet_174 rfl ?_
              refine ma_iload dX12_sheet_176 rfl ?_
              refine ma_iadd dX12_sheet_178 ?_
              refine ma_istoreN dX12_sheet_179 (by decide) rfl ?_
              refine ma_iincN dX12_sheet_181 rfl (by decide) rfl ?_
              refine ma_goto 59 dX12_sheet_184 rfl ?_
              exact ih (i + 1) _ _ _ _ (by omega) (by omega) (by omega)
        · -- 87
          refine ma_iload dX12_sheet_87 rfl ?_
          refine ma_i2s dX12_sheet_89 ?_
          refine ma_goto 95 dX12_sheet_90 rfl ?_
          refine ma_istoreN dX12_sheet_95 (by decide) rfl ?_
          refine ma_iload dX12_sheet_97 rfl ?_
          refine ma_iconst dX12_sheet_99 ?_
          refine ma_kdiv dX12_sheet_100 (by constructor <;> omega) (by constructor <;> omega) ?_
          refine ma_istoreN dX12_sheet_101 (by decide) rfl ?_
          refine ma_aload_n dX12_sheet_103 rfl ?_
          refine ma_getf dX12_sheet_104 fX12_45 (by first | exact e73 | exact e74 | exact e85) (by rfl) ?_
          refine ma_iload dX12_sheet_107 rfl ?_
          refine ma_iload dX12_sheet_109 rfl ?_
          refine ma_iconst dX12_sheet_111 ?_
          refine ma_kmod dX12_sheet_112 (by constructor <;> omega) (by constructor <;> omega) ?_
          refine ma_cS [_, _, _] dX12_sheet_113 wX12_glue lX12_150 tX12_glue (Nat.le_of_ble_eq_true rfl) ?_
          refine c_X12_glue e85 (by omega) (by omega) ?_
          rw [show (1 + 4 * (i / 4) + i % 4 : Int) = 1 + i by omega, hA.2 i i0 (by omega), show cv (GM i) = -1 from rfl]
          refine ma_istoreN dX12_sheet_116 (by decide) rfl ?_
          refine ma_iload dX12_sheet_118 rfl ?_
          refine ma_iload_n dX12_sheet_120 rfl ?_
          refine ma_rcmp_ge 129 dX12_sheet_121 rfl (by constructor <;> omega) (by constructor <;> omega) (fun c121 => ?_) (fun c121 => ?_)
          · -- 129
            refine ma_iload dX12_sheet_129 rfl ?_
            refine ma_iconst dX12_sheet_131 ?_
            refine ma_rcmp_eq 174 dX12_sheet_132 rfl (by decide) (by decide) (fun c132 => ?_) (fun c132 => absurd rfl c132)
            refine ma_iload dX12_sheet_174 rfl ?_
            refine ma_iload dX12_sheet_176 rfl ?_
            refine ma_iadd dX12_sheet_178 ?_
            refine ma_istoreN dX12_sheet_179 (by decide) rfl ?_
            refine ma_iincN dX12_sheet_181 rfl (by decide) rfl ?_
            refine ma_goto 59 dX12_sheet_184 rfl ?_
            exact ih (i + 1) _ _ _ _ (by omega) (by omega) (by omega)
          · -- 124
            refine ma_iload dX12_sheet_124 rfl ?_
            refine ma_if_ge 174 dX12_sheet_126 rfl (fun c126 => ?_) (fun c126 => ?_)
            · -- 174
              refine ma_iload dX12_sheet_174 rfl ?_
              refine ma_iload dX12_sheet_176 rfl ?_
              refine ma_iadd dX12_sheet_178 ?_
              refine ma_istoreN dX12_sheet_179 (by decide) rfl ?_
              refine ma_iincN dX12_sheet_181 rfl (by decide) rfl ?_
              refine ma_goto 59 dX12_sheet_184 rfl ?_
              exact ih (i + 1) _ _ _ _ (by omega) (by omega) (by omega)
            · -- 129
              refine ma_iload dX12_sheet_129 rfl ?_
              refine ma_iconst dX12_sheet_131 ?_
              refine ma_rcmp_eq 174 dX12_sheet_132 rfl (by decide) (by decide) (fun c132 => ?_) (fun c132 => absurd rfl c132)
              refine ma_iload dX12_sheet_174 rfl ?_
              refine ma_iload dX12_sheet_176 rfl ?_
              refine ma_iadd dX12_sheet_178 ?_
              refine ma_istoreN dX12_sheet_179 (by decide) rfl ?_
              refine ma_iincN dX12_sheet_181 rfl (by decide) rfl ?_
              refine ma_goto 59 dX12_sheet_184 rfl ?_
              exact ih (i + 1) _ _ _ _ (by omega) (by omega) (by omega)
      · -- 76
        refine ma_iload dX12_sheet_76 rfl ?_
        refine ma_i2b dX12_sheet_78 ?_
        refine ma_goto 95 dX12_sheet_79 rfl ?_
        refine ma_istoreN dX12_sheet_95 (by decide) rfl ?_
        refine ma_iload dX12_sheet_97 rfl ?_
        refine ma_iconst dX12_sheet_99 ?_
        refine ma_kdiv dX12_sheet_100 (by constructor <;> omega) (by constructor <;> omega) ?_
        refine ma_istoreN dX12_sheet_101 (by decide) rfl ?_
        refine ma_aload_n dX12_sheet_103 rfl ?_
        refine ma_getf dX12_sheet_104 fX12_45 (by first | exact e73 | exact e74 | exact e85) (by rfl) ?_
        refine ma_iload dX12_sheet_107 rfl ?_
        refine ma_iload dX12_sheet_109 rfl ?_
        refine ma_iconst dX12_sheet_111 ?_
        refine ma_kmod dX12_sheet_112 (by constructor <;> omega) (by constructor <;> omega) ?_
        refine ma_cS [_, _, _] dX12_sheet_113 wX12_glue lX12_150 tX12_glue (Nat.le_of_ble_eq_true rfl) ?_
        refine c_X12_glue e85 (by omega) (by omega) ?_
        rw [show (1 + 4 * (i / 4) + i % 4 : Int) = 1 + i by omega, hA.2 i i0 (by omega), show cv (GM i) = -1 from rfl]
        refine ma_istoreN dX12_sheet_116 (by decide) rfl ?_
        refine ma_iload dX12_sheet_118 rfl ?_
        refine ma_iload_n dX12_sheet_120 rfl ?_
        refine ma_rcmp_ge 129 dX12_sheet_121 rfl (by constructor <;> omega) (by constructor <;> omega) (fun c121 => ?_) (fun c121 => ?_)
        · -- 129
          refine ma_iload dX12_sheet_129 rfl ?_
          refine ma_iconst dX12_sheet_131 ?_
          refine ma_rcmp_eq 174 dX12_sheet_132 rfl (by decide) (by decide) (fun c132 => ?_) (fun c132 => absurd rfl c132)
          refine ma_iload dX12_sheet_174 rfl ?_
          refine ma_iload dX12_sheet_176 rfl ?_
          refine ma_iadd dX12_sheet_178 ?_
          refine ma_istoreN dX12_sheet_179 (by decide) rfl ?_
          refine ma_iincN dX12_sheet_181 rfl (by decide) rfl ?_
          refine ma_goto 59 dX12_sheet_184 rfl ?_
          exact ih (i + 1) _ _ _ _ (by omega) (by omega) (by omega)
        · -- 124
          refine ma_iload dX12_sheet_124 rfl ?_
          refine ma_if_ge 174 dX12_sheet_126 rfl (fun c126 => ?_) (fun c126 => ?_)
          · -- 174
            refine ma_iload dX12_sheet_174 rfl ?_
            refine ma_iload dX12_sheet_176 rfl ?_
            refine ma_iadd dX12_sheet_178 ?_
            refine ma_istoreN dX12_sheet_179 (by decide) rfl ?_
            refine ma_iincN dX12_sheet_181 rfl (by decide) rfl ?_
            refine ma_goto 59 dX12_sheet_184 rfl ?_
            exact ih (i + 1) _ _ _ _ (by omega) (by omega) (by omega)
          · -- 129
            refine ma_iload dX12_sheet_129 rfl ?_
            refine ma_iconst dX12_sheet_131 ?_
            refine ma_rcmp_eq 174 dX12_sheet_132 rfl (by decide) (by decide) (fun c132 => ?_) (fun c132 => absurd rfl c132)
            refine ma_iload dX12_sheet_174 rfl ?_
            refine ma_iload dX12_sheet_176 rfl ?_
            refine ma_iadd dX12_sheet_178 ?_
            refine ma_istoreN dX12_sheet_179 (by decide) rfl ?_
            refine ma_iincN dX12_sheet_181 rfl (by decide) rfl ?_
            refine ma_goto 59 dX12_sheet_184 rfl ?_
            exact ih (i + 1) _ _ _ _ (by omega) (by omega) (by omega)
theorem vg_L {L : Int → Int} {ties : Int} (h : LI 1 GM L (24 * 1) ties) (hL : ∀ j, 4 * 1 ≤ j → L j = -1) : VG 1 L := ⟨by decide, fun k a b => Or.inl (gm_L h a (by omega)), fun k a b => hL k a⟩
theorem l_sm187 {h : ma_H} {nx d : Nat} {k n f p v i : Int} {a b c : Option ma_V} {J : Nat → Int} {Aa : Int → Int} {Q : Option ma_V → ma_H → Nat → Prop} (e73 : h 73 = co 12 (mo J)) (hS : SMO h) (e74 : h 74 = ci 33 Aa) (e85 : h 85 = ci 33 Aa) (hA : AG 1 GM Aa) (K : ∀ h', Q (some (vi 4)) h' nx) : ma_J none mX12_sheet (d + 4) 0 0 187 [some (vr 73), some (vi k), some (vi n), some (vi f), some (vi p), some (vi v), some (vi i), a, b, c] [] h nx Q := by
  refine ma_aload_n dX12_sheet_187 rfl ?_
  refine ma_aload_n dX12_sheet_188 rfl ?_
  refine ma_getf dX12_sheet_189 fX12_45 (by first | exact e73 | exact mp.2.1 | exact (ma_up_n (by decide)).trans mp.2.1) (by rfl) ?_
  refine ma_cV [_] dX12_sheet_192 wX12_number lX12_221 iX12_number sX12_number rfl (by first | exact e73 | exact mp.2.1 | exact (ma_up_n (by decide)).trans mp.2.1) (Nat.le_of_ble_eq_true rfl) ?_
  refine m_number (b := 85) e73 hS e85 (by decide) (by decide) gm_vg gm_cn hA (fun h' I' L La ties mp k85 _ hLI hAL hL => ?_)
  refine ma_rif_ne 201 dX12_sheet_195 rfl (by decide) (fun c195 => ?_) (fun c195 => absurd c195 (by decide))
  refine ma_aload_n dX12_sheet_201 rfl ?_
  refine ma_getf dX12_sheet_202 fX12_45 (by first | exact e73 | exact mp.2.1 | exact (ma_up_n (by decide)).trans mp.2.1) (by rfl) ?_
  refine ma_aload_n dX12_sheet_205 rfl ?_
  refine ma_getf dX12_sheet_206 fX12_9 (by first | exact e73 | exact mp.2.1 | exact (ma_up_n (by decide)).trans mp.2.1) (by rfl) ?_
  refine ma_cS [_, _] dX12_sheet_209 wX12_lay lX12_168 tX12_lay (Nat.le_of_ble_eq_true rfl) ?_
  refine c_X12_lay k85 ((mp.1 74 (by decide)).trans e74) (by decide) ?_
  refine ma_aload_n dX12_sheet_212 rfl ?_
  refine ma_getf dX12_sheet_213 fX12_9 (by first | exact e73 | exact mp.2.1 | exact (ma_up_n (by decide)).trans mp.2.1) (by rfl) ?_
  refine ma_cS [_] dX12_sheet_216 wX12_freeMany lX12_235 tX12_freeMany (Nat.le_of_ble_eq_true rfl) ?_
  refine c_X12_freeMany (t := 1) (G := L) (ma_up_s _ _ _) (vg_L hLI hL) hAL ?_
  rw [gm_ct (fun j a b => gm_L hLI a b)]
  exact ma_iret dX12_sheet_219 rfl (K _)
theorem c_X12_sheet0 {h : ma_H} {nx d : Nat} {k n f p : Int} {I : Nat → Int} {Aa M0 : Int → Int} {Q : Option ma_V → ma_H → Nat → Prop} (hM : h 73 = co 12 (mo I)) (hS : SMO h) (h74 : h 74 = ci 33 Aa) (h85 : h 85 = ci 33 M0) (hA : AG 1 GM Aa) (hk : rg k) (hn0 : rg n) (K1 : k < 0 ∨ 3 < k ∨ 32 < n → Q (some (vi (-1))) (ma_up h 73 (co 12 (mo (iu I 5 0)))) nx) (K3 : k = 3 ∧ n ≤ 32 → Q (some (vi (-3))) (ma_up h 73 (co 12 (mo (iu I 5 0)))) nx) (K2 : (0 ≤ k ∧ k < 3) ∧ n < 0 → Q (some (vi (-2))) (ma_up h 73 (co 12 (mo (iu I 5 0)))) nx) (K : (0 ≤ k ∧ k < 3) ∧ 0 ≤ n ∧ n ≤ 32 → ∀ h', Q (some (vi 4)) h' nx) : ma_Ct mX12_sheet (d + 4) 0 0 [vr 73, vi k, vi n, vi f, vi p] h nx Q := by
  have hk' := hk
  have hn' := hn0
  unfold rg at hk' hn'
  refine ma_Ct.of (by decide +kernel) (Nat.le_of_ble_eq_true rfl) ?_
  refine ma_aload_n dX12_sheet_0 rfl ?_
  refine ma_iconst dX12_sheet_1 ?_
  refine ma_puti dX12_sheet_2 fX12_128 (by first | exact hM | exact ma_up_s _ _ _) (Nat.le_of_ble_eq_true rfl) ?_
  rw [mo_5]
  refine ma_iload_n dX12_sheet_5 rfl ?_
  refine ma_iconst dX12_sheet_6 ?_
  refine ma_iconst dX12_sheet_7 ?_
  refine ma_cS [_, _, _] dX12_sheet_8 wX12_in lX12_179 tX12_in (Nat.le_of_ble_eq_true rfl) ?_
  refine c_X12_in hk (by unfold rg; decide) (by unfold rg; decide) (fun z0 z1 => ?_) (fun z => ?_)
  · -- k1
    refine ma_rif_eq 20 dX12_sheet_11 rfl (by decide) (fun c11 => absurd c11 (by decide)) (fun c11 => ?_)
    refine ma_iload_n dX12_sheet_14 rfl ?_
    refine ma_bipush dX12_sheet_15 ?_
    refine ma_rcmp_le 22 dX12_sheet_17 rfl (by constructor <;> omega) (by constructor <;> omega) (fun c17 => ?_) (fun c17 => ?_)
    · -- 22
      refine ma_iload_n dX12_sheet_22 rfl ?_
      refine ma_iconst dX12_sheet_23 ?_
      refine ma_rcmp_ge 34 dX12_sheet_24 rfl (by constructor <;> omega) (by constructor <;> omega) (fun c24 => ?_) (fun c24 => ?_)
      · -- 34
        refine ma_iload_n dX12_sheet_34 rfl ?_
        refine ma_iconst dX12_sheet_35 ?_
        refine ma_rcmp_ne 42 dX12_sheet_36 rfl (by constructor <;> omega) (by constructor <;> omega) (fun c36 => ?_) (fun c36 => ?_)
        · -- 42
          refine ma_aload_n dX12_sheet_42 rfl ?_
          refine ma_getf dX12_sheet_43 fX12_9 (by first | exact hM | exact ma_up_s _ _ _) (by rfl) ?_
          refine ma_aload_n dX12_sheet_46 rfl ?_
          refine ma_getf dX12_sheet_47 fX12_45 (by first | exact hM | exact ma_up_s _ _ _) (by rfl) ?_
          refine ma_cS [_, _] dX12_sheet_50 wX12_lay lX12_168 tX12_lay (Nat.le_of_ble_eq_true rfl) ?_
          refine c_X12_lay ((ma_up_n (by decide)).trans h74) ((ma_up_n (by decide)).trans h85) (by decide) ?_
          refine ma_iload_n dX12_sheet_53 rfl ?_
          refine ma_istoreN dX12_sheet_54 (by decide) rfl ?_
          refine ma_iconst dX12_sheet_56 ?_
          refine ma_istoreN dX12_sheet_57 (by decide) rfl ?_
          exact l_sm59 ((ma_up_n (by decide)).trans (ma_up_s _ _ _)) ((ma_up_n (by decide)).trans ((ma_up_n (by decide)).trans h74)) (ma_up_s _ _ _) hA hk hn0 (fun v i a b c => l_sm187 ((ma_up_n (by decide)).trans (ma_up_s _ _ _)) (smo_n (by decide) (by decide) (smo_n (by decide) (by decide) hS)) ((ma_up_n (by decide)).trans ((ma_up_n (by decide)).trans h74)) (ma_up_s _ _ _) hA (K (by omega))) 5 0 _ _ _ _ (by decide) (by decide) (by decide)
        · -- 39
          refine ma_bipush dX12_sheet_39 ?_
          exact ma_iret dX12_sheet_41 rfl (K3 (by omega))
      · -- 27
        refine ma_iload_n dX12_sheet_27 rfl ?_
        refine ma_rif_ge 34 dX12_sheet_28 rfl (by constructor <;> omega) (fun c28 => ?_) (fun c28 => ?_)
        · -- 34
          refine ma_iload_n dX12_sheet_34 rfl ?_
          refine ma_iconst dX12_sheet_35 ?_
          refine ma_rcmp_ne 42 dX12_sheet_36 rfl (by constructor <;> omega) (by constructor <;> omega) (fun c36 => ?_) (fun c36 => ?_)
          · -- 42
            refine ma_aload_n dX12_sheet_42 rfl ?_
            refine ma_getf dX12_sheet_43 fX12_9 (by first | exact hM | exact ma_up_s _ _ _) (by rfl) ?_
            refine ma_aload_n dX12_sheet_46 rfl ?_
            refine ma_getf dX12_sheet_47 fX12_45 (by first | exact hM | exact ma_up_s _ _ _) (by rfl) ?_
            refine ma_cS [_, _] dX12_sheet_50 wX12_lay lX12_168 tX12_lay (Nat.le_of_ble_eq_true rfl) ?_
            refine c_X12_lay ((ma_up_n (by decide)).trans h74) ((ma_up_n (by decide)).trans h85) (by decide) ?_
            refine ma_iload_n dX12_sheet_53 rfl ?_
            refine ma_istoreN dX12_sheet_54 (by decide) rfl ?_
            refine ma_iconst dX12_sheet_56 ?_
            refine ma_istoreN dX12_sheet_57 (by decide) rfl ?_
            exact l_sm59 ((ma_up_n (by decide)).trans (ma_up_s _ _ _)) ((ma_up_n (by decide)).trans ((ma_up_n (by decide)).trans h74)) (ma_up_s _ _ _) hA hk hn0 (fun v i a b c => l_sm187 ((ma_up_n (by decide)).trans (ma_up_s _ _ _)) (smo_n (by decide) (by decide) (smo_n (by decide) (by decide) hS)) ((ma_up_n (by decide)).trans ((ma_up_n (by decide)).trans h74)) (ma_up_s _ _ _) hA (K (by omega))) 5 0 _ _ _ _ (by decide) (by decide) (by decide)
          · -- 39
            refine ma_bipush dX12_sheet_39 ?_
            exact ma_iret dX12_sheet_41 rfl (K3 (by omega))
        · -- 31
          refine ma_bipush dX12_sheet_31 ?_
          exact ma_iret dX12_sheet_33 rfl (K2 (by omega))
    · -- 20
      refine ma_iconst dX12_sheet_20 ?_
      exact ma_iret dX12_sheet_21 rfl (K1 (by omega))
  · -- k0
    refine ma_rif_eq 20 dX12_sheet_11 rfl (by decide) (fun c11 => ?_) (fun c11 => absurd c11 (by decide))
    refine ma_iconst dX12_sheet_20 ?_
    exact ma_iret dX12_sheet_21 rfl (K1 (by omega))
