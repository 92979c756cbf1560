theorem c_X1_kindOf {h : ma_H} {nx d : Nat} {k : Int} {Q : Option ma_V → ma_H → Nat → Prop} (hk : 0 ≤ k ∧ k < 200) (K : Q (some (vi (if k < 32 then 0 else if k < 160 then 1 else if k < 168 then 2 else 3))) h nx) : ma_Ct mX1_kindOf d 0 0 [vi k] h nx Q := by
  refine ma_Ct.of (by decide +kernel) (Nat.le_of_ble_eq_true rfl) ?_
  refine ma_iload_n dX1_kindOf_0 rfl ?_
  refine ma_sipush dX1_kindOf_1 ?_
  refine ma_rcmp_ge 19 dX1_kindOf_4 rfl (by constructor <;> omega) (by constructor <;> omega) (fun c4 => ?_) (fun c4 => ?_)
  · -- 19
    refine ma_iload_n dX1_kindOf_19 rfl ?_
    refine ma_sipush dX1_kindOf_20 ?_
    refine ma_rcmp_ge 30 dX1_kindOf_23 rfl (by constructor <;> omega) (by constructor <;> omega) (fun c23 => ?_) (fun c23 => ?_)
    · -- 30
      refine ma_iconst dX1_kindOf_30 ?_
      first | (rw [if_neg (by omega), if_neg (by omega), if_pos (by omega)] at K; exact ma_iret dX1_kindOf_31 rfl K) | (rw [if_neg (by omega), if_neg (by omega), if_neg (by omega)] at K; exact ma_iret dX1_kindOf_31 rfl K)
    · -- 26
      refine ma_iconst dX1_kindOf_26 ?_
      refine ma_goto 31 dX1_kindOf_27 rfl ?_
      first | (rw [if_neg (by omega), if_neg (by omega), if_pos (by omega)] at K; exact ma_iret dX1_kindOf_31 rfl K) | (rw [if_neg (by omega), if_neg (by omega), if_neg (by omega)] at K; exact ma_iret dX1_kindOf_31 rfl K)
  · -- 7
    refine ma_iload_n dX1_kindOf_7 rfl ?_
    refine ma_bipush dX1_kindOf_8 ?_
    refine ma_rcmp_ge 17 dX1_kindOf_10 rfl (by constructor <;> omega) (by constructor <;> omega) (fun c10 => ?_) (fun c10 => ?_)
    · -- 17
      refine ma_iconst dX1_kindOf_17 ?_
      first | (rw [if_pos (by omega)] at K; exact ma_iret dX1_kindOf_18 rfl K) | (rw [if_neg (by omega), if_pos (by omega)] at K; exact ma_iret dX1_kindOf_18 rfl K)
    · -- 13
      refine ma_iconst dX1_kindOf_13 ?_
      refine ma_goto 18 dX1_kindOf_14 rfl ?_
      first | (rw [if_pos (by omega)] at K; exact ma_iret dX1_kindOf_18 rfl K) | (rw [if_neg (by omega), if_pos (by omega)] at K; exact ma_iret dX1_kindOf_18 rfl K)
theorem c_X1_isFirstNameO {h : ma_H} {nx d : Nat} {k : Int} {Q : Option ma_V → ma_H → Nat → Prop} (hk : 160 ≤ k ∧ k < 168) (K : Q (some (vi 1)) h nx) : ma_Ct mX1_isFirstName d 0 0 [vr 54, vr 1, vi k] h nx Q := by
  refine ma_Ct.of (by decide +kernel) (Nat.le_of_ble_eq_true rfl) ?_
  refine ma_iload_n dX1_isFirstName_0 rfl ?_
  refine ma_bipush dX1_isFirstName_1 ?_
  refine ma_rcmp_ge 21 dX1_isFirstName_3 rfl (by constructor <;> omega) (by decide) (fun c3 => ?_) (fun c3 => by omega)
  refine ma_iload_n dX1_isFirstName_21 rfl ?_
  refine ma_sipush dX1_isFirstName_22 ?_
  refine ma_rcmp_ge 53 dX1_isFirstName_25 rfl (by constructor <;> omega) (by decide) (fun c25 => ?_) (fun c25 => by omega)
  refine ma_iload_n dX1_isFirstName_53 rfl ?_
  refine ma_sipush dX1_isFirstName_54 ?_
  refine ma_rcmp_lt 81 dX1_isFirstName_57 rfl (by constructor <;> omega) (by decide) (fun c57 => ?_) (fun c57 => by omega)
  refine ma_iconst dX1_isFirstName_81 ?_
  refine ma_goto 86 dX1_isFirstName_82 rfl ?_
  exact ma_zret dX1_isFirstName_86 rfl (Or.inr rfl) K
theorem l_re26 {h : ma_H} {nx d : Nat} {e : Int} {E P q : Int → Int} {Q : Option ma_V → ma_H → Nat → Prop} (h59 : h 59 = co 6 [vr 54, vr 44, vr 60, vr 62, vr 64, vr 68]) (h54 : h 54 = co 1 [vr 44, vr 39, vr 55, vr 57, vr 58]) (h1 : h 1 = co 8 [vi 1, vr 2]) (h2 : h 2 = ci 32 GM) (hB : BP 1 GM E P) (e2 : e ≤ 200) (K : ma_J none mX6_reach (d + 4) 0 0 26 [some (vr 59), some (vr 1), some (vi e)] [] (br h 1 GM E P q) nx Q) :
    ∀ (m : Nat) (k : Int), 0 ≤ k → k ≤ e → e - k < m → (∀ j, k ≤ j → j < e → RF 1 GM E P j ≠ 0) → ma_J none mX6_reach (d + 4) 0 0 26 [some (vr 59), some (vr 1), some (vi k)] [] (br h 1 GM E P q) nx Q := by
  intro m
  induction m with
  | zero => intro k k0 k1 hm hno; omega
  | succ m ih =>
    intro k k0 k1 hm hno
    rcases Int.lt_or_eq_of_le k1 with kl | ke
    · -- one more
      refine ma_iload_n dX6_reach_26 rfl ?_
      refine ma_sipush dX6_reach_27 ?_
      refine ma_rcmp_ge 105 dX6_reach_30 rfl (by constructor <;> omega) (by decide) (fun c30 => by omega) (fun c30 => ?_)
      refine ma_aload_n dX6_reach_33 rfl ?_
      refine ma_getf dX6_reach_34 fX6_32 (by first | exact ((bh_n (by decide)).trans h59) | exact ((bh_n (by decide)).trans h54)) (by rfl) ?_
      refine ma_aload_n dX6_reach_37 rfl ?_
      refine ma_iload_n dX6_reach_38 rfl ?_
      refine ma_cV [_, _] dX6_reach_39 wX1_refusal lX6_56 iX1_refusal sX1_refusal rfl (by first | exact ((bh_n (by decide)).trans h59) | exact ((bh_n (by decide)).trans h54)) (Nat.le_of_ble_eq_true rfl) ?_
      refine c_X1_refusal h1 h2 (by decide) (by decide) gm_vg h54 hB ⟨by omega, by omega⟩ ?_
      have rn := RF_in (t := 1) (G := GM) (E := E) (P := P) (k := k)
      refine ma_rif_ge 48 dX6_reach_42 rfl (by constructor <;> omega) (fun c42 => absurd (show RF 1 GM E P k = 0 by omega) (hno k (Int.le_refl _) kl)) (fun c42 => ?_)
      refine ma_goto 99 dX6_reach_45 rfl ?_
      refine ma_iincN dX6_reach_99 rfl (by decide) rfl ?_
      refine ma_goto 26 dX6_reach_102 rfl ?_
      exact ih (k + 1) (by omega) (by omega) (by omega) (fun j a b => hno j (by omega) b)
    · rw [ke]; exact K
set_option maxHeartbeats 4000000 in
theorem l_re160 {h : ma_H} {d : Nat} {u : Int} {F T M A N E P q : Int → Int} {Q : Option ma_V → ma_H → Nat → Prop} (h59 : h 59 = co 6 [vr 54, vr 44, vr 60, vr 62, vr 64, vr 68]) (h54 : h 54 = co 1 [vr 44, vr 39, vr 55, vr 57, vr 58]) (h1 : h 1 = co 8 [vi 1, vr 2]) (h2 : h 2 = ci 32 GM) (hB : BP 1 GM E P) (h39 : h 39 = co 2 [vr 40, vr 41, vr 42, vr 43]) (hsn : SN h) (hsv : SV h) (h62 : h 62 = co 8 [vi u, vr 63]) (h63 : h 63 = ci 32 F) (h64 : h 64 = co 0 [vi 0, vr 65, vr 66, vr 67]) (h65 : h 65 = ci 40 T) (h66 : h 66 = ci 40 M) (h67 : h 67 = ci 1280 A) (hA : ∀ j, 0 ≤ j → j < 1280 → rg (A j)) (hT : ∀ j, 0 ≤ j → j < 40 → rg (T j)) (h68 : h 68 = ci 4 N) (K : ∀ h' E P G1, BP 1 GM E P → STP 1 GM 160 4 G1 → kp h h' (62 :: 63 :: 64 :: 65 :: 66 :: 67 :: 68 :: scl) → (∃ N, h' 68 = ci 4 N) → h' 59 = co 6 [vr 54, vr 44, vr 60, vr 62, vr 64, vr 68] → Q (some (vi 1)) h' 1000000) : ma_J none mX6_reach (d + 4) 0 0 26 [some (vr 59), some (vr 1), some (vi 160)] [] (br h 1 GM E P q) 1000000 Q := by
  refine ma_iload_n dX6_reach_26 rfl ?_
  refine ma_sipush dX6_reach_27 ?_
  refine ma_rcmp_ge 105 dX6_reach_30 rfl (by decide) (by decide) (fun c30 => absurd c30 (by decide)) (fun c30 => ?_)
  refine ma_aload_n dX6_reach_33 rfl ?_
  refine ma_getf dX6_reach_34 fX6_32 (by first | exact ((bh_n (by decide)).trans h59) | exact ((ma_up_n (by decide)).trans ((bh_n (by decide)).trans h59)) | exact k59 | exact ((bh_n (by decide)).trans h54) | exact ((ma_up_n (by decide)).trans ((bh_n (by decide)).trans h54)) | exact ((bh_n (by decide)).trans h68) | exact k64 | exact (kk 54 (by decide)).trans ((ma_up_n (by decide)).trans ((bh_n (by decide)).trans h54)) | exact ma_up_s _ _ _) (by rfl) ?_
  refine ma_aload_n dX6_reach_37 rfl ?_
  refine ma_iload_n dX6_reach_38 rfl ?_
  refine ma_cV [_, _] dX6_reach_39 wX1_refusal lX6_56 iX1_refusal sX1_refusal rfl (by first | exact ((bh_n (by decide)).trans h59) | exact ((ma_up_n (by decide)).trans ((bh_n (by decide)).trans h59)) | exact k59 | exact ((bh_n (by decide)).trans h54) | exact ((ma_up_n (by decide)).trans ((bh_n (by decide)).trans h54)) | exact ((bh_n (by decide)).trans h68) | exact k64 | exact (kk 54 (by decide)).trans ((ma_up_n (by decide)).trans ((bh_n (by decide)).trans h54)) | exact ma_up_s _ _ _) (Nat.le_of_ble_eq_true rfl) ?_
  refine c_X1_refusal h1 h2 (by decide) (by decide) gm_vg h54 hB (by decide) ?_
  rw [(gm_rf hB (by decide) (by decide)).mpr rfl]
  refine ma_rif_ge 48 dX6_reach_42 rfl (by decide) (fun c42 => ?_) (fun c42 => absurd c42 (by decide))
  refine ma_aload_n dX6_reach_48 rfl ?_
  refine ma_getf dX6_reach_49 fX6_28 (by first | exact ((bh_n (by decide)).trans h59) | exact ((ma_up_n (by decide)).trans ((bh_n (by decide)).trans h59)) | exact k59 | exact ((bh_n (by decide)).trans h54) | exact ((ma_up_n (by decide)).trans ((bh_n (by decide)).trans h54)) | exact ((bh_n (by decide)).trans h68) | exact k64 | exact (kk 54 (by decide)).trans ((ma_up_n (by decide)).trans ((bh_n (by decide)).trans h54)) | exact ma_up_s _ _ _) (by rfl) ?_
  refine ma_iload_n dX6_reach_52 rfl ?_
  refine ma_cS [_] dX6_reach_53 wX1_kindOf lX6_62 tX1_kindOf (Nat.le_of_ble_eq_true rfl) ?_
  refine c_X1_kindOf (by decide) ?_
  rw [show (if (160 : Int) < 32 then (0 : Int) else if (160 : Int) < 160 then 1 else if (160 : Int) < 168 then 2 else 3) = 2 from rfl]
  refine ma_dup2 dX6_reach_56 rfl rfl ?_
  refine ma_iald dX6_reach_57 (by first | exact ((bh_n (by decide)).trans h59) | exact ((ma_up_n (by decide)).trans ((bh_n (by decide)).trans h59)) | exact k59 | exact ((bh_n (by decide)).trans h54) | exact ((ma_up_n (by decide)).trans ((bh_n (by decide)).trans h54)) | exact ((bh_n (by decide)).trans h68) | exact k64 | exact (kk 54 (by decide)).trans ((ma_up_n (by decide)).trans ((bh_n (by decide)).trans h54)) | exact ma_up_s _ _ _) (by omega) (by omega) (by omega) ?_
  refine ma_iconst dX6_reach_58 ?_
  refine ma_iadd dX6_reach_59 ?_
  refine ma_iast dX6_reach_60 (by first | exact ((bh_n (by decide)).trans h59) | exact ((ma_up_n (by decide)).trans ((bh_n (by decide)).trans h59)) | exact k59 | exact ((bh_n (by decide)).trans h54) | exact ((ma_up_n (by decide)).trans ((bh_n (by decide)).trans h54)) | exact ((bh_n (by decide)).trans h68) | exact k64 | exact (kk 54 (by decide)).trans ((ma_up_n (by decide)).trans ((bh_n (by decide)).trans h54)) | exact ma_up_s _ _ _) (by omega) (by omega) (by omega) ?_
  refine ma_aload_n dX6_reach_61 rfl ?_
  refine ma_getf dX6_reach_62 fX6_32 (by first | exact ((bh_n (by decide)).trans h59) | exact ((ma_up_n (by decide)).trans ((bh_n (by decide)).trans h59)) | exact k59 | exact ((bh_n (by decide)).trans h54) | exact ((ma_up_n (by decide)).trans ((bh_n (by decide)).trans h54)) | exact ((bh_n (by decide)).trans h68) | exact k64 | exact (kk 54 (by decide)).trans ((ma_up_n (by decide)).trans ((bh_n (by decide)).trans h54)) | exact ma_up_s _ _ _) (by rfl) ?_
  refine ma_aload_n dX6_reach_65 rfl ?_
  refine ma_iload_n dX6_reach_66 rfl ?_
  refine ma_cV [_, _] dX6_reach_67 wX1_isFirstName lX6_66 iX1_isFirstName sX1_isFirstName rfl (by first | exact ((bh_n (by decide)).trans h59) | exact ((ma_up_n (by decide)).trans ((bh_n (by decide)).trans h59)) | exact k59 | exact ((bh_n (by decide)).trans h54) | exact ((ma_up_n (by decide)).trans ((bh_n (by decide)).trans h54)) | exact ((bh_n (by decide)).trans h68) | exact k64 | exact (kk 54 (by decide)).trans ((ma_up_n (by decide)).trans ((bh_n (by decide)).trans h54)) | exact ma_up_s _ _ _) (Nat.le_of_ble_eq_true rfl) ?_
  refine c_X1_isFirstNameO (by decide) ?_
  refine ma_rif_eq 99 dX6_reach_70 rfl (by decide) (fun c70 => absurd c70 (by decide)) (fun c70 => ?_)
  refine ma_aload_n dX6_reach_73 rfl ?_
  refine ma_getf dX6_reach_74 fX6_32 (by first | exact ((bh_n (by decide)).trans h59) | exact ((ma_up_n (by decide)).trans ((bh_n (by decide)).trans h59)) | exact k59 | exact ((bh_n (by decide)).trans h54) | exact ((ma_up_n (by decide)).trans ((bh_n (by decide)).trans h54)) | exact ((bh_n (by decide)).trans h68) | exact k64 | exact (kk 54 (by decide)).trans ((ma_up_n (by decide)).trans ((bh_n (by decide)).trans h54)) | exact ma_up_s _ _ _) (by rfl) ?_
  refine ma_aload_n dX6_reach_77 rfl ?_
  refine ma_iload_n dX6_reach_78 rfl ?_
  refine ma_aload_n dX6_reach_79 rfl ?_
  refine ma_getf dX6_reach_80 fX6_18 (by first | exact ((bh_n (by decide)).trans h59) | exact ((ma_up_n (by decide)).trans ((bh_n (by decide)).trans h59)) | exact k59 | exact ((bh_n (by decide)).trans h54) | exact ((ma_up_n (by decide)).trans ((bh_n (by decide)).trans h54)) | exact ((bh_n (by decide)).trans h68) | exact k64 | exact (kk 54 (by decide)).trans ((ma_up_n (by decide)).trans ((bh_n (by decide)).trans h54)) | exact ma_up_s _ _ _) (by rfl) ?_
  refine ma_cV [_, _, _] dX6_reach_83 wX1_make lX6_70 iX1_make sX1_make rfl (by first | exact ((bh_n (by decide)).trans h59) | exact ((ma_up_n (by decide)).trans ((bh_n (by decide)).trans h59)) | exact k59 | exact ((bh_n (by decide)).trans h54) | exact ((ma_up_n (by decide)).trans ((bh_n (by decide)).trans h54)) | exact ((bh_n (by decide)).trans h68) | exact k64 | exact (kk 54 (by decide)).trans ((ma_up_n (by decide)).trans ((bh_n (by decide)).trans h54)) | exact ma_up_s _ _ _) (Nat.le_of_ble_eq_true rfl) ?_
  refine c_X1_make (t1 := 4) (Or.inl (by decide)) (Or.inl (by decide)) (Or.inr ⟨rfl, rfl⟩) (by decide) ((ma_up_n (by decide)).trans ((bh_n (by decide)).trans h54)) ((ma_up_n (by decide)).trans ((bh_n (by decide)).trans h39)) ((ma_up_n (by decide)).trans ((bh_n (by decide)).trans h1)) ((ma_up_n (by decide)).trans ((bh_n (by decide)).trans h2)) ((ma_up_n (by decide)).trans ((bh_n (by decide)).trans h62)) ((ma_up_n (by decide)).trans ((bh_n (by decide)).trans h63)) (by obtain ⟨a, b, c, e, z1, z2, z3, z4⟩ := hsn; exact ⟨a, b, c, e, ((ma_up_n (by decide)).trans ((bh_n (by decide)).trans z1)), ((ma_up_n (by decide)).trans ((bh_n (by decide)).trans z2)), ((ma_up_n (by decide)).trans ((bh_n (by decide)).trans z3)), ((ma_up_n (by decide)).trans ((bh_n (by decide)).trans z4))⟩) (by obtain ⟨a, b, z1, z2⟩ := hsv; exact ⟨a, b, ((ma_up_n (by decide)).trans ((bh_n (by decide)).trans z1)), ((ma_up_n (by decide)).trans ((bh_n (by decide)).trans z2))⟩) gm_vg gm_cn (by decide) ((gm_rf hB (by decide) (by decide)).mpr rfl) (fun z => hB) rfl (fun h' C L ties kk kc ke' sn sv hMR hLI => ?_)
  have vg := stp_ok gm_vg gm_cn (k := 160) (t1 := 4) (G1 := stl 4 C L) ⟨rfl, C, L, ties, hMR, hLI, rfl⟩
  have k59 : h' 59 = co 6 [vr 54, vr 44, vr 60, vr 62, vr 64, vr 68] := (kk 59 (by decide)).trans ((ma_up_n (by decide)).trans ((bh_n (by decide)).trans h59))
  have k64 : h' 64 = co 0 [vi 0, vr 65, vr 66, vr 67] := (kk 64 (by decide)).trans ((ma_up_n (by decide)).trans ((bh_n (by decide)).trans h64))
  have k65 : h' 65 = ci 40 T := (kk 65 (by decide)).trans ((ma_up_n (by decide)).trans ((bh_n (by decide)).trans h65))
  have k66 : h' 66 = ci 40 M := (kk 66 (by decide)).trans ((ma_up_n (by decide)).trans ((bh_n (by decide)).trans h66))
  have k67 : h' 67 = ci 1280 A := (kk 67 (by decide)).trans ((ma_up_n (by decide)).trans ((bh_n (by decide)).trans h67))
  refine ma_aload_n dX6_reach_86 rfl ?_
  refine ma_getf dX6_reach_87 fX6_24 (by first | exact ((bh_n (by decide)).trans h59) | exact ((ma_up_n (by decide)).trans ((bh_n (by decide)).trans h59)) | exact k59 | exact ((bh_n (by decide)).trans h54) | exact ((ma_up_n (by decide)).trans ((bh_n (by decide)).trans h54)) | exact ((bh_n (by decide)).trans h68) | exact k64 | exact (kk 54 (by decide)).trans ((ma_up_n (by decide)).trans ((bh_n (by decide)).trans h54)) | exact ma_up_s _ _ _) (by rfl) ?_
  refine ma_aload_n dX6_reach_90 rfl ?_
  refine ma_getf dX6_reach_91 fX6_18 (by first | exact ((bh_n (by decide)).trans h59) | exact ((ma_up_n (by decide)).trans ((bh_n (by decide)).trans h59)) | exact k59 | exact ((bh_n (by decide)).trans h54) | exact ((ma_up_n (by decide)).trans ((bh_n (by decide)).trans h54)) | exact ((bh_n (by decide)).trans h68) | exact k64 | exact (kk 54 (by decide)).trans ((ma_up_n (by decide)).trans ((bh_n (by decide)).trans h54)) | exact ma_up_s _ _ _) (by rfl) ?_
  refine ma_iconst dX6_reach_94 ?_
  refine ma_cV [_, _] dX6_reach_95 wX0_add lX6_74 iX0_add sX0_add rfl (by first | exact ((bh_n (by decide)).trans h59) | exact ((ma_up_n (by decide)).trans ((bh_n (by decide)).trans h59)) | exact k59 | exact ((bh_n (by decide)).trans h54) | exact ((ma_up_n (by decide)).trans ((bh_n (by decide)).trans h54)) | exact ((bh_n (by decide)).trans h68) | exact k64 | exact (kk 54 (by decide)).trans ((ma_up_n (by decide)).trans ((bh_n (by decide)).trans h54)) | exact ma_up_s _ _ _) (Nat.le_of_ble_eq_true rfl) ?_
  refine c_X0_add (n := 0) k64 k65 k66 k67 kc ke' (by decide) (by decide) (by decide) (by decide) (by decide) (by decide) (by decide) (by decide) (by decide) (by decide) hA (fun j a b => by have := vg_in vg.1 a b; unfold rg; omega) hT (fun z => by obtain ⟨i, a, b, _⟩ := z; omega) (fun z => ?_)
  refine ma_pop dX6_reach_98 rfl ?_
  refine ma_iincN dX6_reach_99 rfl (by decide) rfl ?_
  refine ma_goto 26 dX6_reach_102 rfl ?_
  have e5 : (ma_up (ma_up (ma_up (ma_up h' 65 (ci 40 (uf T 0 4))) 66 (ci 40 (uf M 0 1))) 67 (ci 1280 (fp A (stl 4 C L) 0))) 64 (co 0 [vi (0 + 1), vr 65, vr 66, vr 67])) = br (ma_up (ma_up (ma_up (ma_up h' 65 (ci 40 (uf T 0 4))) 66 (ci 40 (uf M 0 1))) 67 (ci 1280 (fp A (stl 4 C L) 0))) 64 (co 0 [vi (0 + 1), vr 65, vr 66, vr 67])) 1 GM E P q := bh_of ((ma_up_n (by decide)).trans ((ma_up_n (by decide)).trans ((ma_up_n (by decide)).trans ((ma_up_n (by decide)).trans ((kk 45 (by decide)).trans ((ma_up_n (by decide)).trans bh_45)))))) ((ma_up_n (by decide)).trans ((ma_up_n (by decide)).trans ((ma_up_n (by decide)).trans ((ma_up_n (by decide)).trans ((kk 46 (by decide)).trans ((ma_up_n (by decide)).trans bh_46)))))) ((ma_up_n (by decide)).trans ((ma_up_n (by decide)).trans ((ma_up_n (by decide)).trans ((ma_up_n (by decide)).trans ((kk 47 (by decide)).trans ((ma_up_n (by decide)).trans bh_47)))))) ((ma_up_n (by decide)).trans ((ma_up_n (by decide)).trans ((ma_up_n (by decide)).trans ((ma_up_n (by decide)).trans ((kk 48 (by decide)).trans ((ma_up_n (by decide)).trans bh_48)))))) ((ma_up_n (by decide)).trans ((ma_up_n (by decide)).trans ((ma_up_n (by decide)).trans ((ma_up_n (by decide)).trans ((kk 49 (by decide)).trans ((ma_up_n (by decide)).trans bh_49)))))) ((ma_up_n (by decide)).trans ((ma_up_n (by decide)).trans ((ma_up_n (by decide)).trans ((ma_up_n (by decide)).trans ((kk 50 (by decide)).trans ((ma_up_n (by decide)).trans bh_50)))))) ((ma_up_n (by decide)).trans ((ma_up_n (by decide)).trans ((ma_up_n (by decide)).trans ((ma_up_n (by decide)).trans ((kk 51 (by decide)).trans ((ma_up_n (by decide)).trans bh_51)))))) ((ma_up_n (by decide)).trans ((ma_up_n (by decide)).trans ((ma_up_n (by decide)).trans ((ma_up_n (by decide)).trans ((kk 52 (by decide)).trans ((ma_up_n (by decide)).trans bh_52)))))) ((ma_up_n (by decide)).trans ((ma_up_n (by decide)).trans ((ma_up_n (by decide)).trans ((ma_up_n (by decide)).trans ((kk 53 (by decide)).trans ((ma_up_n (by decide)).trans bh_53)))))) ((ma_up_n (by decide)).trans ((ma_up_n (by decide)).trans ((ma_up_n (by decide)).trans ((ma_up_n (by decide)).trans ((kk 44 (by decide)).trans ((ma_up_n (by decide)).trans bh_44))))))
  rw [e5]
  refine l_re26 (e := 200) ((ma_up_n (by decide)).trans ((ma_up_n (by decide)).trans ((ma_up_n (by decide)).trans ((ma_up_n (by decide)).trans k59)))) ((ma_up_n (by decide)).trans ((ma_up_n (by decide)).trans ((ma_up_n (by decide)).trans ((ma_up_n (by decide)).trans ((kk 54 (by decide)).trans ((ma_up_n (by decide)).trans ((bh_n (by decide)).trans h54))))))) ((ma_up_n (by decide)).trans ((ma_up_n (by decide)).trans ((ma_up_n (by decide)).trans ((ma_up_n (by decide)).trans ((kk 1 (by decide)).trans ((ma_up_n (by decide)).trans ((bh_n (by decide)).trans h1))))))) ((ma_up_n (by decide)).trans ((ma_up_n (by decide)).trans ((ma_up_n (by decide)).trans ((ma_up_n (by decide)).trans ((kk 2 (by decide)).trans ((ma_up_n (by decide)).trans ((bh_n (by decide)).trans h2))))))) hB (by decide) ?_ 40 161 (by decide) (by decide) (by decide) (fun j a b z => by have := (gm_rf hB (by omega) b).mp z; omega)
  rw [← e5]
  refine ma_iload_n dX6_reach_26 rfl ?_
  refine ma_sipush dX6_reach_27 ?_
  refine ma_rcmp_ge 105 dX6_reach_30 rfl (by decide) (by decide) (fun c30 => ?_) (fun c30 => absurd c30 (by decide))
  refine ma_aload_n dX6_reach_105 rfl ?_
  refine ma_getf dX6_reach_106 fX6_24 (by first | exact ((ma_up_n (by decide)).trans ((ma_up_n (by decide)).trans ((ma_up_n (by decide)).trans ((ma_up_n (by decide)).trans k59)))) | exact ma_up_s _ _ _) (by rfl) ?_
  refine ma_getf dX6_reach_109 fX6_46 (by first | exact ((ma_up_n (by decide)).trans ((ma_up_n (by decide)).trans ((ma_up_n (by decide)).trans ((ma_up_n (by decide)).trans k59)))) | exact ma_up_s _ _ _) (by rfl) ?_
  exact ma_iret dX6_reach_112 rfl (K _ E P _ hB ⟨rfl, C, L, ties, hMR, hLI, rfl⟩ (fun j hj => by
      have q0 : j ≠ 65 ∧ j ≠ 66 ∧ j ≠ 67 ∧ j ≠ 64 ∧ j ≠ 68 ∧ (j < 44 ∨ 53 < j) := by simp at hj; omega
      rw [ma_up_n q0.2.2.2.1, ma_up_n q0.2.2.1, ma_up_n q0.2.1, ma_up_n q0.1, kk j (fun z => hj (by simp at z ⊢; omega)), ma_up_n q0.2.2.2.2.1]
      exact bh_n q0.2.2.2.2.2) ⟨_, ((ma_up_n (by decide)).trans ((ma_up_n (by decide)).trans ((ma_up_n (by decide)).trans ((ma_up_n (by decide)).trans ((kk 68 (by decide)).trans (ma_up_s _ _ _))))))⟩ ((ma_up_n (by decide)).trans ((ma_up_n (by decide)).trans ((ma_up_n (by decide)).trans ((ma_up_n (by decide)).trans k59)))))
set_option maxHeartbeats 4000000 in
theorem c_X6_reach0 {h : ma_H} {d : Nat} {u n : Int} {F T M A N : Int → Int} {E0 X0 D0 F0 P0 Z0 N0 S0 q0 : Int → Int} {ec0 pc0 : Int} {Q : Option ma_V → ma_H → Nat → Prop} (h59 : h 59 = co 6 [vr 54, vr 44, vr 60, vr 62, vr 64, vr 68]) (h54 : h 54 = co 1 [vr 44, vr 39, vr 55, vr 57, vr 58]) (h1 : h 1 = co 8 [vi 1, vr 2]) (h2 : h 2 = ci 32 GM) (h39 : h 39 = co 2 [vr 40, vr 41, vr 42, vr 43]) (hsn : SN h) (hsv : SV h) (h62 : h 62 = co 8 [vi u, vr 63]) (h63 : h 63 = ci 32 F) (h64 : h 64 = co 0 [vi n, vr 65, vr 66, vr 67]) (h65 : h 65 = ci 40 T) (h66 : h 66 = ci 40 M) (h67 : h 67 = ci 1280 A) (hA : ∀ j, 0 ≤ j → j < 1280 → rg (A j)) (hT : ∀ j, 0 ≤ j → j < 40 → rg (T j)) (h68 : h 68 = ci 4 N) (K : ∀ h' E P G1, BP 1 GM E P → STP 1 GM 160 4 G1 → kp h h' (62 :: 63 :: 64 :: 65 :: 66 :: 67 :: 68 :: scl) → (∃ N, h' 68 = ci 4 N) → h' 59 = co 6 [vr 54, vr 44, vr 60, vr 62, vr 64, vr 68] → Q (some (vi 1)) h' 1000000) : ma_Ct mX6_reach (d + 4) 0 0 [vr 59, vr 1] (bh h E0 X0 D0 F0 P0 Z0 N0 S0 q0 ec0 pc0) 1000000 Q := by
  refine ma_Ct.of (by decide +kernel) (Nat.le_of_ble_eq_true rfl) ?_
  refine ma_aload_n dX6_reach_0 rfl ?_
  refine ma_getf dX6_reach_1 fX6_36 (by first | exact ((bh_n (by decide)).trans h59) | exact bh_44 | exact ((bh_n (by decide)).trans h64) | exact (ma_up_n (by decide)).trans ((bh_n (by decide)).trans h59) | exact (ma_up_n (by decide)).trans ((bh_n (by decide)).trans h68)) (by rfl) ?_
  refine ma_aload_n dX6_reach_4 rfl ?_
  refine ma_cV [_] dX6_reach_5 wX7_read lX6_40 iX7_read sX7_read rfl (by first | exact ((bh_n (by decide)).trans h59) | exact bh_44 | exact ((bh_n (by decide)).trans h64) | exact (ma_up_n (by decide)).trans ((bh_n (by decide)).trans h59) | exact (ma_up_n (by decide)).trans ((bh_n (by decide)).trans h68)) (Nat.le_of_ble_eq_true rfl) ?_
  refine c_X7_read (E := E0) (X := X0) (D := D0) (F := F0) (P := P0) (Z := Z0) (N := N0) (S := S0) (q := q0) (ec := ec0) (pc := pc0) h1 h2 (by decide) (by decide) gm_vg (fun E P q hB => ?_)
  refine ma_aload_n dX6_reach_8 rfl ?_
  refine ma_getf dX6_reach_9 fX6_24 (by first | exact ((bh_n (by decide)).trans h59) | exact bh_44 | exact ((bh_n (by decide)).trans h64) | exact (ma_up_n (by decide)).trans ((bh_n (by decide)).trans h59) | exact (ma_up_n (by decide)).trans ((bh_n (by decide)).trans h68)) (by rfl) ?_
  refine ma_iconst dX6_reach_12 ?_
  refine ma_puti dX6_reach_13 fX6_46 (by first | exact ((bh_n (by decide)).trans h59) | exact bh_44 | exact ((bh_n (by decide)).trans h64) | exact (ma_up_n (by decide)).trans ((bh_n (by decide)).trans h59) | exact (ma_up_n (by decide)).trans ((bh_n (by decide)).trans h68)) (Nat.le_of_ble_eq_true rfl) ?_
  refine ma_aload_n dX6_reach_16 rfl ?_
  refine ma_getf dX6_reach_17 fX6_28 (by first | exact ((bh_n (by decide)).trans h59) | exact bh_44 | exact ((bh_n (by decide)).trans h64) | exact (ma_up_n (by decide)).trans ((bh_n (by decide)).trans h59) | exact (ma_up_n (by decide)).trans ((bh_n (by decide)).trans h68)) (by rfl) ?_
  refine ma_iconst dX6_reach_20 ?_
  refine ma_cS [_, _] dX6_reach_21 wJ7_fill_53178 lX6_50 tJ7_fill_53178 (Nat.le_of_ble_eq_true rfl) ?_
  refine c_J7_fill_53178 ((ma_up_n (by decide)).trans ((bh_n (by decide)).trans h68)) (by decide) ?_
  refine ma_iconst dX6_reach_24 ?_
  refine ma_istore_nN dX6_reach_25 (by decide) rfl ?_
  have e3 : (ma_up (ma_up (br h 1 GM E P q) 64 (co 0 [vi 0, vr 65, vr 66, vr 67])) 68 (ci 4 (fun _ => 0))) = br (ma_up (ma_up h 64 (co 0 [vi 0, vr 65, vr 66, vr 67])) 68 (ci 4 (fun _ => 0))) 1 GM E P q := by rw [bh_up (by decide), bh_up (by decide)]
  show ma_J none mX6_reach (d + 4) 0 0 26 [some (vr 59), some (vr 1), some (vi 0)] [] (ma_up (ma_up (br h 1 GM E P q) 64 (co 0 [vi 0, vr 65, vr 66, vr 67])) 68 (ci 4 (fun _ => 0))) 1000000 Q
  rw [e3]
  have s1 : SN (ma_up (ma_up h 64 (co 0 [vi 0, vr 65, vr 66, vr 67])) 68 (ci 4 (fun _ => 0))) := by obtain ⟨a, b, c, e, z1, z2, z3, z4⟩ := hsn; exact ⟨a, b, c, e, ((ma_up_n (by decide)).trans ((ma_up_n (by decide)).trans z1)), ((ma_up_n (by decide)).trans ((ma_up_n (by decide)).trans z2)), ((ma_up_n (by decide)).trans ((ma_up_n (by decide)).trans z3)), ((ma_up_n (by decide)).trans ((ma_up_n (by decide)).trans z4))⟩
  have s2 : SV (ma_up (ma_up h 64 (co 0 [vi 0, vr 65, vr 66, vr 67])) 68 (ci 4 (fun _ => 0))) := by obtain ⟨a, b, z1, z2⟩ := hsv; exact ⟨a, b, ((ma_up_n (by decide)).trans ((ma_up_n (by decide)).trans z1)), ((ma_up_n (by decide)).trans ((ma_up_n (by decide)).trans z2))⟩
  refine l_re26 (e := 160) ((ma_up_n (by decide)).trans ((ma_up_n (by decide)).trans h59)) ((ma_up_n (by decide)).trans ((ma_up_n (by decide)).trans h54)) ((ma_up_n (by decide)).trans ((ma_up_n (by decide)).trans h1)) ((ma_up_n (by decide)).trans ((ma_up_n (by decide)).trans h2)) hB (by decide) ?_ 161 0 (by decide) (by decide) (by decide) (fun j a b z => by have := (gm_rf hB (by omega) (by omega)).mp z; omega)
  exact l_re160 ((ma_up_n (by decide)).trans ((ma_up_n (by decide)).trans h59)) ((ma_up_n (by decide)).trans ((ma_up_n (by decide)).trans h54)) ((ma_up_n (by decide)).trans ((ma_up_n (by decide)).trans h1)) ((ma_up_n (by decide)).trans ((ma_up_n (by decide)).trans h2)) hB ((ma_up_n (by decide)).trans ((ma_up_n (by decide)).trans h39)) s1 s2 ((ma_up_n (by decide)).trans ((ma_up_n (by decide)).trans h62)) ((ma_up_n (by decide)).trans ((ma_up_n (by decide)).trans h63)) ((ma_up_n (by decide)).trans (ma_up_s _ _ _)) ((ma_up_n (by decide)).trans ((ma_up_n (by decide)).trans h65)) ((ma_up_n (by decide)).trans ((ma_up_n (by decide)).trans h66)) ((ma_up_n (by decide)).trans ((ma_up_n (by decide)).trans h67)) hA hT (ma_up_s _ _ _) (fun h' E P G1 hB st kk k68 k59 => K h' E P G1 hB st (fun j hj => (kk j hj).trans (by rw [ma_up_n (fun z => hj (by rw [z]; simp)), ma_up_n (fun z => hj (by rw [z]; simp))])) k68 k59)
theorem l_co21 {hz : ma_H} {nx d : Nat} {xs r : Int} {N : Int → Int} {Q : Option ma_V → ma_H → Nat → Prop} (K : ∀ h', kp hz h' [31, 32] → Q (some (vi r)) h' nx) :
    ∀ (m : Nat) (i : Int) (h : ma_H), (0 ≤ i) → (i ≤ 4) → (4 - i < m) → (h 31 = co 9 [vi i, vr 32]) → (∃ T, h 32 = cl 65 T) → (h 0 = co 11 (xo xs)) → (h 59 = co 6 [vr 54, vr 44, vr 60, vr 62, vr 64, vr 68]) → (h 68 = ci 4 N) → (kp hz h [31, 32]) → ma_J none mX11_comes (d + 5) 0 0 21 [some (vr 0), some (vi r), some (vi i)] [] h nx Q := by
  intro m
  induction m with
  | zero => intro i h i0 i1 hm e31 e32 h0 h59 h68 ek; omega
  | succ m ih =>
    intro i h i0 i1 hm e31 e32 h0 h59 h68 ek
    obtain ⟨T, e32⟩ := e32
    refine ma_iload_n dX11_comes_21 rfl ?_
    refine ma_iconst dX11_comes_22 ?_
    refine ma_rcmp_ge 49 dX11_comes_23 rfl (by constructor <;> omega) (by constructor <;> omega) (fun c23 => ?_) (fun c23 => ?_)
    · -- 49
      refine ma_iload_n dX11_comes_49 rfl ?_
      exact ma_iret dX11_comes_50 rfl (K h ek)
    · -- 26
      refine ma_aload_n dX11_comes_26 rfl ?_
      refine ma_getf dX11_comes_27 fX11_40 (by first | exact h0 | exact e31 | exact h59 | exact h68) (by rfl) ?_
      refine ma_aload_n dX11_comes_30 rfl ?_
      refine ma_getf dX11_comes_31 fX11_86 (by first | exact h0 | exact e31 | exact h59 | exact h68) (by rfl) ?_
      refine ma_getf dX11_comes_34 fX11_271 (by first | exact h0 | exact e31 | exact h59 | exact h68) (by rfl) ?_
      refine ma_iload_n dX11_comes_37 rfl ?_
      refine ma_iald dX11_comes_38 (by first | exact h0 | exact e31 | exact h59 | exact h68) (by omega) (by omega) (by omega) ?_
      refine ma_i2l dX11_comes_39 ?_
      refine ma_cV [_] dX11_comes_40 wX9_add lX11_144 iX9_add sX9_add rfl (by first | exact h0 | exact e31 | exact h59 | exact h68) (Nat.le_of_ble_eq_true rfl) ?_
      refine c_X9_add e31 e32 (by decide) ⟨i0, by omega⟩ ?_
      refine ma_iincN dX11_comes_43 rfl (by decide) rfl ?_
      refine ma_goto 21 dX11_comes_46 rfl ?_
      exact ih (i + 1) _ (by omega) (by omega) (by omega) (ma_up_s _ _ _) ⟨_, (ma_up_n (by decide)).trans (ma_up_s _ _ _)⟩ ((ma_up_n (by decide)).trans ((ma_up_n (by decide)).trans h0)) ((ma_up_n (by decide)).trans ((ma_up_n (by decide)).trans h59)) ((ma_up_n (by decide)).trans ((ma_up_n (by decide)).trans h68)) (kp_up (by simp) (kp_up (by simp) ek))
set_option maxHeartbeats 4000000 in
theorem c_X11_comes0 {h : ma_H} {d : Nat} {u n : Int} {F T M A N : Int → Int} {E0 X0 D0 F0 P0 Z0 N0 S0 q0 : Int → Int} {ec0 pc0 : Int} {Q : Option ma_V → ma_H → Nat → Prop} {xs sz : Int} {TT : Int → Int} (h0 : h 0 = co 11 (xo xs)) (h31 : h 31 = co 9 [vi sz, vr 32]) (h32 : h 32 = cl 65 TT) (h59 : h 59 = co 6 [vr 54, vr 44, vr 60, vr 62, vr 64, vr 68]) (h54 : h 54 = co 1 [vr 44, vr 39, vr 55, vr 57, vr 58]) (h1 : h 1 = co 8 [vi 1, vr 2]) (h2 : h 2 = ci 32 GM) (h39 : h 39 = co 2 [vr 40, vr 41, vr 42, vr 43]) (hsn : SN h) (hsv : SV h) (h62 : h 62 = co 8 [vi u, vr 63]) (h63 : h 63 = ci 32 F) (h64 : h 64 = co 0 [vi n, vr 65, vr 66, vr 67]) (h65 : h 65 = ci 40 T) (h66 : h 66 = ci 40 M) (h67 : h 67 = ci 1280 A) (hA : ∀ j, 0 ≤ j → j < 1280 → rg (A j)) (hT : ∀ j, 0 ≤ j → j < 40 → rg (T j)) (h68 : h 68 = ci 4 N) (K : ∀ h' E P G1, BP 1 GM E P → STP 1 GM 160 4 G1 → kp h h' (31 :: 32 :: 62 :: 63 :: 64 :: 65 :: 66 :: 67 :: 68 :: scl) → Q (some (vi 1)) h' 1000000) : ma_Ct mX11_comes (d + 5) 0 0 [vr 0] (bh h E0 X0 D0 F0 P0 Z0 N0 S0 q0 ec0 pc0) 1000000 Q := by
  refine ma_Ct.of (by decide +kernel) (Nat.le_of_ble_eq_true rfl) ?_
  refine ma_aload_n dX11_comes_0 rfl ?_
  refine ma_getf dX11_comes_1 fX11_86 (by first | exact ((bh_n (by decide)).trans h0) | exact ((bh_n (by decide)).trans h59) | exact (kk 0 (by decide)).trans h0 | exact (kk 31 (by decide)).trans h31) (by rfl) ?_
  refine ma_aload_n dX11_comes_4 rfl ?_
  refine ma_getf dX11_comes_5 fX11_10 (by first | exact ((bh_n (by decide)).trans h0) | exact ((bh_n (by decide)).trans h59) | exact (kk 0 (by decide)).trans h0 | exact (kk 31 (by decide)).trans h31) (by rfl) ?_
  refine ma_cV [_] dX11_comes_8 wX6_reach lX11_268 iX6_reach sX6_reach rfl (by first | exact ((bh_n (by decide)).trans h0) | exact ((bh_n (by decide)).trans h59) | exact (kk 0 (by decide)).trans h0 | exact (kk 31 (by decide)).trans h31) (Nat.le_of_ble_eq_true rfl) ?_
  refine c_X6_reach0 h59 h54 h1 h2 h39 hsn hsv h62 h63 h64 h65 h66 h67 hA hT h68 (fun h' E P G1 hB st kk k68 k59 => ?_)
  obtain ⟨N', k68⟩ := k68
  refine ma_istore_nN dX11_comes_11 (by decide) rfl ?_
  refine ma_aload_n dX11_comes_12 rfl ?_
  refine ma_getf dX11_comes_13 fX11_40 (by first | exact ((bh_n (by decide)).trans h0) | exact ((bh_n (by decide)).trans h59) | exact (kk 0 (by decide)).trans h0 | exact (kk 31 (by decide)).trans h31) (by rfl) ?_
  refine ma_cV [] dX11_comes_16 wX9_clear lX11_141 iX9_clear sX9_clear rfl (by first | exact ((bh_n (by decide)).trans h0) | exact ((bh_n (by decide)).trans h59) | exact (kk 0 (by decide)).trans h0 | exact (kk 31 (by decide)).trans h31) (Nat.le_of_ble_eq_true rfl) ?_
  refine c_X9_clear ((kk 31 (by decide)).trans h31) ?_
  refine ma_iconst dX11_comes_19 ?_
  refine ma_istore_nN dX11_comes_20 (by decide) rfl ?_
  exact l_co21 (hz := ma_up h' 31 (co 9 [vi 0, vr 32])) (fun h2' k2 => K h2' E P G1 hB st (fun j hj => (k2 j (fun z => hj (by simp at z ⊢; omega))).trans ((ma_up_n (fun z => hj (by rw [z]; simp))).trans (kk j (fun z => hj (by simp at z ⊢; omega)))))) 5 0 _ (by decide) (by decide) (by decide) (ma_up_s _ _ _) ⟨_, (ma_up_n (by decide)).trans ((kk 32 (by decide)).trans h32)⟩ ((ma_up_n (by decide)).trans ((kk 0 (by decide)).trans h0)) ((ma_up_n (by decide)).trans k59) ((ma_up_n (by decide)).trans k68) (kp_rf _ _)
