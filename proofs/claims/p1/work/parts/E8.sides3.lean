theorem rh_up {h : ma_H} {I : Nat → Int} {f F R fi : Int → Int} {k : Nat} {c : ma_C} (e : k ≠ 73 ∧ k ≠ 76 ∧ k ≠ 86 ∧ k ≠ 87 ∧ k ≠ 88) : ma_up (rh h I f F R fi) k c = rh (ma_up h k c) I f F R fi := by
  obtain ⟨a, b, c, d, e⟩ := e
  unfold rh
  rw [up_co (Ne.symm a), up_co (Ne.symm e), up_co (Ne.symm d), up_co (Ne.symm c), up_co (Ne.symm b)]
set_option maxHeartbeats 2000000 in
theorem l_sd19 {h : ma_H} {nx d : Nat} {I : Nat → Int} {t : Int} {G Aa f F0 R0 fi0 : Int → Int} {Q : Option ma_V → ma_H → Nat → Prop} (h74 : h 74 = ci 33 Aa) (hG : VG t G) (hA : AG t G Aa) {D : Int → Int} {fl : Int} (h89 : h 89 = ci 8 D) (hf : fl = 0 ∨ fl = 1) (dr : ∀ x, D x = -1 ∨ D x = 0 ∨ D x = 1) (K1 : ∀ b, fl ≠ 0 → MK b (fun x => x < t ∧ D x = 1) → Q (some (vi 1)) (rh h (iu (iu (iu I 5 0) 4 0) 4 1) (uf f 0 b) F0 R0 fi0) nx) (K0 : fl = 0 → Q (some (vi 0)) (rh h (iu (iu I 5 0) 4 0) f F0 R0 fi0) nx) :
    ∀ (m : Nat) (i b : Int), 0 ≤ i → i ≤ t → t - i < m → MK b (fun x => x < i ∧ D x = 1) → ma_J none mX12_sides (d + 3) 0 0 19 [some (vr 73), some (vi fl), some (vi b), some (vi i)] [] (rh h (iu (iu I 5 0) 4 0) f F0 R0 fi0) nx Q := by
  have ht := hG.1
  intro m
  induction m with
  | zero => intro i b i0 i1 im; omega
  | succ m ih =>
    intro i b i0 i1 im hb
    refine ma_iload_n dX12_sides_19 rfl ?_
    refine ma_aload_n dX12_sides_20 rfl ?_
    refine ma_getf dX12_sides_21 fX12_9 (by first | exact rh_73 | exact (rh_n (by decide)).trans h74 | exact (rh_n (by decide)).trans h89) (by rfl) ?_
    refine ma_iconst dX12_sides_24 ?_
    refine ma_iald dX12_sides_25 (by first | exact rh_73 | exact (rh_n (by decide)).trans h74 | exact (rh_n (by decide)).trans h89) (by omega) (by omega) (by omega) ?_
    rw [hA.1]
    refine ma_rcmp_ge 55 dX12_sides_26 rfl (by constructor <;> omega) (by constructor <;> omega) (fun c26 => ?_) (fun c26 => ?_)
    · -- 55
      refine ma_iload_n dX12_sides_55 rfl ?_
      have e : i = t := by omega
      subst e
      have q1 := hb.1
      have q2 := hb.2.1
      have q3 : MK b (fun x => x < i ∧ D x = 1) := hb
      refine ma_rif_eq 65 dX12_sides_56 rfl (by constructor <;> omega) (fun c56 => ?_) (fun c56 => ?_)
      · -- 65
        refine ma_iload_n dX12_sides_65 rfl ?_
        refine ma_rif_eq 73 dX12_sides_66 rfl (by constructor <;> omega) (fun c66 => ?_) (fun c66 => ?_)
        · -- 73
          refine ma_iconst dX12_sides_73 ?_
          exact ma_iret dX12_sides_74 rfl (K0 c56)
        · -- 69
          refine ma_iconst dX12_sides_69 ?_
          refine ma_goto 74 dX12_sides_70 rfl ?_
          (exfalso; omega)
      · -- 59
        refine ma_aload_n dX12_sides_59 rfl ?_
        refine ma_iload_n dX12_sides_60 rfl ?_
        refine ma_i2l dX12_sides_61 ?_
        refine ma_cV [_] dX12_sides_62 wX12_tell lX12_231 iX12_tell sX12_tell rfl (by first | exact rh_73 | exact (rh_n (by decide)).trans h74 | exact (rh_n (by decide)).trans h89) (Nat.le_of_ble_eq_true rfl) ?_
        refine r_tell 0 rfl (by decide) (iw_of (by omega) (by omega)) ?_
        refine ma_iload_n dX12_sides_65 rfl ?_
        refine ma_rif_eq 73 dX12_sides_66 rfl (by constructor <;> omega) (fun c66 => ?_) (fun c66 => ?_)
        · -- 73
          refine ma_iconst dX12_sides_73 ?_
          (exfalso; omega)
        · -- 69
          refine ma_iconst dX12_sides_69 ?_
          refine ma_goto 74 dX12_sides_70 rfl ?_
          exact ma_iret dX12_sides_74 rfl (K1 b c56 q3)
    · -- 29
      refine ma_iload_n dX12_sides_29 rfl ?_
      refine ma_aload_n dX12_sides_30 rfl ?_
      refine ma_getf dX12_sides_31 fX12_57 (by first | exact rh_73 | exact (rh_n (by decide)).trans h74 | exact (rh_n (by decide)).trans h89) (by rfl) ?_
      refine ma_iload_n dX12_sides_34 rfl ?_
      refine ma_iald dX12_sides_35 (by first | exact rh_73 | exact (rh_n (by decide)).trans h74 | exact (rh_n (by decide)).trans h89) (by omega) (by omega) (by omega) ?_
      refine ma_iconst dX12_sides_36 ?_
      have di := dr i
      refine ma_rcmp_ne 46 dX12_sides_37 rfl (by constructor <;> omega) (by constructor <;> omega) (fun c37 => ?_) (fun c37 => ?_)
      · -- 46
        refine ma_iconst dX12_sides_46 ?_
        refine ma_ior dX12_sides_47 ?_
        refine ma_istore_nN dX12_sides_48 (by decide) rfl ?_
        refine ma_iincN dX12_sides_49 rfl (by decide) rfl ?_
        refine ma_goto 19 dX12_sides_52 rfl ?_
        refine ih (i + 1) _ (by omega) (by omega) (by omega) (mk_iff (mk_oo hb mk_0) (fun z z0 z1 => ?_))
        constructor
        · rintro (q | q)
          · exact ⟨by omega, q.2⟩
          · exact q.elim
        · rintro ⟨q1, q2⟩
          refine Or.inl ⟨?_, q2⟩
          rcases Int.lt_or_eq_of_le (show z ≤ i by omega) with q | q
          · exact q
          · rw [q] at q2; exact absurd q2 c37
      · -- 40
        refine ma_iconst dX12_sides_40 ?_
        refine ma_iload_n dX12_sides_41 rfl ?_
        refine ma_ishl dX12_sides_42 ?_
        refine ma_goto 47 dX12_sides_43 rfl ?_
        refine ma_ior dX12_sides_47 ?_
        refine ma_istore_nN dX12_sides_48 (by decide) rfl ?_
        refine ma_iincN dX12_sides_49 rfl (by decide) rfl ?_
        refine ma_goto 19 dX12_sides_52 rfl ?_
        refine ih (i + 1) _ (by omega) (by omega) (by omega) (mk_iff (mk_or hb (by omega) (by omega)) (fun z z0 z1 => ?_))
        constructor
        · rintro (q | q)
          · exact ⟨by omega, q.2⟩
          · exact ⟨by omega, by rw [q]; exact c37⟩
        · rintro ⟨q1, q2⟩
          rcases Int.lt_or_eq_of_le (show z ≤ i by omega) with q | q
          · exact Or.inl ⟨q, q2⟩
          · exact Or.inr q
theorem c_X12_sides {h : ma_H} {nx d : Nat} {I : Nat → Int} {t : Int} {G Aa f F0 R0 fi0 : Int → Int} {Q : Option ma_V → ma_H → Nat → Prop} (h74 : h 74 = ci 33 Aa) (hG : VG t G) (hA : AG t G Aa) (hT : TRE t G) {C : Int → Int} (h89 : h 89 = ci 8 C) (K1 : ∀ D b, sdS G (4 * t).toNat = some D → MK b (fun x => x < t ∧ D x = 1) → Q (some (vi 1)) (rh (ma_up h 89 (ci 8 D)) (iu (iu (iu I 5 0) 4 0) 4 1) (uf f 0 b) F0 R0 fi0) nx) (K0 : ∀ D, sdS G (4 * t).toNat = none → Q (some (vi 0)) (rh (ma_up h 89 (ci 8 D)) (iu (iu I 5 0) 4 0) f F0 R0 fi0) nx) : ma_Ct mX12_sides (d + 3) 0 0 [vr 73] (rh h I f F0 R0 fi0) nx Q := by
  have ht := hG.1
  refine ma_Ct.of (by decide +kernel) (Nat.le_of_ble_eq_true rfl) ?_
  refine ma_aload_n dX12_sides_0 rfl ?_
  refine ma_iconst dX12_sides_1 ?_
  refine ma_puti dX12_sides_2 fX12_128 (by first | exact rh_73 | exact (rh_n (by decide)).trans h74 | exact (rh_n (by decide)).trans h89) (Nat.le_of_ble_eq_true rfl) ?_
  rw [mo_5, rh_p]
  refine ma_aload_n dX12_sides_5 rfl ?_
  refine ma_cV [] dX12_sides_6 wX12_laySides lX12_331 iX12_laySides sX12_laySides rfl (by first | exact rh_73 | exact (rh_n (by decide)).trans h74 | exact (rh_n (by decide)).trans h89) (Nat.le_of_ble_eq_true rfl) ?_
  refine c_X12_laySides rh_73 ((rh_n (by decide)).trans h74) hG hA hT ((rh_n (by decide)).trans h89) (fun D eD => ?_) (fun D dD eD => ?_) <;> rw [rh_up (by decide)]
  · -- i
    refine ma_istore_nN dX12_sides_9 (by decide) rfl ?_
    refine ma_aload_n dX12_sides_10 rfl ?_
    refine ma_iconst dX12_sides_11 ?_
    refine ma_puti dX12_sides_12 fX12_132 (by first | exact rh_73 | exact (rh_n (by decide)).trans h74 | exact (rh_n (by decide)).trans h89) (Nat.le_of_ble_eq_true rfl) ?_
    rw [mo_4, rh_p]
    refine ma_iconst dX12_sides_15 ?_
    refine ma_istore_nN dX12_sides_16 (by decide) rfl ?_
    refine ma_iconst dX12_sides_17 ?_
    refine ma_istore_nN dX12_sides_18 (by decide) rfl ?_
    exact l_sd19 ((ma_up_n (by decide)).trans h74) hG hA (ma_up_s _ _ _) (Or.inr rfl) (sd_in _ eD) (fun b _ hb => K1 D b eD hb) (fun z => absurd z (by decide)) 9 0 0 (by decide) (by omega) (by omega) (mk_iff mk_0 (fun z z0 z1 => ⟨fun q => q.elim, fun q => by omega⟩))
  · -- i
    refine ma_istore_nN dX12_sides_9 (by decide) rfl ?_
    refine ma_aload_n dX12_sides_10 rfl ?_
    refine ma_iconst dX12_sides_11 ?_
    refine ma_puti dX12_sides_12 fX12_132 (by first | exact rh_73 | exact (rh_n (by decide)).trans h74 | exact (rh_n (by decide)).trans h89) (Nat.le_of_ble_eq_true rfl) ?_
    rw [mo_4, rh_p]
    refine ma_iconst dX12_sides_15 ?_
    refine ma_istore_nN dX12_sides_16 (by decide) rfl ?_
    refine ma_iconst dX12_sides_17 ?_
    refine ma_istore_nN dX12_sides_18 (by decide) rfl ?_
    exact l_sd19 ((ma_up_n (by decide)).trans h74) hG hA (ma_up_s _ _ _) (Or.inl rfl) dD (fun b z hb => absurd rfl z) (fun z => K0 D eD) 9 0 0 (by decide) (by omega) (by omega) (mk_iff mk_0 (fun z z0 z1 => ⟨fun q => q.elim, fun q => by omega⟩))
