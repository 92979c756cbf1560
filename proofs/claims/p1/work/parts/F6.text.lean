/-- the model's text is the class's -/
def TX (T Tm : Int → Int) (n : Int) : Prop := ∀ j, 0 ≤ j → j < n → 0 ≤ T j ∧ T j < 256 ∧ Tm j % 256 = T j ∧ -128 ≤ Tm j ∧ Tm j ≤ 127
/-- the model's object over a world -/
abbrev mj (g : ma_H) (J : Nat → Int) : ma_H := ma_up g 73 (co 12 (mo J))
theorem mj_73 (g : ma_H) (J : Nat → Int) : mj g J 73 = co 12 (mo J) := ma_up_s _ _ _
theorem mj_p (g : ma_H) (J J' : Nat → Int) : ma_up (mj g J) 73 (co 12 (mo J')) = mj g J' := ma_up_up _ _ _ _
/-- reading one sign of a row: its number, where it stands then, what is wrong then -/
def o1 (T : Int → Int) (n a m w x : Int) : Int := if w = -1 ∧ a ≤ sg T n x ∧ sg T n x ≤ a + m - 1 then sg T n x - a else 0
def o2 (T : Int → Int) (n a m w x : Int) : Int := if w = -1 ∧ a ≤ sg T n x ∧ sg T n x ≤ a + m - 1 then x + 1 else x
def o3 (T : Int → Int) (n a m w x : Int) : Int := if w = -1 ∧ ¬ (a ≤ sg T n x ∧ sg T n x ≤ a + m - 1) then x else w
theorem c_X12_begin {g : ma_H} {nx d : Nat} {J : Nat → Int} {Q : Option ma_V → ma_H → Nat → Prop} (K : Q none (mj g (iu (iu (iu (iu J 15 (J 2)) 16 0) 17 (-1)) 2 0)) nx) : ma_Ct mX12_begin d 0 0 [vr 73] (mj g J) nx Q := by
  refine ma_Ct.of (by decide +kernel) (Nat.le_of_ble_eq_true rfl) ?_
  refine ma_aload_n dX12_begin_0 rfl ?_
  refine ma_aload_n dX12_begin_1 rfl ?_
  refine ma_getf dX12_begin_2 fX12_176 (by first | exact mj_73 _ _ | exact (ma_up_n (by decide)).trans h75) (by rfl) ?_
  refine ma_puti dX12_begin_5 fX12_183 (by first | exact mj_73 _ _ | exact (ma_up_n (by decide)).trans h75) (Nat.le_of_ble_eq_true rfl) ?_
  rw [mo_15, mj_p]
  refine ma_aload_n dX12_begin_8 rfl ?_
  refine ma_iconst dX12_begin_9 ?_
  refine ma_puti dX12_begin_10 fX12_186 (by first | exact mj_73 _ _ | exact (ma_up_n (by decide)).trans h75) (Nat.le_of_ble_eq_true rfl) ?_
  rw [mo_16, mj_p]
  refine ma_aload_n dX12_begin_13 rfl ?_
  refine ma_iconst dX12_begin_14 ?_
  refine ma_puti dX12_begin_15 fX12_189 (by first | exact mj_73 _ _ | exact (ma_up_n (by decide)).trans h75) (Nat.le_of_ble_eq_true rfl) ?_
  rw [mo_17, mj_p]
  refine ma_aload_n dX12_begin_18 rfl ?_
  refine ma_iconst dX12_begin_19 ?_
  refine ma_puti dX12_begin_20 fX12_176 (by first | exact mj_73 _ _ | exact (ma_up_n (by decide)).trans h75) (Nat.le_of_ble_eq_true rfl) ?_
  rw [mo_2, mj_p]
  exact ma_vret dX12_begin_23 rfl K
theorem c_X12_here {g : ma_H} {nx d : Nat} {J : Nat → Int} {Q : Option ma_V → ma_H → Nat → Prop} {T Tm : Int → Int} {n x : Int} (h75 : g 75 = cb 80 Tm) (hX : TX T Tm n) (hn : 0 ≤ n ∧ n ≤ 80) (e15 : J 15 = n) (e16 : J 16 = x) (x0 : 0 ≤ x ∧ x ≤ 1000) (K : Q (some (vi (sg T n x))) (mj g J) nx) : ma_Ct mX12_here d 0 0 [vr 73] (mj g J) nx Q := by
  refine ma_Ct.of (by decide +kernel) (Nat.le_of_ble_eq_true rfl) ?_
  refine ma_aload_n dX12_here_0 rfl ?_
  refine ma_getf dX12_here_1 fX12_186 (by first | exact mj_73 _ _ | exact (ma_up_n (by decide)).trans h75) (by rfl) ?_
  rw [e16]
  refine ma_aload_n dX12_here_4 rfl ?_
  refine ma_getf dX12_here_5 fX12_183 (by first | exact mj_73 _ _ | exact (ma_up_n (by decide)).trans h75) (by rfl) ?_
  rw [e15]
  refine ma_rcmp_ge 27 dX12_here_8 rfl (by constructor <;> omega) (by constructor <;> omega) (fun c8 => ?_) (fun c8 => ?_)
  · -- 27
    refine ma_iconst dX12_here_27 ?_
    exact ma_iret dX12_here_28 rfl (by have z := K; unfold sg at z; rw [if_neg (by omega)] at z; exact z)
  · -- 11
    refine ma_aload_n dX12_here_11 rfl ?_
    refine ma_getf dX12_here_12 fX12_13 (by first | exact mj_73 _ _ | exact (ma_up_n (by decide)).trans h75) (by rfl) ?_
    refine ma_aload_n dX12_here_15 rfl ?_
    refine ma_getf dX12_here_16 fX12_186 (by first | exact mj_73 _ _ | exact (ma_up_n (by decide)).trans h75) (by rfl) ?_
    rw [e16]
    refine ma_bald dX12_here_19 (by first | exact mj_73 _ _ | exact (ma_up_n (by decide)).trans h75) (by omega) (by omega) (by omega) ?_
    refine ma_sipush dX12_here_20 ?_
    refine ma_kand 8 256 dX12_here_23 (by decide) (by decide +kernel) (by decide) ?_
    rw [(hX x x0.1 (by omega)).2.2.1]
    refine ma_goto 28 dX12_here_24 rfl ?_
    exact ma_iret dX12_here_28 rfl (by have z := K; unfold sg at z; rw [if_pos (by omega)] at z; exact z)
theorem c_X12_fine {g : ma_H} {nx d : Nat} {J : Nat → Int} {Q : Option ma_V → ma_H → Nat → Prop} {w : Int} (e17 : J 17 = w) (w0 : -1 ≤ w ∧ w ≤ 1000) (K1 : w = -1 → Q (some (vi 1)) (mj g J) nx) (K0 : w ≠ -1 → Q (some (vi 0)) (mj g J) nx) : ma_Ct mX12_fine d 0 0 [vr 73] (mj g J) nx Q := by
  refine ma_Ct.of (by decide +kernel) (Nat.le_of_ble_eq_true rfl) ?_
  refine ma_aload_n dX12_fine_0 rfl ?_
  refine ma_getf dX12_fine_1 fX12_189 (by first | exact mj_73 _ _ | exact (ma_up_n (by decide)).trans h75) (by rfl) ?_
  rw [e17]
  refine ma_iconst dX12_fine_4 ?_
  refine ma_rcmp_ne 12 dX12_fine_5 rfl (by constructor <;> omega) (by constructor <;> omega) (fun c5 => ?_) (fun c5 => ?_)
  · -- 12
    refine ma_iconst dX12_fine_12 ?_
    exact ma_zret dX12_fine_13 rfl (Or.inl rfl) (K0 (by omega))
  · -- 8
    refine ma_iconst dX12_fine_8 ?_
    refine ma_goto 13 dX12_fine_9 rfl ?_
    exact ma_zret dX12_fine_13 rfl (Or.inr rfl) (K1 (by omega))
theorem c_X12_fault {g : ma_H} {nx d : Nat} {J : Nat → Int} {Q : Option ma_V → ma_H → Nat → Prop} {w p : Int} (e17 : J 17 = w) (w0 : -1 ≤ w ∧ w ≤ 1000) (K : Q none (mj g (iu J 17 (if w = -1 then p else w))) nx) : ma_Ct mX12_fault (d + 1) 0 0 [vr 73, vi p] (mj g J) nx Q := by
  refine ma_Ct.of (by decide +kernel) (Nat.le_of_ble_eq_true rfl) ?_
  refine ma_aload_n dX12_fault_0 rfl ?_
  refine ma_cV [] dX12_fault_1 wX12_fine lX12_192 iX12_fine sX12_fine rfl (by first | exact mj_73 _ _ | exact (ma_up_n (by decide)).trans h75) (Nat.le_of_ble_eq_true rfl) ?_
  refine c_X12_fine e17 w0 (fun z => ?_) (fun z => ?_)
  · -- k1
    refine ma_rif_eq 12 dX12_fault_4 rfl (by decide) (fun c4 => absurd c4 (by decide)) (fun c4 => ?_)
    refine ma_aload_n dX12_fault_7 rfl ?_
    refine ma_iload_n dX12_fault_8 rfl ?_
    refine ma_puti dX12_fault_9 fX12_189 (by first | exact mj_73 _ _ | exact (ma_up_n (by decide)).trans h75) (Nat.le_of_ble_eq_true rfl) ?_
    rw [mo_17, mj_p]
    exact ma_vret dX12_fault_12 rfl (by rw [if_pos z] at K; exact K)
  · -- k0
    refine ma_rif_eq 12 dX12_fault_4 rfl (by decide) (fun c4 => ?_) (fun c4 => absurd c4 (by decide))
    exact ma_vret dX12_fault_12 rfl (by rw [if_neg z] at K; rw [← e17, iu_id rfl] at K; exact K)
theorem sg_x {T Tm : Int → Int} {n : Int} (hX : TX T Tm n) (hn : 0 ≤ n ∧ n ≤ 80) (x : Int) : -1 ≤ sg T n x ∧ sg T n x < 256 := by
  unfold sg
  split
  · have := hX x (by omega) (by omega)
    omega
  · omega
theorem tm_e {T Tm : Int → Int} {n : Int} (hX : TX T Tm n) {x : Int} (x0 : 0 ≤ x) (h0 : 0 ≤ sg T n x) (h1 : sg T n x ≤ 127) : Tm x = sg T n x ∧ x < n := by
  unfold sg at h0 h1 ⊢
  split at h0
  · rename_i z
    rw [if_pos z] at h1 ⊢
    have := hX x z.1 z.2
    omega
  · omega
theorem sg_e {T : Int → Int} {n x : Int} (x0 : 0 ≤ x) (x1 : x < n) : sg T n x = T x := by
  unfold sg
  rw [if_pos ⟨x0, x1⟩]
set_option maxHeartbeats 2000000 in
theorem c_X12_oneOf {g : ma_H} {nx d : Nat} {J : Nat → Int} {Q : Option ma_V → ma_H → Nat → Prop} {T Tm : Int → Int} {n x : Int} {w a m : Int} (h75 : g 75 = cb 80 Tm) (hX : TX T Tm n) (hn : 0 ≤ n ∧ n ≤ 80) (e15 : J 15 = n) (e16 : J 16 = x) (x0 : 0 ≤ x ∧ x ≤ 1000) (e17 : J 17 = w) (w0 : -1 ≤ w ∧ w ≤ 1000) (ha : 0 ≤ a ∧ a ≤ 97) (hm : 0 ≤ m ∧ a + m ≤ 128) (K : Q (some (vi (o1 T n a m w x))) (mj g (iu (iu J 16 (o2 T n a m w x)) 17 (o3 T n a m w x))) nx) : ma_Ct mX12_oneOf (d + 2) 0 0 [vr 73, vi a, vi m] (mj g J) nx Q := by
  refine ma_Ct.of (by decide +kernel) (Nat.le_of_ble_eq_true rfl) ?_
  refine ma_aload_n dX12_oneOf_0 rfl ?_
  refine ma_cV [] dX12_oneOf_1 wX12_fine lX12_192 iX12_fine sX12_fine rfl (by first | exact mj_73 _ _ | exact (ma_up_n (by decide)).trans h75) (Nat.le_of_ble_eq_true rfl) ?_
  refine c_X12_fine e17 w0 (fun z => ?_) (fun z => ?_)
  · -- k1
    refine ma_rif_ne 9 dX12_oneOf_4 rfl (by decide) (fun c4 => ?_) (fun c4 => absurd c4 (by decide))
    refine ma_aload_n dX12_oneOf_9 rfl ?_
    refine ma_cV [] dX12_oneOf_10 wX12_here lX12_196 iX12_here sX12_here rfl (by first | exact mj_73 _ _ | exact (ma_up_n (by decide)).trans h75) (Nat.le_of_ble_eq_true rfl) ?_
    refine c_X12_here h75 hX hn e15 e16 x0 ?_
    have sb := sg_x hX hn x
    refine ma_iload_n dX12_oneOf_13 rfl ?_
    refine ma_iload_n dX12_oneOf_14 rfl ?_
    refine ma_iload_n dX12_oneOf_15 rfl ?_
    refine ma_iadd dX12_oneOf_16 ?_
    refine ma_iconst dX12_oneOf_17 ?_
    refine ma_isub dX12_oneOf_18 ?_
    refine ma_cS [_, _, _] dX12_oneOf_19 wX12_in lX12_179 tX12_in (Nat.le_of_ble_eq_true rfl) ?_
    refine c_X12_in (by unfold rg; omega) (by unfold rg; omega) (by unfold rg; omega) (fun y0 y1 => have te := tm_e hX x0.1 (by omega) (by omega); ?_) (fun y => ?_)
    · -- k1
      refine ma_rif_ne 35 dX12_oneOf_22 rfl (by decide) (fun c22 => ?_) (fun c22 => absurd c22 (by decide))
      refine ma_aload_n dX12_oneOf_35 rfl ?_
      have tl := te.2
      refine ma_dup dX12_oneOf_36 rfl ?_
      refine ma_getf dX12_oneOf_37 fX12_186 (by first | exact mj_73 _ _ | exact (ma_up_n (by decide)).trans h75) (by rfl) ?_
      rw [e16]
      refine ma_iconst dX12_oneOf_40 ?_
      refine ma_iadd dX12_oneOf_41 ?_
      refine ma_puti dX12_oneOf_42 fX12_186 (by first | exact mj_73 _ _ | exact (ma_up_n (by decide)).trans h75) (Nat.le_of_ble_eq_true rfl) ?_
      rw [mo_16, mj_p]
      refine ma_aload_n dX12_oneOf_45 rfl ?_
      refine ma_getf dX12_oneOf_46 fX12_13 (by first | exact mj_73 _ _ | exact (ma_up_n (by decide)).trans h75) (by rfl) ?_
      refine ma_aload_n dX12_oneOf_49 rfl ?_
      refine ma_getf dX12_oneOf_50 fX12_186 (by first | exact mj_73 _ _ | exact (ma_up_n (by decide)).trans h75) (by rfl) ?_
      rw [iu_s]
      refine ma_iconst dX12_oneOf_53 ?_
      refine ma_isub dX12_oneOf_54 ?_
      refine ma_bald dX12_oneOf_55 (by first | exact mj_73 _ _ | exact (ma_up_n (by decide)).trans h75) (by omega) (by omega) (by omega) ?_
      rw [show x + 1 - 1 = x by omega]
      refine ma_iload_n dX12_oneOf_56 rfl ?_
      refine ma_isub dX12_oneOf_57 ?_
      exact ma_iret dX12_oneOf_58 rfl (by have q := K; unfold o1 o2 o3 at q; rw [if_pos (by omega), if_pos (by omega), if_neg (by omega), iu_id (show iu J 16 (x + 1) 17 = w by rw [iu_n (by decide)]; exact e17)] at q; rw [te.1]; exact q)
    · -- k0
      refine ma_rif_ne 35 dX12_oneOf_22 rfl (by decide) (fun c22 => absurd c22 (by decide)) (fun c22 => ?_)
      refine ma_aload_n dX12_oneOf_25 rfl ?_
      refine ma_aload_n dX12_oneOf_26 rfl ?_
      refine ma_getf dX12_oneOf_27 fX12_186 (by first | exact mj_73 _ _ | exact (ma_up_n (by decide)).trans h75) (by rfl) ?_
      rw [e16]
      refine ma_cV [_] dX12_oneOf_30 wX12_fault lX12_200 iX12_fault sX12_fault rfl (by first | exact mj_73 _ _ | exact (ma_up_n (by decide)).trans h75) (Nat.le_of_ble_eq_true rfl) ?_
      refine c_X12_fault (p := x) e17 w0 ?_
      refine ma_iconst dX12_oneOf_33 ?_
      exact ma_iret dX12_oneOf_34 rfl (by have q := K; unfold o1 o2 o3 at q; rw [if_neg (by omega), if_neg (by omega), if_pos (by omega), iu_id e16] at q; rw [if_pos z]; exact q)
  · -- k0
    refine ma_rif_ne 9 dX12_oneOf_4 rfl (by decide) (fun c4 => absurd c4 (by decide)) (fun c4 => ?_)
    refine ma_iconst dX12_oneOf_7 ?_
    exact ma_iret dX12_oneOf_8 rfl (by have q := K; unfold o1 o2 o3 at q; rw [if_neg (by omega), if_neg (by omega), if_neg (by omega), ← e16, ← e17, iu_id rfl, iu_id rfl] at q; exact q)
theorem wr_c {w x n : Int} (h : x < n) : (w ≠ -1 ∧ (if w = -1 then x else w) = w) ∨ (w = -1 ∧ x < n ∧ (if w = -1 then x else w) = x) := by
  by_cases y : w = -1
  · rw [if_pos y]; exact Or.inr ⟨y, h, rfl⟩
  · rw [if_neg y]; exact Or.inl ⟨y, rfl⟩
theorem c_X12_wasRight {g : ma_H} {nx d : Nat} {J : Nat → Int} {Q : Option ma_V → ma_H → Nat → Prop} {n x w : Int} (hn : 0 ≤ n ∧ n ≤ 80) (e15 : J 15 = n) (e16 : J 16 = x) (x0 : 0 ≤ x ∧ x ≤ 1000) (e17 : J 17 = w) (w0 : -1 ≤ w ∧ w ≤ 1000) (K1 : w = -1 → n ≤ x → Q (some (vi 1)) (mj g J) nx) (K0 : ∀ w', (w ≠ -1 ∧ w' = w) ∨ (w = -1 ∧ x < n ∧ w' = x) → Q (some (vi 0)) (mj g (iu J 17 w')) nx) : ma_Ct mX12_wasRight (d + 2) 0 0 [vr 73] (mj g J) nx Q := by
  refine ma_Ct.of (by decide +kernel) (Nat.le_of_ble_eq_true rfl) ?_
  refine ma_aload_n dX12_wasRight_0 rfl ?_
  refine ma_getf dX12_wasRight_1 fX12_186 (by first | exact mj_73 _ _ | exact (ma_up_n (by decide)).trans h75) (by rfl) ?_
  rw [e16]
  refine ma_aload_n dX12_wasRight_4 rfl ?_
  refine ma_getf dX12_wasRight_5 fX12_183 (by first | exact mj_73 _ _ | exact (ma_up_n (by decide)).trans h75) (by rfl) ?_
  rw [e15]
  refine ma_rcmp_ge 19 dX12_wasRight_8 rfl (by constructor <;> omega) (by constructor <;> omega) (fun c8 => ?_) (fun c8 => ?_)
  · -- 19
    refine ma_aload_n dX12_wasRight_19 rfl ?_
    refine ma_cV [] dX12_wasRight_20 wX12_fine lX12_192 iX12_fine sX12_fine rfl (by first | exact mj_73 _ _ | exact (ma_up_n (by decide)).trans h75) (Nat.le_of_ble_eq_true rfl) ?_
    refine c_X12_fine e17 w0 (fun z => ?_) (fun z => ?_)
    · -- k1
      exact ma_zret dX12_wasRight_23 rfl (Or.inr rfl) (K1 z (by omega))
    · -- k0
      exact ma_zret dX12_wasRight_23 rfl (Or.inl rfl) (by have q := K0 w (Or.inl ⟨z, rfl⟩); rw [iu_id e17] at q; exact q)
  · -- 11
    refine ma_aload_n dX12_wasRight_11 rfl ?_
    refine ma_aload_n dX12_wasRight_12 rfl ?_
    refine ma_getf dX12_wasRight_13 fX12_186 (by first | exact mj_73 _ _ | exact (ma_up_n (by decide)).trans h75) (by rfl) ?_
    rw [e16]
    refine ma_cV [_] dX12_wasRight_16 wX12_fault lX12_200 iX12_fault sX12_fault rfl (by first | exact mj_73 _ _ | exact (ma_up_n (by decide)).trans h75) (Nat.le_of_ble_eq_true rfl) ?_
    refine c_X12_fault (p := x) e17 w0 ?_
    refine ma_aload_n dX12_wasRight_19 rfl ?_
    refine ma_cV [] dX12_wasRight_20 wX12_fine lX12_192 iX12_fine sX12_fine rfl (by first | exact mj_73 _ _ | exact (ma_up_n (by decide)).trans h75) (Nat.le_of_ble_eq_true rfl) ?_
    refine c_X12_fine (iu_s _ _ _) (by split <;> omega) (fun z => ?_) (fun z => ?_)
    · -- k1
      exact absurd z (by split <;> omega)
    · -- k0
      exact ma_zret dX12_wasRight_23 rfl (Or.inl rfl) (K0 _ (wr_c (by omega)))
