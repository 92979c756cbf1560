def bcf (x : Int) : Int := x + bi_ushr x 16
def bce (x : Int) : Int := x + bi_ushr x 8
def bcd (x : Int) : Int := bi_and (x + bi_ushr x 4) 252645135
def bcc (x : Int) : Int := bi_and x 858993459 + bi_and (bi_ushr x 2) 858993459
def bcb (x : Int) : Int := x - bi_and (bi_ushr x 1) 1431655765
def bca (x : Int) : Int := bcf (bce (bcd (bcc (bcb x)))) % 64
theorem bc_n : ∀ x : Nat, x < 256 → bca x = pcn x := by decide +kernel
theorem bc_ok {x : Int} (h0 : 0 ≤ x) (h1 : x < 256) : bca x = pcn x := pm_nat (P := fun x => bca x = pcn x) (n := 256) bc_n h0 h1
theorem c_J6_bitCount {h : ma_H} {nx d : Nat} {x : Int} {Q : Option ma_V → ma_H → Nat → Prop} (hx : 0 ≤ x ∧ x < 256) (K : Q (some (vi (pcn x))) h nx) : ma_Ct mJ6_bitCount_0f7a4 d 0 0 [vi x] h nx Q := by
  rw [← bc_ok hx.1 hx.2] at K
  refine ma_Ct.of (by decide +kernel) (Nat.le_of_ble_eq_true rfl) ?_
  refine ma_iload_n dJ6_bitCount_0f7a4_0 rfl ?_
  refine ma_iload_n dJ6_bitCount_0f7a4_1 rfl ?_
  refine ma_iconst dJ6_bitCount_0f7a4_2 ?_
  refine ma_iushr dJ6_bitCount_0f7a4_3 ?_
  refine ma_ldcw (n := 1431655765) dJ6_bitCount_0f7a4_4 vJ6_265 (by decide +kernel) ?_
  refine ma_iand dJ6_bitCount_0f7a4_7 ?_
  refine ma_isub dJ6_bitCount_0f7a4_8 ?_
  refine ma_istore_nN dJ6_bitCount_0f7a4_9 (by decide) rfl ?_
  refine ma_iload_n dJ6_bitCount_0f7a4_10 rfl ?_
  refine ma_ldcw (n := 858993459) dJ6_bitCount_0f7a4_11 vJ6_266 (by decide +kernel) ?_
  refine ma_iand dJ6_bitCount_0f7a4_14 ?_
  refine ma_iload_n dJ6_bitCount_0f7a4_15 rfl ?_
  refine ma_iconst dJ6_bitCount_0f7a4_16 ?_
  refine ma_iushr dJ6_bitCount_0f7a4_17 ?_
  refine ma_ldcw (n := 858993459) dJ6_bitCount_0f7a4_18 vJ6_266 (by decide +kernel) ?_
  refine ma_iand dJ6_bitCount_0f7a4_21 ?_
  refine ma_iadd dJ6_bitCount_0f7a4_22 ?_
  refine ma_istore_nN dJ6_bitCount_0f7a4_23 (by decide) rfl ?_
  refine ma_iload_n dJ6_bitCount_0f7a4_24 rfl ?_
  refine ma_iload_n dJ6_bitCount_0f7a4_25 rfl ?_
  refine ma_iconst dJ6_bitCount_0f7a4_26 ?_
  refine ma_iushr dJ6_bitCount_0f7a4_27 ?_
  refine ma_iadd dJ6_bitCount_0f7a4_28 ?_
  refine ma_ldcw (n := 252645135) dJ6_bitCount_0f7a4_29 vJ6_267 (by decide +kernel) ?_
  refine ma_iand dJ6_bitCount_0f7a4_32 ?_
  refine ma_istore_nN dJ6_bitCount_0f7a4_33 (by decide) rfl ?_
  refine ma_iload_n dJ6_bitCount_0f7a4_34 rfl ?_
  refine ma_iload_n dJ6_bitCount_0f7a4_35 rfl ?_
  refine ma_bipush dJ6_bitCount_0f7a4_36 ?_
  refine ma_iushr dJ6_bitCount_0f7a4_38 ?_
  refine ma_iadd dJ6_bitCount_0f7a4_39 ?_
  refine ma_istore_nN dJ6_bitCount_0f7a4_40 (by decide) rfl ?_
  refine ma_iload_n dJ6_bitCount_0f7a4_41 rfl ?_
  refine ma_iload_n dJ6_bitCount_0f7a4_42 rfl ?_
  refine ma_bipush dJ6_bitCount_0f7a4_43 ?_
  refine ma_iushr dJ6_bitCount_0f7a4_45 ?_
  refine ma_iadd dJ6_bitCount_0f7a4_46 ?_
  refine ma_istore_nN dJ6_bitCount_0f7a4_47 (by decide) rfl ?_
  refine ma_iload_n dJ6_bitCount_0f7a4_48 rfl ?_
  refine ma_bipush dJ6_bitCount_0f7a4_49 ?_
  refine ma_kand 6 64 dJ6_bitCount_0f7a4_51 (by decide) (by decide +kernel) (by decide) ?_
  exact ma_iret dJ6_bitCount_0f7a4_52 rfl K
