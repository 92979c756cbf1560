/-- the kind that a sign of a trail names -/
def kd (w : Int) : Int := if w = 102 then 0 else if w = 101 then 1 else if w = 116 then 2 else if w = 112 then 3 else -1
def dn (k : Int) : Int := if k = 2 then 1 else if k = 1 then 3 else 2
theorem c_X5_digitsOf {h : ma_H} {nx d : Nat} {w : Int} {Q : Option ma_V → ma_H → Nat → Prop} (hw : rg w) (K : Q (some (vi (dn w))) h nx) : ma_Ct mX5_digitsOf d 0 0 [vi w] h nx Q := by
  unfold rg at hw
  unfold dn at K
  refine ma_Ct.of (by decide +kernel) (Nat.le_of_ble_eq_true rfl) ?_
  refine ma_iload_n dX5_digitsOf_0 rfl ?_
  refine ma_iconst dX5_digitsOf_1 ?_
  refine ma_rcmp_ne 7 dX5_digitsOf_2 rfl (by constructor <;> omega) (by constructor <;> omega) (fun c2 => ?_) (fun c2 => ?_)
  · -- 7
    refine ma_iload_n dX5_digitsOf_7 rfl ?_
    refine ma_iconst dX5_digitsOf_8 ?_
    refine ma_rcmp_ne 16 dX5_digitsOf_9 rfl (by constructor <;> omega) (by constructor <;> omega) (fun c9 => ?_) (fun c9 => ?_)
    · -- 16
      refine ma_iconst dX5_digitsOf_16 ?_
      refine ma_iret dX5_digitsOf_17 rfl ?_
      first | (rw [if_pos (by omega)] at K; exact K) | (rw [if_neg (by omega), if_pos (by omega)] at K; exact K) | (rw [if_neg (by omega), if_neg (by omega)] at K; exact K)
    · -- 12
      refine ma_iconst dX5_digitsOf_12 ?_
      refine ma_goto 17 dX5_digitsOf_13 rfl ?_
      refine ma_iret dX5_digitsOf_17 rfl ?_
      first | (rw [if_pos (by omega)] at K; exact K) | (rw [if_neg (by omega), if_pos (by omega)] at K; exact K) | (rw [if_neg (by omega), if_neg (by omega)] at K; exact K)
  · -- 5
    refine ma_iconst dX5_digitsOf_5 ?_
    refine ma_iret dX5_digitsOf_6 rfl ?_
    first | (rw [if_pos (by omega)] at K; exact K) | (rw [if_neg (by omega), if_pos (by omega)] at K; exact K) | (rw [if_neg (by omega), if_neg (by omega)] at K; exact K)
theorem sg_in {T : Int → Int} {n : Int} (hn : 0 ≤ n ∧ n ≤ 80) (hT : ∀ j, 0 ≤ j → j < 80 → 0 ≤ T j ∧ T j < 256) (x : Int) : -1 ≤ sg T n x ∧ sg T n x < 256 := by
  unfold sg
  split
  · have := hT x (by omega) (by omega); omega
  · omega
theorem dg_in {T : Int → Int} {n : Int} (x : Int) {b : Int} (hb : 0 ≤ b) : -1 ≤ dg T n x b ∧ dg T n x b < b := by
  unfold dg
  split <;> omega
/-- what reading a pair at x answers: where a sign can't stand, or -1 -/
def rf (T : Int → Int) (n t : Int) (G : Int → Int) (x : Int) : Int :=
  if dg T n x t < 0 then x
  else if dg T n (x + 1) 4 < 0 ∨ 0 ≤ G (4 * dg T n x t + dg T n (x + 1) 4) then x + 1
  else if dg T n (x + 2) t < 0 then x + 2
  else if sg T n (x + 3) - 97 < 0 ∨ 23 < sg T n (x + 3) - 97 then x + 3
  else if 4 * dg T n (x + 2) t + im (sg T n (x + 3) - 97) (dg T n (x + 1) 4) = 4 * dg T n x t + dg T n (x + 1) 4 ∨ 0 ≤ G (4 * dg T n (x + 2) t + im (sg T n (x + 3) - 97) (dg T n (x + 1) 4)) then x + 3
  else -1
/-- the glue behind a pair that was read -/
def rj (T : Int → Int) (n t : Int) (G : Int → Int) (x : Int) : Int → Int :=
  uf (uf G (4 * dg T n x t + dg T n (x + 1) 4) (32 * dg T n (x + 2) t + (sg T n (x + 3) - 97))) (4 * dg T n (x + 2) t + im (sg T n (x + 3) - 97) (dg T n (x + 1) 4)) (32 * dg T n x t + iv (sg T n (x + 3) - 97))
set_option maxHeartbeats 2000000 in
theorem c_X5_readPair {h : ma_H} {b g nx d : Nat} {n x t : Int} {r s : ma_V} {T G : Int → Int} {Q : Option ma_V → ma_H → Nat → Prop} (ha : h 33 = co 5 [vi n, vr 34, r, s]) (h1 : h 34 = ci 80 T) (hb : h b = co 8 [vi t, vr g]) (hg : h g = ci 32 G) (hbg : b ≠ g) (hn : 0 ≤ n ∧ n ≤ 80) (hT : ∀ j, 0 ≤ j → j < 80 → 0 ≤ T j ∧ T j < 256) (ht : 0 ≤ t ∧ t ≤ 8) (hG : ∀ j, 0 ≤ j → j < 32 → rg (G j)) (hx : 0 ≤ x ∧ x ≤ 80) (K0 : 0 ≤ rf T n t G x → Q (some (vi (rf T n t G x))) h nx) (K1 : rf T n t G x = -1 → Q (some (vi (-1))) (ma_up h g (ci 32 (rj T n t G x))) nx) : ma_Ct mX5_readPair (d + 2) 0 0 [vr 33, vr b, vi x] h nx Q := by
  have i1 := dg_in (T := T) (n := n) x ht.1
  have i2 := dg_in (T := T) (n := n) (x + 1) (show (0 : Int) ≤ 4 by omega)
  have i3 := dg_in (T := T) (n := n) (x + 2) ht.1
  have i4 := sg_in hn hT (x + 3)
  unfold rj at K1
  refine ma_Ct.of (by decide +kernel) (Nat.le_of_ble_eq_true rfl) ?_
  refine ma_aload_n dX5_readPair_0 rfl ?_
  refine ma_iload_n dX5_readPair_1 rfl ?_
  refine ma_aload_n dX5_readPair_2 rfl ?_
  refine ma_getf dX5_readPair_3 fX5_40 (by first | assumption | exact ma_up_s _ _ _ | (rw [ma_up_n (by omega)]; first | assumption | exact ma_up_s _ _ _ | (rw [ma_up_n (by omega)]; first | assumption | exact ma_up_s _ _ _))) (by rfl) ?_
  refine ma_cV [_, _] dX5_readPair_6 wX5_digitAt lX5_26 iX5_digitAt sX5_digitAt rfl (by first | assumption | exact ma_up_s _ _ _ | (rw [ma_up_n (by omega)]; first | assumption | exact ma_up_s _ _ _ | (rw [ma_up_n (by omega)]; first | assumption | exact ma_up_s _ _ _))) (Nat.le_of_ble_eq_true rfl) ?_
  refine c_X5_digitAt ha h1 hn hT (by constructor <;> omega) (by constructor <;> omega) ?_
  refine ma_istore_nN dX5_readPair_9 (by decide) rfl ?_
  refine ma_iload_n dX5_readPair_10 rfl ?_
  refine ma_rif_ge 16 dX5_readPair_11 rfl (by constructor <;> omega) (fun c11 => ?_) (fun c11 => ?_)
  · -- 16
    refine ma_aload_n dX5_readPair_16 rfl ?_
    refine ma_iload_n dX5_readPair_17 rfl ?_
    refine ma_iconst dX5_readPair_18 ?_
    refine ma_iadd dX5_readPair_19 ?_
    refine ma_iconst dX5_readPair_20 ?_
    refine ma_cV [_, _] dX5_readPair_21 wX5_digitAt lX5_26 iX5_digitAt sX5_digitAt rfl (by first | assumption | exact ma_up_s _ _ _ | (rw [ma_up_n (by omega)]; first | assumption | exact ma_up_s _ _ _ | (rw [ma_up_n (by omega)]; first | assumption | exact ma_up_s _ _ _))) (Nat.le_of_ble_eq_true rfl) ?_
    refine c_X5_digitAt ha h1 hn hT (by constructor <;> omega) (by constructor <;> omega) ?_
    refine ma_istoreN dX5_readPair_24 (by decide) rfl ?_
    refine ma_iload dX5_readPair_26 rfl ?_
    refine ma_rif_lt 45 dX5_readPair_28 rfl (by constructor <;> omega) (fun c28 => ?_) (fun c28 => ?_)
    · -- 45
      refine ma_iload_n dX5_readPair_45 rfl ?_
      refine ma_iconst dX5_readPair_46 ?_
      refine ma_iadd dX5_readPair_47 ?_
      have z : rf T n t G x = x + 1 := by
        unfold rf
        rw [if_neg (by omega), if_pos (by omega)]
      rw [z] at K0
      exact ma_iret dX5_readPair_48 rfl (K0 (by omega))
    · -- 31
      refine ma_aload_n dX5_readPair_31 rfl ?_
      refine ma_getf dX5_readPair_32 fX5_43 (by first | assumption | exact ma_up_s _ _ _ | (rw [ma_up_n (by omega)]; first | assumption | exact ma_up_s _ _ _ | (rw [ma_up_n (by omega)]; first | assumption | exact ma_up_s _ _ _))) (by rfl) ?_
      refine ma_iconst dX5_readPair_35 ?_
      refine ma_iload_n dX5_readPair_36 rfl ?_
      refine ma_imul dX5_readPair_37 ?_
      refine ma_iload dX5_readPair_38 rfl ?_
      refine ma_iadd dX5_readPair_40 ?_
      refine ma_iald dX5_readPair_41 (by first | assumption | exact ma_up_s _ _ _ | (rw [ma_up_n (by omega)]; first | assumption | exact ma_up_s _ _ _ | (rw [ma_up_n (by omega)]; first | assumption | exact ma_up_s _ _ _))) (by omega) (by omega) (by omega) ?_
      refine ma_rif_lt 49 dX5_readPair_42 rfl (hG _ (by omega) (by omega)) (fun c42 => ?_) (fun c42 => ?_)
      · -- 49
        refine ma_aload_n dX5_readPair_49 rfl ?_
        refine ma_iload_n dX5_readPair_50 rfl ?_
        refine ma_iconst dX5_readPair_51 ?_
        refine ma_iadd dX5_readPair_52 ?_
        refine ma_aload_n dX5_readPair_53 rfl ?_
        refine ma_getf dX5_readPair_54 fX5_40 (by first | assumption | exact ma_up_s _ _ _ | (rw [ma_up_n (by omega)]; first | assumption | exact ma_up_s _ _ _ | (rw [ma_up_n (by omega)]; first | assumption | exact ma_up_s _ _ _))) (by rfl) ?_
        refine ma_cV [_, _] dX5_readPair_57 wX5_digitAt lX5_26 iX5_digitAt sX5_digitAt rfl (by first | assumption | exact ma_up_s _ _ _ | (rw [ma_up_n (by omega)]; first | assumption | exact ma_up_s _ _ _ | (rw [ma_up_n (by omega)]; first | assumption | exact ma_up_s _ _ _))) (Nat.le_of_ble_eq_true rfl) ?_
        refine c_X5_digitAt ha h1 hn hT (by constructor <;> omega) (by constructor <;> omega) ?_
        refine ma_istoreN dX5_readPair_60 (by decide) rfl ?_
        refine ma_iload dX5_readPair_62 rfl ?_
        refine ma_rif_ge 71 dX5_readPair_64 rfl (by constructor <;> omega) (fun c64 => ?_) (fun c64 => ?_)
        · -- 71
          refine ma_aload_n dX5_readPair_71 rfl ?_
          refine ma_iload_n dX5_readPair_72 rfl ?_
          refine ma_iconst dX5_readPair_73 ?_
          refine ma_iadd dX5_readPair_74 ?_
          refine ma_cV [_] dX5_readPair_75 wX5_signAt lX5_22 iX5_signAt sX5_signAt rfl (by first | assumption | exact ma_up_s _ _ _ | (rw [ma_up_n (by omega)]; first | assumption | exact ma_up_s _ _ _ | (rw [ma_up_n (by omega)]; first | assumption | exact ma_up_s _ _ _))) (Nat.le_of_ble_eq_true rfl) ?_
          refine c_X5_signAt ha h1 hn (by constructor <;> omega) ?_
          refine ma_bipush dX5_readPair_78 ?_
          refine ma_isub dX5_readPair_80 ?_
          refine ma_istoreN dX5_readPair_81 (by decide) rfl ?_
          refine ma_iload dX5_readPair_83 rfl ?_
          refine ma_rif_lt 95 dX5_readPair_85 rfl (by constructor <;> omega) (fun c85 => ?_) (fun c85 => ?_)
          · -- 95
            refine ma_iload_n dX5_readPair_95 rfl ?_
            refine ma_iconst dX5_readPair_96 ?_
            refine ma_iadd dX5_readPair_97 ?_
            have z : rf T n t G x = x + 3 := by
              unfold rf
              rw [if_neg (by omega), if_neg (by omega), if_neg (by omega), if_pos (by omega)]
            rw [z] at K0
            exact ma_iret dX5_readPair_98 rfl (K0 (by omega))
          · -- 88
            refine ma_iload dX5_readPair_88 rfl ?_
            refine ma_bipush dX5_readPair_90 ?_
            refine ma_rcmp_le 99 dX5_readPair_92 rfl (by constructor <;> omega) (by constructor <;> omega) (fun c92 => ?_) (fun c92 => ?_)
            · -- 99
              refine ma_iconst dX5_readPair_99 ?_
              refine ma_iload dX5_readPair_100 rfl ?_
              refine ma_imul dX5_readPair_102 ?_
              refine ma_getsN (j := 0) dX5_readPair_103 (by decide) gX5_46 ?_
              refine ma_iconst dX5_readPair_106 ?_
              refine ma_iload dX5_readPair_107 rfl ?_
              refine ma_imul dX5_readPair_109 ?_
              refine ma_iload dX5_readPair_110 rfl ?_
              refine ma_iadd dX5_readPair_112 ?_
              refine ma_tald (j := 0) (n := 96) dX5_readPair_113 (by decide) tl_0 (by omega) (by omega) (by decide) ?_
              have e1 := im_in (show 0 ≤ sg T n (x + 3) - 97 by omega) (show sg T n (x + 3) - 97 < 24 by omega) (show 0 ≤ dg T n (x + 1) 4 by omega) (show dg T n (x + 1) 4 < 4 by omega)
              rw [show ma_tf 0 (4 * (sg T n (x + 3) - 97) + dg T n (x + 1) 4) = im (sg T n (x + 3) - 97) (dg T n (x + 1) 4) from rfl]
              refine ma_iadd dX5_readPair_114 ?_
              refine ma_istoreN dX5_readPair_115 (by decide) rfl ?_
              refine ma_iload dX5_readPair_117 rfl ?_
              refine ma_iconst dX5_readPair_119 ?_
              refine ma_iload_n dX5_readPair_120 rfl ?_
              refine ma_imul dX5_readPair_121 ?_
              refine ma_iload dX5_readPair_122 rfl ?_
              refine ma_iadd dX5_readPair_124 ?_
              refine ma_rcmp_eq 138 dX5_readPair_125 rfl (by constructor <;> omega) (by constructor <;> omega) (fun c125 => ?_) (fun c125 => ?_)
              · -- 138
                refine ma_iload_n dX5_readPair_138 rfl ?_
                refine ma_iconst dX5_readPair_139 ?_
                refine ma_iadd dX5_readPair_140 ?_
                have z : rf T n t G x = x + 3 := by
                  unfold rf
                  rw [if_neg (by omega), if_neg (by omega), if_neg (by omega), if_neg (by omega), if_pos (by omega)]
                rw [z] at K0
                exact ma_iret dX5_readPair_141 rfl (K0 (by omega))
              · -- 128
                refine ma_aload_n dX5_readPair_128 rfl ?_
                refine ma_getf dX5_readPair_129 fX5_43 (by first | assumption | exact ma_up_s _ _ _ | (rw [ma_up_n (by omega)]; first | assumption | exact ma_up_s _ _ _ | (rw [ma_up_n (by omega)]; first | assumption | exact ma_up_s _ _ _))) (by rfl) ?_
                refine ma_iload dX5_readPair_132 rfl ?_
                refine ma_iald dX5_readPair_134 (by first | assumption | exact ma_up_s _ _ _ | (rw [ma_up_n (by omega)]; first | assumption | exact ma_up_s _ _ _ | (rw [ma_up_n (by omega)]; first | assumption | exact ma_up_s _ _ _))) (by omega) (by omega) (by omega) ?_
                refine ma_rif_lt 142 dX5_readPair_135 rfl (hG _ (by omega) (by omega)) (fun c135 => ?_) (fun c135 => ?_)
                · -- 142
                  refine ma_aload_n dX5_readPair_142 rfl ?_
                  refine ma_iconst dX5_readPair_143 ?_
                  refine ma_iload_n dX5_readPair_144 rfl ?_
                  refine ma_imul dX5_readPair_145 ?_
                  refine ma_iload dX5_readPair_146 rfl ?_
                  refine ma_iadd dX5_readPair_148 ?_
                  refine ma_iload dX5_readPair_149 rfl ?_
                  refine ma_iload dX5_readPair_151 rfl ?_
                  refine ma_cV [_, _, _] dX5_readPair_153 wX8_join lX5_49 iX8_join sX8_join rfl (by first | assumption | exact ma_up_s _ _ _ | (rw [ma_up_n (by omega)]; first | assumption | exact ma_up_s _ _ _ | (rw [ma_up_n (by omega)]; first | assumption | exact ma_up_s _ _ _))) (Nat.le_of_ble_eq_true rfl) ?_
                  refine c_X8_join hb hg (by constructor <;> omega) (by constructor <;> omega) (by constructor <;> omega) ?_ hbg
                  rw [show (4 * dg T n x t + dg T n (x + 1) 4) % 4 = dg T n (x + 1) 4 by omega, show (4 * dg T n x t + dg T n (x + 1) 4) / 4 = dg T n x t by omega]
                  refine ma_iconst dX5_readPair_156 ?_
                  have z : rf T n t G x = -1 := by
                    unfold rf
                    rw [if_neg (by omega), if_neg (by omega), if_neg (by omega), if_neg (by omega), if_neg (by omega)]
                  exact ma_iret dX5_readPair_157 rfl (K1 z)
                · -- 138
                  refine ma_iload_n dX5_readPair_138 rfl ?_
                  refine ma_iconst dX5_readPair_139 ?_
                  refine ma_iadd dX5_readPair_140 ?_
                  have z : rf T n t G x = x + 3 := by
                    unfold rf
                    rw [if_neg (by omega), if_neg (by omega), if_neg (by omega), if_neg (by omega), if_pos (by omega)]
                  rw [z] at K0
                  exact ma_iret dX5_readPair_141 rfl (K0 (by omega))
            · -- 95
              refine ma_iload_n dX5_readPair_95 rfl ?_
              refine ma_iconst dX5_readPair_96 ?_
              refine ma_iadd dX5_readPair_97 ?_
              have z : rf T n t G x = x + 3 := by
                unfold rf
                rw [if_neg (by omega), if_neg (by omega), if_neg (by omega), if_pos (by omega)]
              rw [z] at K0
              exact ma_iret dX5_readPair_98 rfl (K0 (by omega))
        · -- 67
          refine ma_iload_n dX5_readPair_67 rfl ?_
          refine ma_iconst dX5_readPair_68 ?_
          refine ma_iadd dX5_readPair_69 ?_
          have z : rf T n t G x = x + 2 := by
            unfold rf
            rw [if_neg (by omega), if_neg (by omega), if_pos (by omega)]
          rw [z] at K0
          exact ma_iret dX5_readPair_70 rfl (K0 (by omega))
      · -- 45
        refine ma_iload_n dX5_readPair_45 rfl ?_
        refine ma_iconst dX5_readPair_46 ?_
        refine ma_iadd dX5_readPair_47 ?_
        have z : rf T n t G x = x + 1 := by
          unfold rf
          rw [if_neg (by omega), if_pos (by omega)]
        rw [z] at K0
        exact ma_iret dX5_readPair_48 rfl (K0 (by omega))
  · -- 14
    refine ma_iload_n dX5_readPair_14 rfl ?_
    have z : rf T n t G x = x := by
      unfold rf
      rw [if_pos (by omega)]
    rw [z] at K0
    exact ma_iret dX5_readPair_15 rfl (K0 (by omega))
theorem c_X5_kindOfSign {h : ma_H} {nx d : Nat} {w : Int} {Q : Option ma_V → ma_H → Nat → Prop} (hw : rg w) (K : Q (some (vi (kd w))) h nx) : ma_Ct mX5_kindOfSign d 0 0 [vi w] h nx Q := by
  unfold rg at hw
  unfold kd at K
  refine ma_Ct.of (by decide +kernel) (Nat.le_of_ble_eq_true rfl) ?_
  refine ma_iload_n dX5_kindOfSign_0 rfl ?_
  rcases (show (¬ 101 = w ∧ ¬ 102 = w ∧ ¬ 112 = w ∧ ¬ 116 = w) ∨ w = 101 ∨ w = 102 ∨ w = 112 ∨ w = 116 by omega) with sw1 | sw1 | sw1 | sw1 | sw1
  · -- default
    refine ma_lookup (off := 51) 52 dX5_kindOfSign_1 (by decide) (by rw [iw_of (by omega) (by omega)]; show Op.lookupswitch.offset [(101, 45), (102, 43), (112, 49), (116, 47)] 51 w = 51; rw [Op.lookupswitch.offset_cons, if_neg (by omega), Op.lookupswitch.offset_cons, if_neg (by omega), Op.lookupswitch.offset_cons, if_neg (by omega), Op.lookupswitch.offset_cons, if_neg (by omega), Op.lookupswitch.offset_nil]) rfl ?_
    refine ma_iconst dX5_kindOfSign_52 ?_
    refine ma_iret dX5_kindOfSign_53 rfl ?_
    first | (rw [if_pos (by omega)] at K; exact K) | (rw [if_neg (by omega)] at K; first | exact K | (rw [if_pos (by omega)] at K; exact K) | (rw [if_neg (by omega)] at K; first | exact K | (rw [if_pos (by omega)] at K; exact K) | (rw [if_neg (by omega)] at K; first | exact K | (rw [if_pos (by omega)] at K; exact K) | (rw [if_neg (by omega)] at K; exact K))))
  · -- case 101
    refine ma_lookup (off := 45) 46 dX5_kindOfSign_1 (by decide) (by rw [iw_of (by omega) (by omega)]; rw [sw1]; decide +kernel) rfl ?_
    refine ma_iconst dX5_kindOfSign_46 ?_
    refine ma_iret dX5_kindOfSign_47 rfl ?_
    first | (rw [if_pos (by omega)] at K; exact K) | (rw [if_neg (by omega)] at K; first | exact K | (rw [if_pos (by omega)] at K; exact K) | (rw [if_neg (by omega)] at K; first | exact K | (rw [if_pos (by omega)] at K; exact K) | (rw [if_neg (by omega)] at K; first | exact K | (rw [if_pos (by omega)] at K; exact K) | (rw [if_neg (by omega)] at K; exact K))))
  · -- case 102
    refine ma_lookup (off := 43) 44 dX5_kindOfSign_1 (by decide) (by rw [iw_of (by omega) (by omega)]; rw [sw1]; decide +kernel) rfl ?_
    refine ma_iconst dX5_kindOfSign_44 ?_
    refine ma_iret dX5_kindOfSign_45 rfl ?_
    first | (rw [if_pos (by omega)] at K; exact K) | (rw [if_neg (by omega)] at K; first | exact K | (rw [if_pos (by omega)] at K; exact K) | (rw [if_neg (by omega)] at K; first | exact K | (rw [if_pos (by omega)] at K; exact K) | (rw [if_neg (by omega)] at K; first | exact K | (rw [if_pos (by omega)] at K; exact K) | (rw [if_neg (by omega)] at K; exact K))))
  · -- case 112
    refine ma_lookup (off := 49) 50 dX5_kindOfSign_1 (by decide) (by rw [iw_of (by omega) (by omega)]; rw [sw1]; decide +kernel) rfl ?_
    refine ma_iconst dX5_kindOfSign_50 ?_
    refine ma_iret dX5_kindOfSign_51 rfl ?_
    first | (rw [if_pos (by omega)] at K; exact K) | (rw [if_neg (by omega)] at K; first | exact K | (rw [if_pos (by omega)] at K; exact K) | (rw [if_neg (by omega)] at K; first | exact K | (rw [if_pos (by omega)] at K; exact K) | (rw [if_neg (by omega)] at K; first | exact K | (rw [if_pos (by omega)] at K; exact K) | (rw [if_neg (by omega)] at K; exact K))))
  · -- case 116
    refine ma_lookup (off := 47) 48 dX5_kindOfSign_1 (by decide) (by rw [iw_of (by omega) (by omega)]; rw [sw1]; decide +kernel) rfl ?_
    refine ma_iconst dX5_kindOfSign_48 ?_
    refine ma_iret dX5_kindOfSign_49 rfl ?_
    first | (rw [if_pos (by omega)] at K; exact K) | (rw [if_neg (by omega)] at K; first | exact K | (rw [if_pos (by omega)] at K; exact K) | (rw [if_neg (by omega)] at K; first | exact K | (rw [if_pos (by omega)] at K; exact K) | (rw [if_neg (by omega)] at K; first | exact K | (rw [if_pos (by omega)] at K; exact K) | (rw [if_neg (by omega)] at K; exact K))))
