/-- what was heard of an edge, is it so -/
def FT (t : Int) (G E P : Int → Int) (w v x : Int) : Prop :=
  if w = 0 then v ≤ dA E (16 * t) x else if w = 1 then (fA E G (16 * t) 0 x = 1 ↔ v = 1) else if w = 2 then (E x = E (tr x) ↔ v = 1) else if w = 3 then (∃ y, 16 * v ≤ y ∧ y < 16 * v + 16 ∧ xA E (16 * t) y = x) else (P (x / 4) = P (4 * (x / 16) + x % 4) ↔ v = 1)
section FTS
variable {t : Int} {G E P : Int → Int} {w v x : Int}
theorem ft_0 (e : w = 0) : FT t G E P w v x ↔ v ≤ dA E (16 * t) x := by subst e; exact Iff.rfl
theorem ft_1 (e : w = 1) : FT t G E P w v x ↔ (fA E G (16 * t) 0 x = 1 ↔ v = 1) := by subst e; exact Iff.rfl
theorem ft_2 (e : w = 2) : FT t G E P w v x ↔ (E x = E (tr x) ↔ v = 1) := by subst e; exact Iff.rfl
theorem ft_3 (e : w = 3) : FT t G E P w v x ↔ ∃ y, 16 * v ≤ y ∧ y < 16 * v + 16 ∧ xA E (16 * t) y = x := by subst e; exact Iff.rfl
theorem ft_4 (e : w < 0 ∨ 3 < w) : FT t G E P w v x ↔ (P (x / 4) = P (4 * (x / 16) + x % 4) ↔ v = 1) := by
  unfold FT
  rw [if_neg (by omega), if_neg (by omega), if_neg (by omega), if_neg (by omega)]
end FTS
theorem or4_n : ∀ x : Nat, x < 128 → bi_or ((x : Int) / 16 * 4) ((x : Int) % 4) = 4 * ((x : Int) / 16) + (x : Int) % 4 := by decide +kernel
theorem or4 {x : Int} (h0 : 0 ≤ x) (h1 : x < 128) : bi_or (x / 16 * 4) (x % 4) = 4 * (x / 16) + x % 4 := pm_nat (P := fun x => bi_or (x / 16 * 4) (x % 4) = 4 * (x / 16) + x % 4) (n := 128) or4_n h0 h1
theorem xA_in {t : Int} {G E P : Int → Int} (hB : BP t G E P) {x : Int} (h0 : 0 ≤ x) (h1 : x < 128) : -1 ≤ xA E (16 * t) x ∧ xA E (16 * t) x < 128 := by
  have a := bp_E hB x h0 h1
  have tp := tr_p x
  have b := bp_E hB (tr x) (by unfold tr; omega) (by unfold tr; omega)
  unfold xA eg
  split
  · split <;> omega
  · omega
theorem tr_lt {x : Int} (h : x % 4 < x / 4 % 4) : tr x < x := by
  unfold tr
  omega
theorem xA_cP {t : Int} {G E P : Int → Int} (ht : 1 ≤ t ∧ t ≤ 8) (hB : BP t G E P) {x : Int} (h0 : 0 ≤ x) (h1 : x < 128) : xA E (16 * t) x = x ↔ x < 16 * t ∧ cP E x := by
  have tp := tr_p x
  constructor
  · intro e
    by_cases c : (x / 4 % 4 < x % 4 ∧ x < 16 * t) ∨ (x % 4 < x / 4 % 4 ∧ tr x < 16 * t)
    · unfold xA at e
      rw [if_pos c] at e
      rcases c with c | c
      · exact ⟨c.2, c.1, e⟩
      · exfalso
        have o1 : oE t (tr x) := ⟨by unfold tr; omega, c.2, by omega⟩
        have r := (hB.1.1 (tr x) o1).2.1
        have lt := tr_lt c.1
        unfold eg at e
        split at e <;> omega
    · unfold xA at e
      rw [if_neg c] at e
      omega
  · intro e
    unfold xA
    rw [if_pos (Or.inl ⟨e.2.1, e.1⟩)]
    exact e.2.2
theorem l_ot5 {h : ma_H} {nx d : Nat} {t : Int} {G E P q : Int → Int} {Q : Option ma_V → ma_H → Nat → Prop} (ht : 1 ≤ t ∧ t ≤ 8) (hB : BP t G E P) {x v : Int} (v0 : 0 ≤ v ∧ v < 8) (x0 : 0 ≤ x ∧ x < 128) (K1 : (∃ y, 16 * v ≤ y ∧ y < 16 * v + 16 ∧ xA E (16 * t) y = x) → Q (some (vi 1)) (br h t G E P q) nx) (K0 : ¬ (∃ y, 16 * v ≤ y ∧ y < 16 * v + 16 ∧ xA E (16 * t) y = x) → Q (some (vi 0)) (br h t G E P q) nx) :
    ∀ (m : Nat) (k : Int), 16 * v ≤ k → k ≤ 16 * v + 16 → 16 * v + 16 - k < m → (∀ y, 16 * v ≤ y → y < k → xA E (16 * t) y ≠ x) → ma_J none mX4_isOfTet d 0 0 5 [some (vr 44), some (vi x), some (vi v), some (vi k)] [] (br h t G E P q) nx Q := by
  intro m
  induction m with
  | zero => intro k k0 k1 km; omega
  | succ m ih =>
    intro k k0 k1 km hk
    refine ma_iload_n dX4_isOfTet_5 rfl ?_
    refine ma_bipush dX4_isOfTet_6 ?_
    refine ma_iload_n dX4_isOfTet_8 rfl ?_
    refine ma_imul dX4_isOfTet_9 ?_
    refine ma_bipush dX4_isOfTet_10 ?_
    refine ma_iadd dX4_isOfTet_12 ?_
    refine ma_rcmp_ge 34 dX4_isOfTet_13 rfl (by constructor <;> omega) (by constructor <;> omega) (fun c13 => ?_) (fun c13 => ?_)
    · -- 34
      refine ma_iconst dX4_isOfTet_34 ?_
      exact ma_zret dX4_isOfTet_35 rfl (Or.inl rfl) (K0 (fun ⟨y, y0, y1, y2⟩ => hk y y0 (by omega) y2))
    · -- 16
      refine ma_aload_n dX4_isOfTet_16 rfl ?_
      refine ma_getf dX4_isOfTet_17 fX4_50 (by first | exact bh_44 | exact bh_46 | exact bh_47 | exact bh_48 | exact bh_49) (by rfl) ?_
      refine ma_iload_n dX4_isOfTet_20 rfl ?_
      refine ma_iald dX4_isOfTet_21 (by first | exact bh_44 | exact bh_46 | exact bh_47 | exact bh_48 | exact bh_49) (by omega) (by omega) (by omega) ?_
      refine ma_iload_n dX4_isOfTet_22 rfl ?_
      have xr := xA_in hB (x := k) (by omega) (by omega)
      refine ma_rcmp_ne 28 dX4_isOfTet_23 rfl (by constructor <;> omega) (by constructor <;> omega) (fun c23 => ?_) (fun c23 => ?_)
      · -- 28
        refine ma_iincN dX4_isOfTet_28 rfl (by decide) rfl ?_
        refine ma_goto 5 dX4_isOfTet_31 rfl ?_
        refine ih (k + 1) (by omega) (by omega) (by omega) (fun y y0 y1 => ?_)
        rcases Int.lt_or_eq_of_le (show y ≤ k by omega) with z | z
        · exact hk y y0 z
        · rw [z]; exact c23
      · -- 26
        refine ma_iconst dX4_isOfTet_26 ?_
        exact ma_zret dX4_isOfTet_27 rfl (Or.inr rfl) (K1 ⟨k, by omega, by omega, c23⟩)
theorem c_X4_isOfTet {h : ma_H} {nx d : Nat} {t : Int} {G E P q : Int → Int} {Q : Option ma_V → ma_H → Nat → Prop} (ht : 1 ≤ t ∧ t ≤ 8) (hB : BP t G E P) {x v : Int} (v0 : 0 ≤ v ∧ v < 8) (x0 : 0 ≤ x ∧ x < 128) (K1 : (∃ y, 16 * v ≤ y ∧ y < 16 * v + 16 ∧ xA E (16 * t) y = x) → Q (some (vi 1)) (br h t G E P q) nx) (K0 : ¬ (∃ y, 16 * v ≤ y ∧ y < 16 * v + 16 ∧ xA E (16 * t) y = x) → Q (some (vi 0)) (br h t G E P q) nx) : ma_Ct mX4_isOfTet d 0 0 [vr 44, vi x, vi v] (br h t G E P q) nx Q := by
  refine ma_Ct.of (by decide +kernel) (Nat.le_of_ble_eq_true rfl) ?_
  refine ma_bipush dX4_isOfTet_0 ?_
  refine ma_iload_n dX4_isOfTet_2 rfl ?_
  refine ma_imul dX4_isOfTet_3 ?_
  refine ma_istore_nN dX4_isOfTet_4 (by decide) rfl ?_
  exact l_ot5 ht hB v0 x0 K1 K0 17 (16 * v) (by omega) (by omega) (by omega) (fun y y0 y1 => by omega)
set_option maxHeartbeats 2000000 in
theorem c_X4_fitsOne {h : ma_H} {nx d : Nat} {t : Int} {G E P q : Int → Int} {Q : Option ma_V → ma_H → Nat → Prop} (ht : 1 ≤ t ∧ t ≤ 8) (hB : BP t G E P) {x v w : Int} (w0 : 0 ≤ w ∧ w ≤ 4) (v0 : 0 ≤ v ∧ v ≤ 48 ∧ (w = 3 → v < 8)) (x0 : 0 ≤ x ∧ x < 128) (K1 : FT t G E P w v x → Q (some (vi 1)) (br h t G E P q) nx) (K0 : ¬ FT t G E P w v x → Q (some (vi 0)) (br h t G E P q) nx) : ma_Ct mX4_fitsOne (d + 2) 0 0 [vr 44, vi x, vi w, vi v] (br h t G E P q) nx Q := by
  have f1 := fA_b E G (16 * t) 0 x
  have d1 := (br_b (E := E) (P := P) (G := G) ht).1 x x0.1 x0.2
  have p1 := bp_P hB (x / 4) (by omega) (by omega)
  have p2 := bp_P hB (4 * (x / 16) + x % 4) (by omega) (by omega)
  refine ma_Ct.of (by decide +kernel) (Nat.le_of_ble_eq_true rfl) ?_
  refine ma_iload_n dX4_fitsOne_0 rfl ?_
  rcases (show (w < 0 ∨ 3 < w) ∨ w = 0 ∨ w = 1 ∨ w = 2 ∨ w = 3 by omega) with sw1 | sw1 | sw1 | sw1 | sw1
  · -- default
    refine ma_tableOut 104 dX4_fitsOne_1 (by rw [iw_of (by omega) (by omega)]; omega) rfl ?_
    refine ma_aload_n dX4_fitsOne_104 rfl ?_
    refine ma_getf dX4_fitsOne_105 fX4_47 (by first | exact bh_44 | exact bh_46 | exact bh_47 | exact bh_48 | exact bh_49) (by rfl) ?_
    refine ma_iload_n dX4_fitsOne_108 rfl ?_
    refine ma_iconst dX4_fitsOne_109 ?_
    refine ma_kshr 4 dX4_fitsOne_110 (by decide) (by constructor <;> omega) ?_
    refine ma_iald dX4_fitsOne_111 (by first | exact bh_44 | exact bh_46 | exact bh_47 | exact bh_48 | exact bh_49) (by omega) (by omega) (by omega) ?_
    refine ma_istoreN dX4_fitsOne_112 (by decide) rfl ?_
    refine ma_aload_n dX4_fitsOne_114 rfl ?_
    refine ma_getf dX4_fitsOne_115 fX4_47 (by first | exact bh_44 | exact bh_46 | exact bh_47 | exact bh_48 | exact bh_49) (by rfl) ?_
    refine ma_iload_n dX4_fitsOne_118 rfl ?_
    refine ma_iconst dX4_fitsOne_119 ?_
    refine ma_kshr 16 dX4_fitsOne_120 (by decide) (by constructor <;> omega) ?_
    refine ma_iconst dX4_fitsOne_121 ?_
    refine ma_kshl 4 dX4_fitsOne_122 (by decide) ?_
    refine ma_iload_n dX4_fitsOne_123 rfl ?_
    refine ma_iconst dX4_fitsOne_124 ?_
    refine ma_kand 2 4 dX4_fitsOne_125 (by decide) (by decide +kernel) (by decide) ?_
    refine ma_ior dX4_fitsOne_126 ?_
    rw [or4 x0.1 x0.2]
    refine ma_iald dX4_fitsOne_127 (by first | exact bh_44 | exact bh_46 | exact bh_47 | exact bh_48 | exact bh_49) (by omega) (by omega) (by omega) ?_
    refine ma_istoreN dX4_fitsOne_128 (by decide) rfl ?_
    refine ma_iload dX4_fitsOne_130 rfl ?_
    refine ma_iload dX4_fitsOne_132 rfl ?_
    refine ma_rcmp_ne 141 dX4_fitsOne_134 rfl (by constructor <;> omega) (by constructor <;> omega) (fun c134 => ?_) (fun c134 => ?_)
    · -- 141
      refine ma_iconst dX4_fitsOne_141 ?_
      refine ma_iload_n dX4_fitsOne_142 rfl ?_
      refine ma_iconst dX4_fitsOne_143 ?_
      refine ma_rcmp_ne 151 dX4_fitsOne_144 rfl (by constructor <;> omega) (by constructor <;> omega) (fun c144 => ?_) (fun c144 => ?_)
      · -- 151
        refine ma_iconst dX4_fitsOne_151 ?_
        refine ma_rcmp_ne 159 dX4_fitsOne_152 rfl (by decide) (by decide) (fun c152 => absurd c152 (by decide)) (fun c152 => ?_)
        refine ma_iconst dX4_fitsOne_155 ?_
        refine ma_goto 160 dX4_fitsOne_156 rfl ?_
        first | exact ma_zret dX4_fitsOne_160 rfl (Or.inr rfl) (K1 ((ft_4 sw1).mpr (by omega))) | exact ma_zret dX4_fitsOne_160 rfl (Or.inl rfl) (K0 (fun z => by have y := (ft_4 sw1).mp z; omega))
      · -- 147
        refine ma_iconst dX4_fitsOne_147 ?_
        refine ma_goto 152 dX4_fitsOne_148 rfl ?_
        refine ma_rcmp_ne 159 dX4_fitsOne_152 rfl (by decide) (by decide) (fun c152 => ?_) (fun c152 => absurd c152 (by decide))
        refine ma_iconst dX4_fitsOne_159 ?_
        first | exact ma_zret dX4_fitsOne_160 rfl (Or.inr rfl) (K1 ((ft_4 sw1).mpr (by omega))) | exact ma_zret dX4_fitsOne_160 rfl (Or.inl rfl) (K0 (fun z => by have y := (ft_4 sw1).mp z; omega))
    · -- 137
      refine ma_iconst dX4_fitsOne_137 ?_
      refine ma_goto 142 dX4_fitsOne_138 rfl ?_
      refine ma_iload_n dX4_fitsOne_142 rfl ?_
      refine ma_iconst dX4_fitsOne_143 ?_
      refine ma_rcmp_ne 151 dX4_fitsOne_144 rfl (by constructor <;> omega) (by constructor <;> omega) (fun c144 => ?_) (fun c144 => ?_)
      · -- 151
        refine ma_iconst dX4_fitsOne_151 ?_
        refine ma_rcmp_ne 159 dX4_fitsOne_152 rfl (by decide) (by decide) (fun c152 => ?_) (fun c152 => absurd c152 (by decide))
        refine ma_iconst dX4_fitsOne_159 ?_
        first | exact ma_zret dX4_fitsOne_160 rfl (Or.inr rfl) (K1 ((ft_4 sw1).mpr (by omega))) | exact ma_zret dX4_fitsOne_160 rfl (Or.inl rfl) (K0 (fun z => by have y := (ft_4 sw1).mp z; omega))
      · -- 147
        refine ma_iconst dX4_fitsOne_147 ?_
        refine ma_goto 152 dX4_fitsOne_148 rfl ?_
        refine ma_rcmp_ne 159 dX4_fitsOne_152 rfl (by decide) (by decide) (fun c152 => absurd c152 (by decide)) (fun c152 => ?_)
        refine ma_iconst dX4_fitsOne_155 ?_
        refine ma_goto 160 dX4_fitsOne_156 rfl ?_
        first | exact ma_zret dX4_fitsOne_160 rfl (Or.inr rfl) (K1 ((ft_4 sw1).mpr (by omega))) | exact ma_zret dX4_fitsOne_160 rfl (Or.inl rfl) (K0 (fun z => by have y := (ft_4 sw1).mp z; omega))
  · -- case 0
    refine ma_tableIn 32 dX4_fitsOne_1 (by rw [iw_of (by omega) (by omega)]; omega) (by rw [iw_of (by omega) (by omega)]; omega) (by rw [iw_of (by omega) (by omega)]; rw [sw1]; rfl) rfl ?_
    refine ma_aload_n dX4_fitsOne_32 rfl ?_
    refine ma_getf dX4_fitsOne_33 fX4_30 (by first | exact bh_44 | exact bh_46 | exact bh_47 | exact bh_48 | exact bh_49) (by rfl) ?_
    refine ma_iload_n dX4_fitsOne_36 rfl ?_
    refine ma_iald dX4_fitsOne_37 (by first | exact bh_44 | exact bh_46 | exact bh_47 | exact bh_48 | exact bh_49) (by omega) (by omega) (by omega) ?_
    refine ma_iload_n dX4_fitsOne_38 rfl ?_
    refine ma_rcmp_lt 46 dX4_fitsOne_39 rfl (by constructor <;> omega) (by constructor <;> omega) (fun c39 => ?_) (fun c39 => ?_)
    · -- 46
      refine ma_iconst dX4_fitsOne_46 ?_
      first | exact ma_zret dX4_fitsOne_47 rfl (Or.inr rfl) (K1 ((ft_0 sw1).mpr (by omega))) | exact ma_zret dX4_fitsOne_47 rfl (Or.inl rfl) (K0 (fun z => by have y := (ft_0 sw1).mp z; omega))
    · -- 42
      refine ma_iconst dX4_fitsOne_42 ?_
      refine ma_goto 47 dX4_fitsOne_43 rfl ?_
      first | exact ma_zret dX4_fitsOne_47 rfl (Or.inr rfl) (K1 ((ft_0 sw1).mpr (by omega))) | exact ma_zret dX4_fitsOne_47 rfl (Or.inl rfl) (K0 (fun z => by have y := (ft_0 sw1).mp z; omega))
  · -- case 1
    refine ma_tableIn 48 dX4_fitsOne_1 (by rw [iw_of (by omega) (by omega)]; omega) (by rw [iw_of (by omega) (by omega)]; omega) (by rw [iw_of (by omega) (by omega)]; rw [sw1]; rfl) rfl ?_
    refine ma_aload_n dX4_fitsOne_48 rfl ?_
    refine ma_getf dX4_fitsOne_49 fX4_35 (by first | exact bh_44 | exact bh_46 | exact bh_47 | exact bh_48 | exact bh_49) (by rfl) ?_
    refine ma_iload_n dX4_fitsOne_52 rfl ?_
    refine ma_zald dX4_fitsOne_53 (by first | exact bh_44 | exact bh_46 | exact bh_47 | exact bh_48 | exact bh_49) (by omega) (by omega) (by omega) ?_
    refine ma_iload_n dX4_fitsOne_54 rfl ?_
    refine ma_iconst dX4_fitsOne_55 ?_
    refine ma_rcmp_ne 63 dX4_fitsOne_56 rfl (by constructor <;> omega) (by constructor <;> omega) (fun c56 => ?_) (fun c56 => ?_)
    · -- 63
      refine ma_iconst dX4_fitsOne_63 ?_
      refine ma_rcmp_ne 71 dX4_fitsOne_64 rfl (by constructor <;> omega) (by constructor <;> omega) (fun c64 => ?_) (fun c64 => ?_)
      · -- 71
        refine ma_iconst dX4_fitsOne_71 ?_
        first | exact ma_zret dX4_fitsOne_72 rfl (Or.inr rfl) (K1 ((ft_1 sw1).mpr (by omega))) | exact ma_zret dX4_fitsOne_72 rfl (Or.inl rfl) (K0 (fun z => by have y := (ft_1 sw1).mp z; omega))
      · -- 67
        refine ma_iconst dX4_fitsOne_67 ?_
        refine ma_goto 72 dX4_fitsOne_68 rfl ?_
        first | exact ma_zret dX4_fitsOne_72 rfl (Or.inr rfl) (K1 ((ft_1 sw1).mpr (by omega))) | exact ma_zret dX4_fitsOne_72 rfl (Or.inl rfl) (K0 (fun z => by have y := (ft_1 sw1).mp z; omega))
    · -- 59
      refine ma_iconst dX4_fitsOne_59 ?_
      refine ma_goto 64 dX4_fitsOne_60 rfl ?_
      refine ma_rcmp_ne 71 dX4_fitsOne_64 rfl (by constructor <;> omega) (by constructor <;> omega) (fun c64 => ?_) (fun c64 => ?_)
      · -- 71
        refine ma_iconst dX4_fitsOne_71 ?_
        first | exact ma_zret dX4_fitsOne_72 rfl (Or.inr rfl) (K1 ((ft_1 sw1).mpr (by omega))) | exact ma_zret dX4_fitsOne_72 rfl (Or.inl rfl) (K0 (fun z => by have y := (ft_1 sw1).mp z; omega))
      · -- 67
        refine ma_iconst dX4_fitsOne_67 ?_
        refine ma_goto 72 dX4_fitsOne_68 rfl ?_
        first | exact ma_zret dX4_fitsOne_72 rfl (Or.inr rfl) (K1 ((ft_1 sw1).mpr (by omega))) | exact ma_zret dX4_fitsOne_72 rfl (Or.inl rfl) (K0 (fun z => by have y := (ft_1 sw1).mp z; omega))
  · -- case 2
    refine ma_tableIn 73 dX4_fitsOne_1 (by rw [iw_of (by omega) (by omega)]; omega) (by rw [iw_of (by omega) (by omega)]; omega) (by rw [iw_of (by omega) (by omega)]; rw [sw1]; rfl) rfl ?_
    refine ma_aload_n dX4_fitsOne_73 rfl ?_
    refine ma_iload_n dX4_fitsOne_74 rfl ?_
    refine ma_cV [_] dX4_fitsOne_75 wX7_isReversed lX4_39 iX7_isReversed sX7_isReversed rfl (by first | exact bh_44 | exact bh_46 | exact bh_47 | exact bh_48 | exact bh_49) (Nat.le_of_ble_eq_true rfl) ?_
    refine c_X7_isReversed x0 (bp_E hB) (fun hr => ?_) (fun hr => ?_)
    · -- k1
      refine ma_iload_n dX4_fitsOne_78 rfl ?_
      refine ma_iconst dX4_fitsOne_79 ?_
      refine ma_rcmp_ne 87 dX4_fitsOne_80 rfl (by constructor <;> omega) (by constructor <;> omega) (fun c80 => ?_) (fun c80 => ?_)
      · -- 87
        refine ma_iconst dX4_fitsOne_87 ?_
        refine ma_rcmp_ne 95 dX4_fitsOne_88 rfl (by decide) (by decide) (fun c88 => ?_) (fun c88 => absurd c88 (by decide))
        refine ma_iconst dX4_fitsOne_95 ?_
        first | exact ma_zret dX4_fitsOne_96 rfl (Or.inr rfl) (K1 ((ft_2 sw1).mpr (by omega))) | exact ma_zret dX4_fitsOne_96 rfl (Or.inl rfl) (K0 (fun z => by have y := (ft_2 sw1).mp z; omega))
      · -- 83
        refine ma_iconst dX4_fitsOne_83 ?_
        refine ma_goto 88 dX4_fitsOne_84 rfl ?_
        refine ma_rcmp_ne 95 dX4_fitsOne_88 rfl (by decide) (by decide) (fun c88 => absurd c88 (by decide)) (fun c88 => ?_)
        refine ma_iconst dX4_fitsOne_91 ?_
        refine ma_goto 96 dX4_fitsOne_92 rfl ?_
        first | exact ma_zret dX4_fitsOne_96 rfl (Or.inr rfl) (K1 ((ft_2 sw1).mpr (by omega))) | exact ma_zret dX4_fitsOne_96 rfl (Or.inl rfl) (K0 (fun z => by have y := (ft_2 sw1).mp z; omega))
    · -- k0
      refine ma_iload_n dX4_fitsOne_78 rfl ?_
      refine ma_iconst dX4_fitsOne_79 ?_
      refine ma_rcmp_ne 87 dX4_fitsOne_80 rfl (by constructor <;> omega) (by constructor <;> omega) (fun c80 => ?_) (fun c80 => ?_)
      · -- 87
        refine ma_iconst dX4_fitsOne_87 ?_
        refine ma_rcmp_ne 95 dX4_fitsOne_88 rfl (by decide) (by decide) (fun c88 => absurd c88 (by decide)) (fun c88 => ?_)
        refine ma_iconst dX4_fitsOne_91 ?_
        refine ma_goto 96 dX4_fitsOne_92 rfl ?_
        first | exact ma_zret dX4_fitsOne_96 rfl (Or.inr rfl) (K1 ((ft_2 sw1).mpr (by omega))) | exact ma_zret dX4_fitsOne_96 rfl (Or.inl rfl) (K0 (fun z => by have y := (ft_2 sw1).mp z; omega))
      · -- 83
        refine ma_iconst dX4_fitsOne_83 ?_
        refine ma_goto 88 dX4_fitsOne_84 rfl ?_
        refine ma_rcmp_ne 95 dX4_fitsOne_88 rfl (by decide) (by decide) (fun c88 => ?_) (fun c88 => absurd c88 (by decide))
        refine ma_iconst dX4_fitsOne_95 ?_
        first | exact ma_zret dX4_fitsOne_96 rfl (Or.inr rfl) (K1 ((ft_2 sw1).mpr (by omega))) | exact ma_zret dX4_fitsOne_96 rfl (Or.inl rfl) (K0 (fun z => by have y := (ft_2 sw1).mp z; omega))
  · -- case 3
    refine ma_tableIn 97 dX4_fitsOne_1 (by rw [iw_of (by omega) (by omega)]; omega) (by rw [iw_of (by omega) (by omega)]; omega) (by rw [iw_of (by omega) (by omega)]; rw [sw1]; rfl) rfl ?_
    refine ma_aload_n dX4_fitsOne_97 rfl ?_
    refine ma_iload_n dX4_fitsOne_98 rfl ?_
    refine ma_iload_n dX4_fitsOne_99 rfl ?_
    refine ma_cS [_, _, _] dX4_fitsOne_100 wX4_isOfTet lX4_43 tX4_isOfTet (Nat.le_of_ble_eq_true rfl) ?_
    refine c_X4_isOfTet ht hB (by omega) x0 (fun hy => ?_) (fun hy => ?_)
    · -- k1
      exact ma_zret dX4_fitsOne_103 rfl (Or.inr rfl) (K1 ((ft_3 sw1).mpr hy))
    · -- k0
      exact ma_zret dX4_fitsOne_103 rfl (Or.inl rfl) (K0 (fun z => hy ((ft_3 sw1).mp z)))
theorem l_af2 {h : ma_H} {nx d : Nat} {t : Int} {G E P q : Int → Int} {Q : Option ma_V → ma_H → Nat → Prop} (ht : 1 ≤ t ∧ t ≤ 8) (hB : BP t G E P) {x n : Int} {A C : Int → Int} (h36 : h 36 = co 4 [vi n, vr 37, vr 38]) (h37 : h 37 = ci 8 A) (h38 : h 38 = ci 8 C) (n0 : 0 ≤ n ∧ n ≤ 8) (hv : ∀ i, 0 ≤ i → i < n → (0 ≤ A i ∧ A i ≤ 4) ∧ 0 ≤ C i ∧ C i ≤ 48 ∧ (A i = 3 → C i < 8)) (x0 : 0 ≤ x ∧ x < 128) (K1 : (∀ i, 0 ≤ i → i < n → FT t G E P (A i) (C i) x) → Q (some (vi 1)) (br h t G E P q) nx) (K0 : ¬ (∀ i, 0 ≤ i → i < n → FT t G E P (A i) (C i) x) → Q (some (vi 0)) (br h t G E P q) nx) :
    ∀ (m : Nat) (k : Int), 0 ≤ k → k ≤ n → n - k < m → (∀ i, 0 ≤ i → i < k → FT t G E P (A i) (C i) x) → ma_J none mX4_allFit (d + 3) 0 0 2 [some (vr 36), some (vr 44), some (vi x), some (vi k)] [] (br h t G E P q) nx Q := by
  intro m
  induction m with
  | zero => intro k k0 k1 km; omega
  | succ m ih =>
    intro k k0 k1 km hk
    refine ma_iload_n dX4_allFit_2 rfl ?_
    refine ma_aload_n dX4_allFit_3 rfl ?_
    refine ma_getf dX4_allFit_4 fX4_18 (by first | exact bh_44 | exact (bh_n (by decide)).trans h36 | exact (bh_n (by decide)).trans h37 | exact (bh_n (by decide)).trans h38) (by rfl) ?_
    refine ma_rcmp_ge 38 dX4_allFit_7 rfl (by constructor <;> omega) (by constructor <;> omega) (fun c7 => ?_) (fun c7 => ?_)
    · -- 38
      refine ma_iconst dX4_allFit_38 ?_
      exact ma_zret dX4_allFit_39 rfl (Or.inr rfl) (K1 (fun i i0 i1 => hk i i0 (by omega)))
    · -- 10
      refine ma_aload_n dX4_allFit_10 rfl ?_
      refine ma_iload_n dX4_allFit_11 rfl ?_
      refine ma_aload_n dX4_allFit_12 rfl ?_
      refine ma_getf dX4_allFit_13 fX4_11 (by first | exact bh_44 | exact (bh_n (by decide)).trans h36 | exact (bh_n (by decide)).trans h37 | exact (bh_n (by decide)).trans h38) (by rfl) ?_
      refine ma_iload_n dX4_allFit_16 rfl ?_
      refine ma_iald dX4_allFit_17 (by first | exact bh_44 | exact (bh_n (by decide)).trans h36 | exact (bh_n (by decide)).trans h37 | exact (bh_n (by decide)).trans h38) (by omega) (by omega) (by omega) ?_
      refine ma_aload_n dX4_allFit_18 rfl ?_
      refine ma_getf dX4_allFit_19 fX4_15 (by first | exact bh_44 | exact (bh_n (by decide)).trans h36 | exact (bh_n (by decide)).trans h37 | exact (bh_n (by decide)).trans h38) (by rfl) ?_
      refine ma_iload_n dX4_allFit_22 rfl ?_
      refine ma_iald dX4_allFit_23 (by first | exact bh_44 | exact (bh_n (by decide)).trans h36 | exact (bh_n (by decide)).trans h37 | exact (bh_n (by decide)).trans h38) (by omega) (by omega) (by omega) ?_
      refine ma_cS [_, _, _, _] dX4_allFit_24 wX4_fitsOne lX4_26 tX4_fitsOne (Nat.le_of_ble_eq_true rfl) ?_
      refine c_X4_fitsOne ht hB (hv k k0 (by omega)).1 (hv k k0 (by omega)).2 x0 (fun hf => ?_) (fun hf => ?_)
      · -- k1
        refine ma_rif_ne 32 dX4_allFit_27 rfl (by decide) (fun c27 => ?_) (fun c27 => absurd c27 (by decide))
        refine ma_iincN dX4_allFit_32 rfl (by decide) rfl ?_
        refine ma_goto 2 dX4_allFit_35 rfl ?_
        refine ih (k + 1) (by omega) (by omega) (by omega) (fun y y0 y1 => ?_)
        rcases Int.lt_or_eq_of_le (show y ≤ k by omega) with z | z
        · exact hk y y0 z
        · rw [z]; exact hf
      · -- k0
        refine ma_rif_ne 32 dX4_allFit_27 rfl (by decide) (fun c27 => absurd c27 (by decide)) (fun c27 => ?_)
        refine ma_iconst dX4_allFit_30 ?_
        exact ma_zret dX4_allFit_31 rfl (Or.inl rfl) (K0 (fun z => hf (z k k0 (by omega))))
theorem c_X4_allFit {h : ma_H} {nx d : Nat} {t : Int} {G E P q : Int → Int} {Q : Option ma_V → ma_H → Nat → Prop} (ht : 1 ≤ t ∧ t ≤ 8) (hB : BP t G E P) {x n : Int} {A C : Int → Int} (h36 : h 36 = co 4 [vi n, vr 37, vr 38]) (h37 : h 37 = ci 8 A) (h38 : h 38 = ci 8 C) (n0 : 0 ≤ n ∧ n ≤ 8) (hv : ∀ i, 0 ≤ i → i < n → (0 ≤ A i ∧ A i ≤ 4) ∧ 0 ≤ C i ∧ C i ≤ 48 ∧ (A i = 3 → C i < 8)) (x0 : 0 ≤ x ∧ x < 128) (K1 : (∀ i, 0 ≤ i → i < n → FT t G E P (A i) (C i) x) → Q (some (vi 1)) (br h t G E P q) nx) (K0 : ¬ (∀ i, 0 ≤ i → i < n → FT t G E P (A i) (C i) x) → Q (some (vi 0)) (br h t G E P q) nx) : ma_Ct mX4_allFit (d + 3) 0 0 [vr 36, vr 44, vi x] (br h t G E P q) nx Q := by
  refine ma_Ct.of (by decide +kernel) (Nat.le_of_ble_eq_true rfl) ?_
  refine ma_iconst dX4_allFit_0 ?_
  refine ma_istore_nN dX4_allFit_1 (by decide) rfl ?_
  exact l_af2 ht hB h36 h37 h38 n0 hv x0 K1 K0 9 0 (by omega) (by omega) (by omega) (fun y y0 y1 => by omega)
/-- an edge that fits all that was heard -/
def FI (t : Int) (G E P A C : Int → Int) (n x : Int) : Prop := (x < 16 * t ∧ cP E x) ∧ ∀ i, 0 ≤ i → i < n → FT t G E P (A i) (C i) x
/-- the row of fits: nothing, or the first -/
def FR (S : Int → Prop) (g T0 : Int → Int) (k n s : Int) (T : Int → Int) : Prop := n = ct S k.toNat ∧ ((n = 0 ∧ s = 0 ∧ T = T0) ∨ (0 < n ∧ s = 3 ∧ ∃ x, 0 ≤ x ∧ x < k ∧ S x ∧ (∀ y, 0 ≤ y → y < x → ¬ S y) ∧ T = uf (uf (uf T0 0 (g x / 16)) 1 (g x / 4 % 4)) 2 (g x % 4)))
theorem fr_n {S : Int → Prop} {g T0 T : Int → Int} {k n s : Int} (k0 : 0 ≤ k) (h : FR S g T0 k n s T) (hk : ¬ S k) : FR S g T0 (k + 1) n s T := by
  refine ⟨by rw [ct_n k0 hk]; exact h.1, ?_⟩
  rcases h.2 with z | ⟨z1, z2, x, x0, x1, x2, x3, x4⟩
  · exact Or.inl z
  · exact Or.inr ⟨z1, z2, x, x0, by omega, x2, x3, x4⟩
theorem ct_z {S : Int → Prop} : ∀ (n : Nat), ct S n = 0 → ∀ y : Int, 0 ≤ y → y < n → ¬ S y
  | 0, _, y, y0, y1 => by omega
  | n + 1, e, y, y0, y1 => by
    have a := ct_sn (P := S) n
    have b := ct_in S n
    by_cases c : S n
    · rw [a.1 c] at e; omega
    · rw [a.2 c] at e
      rcases Int.lt_or_eq_of_le (show y ≤ n by omega) with z | z
      · exact ct_z n e y y0 z
      · rw [z]; exact c
theorem fr_f {S : Int → Prop} {g T0 T : Int → Int} {k n s : Int} (k0 : 0 ≤ k) (h : FR S g T0 k n s T) (hk : S k) (n0 : n = 0) : s = 0 ∧ FR S g T0 (k + 1) (n + 1) 3 (uf (uf (uf T 0 (g k / 16)) 1 (g k / 4 % 4)) 2 (g k % 4)) := by
  have b := ct_z k.toNat (by rw [← h.1]; exact n0)
  rcases h.2 with z | z
  · refine ⟨z.2.1, by rw [ct_y k0 hk, ← h.1], Or.inr ⟨by omega, rfl, k, k0, by omega, hk, fun y y0 y1 => b y y0 (by omega), by rw [z.2.2]⟩⟩
  · omega
theorem fr_m {S : Int → Prop} {g T0 T : Int → Int} {k n s : Int} (k0 : 0 ≤ k) (h : FR S g T0 k n s T) (hk : S k) (n0 : n ≠ 0) : FR S g T0 (k + 1) (n + 1) s T := by
  refine ⟨by rw [ct_y k0 hk, ← h.1], ?_⟩
  rcases h.2 with z | ⟨z1, z2, x, x0, x1, x2, x3, x4⟩
  · exact absurd z.1 n0
  · exact Or.inr ⟨by omega, z2, x, x0, by omega, x2, x3, x4⟩
set_option maxHeartbeats 2000000 in
theorem l_fi22 {h : ma_H} {nx d : Nat} {t q0 n : Int} {G T0 A C : Int → Int} {Q : Option ma_V → ma_H → Nat → Prop}  (hx : h 0 = co 11 (xo q0)) (h1 : h 1 = co 8 [vi t, vr 2]) (h2 : h 2 = ci 32 G) (hG : VG t G) (h36 : h 36 = co 4 [vi n, vr 37, vr 38]) (h37 : h 37 = ci 8 A) (h38 : h 38 = ci 8 C) (n0 : 0 ≤ n ∧ n ≤ 8) (hv : ∀ i, 0 ≤ i → i < n → (0 ≤ A i ∧ A i ≤ 4) ∧ 0 ≤ C i ∧ C i ≤ 48 ∧ (A i = 3 → C i < 8)) {E P q : Int → Int} (ht : 1 ≤ t ∧ t ≤ 8) (hB : BP t G E P) (K : ∀ nn s T, FR (FI t G E P A C n) (fun x => x) T0 128 nn s T → Q (some (vi nn)) (br (tq h s T) t G E P q) nx) :
    ∀ (m : Nat) (k nn s : Int) (T : Int → Int), 0 ≤ k → k ≤ 128 → 128 - k < m → FR (FI t G E P A C n) (fun x => x) T0 k nn s T → (0 ≤ nn ∧ nn ≤ k) → ma_J none mX11_fits (d + 4) 0 0 22 [some (vr 0), some (vi nn), some (vi k)] [] (br (tq h s T) t G E P q) nx Q := by
  intro m
  induction m with
  | zero => intro k nn s T k0 k1 km; omega
  | succ m ih =>
    intro k nn s T k0 k1 km hR nb
    refine ma_iload_n dX11_fits_22 rfl ?_
    refine ma_sipush dX11_fits_23 ?_
    refine ma_rcmp_ge 105 dX11_fits_26 rfl (by constructor <;> omega) (by constructor <;> omega) (fun c26 => ?_) (fun c26 => ?_)
    · -- 105
      refine ma_iload_n dX11_fits_105 rfl ?_
      have e : k = 128 := by omega
      subst e
      exact ma_iret dX11_fits_106 rfl (K nn s T hR)
    · -- 29
      refine ma_aload_n dX11_fits_29 rfl ?_
      refine ma_getf dX11_fits_30 fX11_68 (by first | exact bh_44 | exact bh_46 | exact ((bh_n (by decide)).trans ((tq_n (by decide) (by decide)).trans hx)) | exact ((bh_n (by decide)).trans ((tq_n (by decide) (by decide)).trans h1)) | exact (bh_n (by decide)).trans tq_31 | exact ((bh_n (by decide)).trans ((tq_n (by decide) (by decide)).trans h36))) (by rfl) ?_
      refine ma_getf dX11_fits_33 fX11_173 (by first | exact bh_44 | exact bh_46 | exact ((bh_n (by decide)).trans ((tq_n (by decide) (by decide)).trans hx)) | exact ((bh_n (by decide)).trans ((tq_n (by decide) (by decide)).trans h1)) | exact (bh_n (by decide)).trans tq_31 | exact ((bh_n (by decide)).trans ((tq_n (by decide) (by decide)).trans h36))) (by rfl) ?_
      refine ma_iload_n dX11_fits_36 rfl ?_
      refine ma_iald dX11_fits_37 (by first | exact bh_44 | exact bh_46 | exact ((bh_n (by decide)).trans ((tq_n (by decide) (by decide)).trans hx)) | exact ((bh_n (by decide)).trans ((tq_n (by decide) (by decide)).trans h1)) | exact (bh_n (by decide)).trans tq_31 | exact ((bh_n (by decide)).trans ((tq_n (by decide) (by decide)).trans h36))) (by omega) (by omega) (by omega) ?_
      refine ma_iload_n dX11_fits_38 rfl ?_
      have xr := xA_in hB (x := k) k0 (by omega)
      have xc := xA_cP ht hB (x := k) k0 (by omega)
      refine ma_rcmp_ne 99 dX11_fits_39 rfl (by constructor <;> omega) (by constructor <;> omega) (fun c39 => ?_) (fun c39 => ?_)
      · -- 99
        refine ma_iincN dX11_fits_99 rfl (by decide) rfl ?_
        refine ma_goto 22 dX11_fits_102 rfl ?_
        exact ih (k + 1) nn s T (by omega) (by omega) (by omega) (fr_n k0 hR (fun z => c39 (xc.mpr z.1))) (by omega)
      · -- 42
        refine ma_aload_n dX11_fits_42 rfl ?_
        refine ma_getf dX11_fits_43 fX11_54 (by first | exact bh_44 | exact bh_46 | exact ((bh_n (by decide)).trans ((tq_n (by decide) (by decide)).trans hx)) | exact ((bh_n (by decide)).trans ((tq_n (by decide) (by decide)).trans h1)) | exact (bh_n (by decide)).trans tq_31 | exact ((bh_n (by decide)).trans ((tq_n (by decide) (by decide)).trans h36))) (by rfl) ?_
        refine ma_aload_n dX11_fits_46 rfl ?_
        refine ma_getf dX11_fits_47 fX11_68 (by first | exact bh_44 | exact bh_46 | exact ((bh_n (by decide)).trans ((tq_n (by decide) (by decide)).trans hx)) | exact ((bh_n (by decide)).trans ((tq_n (by decide) (by decide)).trans h1)) | exact (bh_n (by decide)).trans tq_31 | exact ((bh_n (by decide)).trans ((tq_n (by decide) (by decide)).trans h36))) (by rfl) ?_
        refine ma_iload_n dX11_fits_50 rfl ?_
        refine ma_cV [_, _] dX11_fits_51 wX4_allFit lX11_314 iX4_allFit sX4_allFit rfl (by first | exact bh_44 | exact bh_46 | exact ((bh_n (by decide)).trans ((tq_n (by decide) (by decide)).trans hx)) | exact ((bh_n (by decide)).trans ((tq_n (by decide) (by decide)).trans h1)) | exact (bh_n (by decide)).trans tq_31 | exact ((bh_n (by decide)).trans ((tq_n (by decide) (by decide)).trans h36))) (Nat.le_of_ble_eq_true rfl) ?_
        refine c_X4_allFit ht hB ((tq_n (by decide) (by decide)).trans h36) ((tq_n (by decide) (by decide)).trans h37) ((tq_n (by decide) (by decide)).trans h38) n0 hv ⟨k0, by omega⟩ (fun hf => ?_) (fun hf => ?_)
        · -- k1
          refine ma_rif_eq 99 dX11_fits_54 rfl (by decide) (fun c54 => absurd c54 (by decide)) (fun c54 => ?_)
          refine ma_iload_n dX11_fits_57 rfl ?_
          refine ma_rif_ne 96 dX11_fits_58 rfl (by constructor <;> omega) (fun c58 => ?_) (fun c58 => ?_)
          · -- 96
            refine ma_iincN dX11_fits_96 rfl (by decide) rfl ?_
            refine ma_iincN dX11_fits_99 rfl (by decide) rfl ?_
            refine ma_goto 22 dX11_fits_102 rfl ?_
            exact ih (k + 1) _ s T (by omega) (by omega) (by omega) (fr_m k0 hR ⟨xc.mp c39, hf⟩ c58) (by omega)
          · -- 61
            have ff := fr_f k0 hR ⟨xc.mp c39, hf⟩ c58
            obtain ⟨s0, ff⟩ := ff
            subst s0
            refine ma_aload_n dX11_fits_61 rfl ?_
            refine ma_getf dX11_fits_62 fX11_40 (by first | exact bh_44 | exact bh_46 | exact ((bh_n (by decide)).trans ((tq_n (by decide) (by decide)).trans hx)) | exact ((bh_n (by decide)).trans ((tq_n (by decide) (by decide)).trans h1)) | exact (bh_n (by decide)).trans tq_31 | exact ((bh_n (by decide)).trans ((tq_n (by decide) (by decide)).trans h36))) (by rfl) ?_
            refine ma_iload_n dX11_fits_65 rfl ?_
            refine ma_iconst dX11_fits_66 ?_
            refine ma_kshr 16 dX11_fits_67 (by decide) (by constructor <;> omega) ?_
            refine ma_i2l dX11_fits_68 ?_
            refine ma_cV [_] dX11_fits_69 wX9_add lX11_144 iX9_add sX9_add rfl (by first | exact bh_44 | exact bh_46 | exact ((bh_n (by decide)).trans ((tq_n (by decide) (by decide)).trans hx)) | exact ((bh_n (by decide)).trans ((tq_n (by decide) (by decide)).trans h1)) | exact (bh_n (by decide)).trans tq_31 | exact ((bh_n (by decide)).trans ((tq_n (by decide) (by decide)).trans h36))) (Nat.le_of_ble_eq_true rfl) ?_
            refine t_add (by decide) (iw_of (by omega) (by omega)) ?_
            refine ma_aload_n dX11_fits_72 rfl ?_
            refine ma_getf dX11_fits_73 fX11_40 (by first | exact bh_44 | exact bh_46 | exact ((bh_n (by decide)).trans ((tq_n (by decide) (by decide)).trans hx)) | exact ((bh_n (by decide)).trans ((tq_n (by decide) (by decide)).trans h1)) | exact (bh_n (by decide)).trans tq_31 | exact ((bh_n (by decide)).trans ((tq_n (by decide) (by decide)).trans h36))) (by rfl) ?_
            refine ma_iload_n dX11_fits_76 rfl ?_
            refine ma_iconst dX11_fits_77 ?_
            refine ma_kshr 4 dX11_fits_78 (by decide) (by constructor <;> omega) ?_
            refine ma_iconst dX11_fits_79 ?_
            refine ma_kand 2 4 dX11_fits_80 (by decide) (by decide +kernel) (by decide) ?_
            refine ma_i2l dX11_fits_81 ?_
            refine ma_cV [_] dX11_fits_82 wX9_add lX11_144 iX9_add sX9_add rfl (by first | exact bh_44 | exact bh_46 | exact ((bh_n (by decide)).trans ((tq_n (by decide) (by decide)).trans hx)) | exact ((bh_n (by decide)).trans ((tq_n (by decide) (by decide)).trans h1)) | exact (bh_n (by decide)).trans tq_31 | exact ((bh_n (by decide)).trans ((tq_n (by decide) (by decide)).trans h36))) (Nat.le_of_ble_eq_true rfl) ?_
            refine t_add (by decide) (iw_of (by omega) (by omega)) ?_
            refine ma_aload_n dX11_fits_85 rfl ?_
            refine ma_getf dX11_fits_86 fX11_40 (by first | exact bh_44 | exact bh_46 | exact ((bh_n (by decide)).trans ((tq_n (by decide) (by decide)).trans hx)) | exact ((bh_n (by decide)).trans ((tq_n (by decide) (by decide)).trans h1)) | exact (bh_n (by decide)).trans tq_31 | exact ((bh_n (by decide)).trans ((tq_n (by decide) (by decide)).trans h36))) (by rfl) ?_
            refine ma_iload_n dX11_fits_89 rfl ?_
            refine ma_iconst dX11_fits_90 ?_
            refine ma_kand 2 4 dX11_fits_91 (by decide) (by decide +kernel) (by decide) ?_
            refine ma_i2l dX11_fits_92 ?_
            refine ma_cV [_] dX11_fits_93 wX9_add lX11_144 iX9_add sX9_add rfl (by first | exact bh_44 | exact bh_46 | exact ((bh_n (by decide)).trans ((tq_n (by decide) (by decide)).trans hx)) | exact ((bh_n (by decide)).trans ((tq_n (by decide) (by decide)).trans h1)) | exact (bh_n (by decide)).trans tq_31 | exact ((bh_n (by decide)).trans ((tq_n (by decide) (by decide)).trans h36))) (Nat.le_of_ble_eq_true rfl) ?_
            refine t_add (by decide) (iw_of (by omega) (by omega)) ?_
            refine ma_iincN dX11_fits_96 rfl (by decide) rfl ?_
            refine ma_iincN dX11_fits_99 rfl (by decide) rfl ?_
            refine ma_goto 22 dX11_fits_102 rfl ?_
            exact ih (k + 1) _ _ _ (by omega) (by omega) (by omega) ff (by omega)
        · -- k0
          refine ma_rif_eq 99 dX11_fits_54 rfl (by decide) (fun c54 => ?_) (fun c54 => absurd c54 (by decide))
          refine ma_iincN dX11_fits_99 rfl (by decide) rfl ?_
          refine ma_goto 22 dX11_fits_102 rfl ?_
          exact ih (k + 1) nn s T (by omega) (by omega) (by omega) (fr_n k0 hR (fun z => hf z.2)) (by omega)
theorem c_X11_fits {h : ma_H} {nx d : Nat} {t q0 sz n : Int} {G T0 A C : Int → Int} {Q : Option ma_V → ma_H → Nat → Prop} {E0 X0 D0 F0 P0 Z0 N0 S0 Q0 : Int → Int} {ec0 pc0 : Int} (hx : h 0 = co 11 (xo q0)) (h1 : h 1 = co 8 [vi t, vr 2]) (h2 : h 2 = ci 32 G) (hG : VG t G) (h36 : h 36 = co 4 [vi n, vr 37, vr 38]) (h37 : h 37 = ci 8 A) (h38 : h 38 = ci 8 C) (n0 : 0 ≤ n ∧ n ≤ 8) (hv : ∀ i, 0 ≤ i → i < n → (0 ≤ A i ∧ A i ≤ 4) ∧ 0 ≤ C i ∧ C i ≤ 48 ∧ (A i = 3 → C i < 8)) (K : ∀ E P q nn s T, BP t G E P → FR (FI t G E P A C n) (fun x => x) T0 128 nn s T → Q (some (vi nn)) (br (tq h s T) t G E P q) nx) : ma_Ct mX11_fits (d + 4) 0 0 [vr 0] (bh (tq h sz T0) E0 X0 D0 F0 P0 Z0 N0 S0 Q0 ec0 pc0) nx Q := by
  have ht := hG.1
  refine ma_Ct.of (by decide +kernel) (Nat.le_of_ble_eq_true rfl) ?_
  refine ma_aload_n dX11_fits_0 rfl ?_
  refine ma_getf dX11_fits_1 fX11_68 (by first | exact bh_44 | exact bh_46 | exact ((bh_n (by decide)).trans ((tq_n (by decide) (by decide)).trans hx)) | exact ((bh_n (by decide)).trans ((tq_n (by decide) (by decide)).trans h1)) | exact (bh_n (by decide)).trans tq_31 | exact ((bh_n (by decide)).trans ((tq_n (by decide) (by decide)).trans h36))) (by rfl) ?_
  refine ma_aload_n dX11_fits_4 rfl ?_
  refine ma_getf dX11_fits_5 fX11_10 (by first | exact bh_44 | exact bh_46 | exact ((bh_n (by decide)).trans ((tq_n (by decide) (by decide)).trans hx)) | exact ((bh_n (by decide)).trans ((tq_n (by decide) (by decide)).trans h1)) | exact (bh_n (by decide)).trans tq_31 | exact ((bh_n (by decide)).trans ((tq_n (by decide) (by decide)).trans h36))) (by rfl) ?_
  refine ma_cV [_] dX11_fits_8 wX7_read lX11_170 iX7_read sX7_read rfl (by first | exact bh_44 | exact bh_46 | exact ((bh_n (by decide)).trans ((tq_n (by decide) (by decide)).trans hx)) | exact ((bh_n (by decide)).trans ((tq_n (by decide) (by decide)).trans h1)) | exact (bh_n (by decide)).trans tq_31 | exact ((bh_n (by decide)).trans ((tq_n (by decide) (by decide)).trans h36))) (Nat.le_of_ble_eq_true rfl) ?_
  refine c_X7_read ((tq_n (by decide) (by decide)).trans h1) ((tq_n (by decide) (by decide)).trans h2) (by decide) (by decide) hG (fun E P q hB => ?_)
  refine ma_aload_n dX11_fits_11 rfl ?_
  refine ma_getf dX11_fits_12 fX11_40 (by first | exact bh_44 | exact bh_46 | exact ((bh_n (by decide)).trans ((tq_n (by decide) (by decide)).trans hx)) | exact ((bh_n (by decide)).trans ((tq_n (by decide) (by decide)).trans h1)) | exact (bh_n (by decide)).trans tq_31 | exact ((bh_n (by decide)).trans ((tq_n (by decide) (by decide)).trans h36))) (by rfl) ?_
  refine ma_cV [] dX11_fits_15 wX9_clear lX11_141 iX9_clear sX9_clear rfl (by first | exact bh_44 | exact bh_46 | exact ((bh_n (by decide)).trans ((tq_n (by decide) (by decide)).trans hx)) | exact ((bh_n (by decide)).trans ((tq_n (by decide) (by decide)).trans h1)) | exact (bh_n (by decide)).trans tq_31 | exact ((bh_n (by decide)).trans ((tq_n (by decide) (by decide)).trans h36))) (Nat.le_of_ble_eq_true rfl) ?_
  refine t_clear ?_
  refine ma_iconst dX11_fits_18 ?_
  refine ma_istore_nN dX11_fits_19 (by decide) rfl ?_
  refine ma_iconst dX11_fits_20 ?_
  refine ma_istore_nN dX11_fits_21 (by decide) rfl ?_
  exact l_fi22 hx h1 h2 hG h36 h37 h38 n0 hv ht hB (fun nn s T hR => K E P q nn s T hB hR) 129 0 0 0 T0 (by decide) (by decide) (by decide) ⟨rfl, Or.inl ⟨rfl, rfl, rfl⟩⟩ (by decide)
