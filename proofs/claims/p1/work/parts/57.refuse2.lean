/-- tets beyond the faces below f at a corner -/
def NS (G : Int → Int) (c f i : Int) : Prop := ∃ x, 0 ≤ x ∧ x < f ∧ x ≠ c % 4 ∧ 0 ≤ G (4 * (c / 4) + x) ∧ G (4 * (c / 4) + x) / 32 = i
theorem ns_n {G : Int → Int} {c f i : Int} (h : f = c % 4 ∨ G (4 * (c / 4) + f) < 0) : NS G c f i ↔ NS G c (f + 1) i := by
  constructor
  · rintro ⟨x, x0, x1, x2⟩
    exact ⟨x, x0, by omega, x2⟩
  · rintro ⟨x, x0, x1, x2, x3, x4⟩
    rcases Int.lt_or_eq_of_le (show x ≤ f by omega) with z | z
    · exact ⟨x, x0, z, x2, x3, x4⟩
    · rw [z] at x2 x3
      omega
theorem ns_s {G : Int → Int} {c f i : Int} (f0 : 0 ≤ f) (h : f ≠ c % 4) (h2 : 0 ≤ G (4 * (c / 4) + f)) : (NS G c f i ∨ i = G (4 * (c / 4) + f) / 32) ↔ NS G c (f + 1) i := by
  constructor
  · rintro (⟨x, x0, x1, x2⟩ | a)
    · exact ⟨x, x0, by omega, x2⟩
    · exact ⟨f, f0, by omega, h, h2, a.symm⟩
  · rintro ⟨x, x0, x1, x2, x3, x4⟩
    rcases Int.lt_or_eq_of_le (show x ≤ f by omega) with z | z
    · exact Or.inl ⟨x, x0, z, x2, x3, x4⟩
    · rw [z] at x4
      exact Or.inr x4.symm
/-- tets that have a corner below k at a point -/
def TS (P : Int → Int) (p k i : Int) : Prop := ∃ c, 0 ≤ c ∧ c < k ∧ P c = p ∧ c / 4 = i
theorem ts_n {P : Int → Int} {p k i : Int} (h : P k ≠ p) : TS P p k i ↔ TS P p (k + 1) i := by
  constructor
  · rintro ⟨x, x0, x1, x2⟩
    exact ⟨x, x0, by omega, x2⟩
  · rintro ⟨x, x0, x1, x2, x3⟩
    rcases Int.lt_or_eq_of_le (show x ≤ k by omega) with z | z
    · exact ⟨x, x0, z, x2, x3⟩
    · rw [z] at x2
      exact absurd x2 h
theorem ts_s {P : Int → Int} {p k i : Int} (k0 : 0 ≤ k) (h : P k = p) : (TS P p k i ∨ i = k / 4) ↔ TS P p (k + 1) i := by
  constructor
  · rintro (⟨x, x0, x1, x2⟩ | a)
    · exact ⟨x, x0, by omega, x2⟩
    · exact ⟨k, k0, by omega, h, a.symm⟩
  · rintro ⟨x, x0, x1, x2, x3⟩
    rcases Int.lt_or_eq_of_le (show x ≤ k by omega) with z | z
    · exact Or.inl ⟨x, x0, z, x2, x3⟩
    · rw [z] at x3
      exact Or.inr x3.symm
def C4 (t : Int) (G E P : Int → Int) (k : Int) : Prop := zA P (4 * t) (P k) = 4 ∧ (sA P G (16 * t) (P k) = 0 ∧ xi (zA P (4 * t)) (nA P E (16 * t)) (sA P G (16 * t)) (P k) = 2) ∧ (∀ c, 0 ≤ c → c < 4 * t → P c = P k → ∀ i, 0 ≤ i → i < 8 → (NS G c 4 i ∨ i = c / 4 ↔ TS P (P k) (4 * t) i)) ∧ ∃ m, MK m (TS P (P k) (4 * t)) ∧ pcn m = 4
set_option maxHeartbeats 2000000 in
theorem l_X1_neighbours_4 {h : ma_H} {b g nx d : Nat} {t c : Int} {G : Int → Int} {Q : Option ma_V → ma_H → Nat → Prop} (hb : h b = co 8 [vi t, vr g]) (hg : h g = ci 32 G) (hG : VG t G) (hc : 0 ≤ c ∧ c < 32) (K : ∀ m, MK m (NS G c 4) → Q (some (vi m)) h nx) :
    ∀ (n : Nat) (f m : Int) (x4 : Option ma_V), 0 ≤ f → f ≤ 4 → 4 - f < n → MK m (NS G c f) → ma_J none mX1_neighbours d 0 0 4 [some (vr b), some (vi c), some (vi m), some (vi f), x4] [] h nx Q := by
  have ht := hG.1
  intro n
  induction n with
  | zero => intro f m x4 h0 h1 h2; omega
  | succ n ih =>
    intro f m x4 h0 h1 h2 hM
    have hM1 := hM.1
    have hM2 := hM.2.1
    refine ma_iload_n dX1_neighbours_4 rfl ?_
    refine ma_iconst dX1_neighbours_5 ?_
    refine ma_rcmp_ge 49 dX1_neighbours_6 rfl (by constructor <;> omega) (by constructor <;> omega) (fun c6 => ?_) (fun c6 => ?_)
    · -- 49
      refine ma_iload_n dX1_neighbours_49 rfl ?_
      exact ma_iret dX1_neighbours_50 rfl (K m (mk_iff hM (fun i i0 i1 => by rw [show f = 4 by omega])))
    · -- 9
      refine ma_aload_n dX1_neighbours_9 rfl ?_
      refine ma_getf dX1_neighbours_10 fX1_92 (by first | assumption | exact ma_up_s _ _ _ | (rw [ma_up_n (by omega)]; first | assumption | exact ma_up_s _ _ _ | (rw [ma_up_n (by omega)]; first | assumption | exact ma_up_s _ _ _))) (by rfl) ?_
      refine ma_iload_n dX1_neighbours_13 rfl ?_
      refine ma_bipush dX1_neighbours_14 ?_
      refine ma_iand dX1_neighbours_16 ?_
      rw [tr_28 hc.1 hc.2]
      refine ma_iload_n dX1_neighbours_17 rfl ?_
      refine ma_iadd dX1_neighbours_18 ?_
      refine ma_iald dX1_neighbours_19 (by first | assumption | exact ma_up_s _ _ _ | (rw [ma_up_n (by omega)]; first | assumption | exact ma_up_s _ _ _ | (rw [ma_up_n (by omega)]; first | assumption | exact ma_up_s _ _ _))) (by omega) (by omega) (by omega) ?_
      have hgx := vg_in hG (k := 4 * (c / 4) + f) (by omega) (by omega)
      refine ma_istoreN dX1_neighbours_20 (by decide) rfl ?_
      refine ma_iload_n dX1_neighbours_22 rfl ?_
      refine ma_iload_n dX1_neighbours_23 rfl ?_
      refine ma_iconst dX1_neighbours_24 ?_
      refine ma_kand 2 4 dX1_neighbours_25 (by decide) (by decide +kernel) (by decide) ?_
      refine ma_rcmp_eq 43 dX1_neighbours_26 rfl (by constructor <;> omega) (by constructor <;> omega) (fun c26 => ?_) (fun c26 => ?_)
      · -- 43
        refine ma_iincN dX1_neighbours_43 rfl (by decide) rfl ?_
        refine ma_goto 4 dX1_neighbours_46 rfl ?_
        first | exact ih (f + 1) m _ (by omega) (by omega) (by omega) (mk_iff hM (fun i i0 i1 => ns_n (by omega))) | exact ih (f + 1) _ _ (by omega) (by omega) (by omega) (mk_iff (mk_or hM (by omega) (by omega)) (fun i i0 i1 => ns_s h0 (by omega) (by omega)))
      · -- 29
        refine ma_iload dX1_neighbours_29 rfl ?_
        refine ma_rif_lt 43 dX1_neighbours_31 rfl (by constructor <;> omega) (fun c31 => ?_) (fun c31 => ?_)
        · -- 43
          refine ma_iincN dX1_neighbours_43 rfl (by decide) rfl ?_
          refine ma_goto 4 dX1_neighbours_46 rfl ?_
          first | exact ih (f + 1) m _ (by omega) (by omega) (by omega) (mk_iff hM (fun i i0 i1 => ns_n (by omega))) | exact ih (f + 1) _ _ (by omega) (by omega) (by omega) (mk_iff (mk_or hM (by omega) (by omega)) (fun i i0 i1 => ns_s h0 (by omega) (by omega)))
        · -- 34
          refine ma_iload_n dX1_neighbours_34 rfl ?_
          refine ma_iconst dX1_neighbours_35 ?_
          refine ma_iload dX1_neighbours_36 rfl ?_
          refine ma_iconst dX1_neighbours_38 ?_
          refine ma_kshr 32 dX1_neighbours_39 (by decide) (by constructor <;> omega) ?_
          refine ma_ishl dX1_neighbours_40 ?_
          refine ma_ior dX1_neighbours_41 ?_
          refine ma_istore_nN dX1_neighbours_42 (by decide) rfl ?_
          refine ma_iincN dX1_neighbours_43 rfl (by decide) rfl ?_
          refine ma_goto 4 dX1_neighbours_46 rfl ?_
          first | exact ih (f + 1) m _ (by omega) (by omega) (by omega) (mk_iff hM (fun i i0 i1 => ns_n (by omega))) | exact ih (f + 1) _ _ (by omega) (by omega) (by omega) (mk_iff (mk_or hM (by omega) (by omega)) (fun i i0 i1 => ns_s h0 (by omega) (by omega)))
theorem c_X1_neighbours {h : ma_H} {b g nx d : Nat} {t c : Int} {G : Int → Int} {Q : Option ma_V → ma_H → Nat → Prop} (hb : h b = co 8 [vi t, vr g]) (hg : h g = ci 32 G) (hG : VG t G) (hc : 0 ≤ c ∧ c < 32) (K : ∀ m, MK m (NS G c 4) → Q (some (vi m)) h nx) : ma_Ct mX1_neighbours d 0 0 [vr b, vi c] h nx Q := by
  refine ma_Ct.of (by decide +kernel) (Nat.le_of_ble_eq_true rfl) ?_
  refine ma_iconst dX1_neighbours_0 ?_
  refine ma_istore_nN dX1_neighbours_1 (by decide) rfl ?_
  refine ma_iconst dX1_neighbours_2 ?_
  refine ma_istore_nN dX1_neighbours_3 (by decide) rfl ?_
  exact l_X1_neighbours_4 hb hg hG hc K 5 0 0 _ (by omega) (by omega) (by omega) (mk_iff mk_0 (fun i i0 i1 => ⟨fun z => z.elim, fun ⟨x, x0, x1, _⟩ => by omega⟩))
set_option maxHeartbeats 2000000 in
theorem l_X1_four_100 {h : ma_H} {b g nx d : Nat} {t k : Int} {G E P q : Int → Int} {Q : Option ma_V → ma_H → Nat → Prop} (hb : h b = co 8 [vi t, vr g]) (hg : h g = ci 32 G) (nb : b < 44 ∨ 53 < b) (ng : g < 44 ∨ 53 < g) (hG : VG t G) (hm : h 54 = co 1 [vr 44, vr 39, vr 55, vr 57, vr 58]) {m : Int} (hB : BP t G E P) (hk : oC t k) (h4 : zA P (4 * t) (P k) = 4) (h5 : sA P G (16 * t) (P k) = 0 ∧ xi (zA P (4 * t)) (nA P E (16 * t)) (sA P G (16 * t)) (P k) = 2) (hM : MK m (TS P (P k) (4 * t))) (K2 : ¬ C4 t G E P k → Q (some (vi (-2))) (br h t G E P q) nx) (K0 : C4 t G E P k → Q (some (vi 0)) (br h t G E P q) nx) :
    ∀ (n : Nat) (c : Int), 0 ≤ c → c ≤ 4 * t → 4 * t - c < n → (∀ c', 0 ≤ c' → c' < c → P c' = P k → ∀ i, 0 ≤ i → i < 8 → (NS G c' 4 i ∨ i = c' / 4 ↔ TS P (P k) (4 * t) i)) → ma_J none mX1_refusalOfFour (d + 2) 0 0 100 [some (vr 54), some (vr b), some (vi k), some (vi (P k)), some (vi m), some (vi c)] [] (br h t G E P q) nx Q := by
  have ht := hG.1
  have hM1 := hM.1
  have hM2 := hM.2.1
  have hpk := hB.2.2.1.1 k hk
  unfold oC at hk
  intro n
  induction n with
  | zero => intro c h0 h1 h2; omega
  | succ n ih =>
    intro c h0 h1 h2 hC
    refine ma_iload dX1_refusalOfFour_100 rfl ?_
    refine ma_iconst dX1_refusalOfFour_102 ?_
    refine ma_aload_n dX1_refusalOfFour_103 rfl ?_
    refine ma_getf dX1_refusalOfFour_104 fX1_54 (by first | exact bh_45 | exact bh_46 | exact bh_47 | exact bh_48 | exact bh_49 | exact bh_50 | exact bh_51 | exact bh_52 | exact bh_53 | exact bh_44 | exact (bh_n (by first | assumption | omega)).trans (by assumption)) (by rfl) ?_
    refine ma_imul dX1_refusalOfFour_107 ?_
    refine ma_rcmp_ge 152 dX1_refusalOfFour_108 rfl (by constructor <;> omega) (by constructor <;> omega) (fun c108 => ?_) (fun c108 => ?_)
    · -- 152
      refine ma_iload dX1_refusalOfFour_152 rfl ?_
      refine ma_cS [_] dX1_refusalOfFour_154 wJ6_bitCount_0f7a4 lX1_108 tJ6_bitCount_0f7a4 (Nat.le_of_ble_eq_true rfl) ?_
      refine c_J6_bitCount ⟨hM.1, hM.2.1⟩ ?_
      have hp : 0 ≤ pcn m ∧ pcn m ≤ 8 := by unfold pcn; omega
      refine ma_iconst dX1_refusalOfFour_157 ?_
      refine ma_rcmp_ne 165 dX1_refusalOfFour_158 rfl (by constructor <;> omega) (by constructor <;> omega) (fun c158 => ?_) (fun c158 => ?_)
      · -- 165
        refine ma_bipush dX1_refusalOfFour_165 ?_
        first | exact ma_iret dX1_refusalOfFour_167 rfl (K0 ⟨h4, h5, fun c' a1 a2 a3 => hC c' a1 (by omega) a3, m, hM, by omega⟩) | exact ma_iret dX1_refusalOfFour_167 rfl (K2 (fun hc => by obtain ⟨m', q1, q2⟩ := hc.2.2.2; have e := (mk_eq hM q1).mpr (fun i _ _ => Iff.rfl); rw [← e] at q2; omega))
      · -- 161
        refine ma_iconst dX1_refusalOfFour_161 ?_
        refine ma_goto 167 dX1_refusalOfFour_162 rfl ?_
        first | exact ma_iret dX1_refusalOfFour_167 rfl (K0 ⟨h4, h5, fun c' a1 a2 a3 => hC c' a1 (by omega) a3, m, hM, by omega⟩) | exact ma_iret dX1_refusalOfFour_167 rfl (K2 (fun hc => by obtain ⟨m', q1, q2⟩ := hc.2.2.2; have e := (mk_eq hM q1).mpr (fun i _ _ => Iff.rfl); rw [← e] at q2; omega))
    · -- 111
      refine ma_aload_n dX1_refusalOfFour_111 rfl ?_
      refine ma_getf dX1_refusalOfFour_112 fX1_25 (by first | exact bh_45 | exact bh_46 | exact bh_47 | exact bh_48 | exact bh_49 | exact bh_50 | exact bh_51 | exact bh_52 | exact bh_53 | exact bh_44 | exact (bh_n (by first | assumption | omega)).trans (by assumption)) (by rfl) ?_
      refine ma_getf dX1_refusalOfFour_115 fX1_114 (by first | exact bh_45 | exact bh_46 | exact bh_47 | exact bh_48 | exact bh_49 | exact bh_50 | exact bh_51 | exact bh_52 | exact bh_53 | exact bh_44 | exact (bh_n (by first | assumption | omega)).trans (by assumption)) (by rfl) ?_
      refine ma_iload dX1_refusalOfFour_118 rfl ?_
      refine ma_iald dX1_refusalOfFour_120 (by first | exact bh_45 | exact bh_46 | exact bh_47 | exact bh_48 | exact bh_49 | exact bh_50 | exact bh_51 | exact bh_52 | exact bh_53 | exact bh_44 | exact (bh_n (by first | assumption | omega)).trans (by assumption)) (by omega) (by omega) (by omega) ?_
      have hpc := bp_P hB c h0 (by omega)
      refine ma_iload_n dX1_refusalOfFour_121 rfl ?_
      refine ma_rcmp_ne 146 dX1_refusalOfFour_122 rfl (by constructor <;> omega) (by constructor <;> omega) (fun c122 => ?_) (fun c122 => ?_)
      · -- 146
        refine ma_iincN dX1_refusalOfFour_146 rfl (by decide) rfl ?_
        refine ma_goto 100 dX1_refusalOfFour_149 rfl ?_
        exact ih (c + 1) (by omega) (by omega) (by omega) (fun c' a1 a2 a3 => by
          rcases Int.lt_or_eq_of_le (show c' ≤ c by omega) with z | z
          · exact hC c' a1 z a3
          · rw [z] at a3; exact absurd a3 (by omega))
      · -- 125
        refine ma_aload_n dX1_refusalOfFour_125 rfl ?_
        refine ma_iload dX1_refusalOfFour_126 rfl ?_
        refine ma_cS [_, _] dX1_refusalOfFour_128 wX1_neighbours lX1_123 tX1_neighbours (Nat.le_of_ble_eq_true rfl) ?_
        refine c_X1_neighbours ((bh_n nb).trans hb) ((bh_n ng).trans hg) hG (by constructor <;> omega) (fun w hw => ?_)
        have hw2 := mk_or hw (j := c / 4) (by omega) (by omega)
        have hw3 := hw2.1
        have hw4 := hw2.2.1
        refine ma_iconst dX1_refusalOfFour_131 ?_
        refine ma_iload dX1_refusalOfFour_132 rfl ?_
        refine ma_iconst dX1_refusalOfFour_134 ?_
        refine ma_kshr 4 dX1_refusalOfFour_135 (by decide) (by constructor <;> omega) ?_
        refine ma_ishl dX1_refusalOfFour_136 ?_
        refine ma_ior dX1_refusalOfFour_137 ?_
        refine ma_iload dX1_refusalOfFour_138 rfl ?_
        refine ma_rcmp_eq 146 dX1_refusalOfFour_140 rfl (by constructor <;> omega) (by constructor <;> omega) (fun c140 => ?_) (fun c140 => ?_)
        · -- 146
          refine ma_iincN dX1_refusalOfFour_146 rfl (by decide) rfl ?_
          refine ma_goto 100 dX1_refusalOfFour_149 rfl ?_
          exact ih (c + 1) (by omega) (by omega) (by omega) (fun c' a1 a2 a3 => by
            rcases Int.lt_or_eq_of_le (show c' ≤ c by omega) with z | z
            · exact hC c' a1 z a3
            · rw [z]; exact (mk_eq hw2 hM).mp c140)
        · -- 143
          refine ma_bipush dX1_refusalOfFour_143 ?_
          exact ma_iret dX1_refusalOfFour_145 rfl (K2 (fun hc => c140 ((mk_eq hw2 hM).mpr (hc.2.2.1 c h0 (by omega) (by omega)))))
set_option maxHeartbeats 2000000 in
theorem l_X1_four_55 {h : ma_H} {b g nx d : Nat} {t k : Int} {G E P q : Int → Int} {Q : Option ma_V → ma_H → Nat → Prop} (hb : h b = co 8 [vi t, vr g]) (hg : h g = ci 32 G) (nb : b < 44 ∨ 53 < b) (ng : g < 44 ∨ 53 < g) (hG : VG t G) (hm : h 54 = co 1 [vr 44, vr 39, vr 55, vr 57, vr 58]) (hB : BP t G E P) (hk : oC t k) (h4 : zA P (4 * t) (P k) = 4) (h5 : sA P G (16 * t) (P k) = 0 ∧ xi (zA P (4 * t)) (nA P E (16 * t)) (sA P G (16 * t)) (P k) = 2) (K2 : ¬ C4 t G E P k → Q (some (vi (-2))) (br h t G E P q) nx) (K0 : C4 t G E P k → Q (some (vi 0)) (br h t G E P q) nx) :
    ∀ (n : Nat) (c m : Int), 0 ≤ c → c ≤ 4 * t → 4 * t - c < n → MK m (TS P (P k) c) → ma_J none mX1_refusalOfFour (d + 2) 0 0 55 [some (vr 54), some (vr b), some (vi k), some (vi (P k)), some (vi m), some (vi c)] [] (br h t G E P q) nx Q := by
  have ht := hG.1
  have hpk := hB.2.2.1.1 k hk
  have hk2 := hk
  unfold oC at hk2
  intro n
  induction n with
  | zero => intro c m h0 h1 h2; omega
  | succ n ih =>
    intro c m h0 h1 h2 hM
    have hM1 := hM.1
    have hM2 := hM.2.1
    refine ma_iload dX1_refusalOfFour_55 rfl ?_
    refine ma_iconst dX1_refusalOfFour_57 ?_
    refine ma_aload_n dX1_refusalOfFour_58 rfl ?_
    refine ma_getf dX1_refusalOfFour_59 fX1_54 (by first | exact bh_45 | exact bh_46 | exact bh_47 | exact bh_48 | exact bh_49 | exact bh_50 | exact bh_51 | exact bh_52 | exact bh_53 | exact bh_44 | exact (bh_n (by first | assumption | omega)).trans (by assumption)) (by rfl) ?_
    refine ma_imul dX1_refusalOfFour_62 ?_
    refine ma_rcmp_ge 97 dX1_refusalOfFour_63 rfl (by constructor <;> omega) (by constructor <;> omega) (fun c63 => ?_) (fun c63 => ?_)
    · -- 97
      refine ma_iconst dX1_refusalOfFour_97 ?_
      refine ma_istoreN dX1_refusalOfFour_98 (by decide) rfl ?_
      exact l_X1_four_100 hb hg nb ng hG hm hB hk h4 h5 (by rw [show 4 * t = c by omega]; exact hM) K2 K0 40 0 (by omega) (by omega) (by omega) (fun c' a1 a2 => by omega)
    · -- 66
      refine ma_aload_n dX1_refusalOfFour_66 rfl ?_
      refine ma_getf dX1_refusalOfFour_67 fX1_25 (by first | exact bh_45 | exact bh_46 | exact bh_47 | exact bh_48 | exact bh_49 | exact bh_50 | exact bh_51 | exact bh_52 | exact bh_53 | exact bh_44 | exact (bh_n (by first | assumption | omega)).trans (by assumption)) (by rfl) ?_
      refine ma_getf dX1_refusalOfFour_70 fX1_114 (by first | exact bh_45 | exact bh_46 | exact bh_47 | exact bh_48 | exact bh_49 | exact bh_50 | exact bh_51 | exact bh_52 | exact bh_53 | exact bh_44 | exact (bh_n (by first | assumption | omega)).trans (by assumption)) (by rfl) ?_
      refine ma_iload dX1_refusalOfFour_73 rfl ?_
      refine ma_iald dX1_refusalOfFour_75 (by first | exact bh_45 | exact bh_46 | exact bh_47 | exact bh_48 | exact bh_49 | exact bh_50 | exact bh_51 | exact bh_52 | exact bh_53 | exact bh_44 | exact (bh_n (by first | assumption | omega)).trans (by assumption)) (by omega) (by omega) (by omega) ?_
      have hpc := bp_P hB c h0 (by omega)
      refine ma_iload_n dX1_refusalOfFour_76 rfl ?_
      refine ma_rcmp_ne 91 dX1_refusalOfFour_77 rfl (by constructor <;> omega) (by constructor <;> omega) (fun c77 => ?_) (fun c77 => ?_)
      · -- 91
        refine ma_iincN dX1_refusalOfFour_91 rfl (by decide) rfl ?_
        refine ma_goto 55 dX1_refusalOfFour_94 rfl ?_
        first | exact ih (c + 1) m (by omega) (by omega) (by omega) (mk_iff hM (fun i i0 i1 => ts_n (by omega))) | exact ih (c + 1) _ (by omega) (by omega) (by omega) (mk_iff (mk_or hM (by omega) (by omega)) (fun i i0 i1 => ts_s h0 (by omega)))
      · -- 80
        refine ma_iload dX1_refusalOfFour_80 rfl ?_
        refine ma_iconst dX1_refusalOfFour_82 ?_
        refine ma_iload dX1_refusalOfFour_83 rfl ?_
        refine ma_iconst dX1_refusalOfFour_85 ?_
        refine ma_kshr 4 dX1_refusalOfFour_86 (by decide) (by constructor <;> omega) ?_
        refine ma_ishl dX1_refusalOfFour_87 ?_
        refine ma_ior dX1_refusalOfFour_88 ?_
        refine ma_istoreN dX1_refusalOfFour_89 (by decide) rfl ?_
        refine ma_iincN dX1_refusalOfFour_91 rfl (by decide) rfl ?_
        refine ma_goto 55 dX1_refusalOfFour_94 rfl ?_
        first | exact ih (c + 1) m (by omega) (by omega) (by omega) (mk_iff hM (fun i i0 i1 => ts_n (by omega))) | exact ih (c + 1) _ (by omega) (by omega) (by omega) (mk_iff (mk_or hM (by omega) (by omega)) (fun i i0 i1 => ts_s h0 (by omega)))
set_option maxHeartbeats 2000000 in
theorem c_X1_refusalOfFour {h : ma_H} {b g nx d : Nat} {t k : Int} {G E P q : Int → Int} {Q : Option ma_V → ma_H → Nat → Prop} (hb : h b = co 8 [vi t, vr g]) (hg : h g = ci 32 G) (nb : b < 44 ∨ 53 < b) (ng : g < 44 ∨ 53 < g) (hG : VG t G) (hm : h 54 = co 1 [vr 44, vr 39, vr 55, vr 57, vr 58]) (hB : BP t G E P) (hk : 0 ≤ k ∧ k < 32) (K1 : ¬ k / 4 < t → Q (some (vi (-1))) (br h t G E P q) nx) (K2 : k / 4 < t → ¬ C4 t G E P k → Q (some (vi (-2))) (br h t G E P q) nx) (K0 : k / 4 < t → C4 t G E P k → Q (some (vi 0)) (br h t G E P q) nx) : ma_Ct mX1_refusalOfFour (d + 2) 0 0 [vr 54, vr b, vi k] (br h t G E P q) nx Q := by
  have ht := hG.1
  refine ma_Ct.of (by decide +kernel) (Nat.le_of_ble_eq_true rfl) ?_
  refine ma_aload_n dX1_refusalOfFour_0 rfl ?_
  refine ma_iload_n dX1_refusalOfFour_1 rfl ?_
  refine ma_iconst dX1_refusalOfFour_2 ?_
  refine ma_kshr 4 dX1_refusalOfFour_3 (by decide) (by constructor <;> omega) ?_
  refine ma_cV [_] dX1_refusalOfFour_4 wX8_hasTet lX1_58 iX8_hasTet sX8_hasTet rfl (by first | exact bh_45 | exact bh_46 | exact bh_47 | exact bh_48 | exact bh_49 | exact bh_50 | exact bh_51 | exact bh_52 | exact bh_53 | exact bh_44 | exact (bh_n (by first | assumption | omega)).trans (by assumption)) (Nat.le_of_ble_eq_true rfl) ?_
  refine c_X8_hasTet ((bh_n nb).trans hb) (by omega) (by unfold rg; omega) (fun hq => ?_) (fun hq => ?_)
  · -- k1
    refine ma_rif_ne 12 dX1_refusalOfFour_7 rfl (by decide) (fun c7 => ?_) (fun c7 => absurd c7 (by decide))
    have ho : oC t k := ⟨hk.1, by omega⟩
    have hpk := hB.2.2.1.1 k ho
    have cz := ct_in (zP P (P k)) (4 * t).toNat
    have cn := ct_in (nP P E (P k)) (16 * t).toNat
    have cs := ct_in (sP P G (P k)) (16 * t).toNat
    have cz2 : 0 ≤ zA P (4 * t) (P k) ∧ zA P (4 * t) (P k) ≤ 32 := ⟨cz.1, by have := cz.2; unfold zA; omega⟩
    have cn2 : 0 ≤ nA P E (16 * t) (P k) ∧ nA P E (16 * t) (P k) ≤ 128 := ⟨cn.1, by have := cn.2; unfold nA; omega⟩
    have cs2 : 0 ≤ sA P G (16 * t) (P k) ∧ sA P G (16 * t) (P k) ≤ 128 := ⟨cs.1, by have := cs.2; unfold sA; omega⟩
    refine ma_aload_n dX1_refusalOfFour_12 rfl ?_
    refine ma_getf dX1_refusalOfFour_13 fX1_25 (by first | exact bh_45 | exact bh_46 | exact bh_47 | exact bh_48 | exact bh_49 | exact bh_50 | exact bh_51 | exact bh_52 | exact bh_53 | exact bh_44 | exact (bh_n (by first | assumption | omega)).trans (by assumption)) (by rfl) ?_
    refine ma_getf dX1_refusalOfFour_16 fX1_114 (by first | exact bh_45 | exact bh_46 | exact bh_47 | exact bh_48 | exact bh_49 | exact bh_50 | exact bh_51 | exact bh_52 | exact bh_53 | exact bh_44 | exact (bh_n (by first | assumption | omega)).trans (by assumption)) (by rfl) ?_
    refine ma_iload_n dX1_refusalOfFour_19 rfl ?_
    refine ma_iald dX1_refusalOfFour_20 (by first | exact bh_45 | exact bh_46 | exact bh_47 | exact bh_48 | exact bh_49 | exact bh_50 | exact bh_51 | exact bh_52 | exact bh_53 | exact bh_44 | exact (bh_n (by first | assumption | omega)).trans (by assumption)) (by omega) (by omega) (by omega) ?_
    refine ma_istore_nN dX1_refusalOfFour_21 (by decide) rfl ?_
    refine ma_aload_n dX1_refusalOfFour_22 rfl ?_
    refine ma_getf dX1_refusalOfFour_23 fX1_25 (by first | exact bh_45 | exact bh_46 | exact bh_47 | exact bh_48 | exact bh_49 | exact bh_50 | exact bh_51 | exact bh_52 | exact bh_53 | exact bh_44 | exact (bh_n (by first | assumption | omega)).trans (by assumption)) (by rfl) ?_
    refine ma_getf dX1_refusalOfFour_26 fX1_117 (by first | exact bh_45 | exact bh_46 | exact bh_47 | exact bh_48 | exact bh_49 | exact bh_50 | exact bh_51 | exact bh_52 | exact bh_53 | exact bh_44 | exact (bh_n (by first | assumption | omega)).trans (by assumption)) (by rfl) ?_
    refine ma_iload_n dX1_refusalOfFour_29 rfl ?_
    refine ma_iald dX1_refusalOfFour_30 (by first | exact bh_45 | exact bh_46 | exact bh_47 | exact bh_48 | exact bh_49 | exact bh_50 | exact bh_51 | exact bh_52 | exact bh_53 | exact bh_44 | exact (bh_n (by first | assumption | omega)).trans (by assumption)) (by omega) (by omega) (by omega) ?_
    refine ma_iconst dX1_refusalOfFour_31 ?_
    refine ma_rcmp_ne 46 dX1_refusalOfFour_32 rfl (by constructor <;> omega) (by constructor <;> omega) (fun c32 => ?_) (fun c32 => ?_)
    · -- 46
      refine ma_bipush dX1_refusalOfFour_46 ?_
      first | exact ma_iret dX1_refusalOfFour_48 rfl (K2 (by omega) (fun hc => c32 hc.1)) | exact ma_iret dX1_refusalOfFour_48 rfl (K2 (by omega) (fun hc => h5 hc.2.1))
    · -- 35
      refine ma_aload_n dX1_refusalOfFour_35 rfl ?_
      refine ma_getf dX1_refusalOfFour_36 fX1_25 (by first | exact bh_45 | exact bh_46 | exact bh_47 | exact bh_48 | exact bh_49 | exact bh_50 | exact bh_51 | exact bh_52 | exact bh_53 | exact bh_44 | exact (bh_n (by first | assumption | omega)).trans (by assumption)) (by rfl) ?_
      refine ma_iload_n dX1_refusalOfFour_39 rfl ?_
      refine ma_cV [_] dX1_refusalOfFour_40 wX7_isRound lX1_120 iX7_isRound sX7_isRound rfl (by first | exact bh_45 | exact bh_46 | exact bh_47 | exact bh_48 | exact bh_49 | exact bh_50 | exact bh_51 | exact bh_52 | exact bh_53 | exact bh_44 | exact (bh_n (by first | assumption | omega)).trans (by assumption)) (Nat.le_of_ble_eq_true rfl) ?_
      refine c_X7_isRound (by constructor <;> omega) (by omega) (by omega) (by omega) (fun h5 h6 => ?_) (fun h5 => ?_)
      · -- k1
        refine ma_rif_ne 49 dX1_refusalOfFour_43 rfl (by decide) (fun c43 => ?_) (fun c43 => absurd c43 (by decide))
        refine ma_iconst dX1_refusalOfFour_49 ?_
        refine ma_istoreN dX1_refusalOfFour_50 (by decide) rfl ?_
        refine ma_iconst dX1_refusalOfFour_52 ?_
        refine ma_istoreN dX1_refusalOfFour_53 (by decide) rfl ?_
        exact l_X1_four_55 hb hg nb ng hG hm hB ho (by omega) ⟨h5, h6⟩ (K2 (by omega)) (K0 (by omega)) 40 0 0 (by omega) (by omega) (by omega) (mk_iff mk_0 (fun i i0 i1 => ⟨fun z => z.elim, fun ⟨x, x0, x1, _⟩ => by omega⟩))
      · -- k0
        refine ma_rif_ne 49 dX1_refusalOfFour_43 rfl (by decide) (fun c43 => absurd c43 (by decide)) (fun c43 => ?_)
        refine ma_bipush dX1_refusalOfFour_46 ?_
        first | exact ma_iret dX1_refusalOfFour_48 rfl (K2 (by omega) (fun hc => c32 hc.1)) | exact ma_iret dX1_refusalOfFour_48 rfl (K2 (by omega) (fun hc => h5 hc.2.1))
  · -- k0
    refine ma_rif_ne 12 dX1_refusalOfFour_7 rfl (by decide) (fun c7 => absurd c7 (by decide)) (fun c7 => ?_)
    refine ma_iconst dX1_refusalOfFour_10 ?_
    exact ma_iret dX1_refusalOfFour_11 rfl (K1 (by omega))
/-- whether a move can be at a place: 0, or what is answered -/
noncomputable def RF (t : Int) (G E P : Int → Int) (k : Int) : Int := if k < 32 then R2 t G k else if k < 160 then (if ¬ ((k - 32) / 16 < t ∧ (k - 32) / 4 % 4 < (k - 32) % 4) then -1 else @ite _ (C3 t G E (k - 32)) (Classical.propDecidable _) 0 (-2)) else if k < 168 then R1 t (k - 160) else (if ¬ (k - 168) / 4 < t then -1 else @ite _ (C4 t G E P (k - 168)) (Classical.propDecidable _) 0 (-2))
set_option maxHeartbeats 2000000 in
theorem c_X1_refusal {h : ma_H} {b g nx d : Nat} {t k : Int} {G E P q : Int → Int} {Q : Option ma_V → ma_H → Nat → Prop} (hb : h b = co 8 [vi t, vr g]) (hg : h g = ci 32 G) (nb : b < 44 ∨ 53 < b) (ng : g < 44 ∨ 53 < g) (hG : VG t G) (hm : h 54 = co 1 [vr 44, vr 39, vr 55, vr 57, vr 58]) (hB : BP t G E P) (hk : 0 ≤ k ∧ k < 200) (K : Q (some (vi (RF t G E P k))) (br h t G E P q) nx) : ma_Ct mX1_refusal (d + 3) 0 0 [vr 54, vr b, vi k] (br h t G E P q) nx Q := by
  have ht := hG.1
  unfold RF at K
  refine ma_Ct.of (by decide +kernel) (Nat.le_of_ble_eq_true rfl) ?_
  refine ma_iload_n dX1_refusal_0 rfl ?_
  refine ma_bipush dX1_refusal_1 ?_
  refine ma_rcmp_ge 13 dX1_refusal_3 rfl (by constructor <;> omega) (by constructor <;> omega) (fun c3 => ?_) (fun c3 => ?_)
  · -- 13
    refine ma_iload_n dX1_refusal_13 rfl ?_
    refine ma_sipush dX1_refusal_14 ?_
    refine ma_rcmp_ge 30 dX1_refusal_17 rfl (by constructor <;> omega) (by constructor <;> omega) (fun c17 => ?_) (fun c17 => ?_)
    · -- 30
      refine ma_iload_n dX1_refusal_30 rfl ?_
      refine ma_sipush dX1_refusal_31 ?_
      refine ma_rcmp_ge 69 dX1_refusal_34 rfl (by constructor <;> omega) (by constructor <;> omega) (fun c34 => ?_) (fun c34 => ?_)
      · -- 69
        refine ma_aload_n dX1_refusal_69 rfl ?_
        refine ma_aload_n dX1_refusal_70 rfl ?_
        refine ma_iload_n dX1_refusal_71 rfl ?_
        refine ma_sipush dX1_refusal_72 ?_
        refine ma_isub dX1_refusal_75 ?_
        refine ma_cV [_, _] dX1_refusal_76 wX1_refusalOfFour lX1_89 iX1_refusalOfFour sX1_refusalOfFour rfl (by first | exact bh_45 | exact bh_46 | exact bh_47 | exact bh_48 | exact bh_49 | exact bh_50 | exact bh_51 | exact bh_52 | exact bh_53 | exact bh_44 | exact (bh_n (by first | assumption | omega)).trans (by assumption)) (Nat.le_of_ble_eq_true rfl) ?_
        refine c_X1_refusalOfFour hb hg nb ng hG hm hB (by constructor <;> omega) (fun hq => ?_) (fun hq hc => ?_) (fun hq hc => ?_)
        · -- k-1
          rw [if_neg (by omega), if_neg (by omega), if_neg (by omega)] at K
          first | (rw [if_pos (by omega)] at K; exact ma_iret dX1_refusal_79 rfl K) | (rw [if_neg (by omega), if_pos hc] at K; exact ma_iret dX1_refusal_79 rfl K) | (rw [if_neg (by omega), if_neg hc] at K; exact ma_iret dX1_refusal_79 rfl K)
        · -- k-2
          rw [if_neg (by omega), if_neg (by omega), if_neg (by omega)] at K
          first | (rw [if_pos (by omega)] at K; exact ma_iret dX1_refusal_79 rfl K) | (rw [if_neg (by omega), if_pos hc] at K; exact ma_iret dX1_refusal_79 rfl K) | (rw [if_neg (by omega), if_neg hc] at K; exact ma_iret dX1_refusal_79 rfl K)
        · -- k0
          rw [if_neg (by omega), if_neg (by omega), if_neg (by omega)] at K
          first | (rw [if_pos (by omega)] at K; exact ma_iret dX1_refusal_79 rfl K) | (rw [if_neg (by omega), if_pos hc] at K; exact ma_iret dX1_refusal_79 rfl K) | (rw [if_neg (by omega), if_neg hc] at K; exact ma_iret dX1_refusal_79 rfl K)
      · -- 37
        refine ma_aload_n dX1_refusal_37 rfl ?_
        refine ma_iload_n dX1_refusal_38 rfl ?_
        refine ma_sipush dX1_refusal_39 ?_
        refine ma_isub dX1_refusal_42 ?_
        refine ma_cV [_] dX1_refusal_43 wX8_hasTet lX1_58 iX8_hasTet sX8_hasTet rfl (by first | exact bh_45 | exact bh_46 | exact bh_47 | exact bh_48 | exact bh_49 | exact bh_50 | exact bh_51 | exact bh_52 | exact bh_53 | exact bh_44 | exact (bh_n (by first | assumption | omega)).trans (by assumption)) (Nat.le_of_ble_eq_true rfl) ?_
        refine c_X8_hasTet ((bh_n nb).trans hb) (by omega) (by unfold rg; omega) (fun hq => ?_) (fun hq => ?_)
        · -- k1
          refine ma_rif_ne 51 dX1_refusal_46 rfl (by decide) (fun c46 => ?_) (fun c46 => absurd c46 (by decide))
          refine ma_aload_n dX1_refusal_51 rfl ?_
          refine ma_getf dX1_refusal_52 fX1_54 (by first | exact bh_45 | exact bh_46 | exact bh_47 | exact bh_48 | exact bh_49 | exact bh_50 | exact bh_51 | exact bh_52 | exact bh_53 | exact bh_44 | exact (bh_n (by first | assumption | omega)).trans (by assumption)) (by rfl) ?_
          refine ma_iconst dX1_refusal_55 ?_
          refine ma_iadd dX1_refusal_56 ?_
          refine ma_bipush dX1_refusal_57 ?_
          refine ma_rcmp_le 67 dX1_refusal_59 rfl (by constructor <;> omega) (by constructor <;> omega) (fun c59 => ?_) (fun c59 => ?_)
          · -- 67
            refine ma_iconst dX1_refusal_67 ?_
            rw [if_neg (by omega), if_neg (by omega), if_pos (by omega)] at K
            unfold R1 at K
            first | (rw [if_neg (by omega), if_pos (by omega)] at K; exact ma_iret dX1_refusal_68 rfl K) | (rw [if_neg (by omega), if_neg (by omega)] at K; exact ma_iret dX1_refusal_68 rfl K)
          · -- 62
            refine ma_bipush dX1_refusal_62 ?_
            refine ma_goto 68 dX1_refusal_64 rfl ?_
            rw [if_neg (by omega), if_neg (by omega), if_pos (by omega)] at K
            unfold R1 at K
            first | (rw [if_neg (by omega), if_pos (by omega)] at K; exact ma_iret dX1_refusal_68 rfl K) | (rw [if_neg (by omega), if_neg (by omega)] at K; exact ma_iret dX1_refusal_68 rfl K)
        · -- k0
          refine ma_rif_ne 51 dX1_refusal_46 rfl (by decide) (fun c46 => absurd c46 (by decide)) (fun c46 => ?_)
          refine ma_iconst dX1_refusal_49 ?_
          rw [if_neg (by omega), if_neg (by omega), if_pos (by omega)] at K
          unfold R1 at K
          rw [if_pos (by omega)] at K
          exact ma_iret dX1_refusal_50 rfl K
    · -- 20
      refine ma_aload_n dX1_refusal_20 rfl ?_
      refine ma_aload_n dX1_refusal_21 rfl ?_
      refine ma_iload_n dX1_refusal_22 rfl ?_
      refine ma_bipush dX1_refusal_23 ?_
      refine ma_isub dX1_refusal_25 ?_
      refine ma_cV [_, _] dX1_refusal_26 wX1_refusalOfThree lX1_86 iX1_refusalOfThree sX1_refusalOfThree rfl (by first | exact bh_45 | exact bh_46 | exact bh_47 | exact bh_48 | exact bh_49 | exact bh_50 | exact bh_51 | exact bh_52 | exact bh_53 | exact bh_44 | exact (bh_n (by first | assumption | omega)).trans (by assumption)) (Nat.le_of_ble_eq_true rfl) ?_
      refine c_X1_refusalOfThree hb hg nb ng hG hm hB (by constructor <;> omega) (fun hq => ?_) (fun hq hq2 hc => ?_) (fun hq hq2 hc => ?_)
      · -- k-1
        rw [if_neg (by omega), if_pos (by omega)] at K
        first | (rw [if_pos (by omega)] at K; exact ma_iret dX1_refusal_29 rfl K) | (rw [if_neg (by omega), if_pos hc] at K; exact ma_iret dX1_refusal_29 rfl K) | (rw [if_neg (by omega), if_neg hc] at K; exact ma_iret dX1_refusal_29 rfl K)
      · -- k-2
        rw [if_neg (by omega), if_pos (by omega)] at K
        first | (rw [if_pos (by omega)] at K; exact ma_iret dX1_refusal_29 rfl K) | (rw [if_neg (by omega), if_pos hc] at K; exact ma_iret dX1_refusal_29 rfl K) | (rw [if_neg (by omega), if_neg hc] at K; exact ma_iret dX1_refusal_29 rfl K)
      · -- k0
        rw [if_neg (by omega), if_pos (by omega)] at K
        first | (rw [if_pos (by omega)] at K; exact ma_iret dX1_refusal_29 rfl K) | (rw [if_neg (by omega), if_pos hc] at K; exact ma_iret dX1_refusal_29 rfl K) | (rw [if_neg (by omega), if_neg hc] at K; exact ma_iret dX1_refusal_29 rfl K)
  · -- 6
    refine ma_aload_n dX1_refusal_6 rfl ?_
    refine ma_aload_n dX1_refusal_7 rfl ?_
    refine ma_iload_n dX1_refusal_8 rfl ?_
    refine ma_cV [_, _] dX1_refusal_9 wX1_refusalOfTwo lX1_83 iX1_refusalOfTwo sX1_refusalOfTwo rfl (by first | exact bh_45 | exact bh_46 | exact bh_47 | exact bh_48 | exact bh_49 | exact bh_50 | exact bh_51 | exact bh_52 | exact bh_53 | exact bh_44 | exact (bh_n (by first | assumption | omega)).trans (by assumption)) (Nat.le_of_ble_eq_true rfl) ?_
    refine c_X1_refusalOfTwo ((bh_n nb).trans hb) ((bh_n ng).trans hg) hG (by constructor <;> omega) ?_
    rw [if_pos (by omega)] at K
    exact ma_iret dX1_refusal_12 rfl K
set_option maxHeartbeats 2000000 in
theorem c_X1_refusalA {h : ma_H} {b g nx d : Nat} {t k : Int} {G E P : Int → Int} {Q : Option ma_V → ma_H → Nat → Prop} (hb : h b = co 8 [vi t, vr g]) (hg : h g = ci 32 G) (hm : h 54 = co 1 [vr 44, vr 39, vr 55, vr 57, vr 58]) (hG : VG t G) (hk : (0 ≤ k ∧ k < 32) ∨ (160 ≤ k ∧ k < 168)) (K : Q (some (vi (RF t G E P k))) h nx) : ma_Ct mX1_refusal (d + 3) 0 0 [vr 54, vr b, vi k] h nx Q := by
  have ht := hG.1
  unfold RF at K
  refine ma_Ct.of (by decide +kernel) (Nat.le_of_ble_eq_true rfl) ?_
  refine ma_iload_n dX1_refusal_0 rfl ?_
  refine ma_bipush dX1_refusal_1 ?_
  refine ma_rcmp_ge 13 dX1_refusal_3 rfl (by constructor <;> omega) (by constructor <;> omega) (fun c3 => ?_) (fun c3 => ?_)
  · -- 13
    refine ma_iload_n dX1_refusal_13 rfl ?_
    refine ma_sipush dX1_refusal_14 ?_
    refine ma_rcmp_ge 30 dX1_refusal_17 rfl (by constructor <;> omega) (by constructor <;> omega) (fun c17 => ?_) (fun c17 => ?_)
    · -- 30
      refine ma_iload_n dX1_refusal_30 rfl ?_
      refine ma_sipush dX1_refusal_31 ?_
      refine ma_rcmp_ge 69 dX1_refusal_34 rfl (by constructor <;> omega) (by constructor <;> omega) (fun c34 => ?_) (fun c34 => ?_)
      · -- 69
        exfalso; omega
      · -- 37
        refine ma_aload_n dX1_refusal_37 rfl ?_
        refine ma_iload_n dX1_refusal_38 rfl ?_
        refine ma_sipush dX1_refusal_39 ?_
        refine ma_isub dX1_refusal_42 ?_
        refine ma_cV [_] dX1_refusal_43 wX8_hasTet lX1_58 iX8_hasTet sX8_hasTet rfl (by first | assumption | exact ma_up_s _ _ _ | (rw [ma_up_n (by omega)]; first | assumption | exact ma_up_s _ _ _ | (rw [ma_up_n (by omega)]; first | assumption | exact ma_up_s _ _ _))) (Nat.le_of_ble_eq_true rfl) ?_
        refine c_X8_hasTet hb (by omega) (by unfold rg; omega) (fun hq => ?_) (fun hq => ?_)
        · -- k1
          refine ma_rif_ne 51 dX1_refusal_46 rfl (by decide) (fun c46 => ?_) (fun c46 => absurd c46 (by decide))
          refine ma_aload_n dX1_refusal_51 rfl ?_
          refine ma_getf dX1_refusal_52 fX1_54 (by first | assumption | exact ma_up_s _ _ _ | (rw [ma_up_n (by omega)]; first | assumption | exact ma_up_s _ _ _ | (rw [ma_up_n (by omega)]; first | assumption | exact ma_up_s _ _ _))) (by rfl) ?_
          refine ma_iconst dX1_refusal_55 ?_
          refine ma_iadd dX1_refusal_56 ?_
          refine ma_bipush dX1_refusal_57 ?_
          refine ma_rcmp_le 67 dX1_refusal_59 rfl (by constructor <;> omega) (by constructor <;> omega) (fun c59 => ?_) (fun c59 => ?_)
          · -- 67
            refine ma_iconst dX1_refusal_67 ?_
            rw [if_neg (by omega), if_neg (by omega), if_pos (by omega)] at K
            unfold R1 at K
            first | (rw [if_neg (by omega), if_pos (by omega)] at K; exact ma_iret dX1_refusal_68 rfl K) | (rw [if_neg (by omega), if_neg (by omega)] at K; exact ma_iret dX1_refusal_68 rfl K)
          · -- 62
            refine ma_bipush dX1_refusal_62 ?_
            refine ma_goto 68 dX1_refusal_64 rfl ?_
            rw [if_neg (by omega), if_neg (by omega), if_pos (by omega)] at K
            unfold R1 at K
            first | (rw [if_neg (by omega), if_pos (by omega)] at K; exact ma_iret dX1_refusal_68 rfl K) | (rw [if_neg (by omega), if_neg (by omega)] at K; exact ma_iret dX1_refusal_68 rfl K)
        · -- k0
          refine ma_rif_ne 51 dX1_refusal_46 rfl (by decide) (fun c46 => absurd c46 (by decide)) (fun c46 => ?_)
          refine ma_iconst dX1_refusal_49 ?_
          rw [if_neg (by omega), if_neg (by omega), if_pos (by omega)] at K
          unfold R1 at K
          rw [if_pos (by omega)] at K
          exact ma_iret dX1_refusal_50 rfl K
    · -- 20
      exfalso; omega
  · -- 6
    refine ma_aload_n dX1_refusal_6 rfl ?_
    refine ma_aload_n dX1_refusal_7 rfl ?_
    refine ma_iload_n dX1_refusal_8 rfl ?_
    refine ma_cV [_, _] dX1_refusal_9 wX1_refusalOfTwo lX1_83 iX1_refusalOfTwo sX1_refusalOfTwo rfl (by first | assumption | exact ma_up_s _ _ _ | (rw [ma_up_n (by omega)]; first | assumption | exact ma_up_s _ _ _ | (rw [ma_up_n (by omega)]; first | assumption | exact ma_up_s _ _ _))) (Nat.le_of_ble_eq_true rfl) ?_
    refine c_X1_refusalOfTwo hb hg hG (by constructor <;> omega) ?_
    rw [if_pos (by omega)] at K
    exact ma_iret dX1_refusal_12 rfl K
