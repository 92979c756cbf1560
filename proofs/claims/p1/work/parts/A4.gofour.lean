set_option maxHeartbeats 2000000 in
theorem l_g4_71 {h : ma_H} {a nx d : Nat} {t : Int} {G Aa E P F R : Int → Int} {Q : Option ma_V → ma_H → Nat → Prop} {I : Nat → Int} {x v p : Int} {x7 x8 x9 : Option ma_V} (hM : h 73 = co 12 (mo I)) (ha : h a = ci 33 Aa) (hG : VG t G) (hA : AG t G Aa) (h86 : h 86 = ci 128 F) (h87 : h 87 = ci 32 R) (hB : BQ t G E P F R) (rp : rg p) (KO : ∀ m x6, MK m (TS P p (4 * t)) → ma_J none mX12_goFour (d + 5) 0 0 114 [some (vr 73), some (vr a), some (vi x), some (vi v), some (vi p), some (vi m), x6, x7, x8, x9] [] h nx Q) :
    ∀ (m : Nat) (k : Int) (m' : Int), (0 ≤ k) → (k ≤ 4 * t) → (4 * t - k < m) → (MK m' (TS P p k)) → ma_J none mX12_goFour (d + 5) 0 0 71 [some (vr 73), some (vr a), some (vi x), some (vi v), some (vi p), some (vi m'), some (vi k), x7, x8, x9] [] h nx Q := by
  have ht := hG.1
  unfold rg at rp
  intro m
  induction m with
  | zero => intro k m' k0 k1 k2 hm; omega
  | succ m ih =>
    intro k m' k0 k1 k2 hm
    refine ma_iload dX12_goFour_71 rfl ?_
    refine ma_iconst dX12_goFour_73 ?_
    refine ma_aload_n dX12_goFour_74 rfl ?_
    refine ma_iconst dX12_goFour_75 ?_
    refine ma_iald dX12_goFour_76 (by assumption) (by omega) (by omega) (by omega) ?_
    rw [hA.1]
    refine ma_imul dX12_goFour_77 ?_
    refine ma_rcmp_ge 114 dX12_goFour_78 rfl (by constructor <;> omega) (by constructor <;> omega) (fun c78 => ?_) (fun c78 => ?_)
    · -- 114
      have e4 : k = 4 * t := by omega
      rw [e4] at hm
      exact KO m' _ hm
    · -- 81
      refine ma_iload dX12_goFour_81 rfl ?_
      refine ma_aload_n dX12_goFour_83 rfl ?_
      refine ma_getf dX12_goFour_84 fX12_51 (by assumption) (by rfl) ?_
      refine ma_iload dX12_goFour_87 rfl ?_
      refine ma_iald dX12_goFour_89 (by assumption) (by omega) (by omega) (by omega) ?_
      have hr := bq_P hB (c := k) k0 (by omega)
      rw [hr.1]
      refine ma_iload dX12_goFour_90 rfl ?_
      refine ma_rcmp_ne 104 dX12_goFour_92 rfl (by constructor <;> omega) (by constructor <;> omega) (fun c92 => ?_) (fun c92 => ?_)
      · -- 104
        refine ma_iconst dX12_goFour_104 ?_
        refine ma_ior dX12_goFour_105 ?_
        refine ma_istoreN dX12_goFour_106 (by decide) rfl ?_
        refine ma_iincN dX12_goFour_108 rfl (by decide) rfl ?_
        refine ma_goto 71 dX12_goFour_111 rfl ?_
        exact ih (k + 1) _ (by omega) (by omega) (by omega) (mk_iff (mk_oo hm mk_0) (fun i i0 i1 => ⟨fun z => z.elim (fun ⟨c, c0, c1, c2, c3⟩ => ⟨c, c0, by omega, c2, c3⟩) (fun z => z.elim), fun ⟨c, c0, c1, c2, c3⟩ => by
          rcases Int.lt_or_eq_of_le (show c ≤ k by omega) with y | y
          · exact Or.inl ⟨c, c0, y, c2, c3⟩
          · rw [y] at c2; exact absurd c2 c92⟩))
      · -- 95
        refine ma_iconst dX12_goFour_95 ?_
        refine ma_iload dX12_goFour_96 rfl ?_
        refine ma_iconst dX12_goFour_98 ?_
        refine ma_kdiv dX12_goFour_99 (by constructor <;> omega) (by constructor <;> omega) ?_
        refine ma_ishl dX12_goFour_100 ?_
        refine ma_goto 105 dX12_goFour_101 rfl ?_
        refine ma_ior dX12_goFour_105 ?_
        refine ma_istoreN dX12_goFour_106 (by decide) rfl ?_
        refine ma_iincN dX12_goFour_108 rfl (by decide) rfl ?_
        refine ma_goto 71 dX12_goFour_111 rfl ?_
        exact ih (k + 1) _ (by omega) (by omega) (by omega) (mk_iff (mk_or hm (show 0 ≤ k / 4 by omega) (by omega)) (fun i i0 i1 => ⟨fun z => z.elim (fun ⟨c, c0, c1, c2, c3⟩ => ⟨c, c0, by omega, c2, c3⟩) (fun z => ⟨k, k0, by omega, by omega, z.symm⟩), fun ⟨c, c0, c1, c2, c3⟩ => by
          rcases Int.lt_or_eq_of_le (show c ≤ k by omega) with y | y
          · exact Or.inl ⟨c, c0, y, c2, c3⟩
          · rw [y] at c3; exact Or.inr c3.symm⟩))
set_option maxHeartbeats 2000000 in
theorem l_g4_139 {h : ma_H} {a nx d : Nat} {t : Int} {G Aa E P F R : Int → Int} {Q : Option ma_V → ma_H → Nat → Prop} {I : Nat → Int} {x v p b i : Int} {x8 x9 : Option ma_V} (hM : h 73 = co 12 (mo I)) (ha : h a = ci 33 Aa) (hG : VG t G) (hA : AG t G Aa) (h86 : h 86 = ci 128 F) (h87 : h 87 = ci 32 R) (hB : BQ t G E P F R) (rp : rg p) (hm : MK b (TS P p (4 * t))) (KF : ¬ (∀ i j, 0 ≤ i → i < 8 → 0 ≤ j → j < 8 → i ≠ j → TS P p (4 * t) i → TS P p (4 * t) j → GA G P i j p = 1) → Q (some (vi (-2))) h nx) (i0 : 0 ≤ i ∧ i < 8) (KO : (∀ ii jj, 0 ≤ ii → ii < 8 → 0 ≤ jj → jj < 8 → 8 * ii + jj < 8 * i + 8 → ii ≠ jj → TS P p (4 * t) ii → TS P p (4 * t) jj → GA G P ii jj p = 1) → ma_J none mX12_goFour (d + 5) 0 0 194 [some (vr 73), some (vr a), some (vi x), some (vi v), some (vi p), some (vi b), some (vi i), some (vi 8), x8, x9] [] h nx Q) :
    ∀ (m : Nat) (j : Int), (0 ≤ j) → (j ≤ 8) → (8 - j < m) → (∀ ii jj, 0 ≤ ii → ii < 8 → 0 ≤ jj → jj < 8 → 8 * ii + jj < 8 * i + j → ii ≠ jj → TS P p (4 * t) ii → TS P p (4 * t) jj → GA G P ii jj p = 1) → ma_J none mX12_goFour (d + 5) 0 0 139 [some (vr 73), some (vr a), some (vi x), some (vi v), some (vi p), some (vi b), some (vi i), some (vi j), x8, x9] [] h nx Q := by
  have ht := hG.1
  intro m
  induction m with
  | zero => intro j j0 j1 j2 hg; omega
  | succ m ih =>
    intro j j0 j1 j2 hg
    refine ma_iload dX12_goFour_139 rfl ?_
    refine ma_bipush dX12_goFour_141 ?_
    refine ma_rcmp_ge 194 dX12_goFour_143 rfl (by constructor <;> omega) (by constructor <;> omega) (fun c143 => ?_) (fun c143 => ?_)
    · -- 194
      have e4 : j = 8 := by omega
      subst e4
      exact KO hg
    · -- 146
      refine ma_iload dX12_goFour_146 rfl ?_
      refine ma_iload dX12_goFour_148 rfl ?_
      refine ma_rcmp_eq 188 dX12_goFour_150 rfl (by constructor <;> omega) (by constructor <;> omega) (fun c150 => ?_) (fun c150 => ?_)
      · -- 188
        refine ma_iincN dX12_goFour_188 rfl (by decide) rfl ?_
        refine ma_goto 139 dX12_goFour_191 rfl ?_
        exact ih (j + 1) (by omega) (by omega) (by omega) (fun i' j' a0 a1 b0 b1 c ne s1 s2 => by
          rcases Int.lt_or_eq_of_le (show 8 * i' + j' ≤ 8 * i + j by omega) with y | y
          · exact hg i' j' a0 a1 b0 b1 y ne s1 s2
          · have e1 : i' = i := by omega
            have e2 : j' = j := by omega
            subst e1; subst e2
            exact absurd c150 ne)
      · -- 153
        refine ma_iload dX12_goFour_153 rfl ?_
        refine ma_iload dX12_goFour_155 rfl ?_
        refine ma_ishr dX12_goFour_157 ?_
        refine ma_iload dX12_goFour_158 rfl ?_
        refine ma_iload dX12_goFour_160 rfl ?_
        refine ma_ishr dX12_goFour_162 ?_
        refine ma_iand dX12_goFour_163 ?_
        refine ma_iconst dX12_goFour_164 ?_
        refine ma_kand 1 2 dX12_goFour_165 (by decide) (by decide +kernel) (by decide) ?_
        refine ma_iconst dX12_goFour_166 ?_
        refine ma_rcmp_ne 188 dX12_goFour_167 rfl (by constructor <;> omega) (by constructor <;> omega) (fun c167 => ?_) (fun c167 => ?_)
        · -- 188
          refine ma_iincN dX12_goFour_188 rfl (by decide) rfl ?_
          refine ma_goto 139 dX12_goFour_191 rfl ?_
          exact ih (j + 1) (by omega) (by omega) (by omega) (fun i' j' a0 a1 b0 b1 c ne s1 s2 => by
            rcases Int.lt_or_eq_of_le (show 8 * i' + j' ≤ 8 * i + j by omega) with y | y
            · exact hg i' j' a0 a1 b0 b1 y ne s1 s2
            · have e1 : i' = i := by omega
              have e2 : j' = j := by omega
              subst e1; subst e2
              exact absurd ((tb_and hm i0.1 i0.2 j0 (by omega)).mpr ⟨s1, s2⟩) c167)
        · -- 170
          refine ma_aload_n dX12_goFour_170 rfl ?_
          refine ma_aload_n dX12_goFour_171 rfl ?_
          refine ma_iload dX12_goFour_172 rfl ?_
          refine ma_iload dX12_goFour_174 rfl ?_
          refine ma_iload dX12_goFour_176 rfl ?_
          refine ma_cV [_, _, _, _] dX12_goFour_178 wX12_gluedAt lX12_421 iX12_gluedAt sX12_gluedAt rfl (by assumption) (Nat.le_of_ble_eq_true rfl) ?_
          obtain ⟨sa, sb⟩ := (tb_and hm i0.1 i0.2 j0 (by omega)).mp (by omega)
          have tsi : i < t := by obtain ⟨c, c0, c1, c2, c3⟩ := sa; omega
          refine c_X12_gluedAt hM ha hG hA h86 h87 hB ⟨i0.1, tsi⟩ ⟨j0, by omega⟩ rp ?_
          have gab := ct_in (gaP G P i j p) 16
          have gae : GA G P i j p = ct (gaP G P i j p) 16 := rfl
          refine ma_iconst dX12_goFour_181 ?_
          refine ma_rcmp_eq 188 dX12_goFour_182 rfl (by constructor <;> omega) (by decide) (fun c182 => ?_) (fun c182 => ?_)
          · -- 188
            refine ma_iincN dX12_goFour_188 rfl (by decide) rfl ?_
            refine ma_goto 139 dX12_goFour_191 rfl ?_
            exact ih (j + 1) (by omega) (by omega) (by omega) (fun i' j' a0 a1 b0 b1 c ne s1 s2 => by
              rcases Int.lt_or_eq_of_le (show 8 * i' + j' ≤ 8 * i + j by omega) with y | y
              · exact hg i' j' a0 a1 b0 b1 y ne s1 s2
              · have e1 : i' = i := by omega
                have e2 : j' = j := by omega
                subst e1; subst e2
                exact c182)
          · -- 185
            refine ma_bipush dX12_goFour_185 ?_
            exact ma_iret dX12_goFour_187 rfl (KF (fun z => c182 (z i j i0.1 i0.2 j0 (by omega) c150 sa sb)))
set_option maxHeartbeats 2000000 in
theorem l_g4_129 {h : ma_H} {a nx d : Nat} {t : Int} {G Aa E P F R : Int → Int} {Q : Option ma_V → ma_H → Nat → Prop} {I : Nat → Int} {x v p b : Int} {x8 x9 : Option ma_V} (hM : h 73 = co 12 (mo I)) (ha : h a = ci 33 Aa) (hG : VG t G) (hA : AG t G Aa) (h86 : h 86 = ci 128 F) (h87 : h 87 = ci 32 R) (hB : BQ t G E P F R) (rp : rg p) (hm : MK b (TS P p (4 * t))) (KF : ¬ (∀ i j, 0 ≤ i → i < 8 → 0 ≤ j → j < 8 → i ≠ j → TS P p (4 * t) i → TS P p (4 * t) j → GA G P i j p = 1) → Q (some (vi (-2))) h nx) (KO : ∀ x6 x7, (∀ i j, 0 ≤ i → i < 8 → 0 ≤ j → j < 8 → i ≠ j → TS P p (4 * t) i → TS P p (4 * t) j → GA G P i j p = 1) → ma_J none mX12_goFour (d + 5) 0 0 200 [some (vr 73), some (vr a), some (vi x), some (vi v), some (vi p), some (vi b), x6, x7, x8, x9] [] h nx Q) :
    ∀ (m : Nat) (i : Int) (x7 : Option ma_V), (0 ≤ i) → (i ≤ 8) → (8 - i < m) → (∀ ii jj, 0 ≤ ii → ii < 8 → 0 ≤ jj → jj < 8 → 8 * ii + jj < 8 * i → ii ≠ jj → TS P p (4 * t) ii → TS P p (4 * t) jj → GA G P ii jj p = 1) → ma_J none mX12_goFour (d + 5) 0 0 129 [some (vr 73), some (vr a), some (vi x), some (vi v), some (vi p), some (vi b), some (vi i), x7, x8, x9] [] h nx Q := by
  have ht := hG.1
  intro m
  induction m with
  | zero => intro i x7 i0 i1 i2 hg; omega
  | succ m ih =>
    intro i x7 i0 i1 i2 hg
    refine ma_iload dX12_goFour_129 rfl ?_
    refine ma_bipush dX12_goFour_131 ?_
    refine ma_rcmp_ge 200 dX12_goFour_133 rfl (by constructor <;> omega) (by constructor <;> omega) (fun c133 => ?_) (fun c133 => ?_)
    · -- 200
      exact KO _ _ (fun i' j' a0 a1 b0 b1 ne s1 s2 => hg i' j' a0 a1 b0 b1 (by omega) ne s1 s2)
    · -- 136
      refine ma_iconst dX12_goFour_136 ?_
      refine ma_istoreN dX12_goFour_137 (by decide) rfl ?_
      refine l_g4_139 hM ha hG hA h86 h87 hB rp hm KF ⟨i0, by omega⟩ (fun hg' => ?_) 9 0 (by omega) (by omega) (by omega) (by rw [Int.add_zero]; exact hg)
      refine ma_iincN dX12_goFour_194 rfl (by decide) rfl ?_
      refine ma_goto 129 dX12_goFour_197 rfl ?_
      exact ih (i + 1) _ (by omega) (by omega) (by omega) (by rw [show 8 * (i + 1) = 8 * i + 8 by omega]; exact hg')
def la4 (v c : Int) : Int := if c = v then 4 else rkf v c
theorem la4_ok {v : Int} (v0 : 0 ≤ v ∧ v < 4) : (∀ c, 0 ≤ c → c < 4 → 0 ≤ la4 v c ∧ la4 v c < 5 ∧ la4 v c ≠ 3) ∧ (∀ c c', 0 ≤ c → c < 4 → 0 ≤ c' → c' < 4 → la4 v c = la4 v c' → c = c') ∧ ∀ b, 0 ≤ b → b < 5 → b ≠ 3 → ∃ c, 0 ≤ c ∧ c < 4 ∧ la4 v c = b := by
  refine ⟨fun c c0 c1 => ?_, fun c c' c0 c1 d0 d1 e => ?_, fun b b0 b1 b4 => ?_⟩
  · unfold la4 rkf
    split
    · omega
    · split <;> omega
  · unfold la4 rkf at e
    split at e <;> split at e <;> (try split at e) <;> (try split at e) <;> omega
  · by_cases y : b = 4
    · exact ⟨v, v0.1, v0.2, by unfold la4; rw [if_pos rfl, y]⟩
    · rcases Int.lt_or_le b v with z | z
      · exact ⟨b, b0, by omega, by unfold la4 rkf; rw [if_neg (by omega), if_neg (by omega)]⟩
      · exact ⟨b + 1, by omega, by omega, by unfold la4 rkf; rw [if_neg (by omega), if_pos (by omega)]; omega⟩
set_option maxHeartbeats 2000000 in
theorem l_g4_210 {h : ma_H} {a nx d : Nat} {x v p b : Int} {Q : Option ma_V → ma_H → Nat → Prop} {I : Nat → Int} {x8 x9 : Option ma_V} (hM : h 73 = co 12 (mo I)) (v0 : 0 ≤ v ∧ v < 4) (KO : ∀ LB x6, (∀ c, 0 ≤ c → c < 4 → LB c = la4 v c) → ma_J none mX12_goFour (d + 5) 0 0 244 [some (vr 73), some (vr a), some (vi x), some (vi v), some (vi p), some (vi b), some (vi x6), some (vi 4), x8, x9] [] (ma_up h 97 (ci 4 LB)) nx Q) :
    ∀ (m : Nat) (c : Int) (LB : Int → Int) (nxt : Int), (0 ≤ c) → (c ≤ 4) → (4 - c < m) → (nxt = if v < c then c - 1 else c) → (∀ c', 0 ≤ c' → c' < c → LB c' = la4 v c') → ma_J none mX12_goFour (d + 5) 0 0 210 [some (vr 73), some (vr a), some (vi x), some (vi v), some (vi p), some (vi b), some (vi nxt), some (vi c), x8, x9] [] (ma_up h 97 (ci 4 LB)) nx Q := by
  intro m
  induction m with
  | zero => intro c LB nxt c0 c1 c2 hn hV; omega
  | succ m ih =>
    intro c LB nxt c0 c1 c2 hn hV
    refine ma_iload dX12_goFour_210 rfl ?_
    refine ma_iconst dX12_goFour_212 ?_
    refine ma_rcmp_ge 244 dX12_goFour_213 rfl (by constructor <;> omega) (by constructor <;> omega) (fun c213 => ?_) (fun c213 => ?_)
    · -- 244
      have e4 : c = 4 := by omega
      subst e4
      exact KO LB _ (fun c' a0 a1 => hV c' a0 a1)
    · -- 216
      refine ma_aload_n dX12_goFour_216 rfl ?_
      refine ma_getf dX12_goFour_217 fX12_81 (by first | exact ma_up_s _ _ _ | exact (ma_up_n (by decide)).trans (by assumption)) (by rfl) ?_
      refine ma_iload dX12_goFour_220 rfl ?_
      refine ma_iload dX12_goFour_222 rfl ?_
      refine ma_iload_n dX12_goFour_224 rfl ?_
      refine ma_rcmp_ne 232 dX12_goFour_225 rfl (by constructor <;> omega) (by constructor <;> omega) (fun c225 => ?_) (fun c225 => ?_)
      · -- 232
        refine ma_iload dX12_goFour_232 rfl ?_
        refine ma_iincN dX12_goFour_234 rfl (by decide) rfl ?_
        refine ma_iast dX12_goFour_237 (by first | exact ma_up_s _ _ _ | exact (ma_up_n (by decide)).trans (by assumption)) (by omega) (by omega) (by omega) ?_
        rw [ma_up_up]
        refine ma_iincN dX12_goFour_238 rfl (by decide) rfl ?_
        refine ma_goto 210 dX12_goFour_241 rfl ?_
        exact ih (c + 1) _ _ (by omega) (by omega) (by omega) (by rw [hn]; split <;> split <;> omega) (fun c' a0 a1 => by
          by_cases z : c' = c
          · rw [z, uf_s]; unfold la4; rw [if_neg c225]; unfold rkf; exact hn
          · rw [uf_n z]; exact hV c' a0 (by omega))
      · -- 228
        refine ma_iconst dX12_goFour_228 ?_
        refine ma_goto 237 dX12_goFour_229 rfl ?_
        refine ma_iast dX12_goFour_237 (by first | exact ma_up_s _ _ _ | exact (ma_up_n (by decide)).trans (by assumption)) (by omega) (by omega) (by omega) ?_
        rw [ma_up_up]
        refine ma_iincN dX12_goFour_238 rfl (by decide) rfl ?_
        refine ma_goto 210 dX12_goFour_241 rfl ?_
        exact ih (c + 1) _ _ (by omega) (by omega) (by omega) (by rw [hn]; split <;> split <;> omega) (fun c' a0 a1 => by
          by_cases z : c' = c
          · rw [z, uf_s]; unfold la4; rw [if_pos (by omega)]
          · rw [uf_n z]; exact hV c' a0 (by omega))
def hf (h : ma_H) (OT : Int → Int) (go : Int → Int) (gl : Int → Int) (J : Nat → Int) : ma_H := ma_up (ma_up (ma_up (ma_up h 98 (ci 4 OT)) 92 (ci 4 go)) 93 (ci 16 gl)) 73 (co 12 (mo J))
theorem hf_98 {h : ma_H} {OT : Int → Int} {go : Int → Int} {gl : Int → Int} {J : Nat → Int} : hf h OT go gl J 98 = ci 4 OT := rfl
theorem hf_92 {h : ma_H} {OT : Int → Int} {go : Int → Int} {gl : Int → Int} {J : Nat → Int} : hf h OT go gl J 92 = ci 4 go := rfl
theorem hf_93 {h : ma_H} {OT : Int → Int} {go : Int → Int} {gl : Int → Int} {J : Nat → Int} : hf h OT go gl J 93 = ci 16 gl := rfl
theorem hf_73 {h : ma_H} {OT : Int → Int} {go : Int → Int} {gl : Int → Int} {J : Nat → Int} : hf h OT go gl J 73 = co 12 (mo J) := rfl
theorem hf_n {h : ma_H} {OT : Int → Int} {go : Int → Int} {gl : Int → Int} {J : Nat → Int} {k : Nat} (hk : k ≠ 98 ∧ k ≠ 92 ∧ k ≠ 93 ∧ k ≠ 73) : hf h OT go gl J k = h k := by
  unfold hf
  rw [ma_up_n (by omega), ma_up_n (by omega), ma_up_n (by omega), ma_up_n (by omega)]
theorem hf_p98 {h : ma_H} {OT : Int → Int} {go : Int → Int} {gl : Int → Int} {J : Nat → Int} {OT' : Int → Int} : ma_up (hf h OT go gl J) 98 (ci 4 OT') = hf h OT' go gl J := by
  unfold hf
  rw [ma_up_cm _ _ _ (by decide : 73 ≠ 98), ma_up_cm _ _ _ (by decide : 93 ≠ 98), ma_up_cm _ _ _ (by decide : 92 ≠ 98), ma_up_up]
theorem hf_p92 {h : ma_H} {OT : Int → Int} {go : Int → Int} {gl : Int → Int} {J : Nat → Int} {go' : Int → Int} : ma_up (hf h OT go gl J) 92 (ci 4 go') = hf h OT go' gl J := by
  unfold hf
  rw [ma_up_cm _ _ _ (by decide : 73 ≠ 92), ma_up_cm _ _ _ (by decide : 93 ≠ 92), ma_up_up]
theorem hf_p93 {h : ma_H} {OT : Int → Int} {go : Int → Int} {gl : Int → Int} {J : Nat → Int} {gl' : Int → Int} : ma_up (hf h OT go gl J) 93 (ci 16 gl') = hf h OT go gl' J := by
  unfold hf
  rw [ma_up_cm _ _ _ (by decide : 73 ≠ 93), ma_up_up]
theorem hf_p73 {h : ma_H} {OT : Int → Int} {go : Int → Int} {gl : Int → Int} {J : Nat → Int} {J' : Nat → Int} : ma_up (hf h OT go gl J) 73 (co 12 (mo J')) = hf h OT go gl J' := by
  unfold hf
  rw [ma_up_up]
theorem hf_of {h : ma_H} {OT : Int → Int} {go : Int → Int} {gl : Int → Int} {J : Nat → Int} (e98 : h 98 = ci 4 OT) (e92 : h 92 = ci 4 go) (e93 : h 93 = ci 16 gl) (e73 : h 73 = co 12 (mo J)) : h = hf h OT go gl J := by
  unfold hf
  rw [ma_up_id e98, ma_up_id e92, ma_up_id e93, ma_up_id e73]
set_option maxHeartbeats 2000000 in
theorem l_g4_303 {h : ma_H} {a nx d : Nat} {x v p b f is' q : Int} {go gl LB : Int → Int} {Q : Option ma_V → ma_H → Nat → Prop} {J : Nat → Int} {x6 : Int} (h97 : h 97 = ci 4 LB) (hLB : ∀ c, 0 ≤ c → c < 4 → LB c = la4 v c) (f0 : 0 ≤ f ∧ f < 4) (ris : 0 ≤ is' ∧ is' ≤ 2147483647) (ep : is' % 24 = q) (hp : 0 ≤ q ∧ q < 24) (KO : ∀ OT, (∀ c', 0 ≤ c' → c' < 4 → OT (im q c') = if c' = f then 3 else la4 v c') → ma_J none mX12_goFour (d + 5) 0 0 348 [some (vr 73), some (vr a), some (vi x), some (vi v), some (vi p), some (vi b), some (vi x6), some (vi f), some (vi is'), some (vi 4)] [] (hf h OT go gl J) nx Q) :
    ∀ (m : Nat) (c : Int) (OT : Int → Int), (0 ≤ c) → (c ≤ 4) → (4 - c < m) → (∀ c', 0 ≤ c' → c' < c → OT (im q c') = if c' = f then 3 else la4 v c') → ma_J none mX12_goFour (d + 5) 0 0 303 [some (vr 73), some (vr a), some (vi x), some (vi v), some (vi p), some (vi b), some (vi x6), some (vi f), some (vi is'), some (vi c)] [] (hf h OT go gl J) nx Q := by
  intro m
  induction m with
  | zero => intro c OT c0 c1 c2 hV; omega
  | succ m ih =>
    intro c OT c0 c1 c2 hV
    refine ma_iload dX12_goFour_303 rfl ?_
    refine ma_iconst dX12_goFour_305 ?_
    refine ma_rcmp_ge 348 dX12_goFour_306 rfl (by constructor <;> omega) (by constructor <;> omega) (fun c306 => ?_) (fun c306 => ?_)
    · -- 348
      have e4 : c = 4 := by omega
      subst e4
      exact KO OT (fun c' a0 a1 => hV c' a0 a1)
    · -- 309
      refine ma_aload_n dX12_goFour_309 rfl ?_
      refine ma_getf dX12_goFour_310 fX12_84 (by first | exact hf_98 | exact hf_92 | exact hf_93 | exact hf_73 | exact (hf_n (by decide)).trans (by assumption)) (by rfl) ?_
      refine ma_iload dX12_goFour_313 rfl ?_
      refine ma_bipush dX12_goFour_315 ?_
      refine ma_kmod dX12_goFour_317 (by constructor <;> omega) (by constructor <;> omega) ?_
      rw [ep]
      refine ma_iload dX12_goFour_318 rfl ?_
      refine ma_cS [_, _] dX12_goFour_320 wX12_image lX12_124 tX12_image (Nat.le_of_ble_eq_true rfl) ?_
      refine c_X12_image hp ⟨c0, by omega⟩ ?_
      have wc := im_in hp.1 hp.2 c0 (show c < 4 by omega)
      refine ma_iload dX12_goFour_323 rfl ?_
      refine ma_iload dX12_goFour_325 rfl ?_
      refine ma_rcmp_ne 334 dX12_goFour_327 rfl (by constructor <;> omega) (by constructor <;> omega) (fun c327 => ?_) (fun c327 => ?_)
      · -- 334
        refine ma_aload_n dX12_goFour_334 rfl ?_
        refine ma_getf dX12_goFour_335 fX12_81 (by first | exact hf_98 | exact hf_92 | exact hf_93 | exact hf_73 | exact (hf_n (by decide)).trans (by assumption)) (by rfl) ?_
        refine ma_iload dX12_goFour_338 rfl ?_
        refine ma_iald dX12_goFour_340 (by first | exact hf_98 | exact hf_92 | exact hf_93 | exact hf_73 | exact (hf_n (by decide)).trans (by assumption)) (by omega) (by omega) (by omega) ?_
        rw [hLB c c0 (by omega)]
        refine ma_iast dX12_goFour_341 (by first | exact hf_98 | exact hf_92 | exact hf_93 | exact hf_73 | exact (hf_n (by decide)).trans (by assumption)) (by omega) (by omega) (by omega) ?_
        rw [hf_p98]
        refine ma_iincN dX12_goFour_342 rfl (by decide) rfl ?_
        refine ma_goto 303 dX12_goFour_345 rfl ?_
        exact ih (c + 1) _ (by omega) (by omega) (by omega) (fun c' a0 a1 => by
          by_cases z : c' = c
          · rw [z, uf_s]; rw [if_neg c327]
          · rw [uf_n (fun y => z (im_ij hp.1 hp.2 a0 (by omega) c0 (by omega) y))]; exact hV c' a0 (by omega))
      · -- 330
        refine ma_iconst dX12_goFour_330 ?_
        refine ma_goto 341 dX12_goFour_331 rfl ?_
        refine ma_iast dX12_goFour_341 (by first | exact hf_98 | exact hf_92 | exact hf_93 | exact hf_73 | exact (hf_n (by decide)).trans (by assumption)) (by omega) (by omega) (by omega) ?_
        rw [hf_p98]
        refine ma_iincN dX12_goFour_342 rfl (by decide) rfl ?_
        refine ma_goto 303 dX12_goFour_345 rfl ?_
        exact ih (c + 1) _ (by omega) (by omega) (by omega) (fun c' a0 a1 => by
          by_cases z : c' = c
          · rw [z, uf_s]; rw [if_pos (by omega)]
          · rw [uf_n (fun y => z (im_ij hp.1 hp.2 a0 (by omega) c0 (by omega) y))]; exact hV c' a0 (by omega))
set_option maxHeartbeats 2000000 in
theorem l_g4_276 {h : ma_H} {a nx d : Nat} {t x v p b : Int} {G Aa LB : Int → Int} {Q : Option ma_V → ma_H → Nat → Prop} {I : Nat → Int} {x6 : Int} (hb : h a = ci 33 Aa) (nb : mlen a = 0 ∧ a ≠ 77 ∧ a ≠ 73) (hG : VG t G) (hA : AG t G Aa) (h97 : h 97 = ci 4 LB) (hLB : ∀ c, 0 ≤ c → c < 4 → LB c = la4 v c) (x0 : 0 ≤ x ∧ x < t) (v0 : 0 ≤ v ∧ v < 4) (hgl : ∀ f, 0 ≤ f → f < 4 → f ≠ v → 0 ≤ G (4 * x + f)) (KO : ∀ OT go gl J x8 x9, J 32 = 4 → KI I J → J 34 = 0 → ((go 0 = x ∧ (∀ c, 0 ≤ c → c < 4 → gl c = la4 v c)) ∧ ∀ f', 0 ≤ f' → f' < 4 → f' ≠ v → go (1 + rkf v f') = bX G x f' ∧ ∀ c, 0 ≤ c → c < 4 → gl (4 * (1 + rkf v f') + im (pX G x f') c) = if c = f' then 3 else la4 v c) → ma_J none mX12_goFour (d + 5) 0 0 387 [some (vr 73), some (vr a), some (vi x), some (vi v), some (vi p), some (vi b), some (vi x6), some (vi 4), x8, x9] [] (hf h OT go gl J) nx Q) :
    ∀ (m : Nat) (f : Int) (OT : Int → Int) (go : Int → Int) (gl : Int → Int) (J : Nat → Int) (gg : Int) (x8 : Option ma_V) (x9 : Option ma_V), (0 ≤ f) → (f ≤ 4) → (4 - f < m) → (J 32 = gg) → (gg = 1 + (if v < f then f - 1 else f)) → (KI I J) → (J 34 = 0) → ((go 0 = x ∧ (∀ c, 0 ≤ c → c < 4 → gl c = la4 v c)) ∧ ∀ f', 0 ≤ f' → f' < f → f' ≠ v → go (1 + rkf v f') = bX G x f' ∧ ∀ c, 0 ≤ c → c < 4 → gl (4 * (1 + rkf v f') + im (pX G x f') c) = if c = f' then 3 else la4 v c) → ma_J none mX12_goFour (d + 5) 0 0 276 [some (vr 73), some (vr a), some (vi x), some (vi v), some (vi p), some (vi b), some (vi x6), some (vi f), x8, x9] [] (hf h OT go gl J) nx Q := by
  have ht := hG.1
  have nbk := nb_k nb
  intro m
  induction m with
  | zero => intro f OT go gl J gg x8 x9 f0 f1 f2 hJ hgg hKI h34 hI; omega
  | succ m ih =>
    intro f OT go gl J gg x8 x9 f0 f1 f2 hJ hgg hKI h34 hI
    refine ma_iload dX12_goFour_276 rfl ?_
    refine ma_iconst dX12_goFour_278 ?_
    refine ma_rcmp_ge 387 dX12_goFour_279 rfl (by constructor <;> omega) (by constructor <;> omega) (fun c279 => ?_) (fun c279 => ?_)
    · -- 387
      have e4 : f = 4 := by omega
      subst e4
      exact KO OT go gl J _ _ (by rw [hJ, hgg, if_pos (by omega)]; rfl) hKI h34 hI
    · -- 282
      refine ma_iload dX12_goFour_282 rfl ?_
      refine ma_iload_n dX12_goFour_284 rfl ?_
      refine ma_rcmp_ne 291 dX12_goFour_285 rfl (by constructor <;> omega) (by constructor <;> omega) (fun c285 => ?_) (fun c285 => ?_)
      · -- 291
        refine ma_aload_n dX12_goFour_291 rfl ?_
        refine ma_iload_n dX12_goFour_292 rfl ?_
        refine ma_iload dX12_goFour_293 rfl ?_
        refine ma_cS [_, _, _] dX12_goFour_295 wX12_glue lX12_150 tX12_glue (Nat.le_of_ble_eq_true rfl) ?_
        refine c_X12_glue ((hf_n ⟨nbk 98 (by decide), nbk 92 (by decide), nbk 93 (by decide), nbk 73 (by decide)⟩).trans hb) (by constructor <;> omega) (by constructor <;> omega) ?_
        rw [show 1 + 4 * x + f = 1 + (4 * x + f) by omega, hA.2 (4 * x + f) (by omega) (by omega)]
        have g := hgl f f0 (by omega) c285
        have pp := pt_pt hG (k := 4 * x + f) (by omega) (by omega) g
        have cp := cv_p g pp.2.2.2.2.2.1
        have vb := vg_in hG (k := 4 * x + f) (by omega) (by omega)
        refine ma_istoreN dX12_goFour_298 (by decide) rfl ?_
        refine ma_iconst dX12_goFour_300 ?_
        refine ma_istoreN dX12_goFour_301 (by decide) rfl ?_
        refine l_g4_303 h97 hLB ⟨f0, by omega⟩ ⟨by omega, by omega⟩ cp.2.2 ⟨pp.2.2.2.2.1, pp.2.2.2.2.2.1⟩ (fun OT hOT => ?_) 5 0 OT (by omega) (by omega) (by omega) (fun c' a0 a1 => by omega)
        refine ma_aload_n dX12_goFour_348 rfl ?_
        refine ma_iload dX12_goFour_349 rfl ?_
        refine ma_bipush dX12_goFour_351 ?_
        refine ma_kdiv dX12_goFour_353 (by constructor <;> omega) (by constructor <;> omega) ?_
        rw [cp.2.1]
        refine ma_aload_n dX12_goFour_354 rfl ?_
        refine ma_getf dX12_goFour_355 fX12_84 (by first | exact hf_98 | exact hf_92 | exact hf_93 | exact hf_73 | exact (hf_n (by decide)).trans (by assumption)) (by rfl) ?_
        refine ma_iconst dX12_goFour_358 ?_
        refine ma_iald dX12_goFour_359 (by first | exact hf_98 | exact hf_92 | exact hf_93 | exact hf_73 | exact (hf_n (by decide)).trans (by assumption)) (by omega) (by omega) (by omega) ?_
        refine ma_aload_n dX12_goFour_360 rfl ?_
        refine ma_getf dX12_goFour_361 fX12_84 (by first | exact hf_98 | exact hf_92 | exact hf_93 | exact hf_73 | exact (hf_n (by decide)).trans (by assumption)) (by rfl) ?_
        refine ma_iconst dX12_goFour_364 ?_
        refine ma_iald dX12_goFour_365 (by first | exact hf_98 | exact hf_92 | exact hf_93 | exact hf_73 | exact (hf_n (by decide)).trans (by assumption)) (by omega) (by omega) (by omega) ?_
        refine ma_aload_n dX12_goFour_366 rfl ?_
        refine ma_getf dX12_goFour_367 fX12_84 (by first | exact hf_98 | exact hf_92 | exact hf_93 | exact hf_73 | exact (hf_n (by decide)).trans (by assumption)) (by rfl) ?_
        refine ma_iconst dX12_goFour_370 ?_
        refine ma_iald dX12_goFour_371 (by first | exact hf_98 | exact hf_92 | exact hf_93 | exact hf_73 | exact (hf_n (by decide)).trans (by assumption)) (by omega) (by omega) (by omega) ?_
        refine ma_aload_n dX12_goFour_372 rfl ?_
        refine ma_getf dX12_goFour_373 fX12_84 (by first | exact hf_98 | exact hf_92 | exact hf_93 | exact hf_73 | exact (hf_n (by decide)).trans (by assumption)) (by rfl) ?_
        refine ma_iconst dX12_goFour_376 ?_
        refine ma_iald dX12_goFour_377 (by first | exact hf_98 | exact hf_92 | exact hf_93 | exact hf_73 | exact (hf_n (by decide)).trans (by assumption)) (by omega) (by omega) (by omega) ?_
        refine ma_cV [_, _, _, _, _] dX12_goFour_378 wX12_goes lX12_405 iX12_goes sX12_goes rfl (by first | exact hf_98 | exact hf_92 | exact hf_93 | exact hf_73 | exact (hf_n (by decide)).trans (by assumption)) (Nat.le_of_ble_eq_true rfl) ?_
        refine c_X12_goes hf_73 hf_92 hf_93 (g := gg) hJ (by constructor <;> omega) ?_
        rw [hf_p92, hf_p93, hf_p73]
        refine ma_iincN dX12_goFour_381 rfl (by decide) rfl ?_
        refine ma_goto 276 dX12_goFour_384 rfl ?_
        refine ih (f + 1) _ _ _ _ (gg + 1) _ _ (by omega) (by omega) (by omega) (iu_s _ _ _) (by rw [hgg]; split <;> split <;> omega) (ki_u hKI (Or.inr (Or.inl rfl))) (by rw [iu_n (by decide)]; exact h34) ?_
        have er : 1 + rkf v f = gg := by unfold rkf; exact hgg.symm
        have ne : ∀ f', 0 ≤ f' → f' < f → f' ≠ v → 1 + rkf v f' ≠ gg := fun f' a0 a1 a2 => by rw [← er]; unfold rkf; split <;> split <;> omega
        refine ⟨⟨?_, fun c c0 c1 => ?_⟩, fun f' a0 a1 a2 => ?_⟩
        · rw [uf_n (by omega)]; exact hI.1.1
        · rw [uf_n (by omega), uf_n (by omega), uf_n (by omega), uf_n (by omega)]; exact hI.1.2 c c0 c1
        · rcases Int.lt_or_eq_of_le (show f' ≤ f by omega) with z | z
          · have n1 := ne f' a0 z a2
            obtain ⟨i1, i2⟩ := hI.2 f' a0 z a2
            refine ⟨by rw [uf_n n1]; exact i1, fun c c0 c1 => ?_⟩
            have gp := hgl f' a0 (by omega) a2
            have pq' := pt_pt hG (k := 4 * x + f') (by omega) (by omega) gp
            have wi := im_in (p := pX G x f') pq'.2.2.2.2.1 pq'.2.2.2.2.2.1 c0 c1
            rw [← i2 c c0 c1]
            generalize im (pX G x f') c = zz at wi ⊢
            generalize rkf v f' = rr at n1 ⊢
            rw [uf_n (by omega), uf_n (by omega), uf_n (by omega), uf_n (by omega)]
          · rw [z, er]
            refine ⟨uf_s _ _ _, fun c c0 c1 => ?_⟩
            have wi := im_in (p := pX G x f) pp.2.2.2.2.1 pp.2.2.2.2.2.1 c0 c1
            have w2 := hOT c c0 c1
            rw [← w2]
            rw [show G (4 * x + f) % 32 = pX G x f from rfl]
            generalize im (pX G x f) c = zz at wi ⊢
            rcases four_of wi.1 wi.2 with rfl | rfl | rfl | rfl
            · rw [uf_n (by omega), uf_n (by omega), uf_n (by omega), Int.add_zero, uf_s]
            · rw [uf_n (by omega), uf_n (by omega), uf_s]
            · rw [uf_n (by omega), uf_s]
            · rw [uf_s]
      · -- 288
        refine ma_goto 381 dX12_goFour_288 rfl ?_
        refine ma_iincN dX12_goFour_381 rfl (by decide) rfl ?_
        refine ma_goto 276 dX12_goFour_384 rfl ?_
        exact ih (f + 1) OT go gl J gg _ _ (by omega) (by omega) (by omega) hJ (by rw [hgg]; split <;> split <;> omega) hKI h34 ⟨hI.1, fun f' a0 a1 a2 => hI.2 f' a0 (by omega) a2⟩
