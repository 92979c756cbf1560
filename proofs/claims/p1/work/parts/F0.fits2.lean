theorem tr_ge {v y : Int} (y0 : 16 * v ≤ y) (y1 : y < 16 * v + 16) : 16 * v ≤ tr y := by
  unfold tr
  omega
theorem ft3_i {t : Int} {E : Int → Int} {v x : Int} (v0 : 0 ≤ v) (x0 : 0 ≤ x) : (∃ y, 16 * v ≤ y ∧ y < 16 * v + 16 ∧ xA E (16 * t) y = x) ↔ v < t ∧ ∃ u w, 0 ≤ u ∧ u < w ∧ w < 4 ∧ eg E (16 * v + 4 * u + w) = x := by
  constructor
  · rintro ⟨y, y0, y1, y2⟩
    have tp := tr_p y
    unfold xA at y2
    by_cases c : (y / 4 % 4 < y % 4 ∧ y < 16 * t) ∨ (y % 4 < y / 4 % 4 ∧ tr y < 16 * t)
    · rw [if_pos c] at y2
      rcases c with c | c
      · refine ⟨by have := c.2; omega, ?_⟩
        refine ⟨y / 4 % 4, y % 4, by omega, c.1, by omega, ?_⟩
        rw [show 16 * v + 4 * (y / 4 % 4) + y % 4 = y by omega]
        exact y2
      · refine ⟨by have := c.2; have := tr_ge y0 y1; clear tp; omega, ?_⟩
        refine ⟨y % 4, y / 4 % 4, by omega, c.1, by omega, ?_⟩
        rw [show 16 * v + 4 * (y % 4) + y / 4 % 4 = tr y by unfold tr; omega, eg_tr]
        exact y2
    · rw [if_neg c] at y2
      omega
  · rintro ⟨vt, u, w, u0, uw, w4, e⟩
    refine ⟨16 * v + 4 * u + w, by omega, by omega, ?_⟩
    unfold xA
    rw [if_pos (Or.inl ⟨by omega, by omega⟩)]
    exact e
set_option maxHeartbeats 1000000 in
theorem l_he22 {h : ma_H} {nx d : Nat} {t : Int} {I : Nat → Int} {G Aa E P f F R fi : Int → Int} {Q : Option ma_V → ma_H → Nat → Prop} (h74 : h 74 = ci 33 Aa) (hG : VG t G) (hA : AG t G Aa) (hB : BQ t G E P F R) {x v : Int} (v0 : 0 ≤ v) (vt : v < t) (x0 : 0 ≤ x ∧ x < 128) (K1 : (v < t ∧ ∃ u w, 0 ≤ u ∧ u < w ∧ w < 4 ∧ eg E (16 * v + 4 * u + w) = x) → Q (some (vi 1)) (rh h I f F R fi) nx) (K0 : ¬ (v < t ∧ ∃ u w, 0 ≤ u ∧ u < w ∧ w < 4 ∧ eg E (16 * v + 4 * u + w) = x) → Q (some (vi 0)) (rh h I f F R fi) nx) :
    ∀ (m : Nat) (u w : Int), 0 ≤ u → u < 4 → u < w → w ≤ 4 → 5 * (4 - u) - w < m → (∀ a b, 0 ≤ a → a < b → b < 4 → a < u ∨ (a = u ∧ b < w) → eg E (16 * v + 4 * a + b) ≠ x) → ma_J none mX12_hasEdge (d + 2) 0 0 22 [some (vr 73), some (vi v), some (vi x), some (vi u), some (vi w)] [] (rh h I f F R fi) nx Q := by
  have ht := hG.1
  intro m
  induction m with
  | zero => intro u w u0 u1 uw w1 km; omega
  | succ m ih =>
    intro u w u0 u1 uw w1 km hk
    refine ma_iload dX12_hasEdge_22 rfl ?_
    refine ma_iconst dX12_hasEdge_24 ?_
    refine ma_rcmp_ge 48 dX12_hasEdge_25 rfl (by constructor <;> omega) (by constructor <;> omega) (fun c25 => ?_) (fun c25 => ?_)
    · -- 48
      refine ma_iincN dX12_hasEdge_48 rfl (by decide) rfl ?_
      refine ma_goto 2 dX12_hasEdge_51 rfl ?_
      refine ma_iload_n dX12_hasEdge_2 rfl ?_
      refine ma_iconst dX12_hasEdge_3 ?_
      refine ma_rcmp_ge 54 dX12_hasEdge_4 rfl (by constructor <;> omega) (by constructor <;> omega) (fun c4 => ?_) (fun c4 => ?_)
      · -- 54
        refine ma_iconst dX12_hasEdge_54 ?_
        first | (exfalso; omega) | exact ma_zret dX12_hasEdge_55 rfl (Or.inl rfl) (K0 (by rintro ⟨_, a, b, a0, ab, b4, e⟩; exact hk a b a0 ab b4 (by omega) e))
      · -- 7
        refine ma_iload_n dX12_hasEdge_7 rfl ?_
        refine ma_aload_n dX12_hasEdge_8 rfl ?_
        refine ma_getf dX12_hasEdge_9 fX12_9 (by first | exact rh_73 | exact ((rh_n (by decide)).trans h74) | exact rh_86 | exact rh_87 | exact rh_88) (by rfl) ?_
        refine ma_iconst dX12_hasEdge_12 ?_
        refine ma_iald dX12_hasEdge_13 (by first | exact rh_73 | exact ((rh_n (by decide)).trans h74) | exact rh_86 | exact rh_87 | exact rh_88) (by omega) (by omega) (by omega) ?_
        rw [hA.1]
        refine ma_rcmp_ge 54 dX12_hasEdge_14 rfl (by constructor <;> omega) (by constructor <;> omega) (fun c14 => ?_) (fun c14 => ?_)
        · -- 54
          refine ma_iconst dX12_hasEdge_54 ?_
          first | (exfalso; omega) | exact ma_zret dX12_hasEdge_55 rfl (Or.inl rfl) (K0 (by rintro ⟨_, a, b, a0, ab, b4, e⟩; exact hk a b a0 ab b4 (by omega) e))
        · -- 17
          refine ma_iload_n dX12_hasEdge_17 rfl ?_
          refine ma_iconst dX12_hasEdge_18 ?_
          refine ma_iadd dX12_hasEdge_19 ?_
          refine ma_istoreN dX12_hasEdge_20 (by decide) rfl ?_
          refine ih (u + 1) (u + 1 + 1) (by omega) (by omega) (by omega) (by omega) (by omega) (fun a b a0 ab b4 ho => hk a b a0 ab b4 (by omega))
    · -- 28
      refine ma_aload_n dX12_hasEdge_28 rfl ?_
      refine ma_iload_n dX12_hasEdge_29 rfl ?_
      refine ma_iload_n dX12_hasEdge_30 rfl ?_
      refine ma_iload dX12_hasEdge_31 rfl ?_
      refine ma_cV [_, _, _] dX12_hasEdge_33 wX12_edgeOf lX12_258 iX12_edgeOf sX12_edgeOf rfl (by first | exact rh_73 | exact ((rh_n (by decide)).trans h74) | exact rh_86 | exact rh_87 | exact rh_88) (Nat.le_of_ble_eq_true rfl) ?_
      refine c_X12_edgeOf rh_73 rh_86 hG hB ⟨v0, vt⟩ (by omega) (by omega) (by omega) ?_
      refine ma_iload_n dX12_hasEdge_36 rfl ?_
      have er := eg_cP hB.1 hG (k := 16 * v + 4 * u + w) (oe_of ⟨v0, vt, u0, u1, by omega, by omega, by omega⟩)
      have e1 := er.2.1.1
      have e2 := er.2.1.2.1
      refine ma_rcmp_ne 42 dX12_hasEdge_37 rfl (by constructor <;> omega) (by constructor <;> omega) (fun c37 => ?_) (fun c37 => ?_)
      · -- 42
        refine ma_iincN dX12_hasEdge_42 rfl (by decide) rfl ?_
        refine ma_goto 22 dX12_hasEdge_45 rfl ?_
        refine ih u (w + 1) (by omega) (by omega) (by omega) (by omega) (by omega) (fun a b a0 ab b4 ho => ?_)
        by_cases z : a = u ∧ b = w
        · rw [z.1, z.2]; exact c37
        · exact hk a b a0 ab b4 (by omega)
      · -- 40
        refine ma_iconst dX12_hasEdge_40 ?_
        exact ma_zret dX12_hasEdge_41 rfl (Or.inr rfl) (K1 ⟨vt, u, w, u0, uw, by omega, c37⟩)
theorem c_X12_hasEdge {h : ma_H} {nx d : Nat} {t : Int} {I : Nat → Int} {G Aa E P f F R fi : Int → Int} {Q : Option ma_V → ma_H → Nat → Prop} (h74 : h 74 = ci 33 Aa) (hG : VG t G) (hA : AG t G Aa) (hB : BQ t G E P F R) {x v : Int} (v0 : 0 ≤ v ∧ v < 8) (x0 : 0 ≤ x ∧ x < 128) (K1 : (v < t ∧ ∃ u w, 0 ≤ u ∧ u < w ∧ w < 4 ∧ eg E (16 * v + 4 * u + w) = x) → Q (some (vi 1)) (rh h I f F R fi) nx) (K0 : ¬ (v < t ∧ ∃ u w, 0 ≤ u ∧ u < w ∧ w < 4 ∧ eg E (16 * v + 4 * u + w) = x) → Q (some (vi 0)) (rh h I f F R fi) nx) : ma_Ct mX12_hasEdge (d + 2) 0 0 [vr 73, vi v, vi x] (rh h I f F R fi) nx Q := by
  have ht := hG.1
  refine ma_Ct.of (by decide +kernel) (Nat.le_of_ble_eq_true rfl) ?_
  refine ma_iconst dX12_hasEdge_0 ?_
  refine ma_istore_nN dX12_hasEdge_1 (by decide) rfl ?_
  refine ma_iload_n dX12_hasEdge_2 rfl ?_
  refine ma_iconst dX12_hasEdge_3 ?_
  refine ma_rcmp_ge 54 dX12_hasEdge_4 rfl (by decide) (by decide) (fun c4 => absurd c4 (by decide)) (fun c4 => ?_)
  refine ma_iload_n dX12_hasEdge_7 rfl ?_
  refine ma_aload_n dX12_hasEdge_8 rfl ?_
  refine ma_getf dX12_hasEdge_9 fX12_9 (by first | exact rh_73 | exact ((rh_n (by decide)).trans h74) | exact rh_86 | exact rh_87 | exact rh_88) (by rfl) ?_
  refine ma_iconst dX12_hasEdge_12 ?_
  refine ma_iald dX12_hasEdge_13 (by first | exact rh_73 | exact ((rh_n (by decide)).trans h74) | exact rh_86 | exact rh_87 | exact rh_88) (by omega) (by omega) (by omega) ?_
  rw [hA.1]
  refine ma_rcmp_ge 54 dX12_hasEdge_14 rfl (by constructor <;> omega) (by constructor <;> omega) (fun c14 => ?_) (fun c14 => ?_)
  · -- 54
    refine ma_iconst dX12_hasEdge_54 ?_
    exact ma_zret dX12_hasEdge_55 rfl (Or.inl rfl) (K0 (fun z => by have := z.1; omega))
  · -- 17
    refine ma_iload_n dX12_hasEdge_17 rfl ?_
    refine ma_iconst dX12_hasEdge_18 ?_
    refine ma_iadd dX12_hasEdge_19 ?_
    refine ma_istoreN dX12_hasEdge_20 (by decide) rfl ?_
    exact l_he22 h74 hG hA hB v0.1 (by omega) x0 K1 K0 21 0 _ (by decide) (by decide) (by decide) (by decide) (by decide) (fun a b a0 ab b4 ho => by omega)
theorem fa_1 {E G : Int → Int} {k f x : Int} : fA E G k f x = 1 ↔ fP E G k f x := by
  unfold fA
  constructor
  · intro h
    by_cases c : fP E G k f x
    · exact c
    · rw [if_neg c] at h
      omega
  · intro c
    rw [if_pos c]
set_option maxHeartbeats 2000000 in
theorem c_X12_isSo {h : ma_H} {nx d : Nat} {t : Int} {I : Nat → Int} {G Aa E P f F R fi : Int → Int} {Q : Option ma_V → ma_H → Nat → Prop} (h74 : h 74 = ci 33 Aa) (hG : VG t G) (hA : AG t G Aa) (hB : BQ t G E P F R) {k v w : Int} (w0 : 0 ≤ w ∧ w ≤ 4) (v0 : 0 ≤ v ∧ v ≤ 48 ∧ (w = 3 → v < 8)) (k0 : 0 ≤ k ∧ k < 48) (hk : 0 ≤ fi k ∧ fi k < 16 * t ∧ cP E (fi k)) (K1 : FT t G E P w v (fi k) → Q (some (vi 1)) (rh h I f F R fi) nx) (K0 : ¬ FT t G E P w v (fi k) → Q (some (vi 0)) (rh h I f F R fi) nx) : ma_Ct mX12_isSo (d + 4) 0 0 [vr 73, vi k, vi w, vi v] (rh h I f F R fi) nx Q := by
  have ht := hG.1
  have h0 := hk.1
  have h1 := hk.2.1
  have f1 := fA_b E G (16 * t) 0 (fi k)
  have d1 := (br_b (E := E) (P := P) (G := G) ht).1 (fi k) (by omega) (by omega)
  have p1 := bp_P hB.1 (fi k / 4) (by omega) (by omega)
  have p2 := bp_P hB.1 (4 * (fi k / 16) + fi k % 4) (by omega) (by omega)
  refine ma_Ct.of (by decide +kernel) (Nat.le_of_ble_eq_true rfl) ?_
  refine ma_aload_n dX12_isSo_0 rfl ?_
  refine ma_iload_n dX12_isSo_1 rfl ?_
  refine ma_cV [_] dX12_isSo_2 wX12_edgeAt lX12_303 iX12_edgeAt sX12_edgeAt rfl (by first | exact rh_73 | exact ((rh_n (by decide)).trans h74) | exact rh_86 | exact rh_87 | exact rh_88) (Nat.le_of_ble_eq_true rfl) ?_
  refine c_X12_edgeAt rh_73 rh_86 rh_88 hG hB k0 hk ?_
  refine ma_istoreN dX12_isSo_5 (by decide) rfl ?_
  refine ma_aload_n dX12_isSo_7 rfl ?_
  refine ma_getf dX12_isSo_8 fX12_54 (by first | exact rh_73 | exact ((rh_n (by decide)).trans h74) | exact rh_86 | exact rh_87 | exact rh_88) (by rfl) ?_
  refine ma_iload_n dX12_isSo_11 rfl ?_
  refine ma_iald dX12_isSo_12 (by first | exact rh_73 | exact ((rh_n (by decide)).trans h74) | exact rh_86 | exact rh_87 | exact rh_88) (by omega) (by omega) (by omega) ?_
  refine ma_bipush dX12_isSo_13 ?_
  refine ma_kdiv dX12_isSo_15 (by constructor <;> omega) (by constructor <;> omega) ?_
  rw [show fi k / 16 = fi k / 16 from rfl]
  refine ma_istoreN dX12_isSo_16 (by decide) rfl ?_
  refine ma_iload_n dX12_isSo_18 rfl ?_
  rcases (show (w < 0 ∨ 3 < w) ∨ w = 0 ∨ w = 1 ∨ w = 2 ∨ w = 3 by omega) with sw19 | sw19 | sw19 | sw19 | sw19
  · -- default
    refine ma_tableOut 129 dX12_isSo_19 (by rw [iw_of (by omega) (by omega)]; omega) rfl ?_
    refine ma_aload_n dX12_isSo_129 rfl ?_
    refine ma_getf dX12_isSo_130 fX12_51 (by first | exact rh_73 | exact ((rh_n (by decide)).trans h74) | exact rh_86 | exact rh_87 | exact rh_88) (by rfl) ?_
    refine ma_iconst dX12_isSo_133 ?_
    refine ma_iload dX12_isSo_134 rfl ?_
    refine ma_imul dX12_isSo_136 ?_
    refine ma_aload_n dX12_isSo_137 rfl ?_
    refine ma_getf dX12_isSo_138 fX12_54 (by first | exact rh_73 | exact ((rh_n (by decide)).trans h74) | exact rh_86 | exact rh_87 | exact rh_88) (by rfl) ?_
    refine ma_iload_n dX12_isSo_141 rfl ?_
    refine ma_iald dX12_isSo_142 (by first | exact rh_73 | exact ((rh_n (by decide)).trans h74) | exact rh_86 | exact rh_87 | exact rh_88) (by omega) (by omega) (by omega) ?_
    refine ma_iconst dX12_isSo_143 ?_
    refine ma_kdiv dX12_isSo_144 (by constructor <;> omega) (by constructor <;> omega) ?_
    refine ma_iconst dX12_isSo_145 ?_
    refine ma_kmod dX12_isSo_146 (by constructor <;> omega) (by constructor <;> omega) ?_
    refine ma_iadd dX12_isSo_147 ?_
    refine ma_iald dX12_isSo_148 (by first | exact rh_73 | exact ((rh_n (by decide)).trans h74) | exact rh_86 | exact rh_87 | exact rh_88) (by omega) (by omega) (by omega) ?_
    rw [show 4 * (fi k / 16) + fi k / 4 % 4 = fi k / 4 by omega, hB.2.2 _ (show oC t (fi k / 4) from ⟨by omega, by omega⟩)]
    refine ma_aload_n dX12_isSo_149 rfl ?_
    refine ma_getf dX12_isSo_150 fX12_51 (by first | exact rh_73 | exact ((rh_n (by decide)).trans h74) | exact rh_86 | exact rh_87 | exact rh_88) (by rfl) ?_
    refine ma_iconst dX12_isSo_153 ?_
    refine ma_iload dX12_isSo_154 rfl ?_
    refine ma_imul dX12_isSo_156 ?_
    refine ma_aload_n dX12_isSo_157 rfl ?_
    refine ma_getf dX12_isSo_158 fX12_54 (by first | exact rh_73 | exact ((rh_n (by decide)).trans h74) | exact rh_86 | exact rh_87 | exact rh_88) (by rfl) ?_
    refine ma_iload_n dX12_isSo_161 rfl ?_
    refine ma_iald dX12_isSo_162 (by first | exact rh_73 | exact ((rh_n (by decide)).trans h74) | exact rh_86 | exact rh_87 | exact rh_88) (by omega) (by omega) (by omega) ?_
    refine ma_iconst dX12_isSo_163 ?_
    refine ma_kmod dX12_isSo_164 (by constructor <;> omega) (by constructor <;> omega) ?_
    refine ma_iadd dX12_isSo_165 ?_
    refine ma_iald dX12_isSo_166 (by first | exact rh_73 | exact ((rh_n (by decide)).trans h74) | exact rh_86 | exact rh_87 | exact rh_88) (by omega) (by omega) (by omega) ?_
    rw [hB.2.2 _ (show oC t (4 * (fi k / 16) + fi k % 4) from ⟨by omega, by omega⟩)]
    refine ma_rcmp_ne 174 dX12_isSo_167 rfl (by constructor <;> omega) (by constructor <;> omega) (fun c167 => ?_) (fun c167 => ?_)
    · -- 174
      refine ma_iconst dX12_isSo_174 ?_
      refine ma_iload_n dX12_isSo_175 rfl ?_
      refine ma_iconst dX12_isSo_176 ?_
      refine ma_rcmp_ne 184 dX12_isSo_177 rfl (by constructor <;> omega) (by constructor <;> omega) (fun c177 => ?_) (fun c177 => ?_)
      · -- 184
        refine ma_iconst dX12_isSo_184 ?_
        refine ma_rcmp_ne 192 dX12_isSo_185 rfl (by decide) (by decide) (fun c185 => absurd c185 (by decide)) (fun c185 => ?_)
        refine ma_iconst dX12_isSo_188 ?_
        refine ma_goto 193 dX12_isSo_189 rfl ?_
        first | exact ma_zret dX12_isSo_193 rfl (Or.inr rfl) (K1 ((ft_4 sw19).mpr (by omega))) | exact ma_zret dX12_isSo_193 rfl (Or.inl rfl) (K0 (fun z => by have y := (ft_4 sw19).mp z; omega))
      · -- 180
        refine ma_iconst dX12_isSo_180 ?_
        refine ma_goto 185 dX12_isSo_181 rfl ?_
        refine ma_rcmp_ne 192 dX12_isSo_185 rfl (by decide) (by decide) (fun c185 => ?_) (fun c185 => absurd c185 (by decide))
        refine ma_iconst dX12_isSo_192 ?_
        first | exact ma_zret dX12_isSo_193 rfl (Or.inr rfl) (K1 ((ft_4 sw19).mpr (by omega))) | exact ma_zret dX12_isSo_193 rfl (Or.inl rfl) (K0 (fun z => by have y := (ft_4 sw19).mp z; omega))
    · -- 170
      refine ma_iconst dX12_isSo_170 ?_
      refine ma_goto 175 dX12_isSo_171 rfl ?_
      refine ma_iload_n dX12_isSo_175 rfl ?_
      refine ma_iconst dX12_isSo_176 ?_
      refine ma_rcmp_ne 184 dX12_isSo_177 rfl (by constructor <;> omega) (by constructor <;> omega) (fun c177 => ?_) (fun c177 => ?_)
      · -- 184
        refine ma_iconst dX12_isSo_184 ?_
        refine ma_rcmp_ne 192 dX12_isSo_185 rfl (by decide) (by decide) (fun c185 => ?_) (fun c185 => absurd c185 (by decide))
        refine ma_iconst dX12_isSo_192 ?_
        first | exact ma_zret dX12_isSo_193 rfl (Or.inr rfl) (K1 ((ft_4 sw19).mpr (by omega))) | exact ma_zret dX12_isSo_193 rfl (Or.inl rfl) (K0 (fun z => by have y := (ft_4 sw19).mp z; omega))
      · -- 180
        refine ma_iconst dX12_isSo_180 ?_
        refine ma_goto 185 dX12_isSo_181 rfl ?_
        refine ma_rcmp_ne 192 dX12_isSo_185 rfl (by decide) (by decide) (fun c185 => absurd c185 (by decide)) (fun c185 => ?_)
        refine ma_iconst dX12_isSo_188 ?_
        refine ma_goto 193 dX12_isSo_189 rfl ?_
        first | exact ma_zret dX12_isSo_193 rfl (Or.inr rfl) (K1 ((ft_4 sw19).mpr (by omega))) | exact ma_zret dX12_isSo_193 rfl (Or.inl rfl) (K0 (fun z => by have y := (ft_4 sw19).mp z; omega))
  · -- case 0
    refine ma_tableIn 48 dX12_isSo_19 (by rw [iw_of (by omega) (by omega)]; omega) (by rw [iw_of (by omega) (by omega)]; omega) (by rw [iw_of (by omega) (by omega)]; rw [sw19]; rfl) rfl ?_
    refine ma_aload_n dX12_isSo_48 rfl ?_
    refine ma_aload_n dX12_isSo_49 rfl ?_
    refine ma_getf dX12_isSo_50 fX12_9 (by first | exact rh_73 | exact ((rh_n (by decide)).trans h74) | exact rh_86 | exact rh_87 | exact rh_88) (by rfl) ?_
    refine ma_iload dX12_isSo_53 rfl ?_
    refine ma_cV [_, _] dX12_isSo_55 wX12_degreeOf lX12_279 iX12_degreeOf sX12_degreeOf rfl (by first | exact rh_73 | exact ((rh_n (by decide)).trans h74) | exact rh_86 | exact rh_87 | exact rh_88) (Nat.le_of_ble_eq_true rfl) ?_
    refine c_X12_degreeOf rh_73 ((rh_n (by decide)).trans h74) hG hA rh_86 rh_87 hB (by unfold rg; omega) ?_
    refine ma_iload_n dX12_isSo_58 rfl ?_
    refine ma_rcmp_lt 66 dX12_isSo_59 rfl (by constructor <;> omega) (by constructor <;> omega) (fun c59 => ?_) (fun c59 => ?_)
    · -- 66
      refine ma_iconst dX12_isSo_66 ?_
      first | exact ma_zret dX12_isSo_67 rfl (Or.inr rfl) (K1 ((ft_0 sw19).mpr (by omega))) | exact ma_zret dX12_isSo_67 rfl (Or.inl rfl) (K0 (fun z => by have y := (ft_0 sw19).mp z; omega))
    · -- 62
      refine ma_iconst dX12_isSo_62 ?_
      refine ma_goto 67 dX12_isSo_63 rfl ?_
      first | exact ma_zret dX12_isSo_67 rfl (Or.inr rfl) (K1 ((ft_0 sw19).mpr (by omega))) | exact ma_zret dX12_isSo_67 rfl (Or.inl rfl) (K0 (fun z => by have y := (ft_0 sw19).mp z; omega))
  · -- case 1
    refine ma_tableIn 68 dX12_isSo_19 (by rw [iw_of (by omega) (by omega)]; omega) (by rw [iw_of (by omega) (by omega)]; omega) (by rw [iw_of (by omega) (by omega)]; rw [sw19]; rfl) rfl ?_
    refine ma_aload_n dX12_isSo_68 rfl ?_
    refine ma_aload_n dX12_isSo_69 rfl ?_
    refine ma_getf dX12_isSo_70 fX12_9 (by first | exact rh_73 | exact ((rh_n (by decide)).trans h74) | exact rh_86 | exact rh_87 | exact rh_88) (by rfl) ?_
    refine ma_iload dX12_isSo_73 rfl ?_
    refine ma_cV [_, _] dX12_isSo_75 wX12_isFree lX12_272 iX12_isFree sX12_isFree rfl (by first | exact rh_73 | exact ((rh_n (by decide)).trans h74) | exact rh_86 | exact rh_87 | exact rh_88) (Nat.le_of_ble_eq_true rfl) ?_
    refine c_X12_isFree rh_73 ((rh_n (by decide)).trans h74) hG hA rh_86 rh_87 hB (by unfold rg; omega) (fun hf0 => ?_) (fun hf0 => ?_)
    · -- k1
      refine ma_iload_n dX12_isSo_78 rfl ?_
      refine ma_iconst dX12_isSo_79 ?_
      refine ma_rcmp_ne 87 dX12_isSo_80 rfl (by constructor <;> omega) (by constructor <;> omega) (fun c80 => ?_) (fun c80 => ?_)
      · -- 87
        refine ma_iconst dX12_isSo_87 ?_
        refine ma_rcmp_ne 95 dX12_isSo_88 rfl (by decide) (by decide) (fun c88 => ?_) (fun c88 => absurd c88 (by decide))
        refine ma_iconst dX12_isSo_95 ?_
        have hf : fA E G (16 * t) 0 (fi k) = 1 := fa_1.mpr hf0
        first | exact ma_zret dX12_isSo_96 rfl (Or.inr rfl) (K1 ((ft_1 sw19).mpr (by omega))) | exact ma_zret dX12_isSo_96 rfl (Or.inl rfl) (K0 (fun z => by have y := (ft_1 sw19).mp z; omega))
      · -- 83
        refine ma_iconst dX12_isSo_83 ?_
        refine ma_goto 88 dX12_isSo_84 rfl ?_
        refine ma_rcmp_ne 95 dX12_isSo_88 rfl (by decide) (by decide) (fun c88 => absurd c88 (by decide)) (fun c88 => ?_)
        refine ma_iconst dX12_isSo_91 ?_
        refine ma_goto 96 dX12_isSo_92 rfl ?_
        have hf : fA E G (16 * t) 0 (fi k) = 1 := fa_1.mpr hf0
        first | exact ma_zret dX12_isSo_96 rfl (Or.inr rfl) (K1 ((ft_1 sw19).mpr (by omega))) | exact ma_zret dX12_isSo_96 rfl (Or.inl rfl) (K0 (fun z => by have y := (ft_1 sw19).mp z; omega))
    · -- k0
      refine ma_iload_n dX12_isSo_78 rfl ?_
      refine ma_iconst dX12_isSo_79 ?_
      refine ma_rcmp_ne 87 dX12_isSo_80 rfl (by constructor <;> omega) (by constructor <;> omega) (fun c80 => ?_) (fun c80 => ?_)
      · -- 87
        refine ma_iconst dX12_isSo_87 ?_
        refine ma_rcmp_ne 95 dX12_isSo_88 rfl (by decide) (by decide) (fun c88 => absurd c88 (by decide)) (fun c88 => ?_)
        refine ma_iconst dX12_isSo_91 ?_
        refine ma_goto 96 dX12_isSo_92 rfl ?_
        have hf : fA E G (16 * t) 0 (fi k) = 0 := f1.resolve_right (fun z => hf0 (fa_1.mp z))
        first | exact ma_zret dX12_isSo_96 rfl (Or.inr rfl) (K1 ((ft_1 sw19).mpr (by omega))) | exact ma_zret dX12_isSo_96 rfl (Or.inl rfl) (K0 (fun z => by have y := (ft_1 sw19).mp z; omega))
      · -- 83
        refine ma_iconst dX12_isSo_83 ?_
        refine ma_goto 88 dX12_isSo_84 rfl ?_
        refine ma_rcmp_ne 95 dX12_isSo_88 rfl (by decide) (by decide) (fun c88 => ?_) (fun c88 => absurd c88 (by decide))
        refine ma_iconst dX12_isSo_95 ?_
        have hf : fA E G (16 * t) 0 (fi k) = 0 := f1.resolve_right (fun z => hf0 (fa_1.mp z))
        first | exact ma_zret dX12_isSo_96 rfl (Or.inr rfl) (K1 ((ft_1 sw19).mpr (by omega))) | exact ma_zret dX12_isSo_96 rfl (Or.inl rfl) (K0 (fun z => by have y := (ft_1 sw19).mp z; omega))
  · -- case 2
    refine ma_tableIn 97 dX12_isSo_19 (by rw [iw_of (by omega) (by omega)]; omega) (by rw [iw_of (by omega) (by omega)]; omega) (by rw [iw_of (by omega) (by omega)]; rw [sw19]; rfl) rfl ?_
    refine ma_aload_n dX12_isSo_97 rfl ?_
    refine ma_iload_n dX12_isSo_98 rfl ?_
    refine ma_cV [_] dX12_isSo_99 wX12_isReversedAt lX12_306 iX12_isReversedAt sX12_isReversedAt rfl (by first | exact rh_73 | exact ((rh_n (by decide)).trans h74) | exact rh_86 | exact rh_87 | exact rh_88) (Nat.le_of_ble_eq_true rfl) ?_
    refine c_X12_isReversedAt rh_73 rh_86 rh_88 hG hB k0 hk (fun hr => ?_) (fun hr => ?_)
    · -- k1
      refine ma_iload_n dX12_isSo_102 rfl ?_
      refine ma_iconst dX12_isSo_103 ?_
      refine ma_rcmp_ne 111 dX12_isSo_104 rfl (by constructor <;> omega) (by constructor <;> omega) (fun c104 => ?_) (fun c104 => ?_)
      · -- 111
        refine ma_iconst dX12_isSo_111 ?_
        refine ma_rcmp_ne 119 dX12_isSo_112 rfl (by decide) (by decide) (fun c112 => ?_) (fun c112 => absurd c112 (by decide))
        refine ma_iconst dX12_isSo_119 ?_
        first | exact ma_zret dX12_isSo_120 rfl (Or.inr rfl) (K1 ((ft_2 sw19).mpr (by omega))) | exact ma_zret dX12_isSo_120 rfl (Or.inl rfl) (K0 (fun z => by have y := (ft_2 sw19).mp z; omega))
      · -- 107
        refine ma_iconst dX12_isSo_107 ?_
        refine ma_goto 112 dX12_isSo_108 rfl ?_
        refine ma_rcmp_ne 119 dX12_isSo_112 rfl (by decide) (by decide) (fun c112 => absurd c112 (by decide)) (fun c112 => ?_)
        refine ma_iconst dX12_isSo_115 ?_
        refine ma_goto 120 dX12_isSo_116 rfl ?_
        first | exact ma_zret dX12_isSo_120 rfl (Or.inr rfl) (K1 ((ft_2 sw19).mpr (by omega))) | exact ma_zret dX12_isSo_120 rfl (Or.inl rfl) (K0 (fun z => by have y := (ft_2 sw19).mp z; omega))
    · -- k0
      refine ma_iload_n dX12_isSo_102 rfl ?_
      refine ma_iconst dX12_isSo_103 ?_
      refine ma_rcmp_ne 111 dX12_isSo_104 rfl (by constructor <;> omega) (by constructor <;> omega) (fun c104 => ?_) (fun c104 => ?_)
      · -- 111
        refine ma_iconst dX12_isSo_111 ?_
        refine ma_rcmp_ne 119 dX12_isSo_112 rfl (by decide) (by decide) (fun c112 => absurd c112 (by decide)) (fun c112 => ?_)
        refine ma_iconst dX12_isSo_115 ?_
        refine ma_goto 120 dX12_isSo_116 rfl ?_
        first | exact ma_zret dX12_isSo_120 rfl (Or.inr rfl) (K1 ((ft_2 sw19).mpr (by omega))) | exact ma_zret dX12_isSo_120 rfl (Or.inl rfl) (K0 (fun z => by have y := (ft_2 sw19).mp z; omega))
      · -- 107
        refine ma_iconst dX12_isSo_107 ?_
        refine ma_goto 112 dX12_isSo_108 rfl ?_
        refine ma_rcmp_ne 119 dX12_isSo_112 rfl (by decide) (by decide) (fun c112 => ?_) (fun c112 => absurd c112 (by decide))
        refine ma_iconst dX12_isSo_119 ?_
        first | exact ma_zret dX12_isSo_120 rfl (Or.inr rfl) (K1 ((ft_2 sw19).mpr (by omega))) | exact ma_zret dX12_isSo_120 rfl (Or.inl rfl) (K0 (fun z => by have y := (ft_2 sw19).mp z; omega))
  · -- case 3
    refine ma_tableIn 121 dX12_isSo_19 (by rw [iw_of (by omega) (by omega)]; omega) (by rw [iw_of (by omega) (by omega)]; omega) (by rw [iw_of (by omega) (by omega)]; rw [sw19]; rfl) rfl ?_
    refine ma_aload_n dX12_isSo_121 rfl ?_
    refine ma_iload_n dX12_isSo_122 rfl ?_
    refine ma_iload dX12_isSo_123 rfl ?_
    refine ma_cV [_, _] dX12_isSo_125 wX12_hasEdge lX12_501 iX12_hasEdge sX12_hasEdge rfl (by first | exact rh_73 | exact ((rh_n (by decide)).trans h74) | exact rh_86 | exact rh_87 | exact rh_88) (Nat.le_of_ble_eq_true rfl) ?_
    refine c_X12_hasEdge h74 hG hA hB (by omega) (by omega) (fun hy => ?_) (fun hy => ?_)
    · -- k1
      exact ma_zret dX12_isSo_128 rfl (Or.inr rfl) (K1 ((ft_3 sw19).mpr ((ft3_i (by omega) hk.1).mpr hy)))
    · -- k0
      exact ma_zret dX12_isSo_128 rfl (Or.inl rfl) (K0 (fun z => hy ((ft3_i (by omega) hk.1).mp ((ft_3 sw19).mp z))))
