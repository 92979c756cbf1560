/-- m is the least f of those before k that are A, or b -/
def IL (A : Int → Prop) (f : Int → Int) (b k m : Int) : Prop := ((∃ c, 0 ≤ c ∧ c < k ∧ A c ∧ f c = m) ∨ m = b) ∧ m ≤ b ∧ ∀ c, 0 ≤ c → c < k → A c → m ≤ f c
theorem il_0 {A : Int → Prop} {f : Int → Int} {b : Int} : IL A f b 0 b := ⟨Or.inr rfl, Int.le_refl _, fun c c0 c1 => by omega⟩
theorem il_y {A : Int → Prop} {f : Int → Int} {b k m : Int} (k0 : 0 ≤ k) (h : IL A f b k m) (a : A k) : IL A f b (k + 1) (if f k < m then f k else m) := by
  obtain ⟨h1, h2, h3⟩ := h
  by_cases e : f k < m
  · rw [if_pos e]
    refine ⟨Or.inl ⟨k, k0, by omega, a, rfl⟩, by omega, fun c c0 c1 ca => ?_⟩
    rcases Int.lt_or_eq_of_le (show c ≤ k by omega) with z | z
    · have := h3 c c0 z ca
      omega
    · rw [z]
      omega
  · rw [if_neg e]
    refine ⟨?_, h2, fun c c0 c1 ca => ?_⟩
    · rcases h1 with ⟨c, c0, c1, c2, c3⟩ | z
      · exact Or.inl ⟨c, c0, by omega, c2, c3⟩
      · exact Or.inr z
    · rcases Int.lt_or_eq_of_le (show c ≤ k by omega) with z | z
      · exact h3 c c0 z ca
      · rw [z]
        omega
theorem il_n {A : Int → Prop} {f : Int → Int} {b k m : Int} (h : IL A f b k m) (a : ¬ A k) : IL A f b (k + 1) m := by
  obtain ⟨h1, h2, h3⟩ := h
  refine ⟨?_, h2, fun c c0 c1 ca => ?_⟩
  · rcases h1 with ⟨c, c0, c1, c2, c3⟩ | z
    · exact Or.inl ⟨c, c0, by omega, c2, c3⟩
    · exact Or.inr z
  · rcases Int.lt_or_eq_of_le (show c ≤ k by omega) with z | z
    · exact h3 c c0 z ca
    · rw [z] at ca
      exact absurd ca a
theorem il_lf {c f : Int → Int} {b : Int} : ∀ n : Nat, IL (fun k => 0 < c k) f b n (lf c f b n)
  | 0 => il_0
  | n + 1 => by
    have i := il_lf (c := c) (f := f) (b := b) n
    have e : ((n + 1 : Nat) : Int) = (n : Int) + 1 := by omega
    rw [e]
    by_cases z : 0 < c n
    · have := il_y (by omega) i z
      unfold lf
      rw [if_pos z]
      exact this
    · have := il_n i z
      unfold lf
      rw [if_neg z]
      exact this
/-- two leasts of the same are equal -/
theorem il_un {A A' : Int → Prop} {f f' : Int → Int} {b b' k k' m m' : Int} (h : IL A f b k m) (h' : IL A' f' b' k' m') (s : ∀ c, 0 ≤ c → c < k → A c → ∃ c', 0 ≤ c' ∧ c' < k' ∧ A' c' ∧ f' c' = f c) (s' : ∀ c, 0 ≤ c → c < k' → A' c → ∃ c', 0 ≤ c' ∧ c' < k ∧ A c' ∧ f c' = f' c) (ne : ∃ c, 0 ≤ c ∧ c < k ∧ A c) (l : ∀ c, 0 ≤ c → c < k → A c → f c < b ∧ f c < b') : m = m' := by
  obtain ⟨h1, h2, h3⟩ := h
  obtain ⟨g1, g2, g3⟩ := h'
  obtain ⟨c, c0, c1, ca⟩ := ne
  have l1 := l c c0 c1 ca
  have m1 := h3 c c0 c1 ca
  obtain ⟨e, e0, e1, ea, ef⟩ := s c c0 c1 ca
  have m2 := g3 e e0 e1 ea
  have u : m' ≤ m := by
    rcases h1 with ⟨x, x0, x1, xa, xf⟩ | z
    · obtain ⟨y, y0, y1, ya, yf⟩ := s x x0 x1 xa
      have := g3 y y0 y1 ya
      omega
    · omega
  have v : m ≤ m' := by
    rcases g1 with ⟨x, x0, x1, xa, xf⟩ | z
    · obtain ⟨y, y0, y1, ya, yf⟩ := s' x x0 x1 xa
      have := h3 y y0 y1 ya
      omega
    · omega
  omega
set_option maxHeartbeats 2000000 in
theorem l_pt19 {h : ma_H} {nx d : Nat} {I : Nat → Int} {t : Int} {G Aa f F R fi0 E P : Int → Int} {Q : Option ma_V → ma_H → Nat → Prop} (h74 : h 74 = ci 33 Aa) (hG : VG t G) (hA : AG t G Aa) (hB : BQ t G E P F R) (K : ∀ m, IL (fun c => P c = c) (xiA t G E P) 1000000 (4 * t) m → ma_J none mX12_points (d + 7) 0 0 59 [some (vr 73), some (vi m), some (vi (4 * t))] [] (rh h I f F R fi0) nx Q) :
    ∀ (fm : Nat) (c : Int) (m : Int), (0 ≤ c) → (c ≤ 4 * t) → (4 * t - c < fm) → (-1000 ≤ m ∧ m ≤ 1000000) → (IL (fun c => P c = c) (xiA t G E P) 1000000 c m) → ma_J none mX12_points (d + 7) 0 0 19 [some (vr 73), some (vi m), some (vi c)] [] (rh h I f F R fi0) nx Q := by
  intro fm
  induction fm with
  | zero => intro c m c0 c1 hm mb hi; omega
  | succ fm ih =>
    intro c m c0 c1 hm mb hi
    have ht := hG.1
    refine ma_iload_n dX12_points_19 rfl ?_
    refine ma_iconst dX12_points_20 ?_
    refine ma_aload_n dX12_points_21 rfl ?_
    refine ma_getf dX12_points_22 fX12_9 (by first | exact rh_73 | exact ((rh_n (by decide)).trans h74) | exact rh_86 | exact rh_87 | exact rh_88) (by rfl) ?_
    refine ma_iconst dX12_points_25 ?_
    refine ma_iald dX12_points_26 (by first | exact rh_73 | exact ((rh_n (by decide)).trans h74) | exact rh_86 | exact rh_87 | exact rh_88) (by omega) (by omega) (by omega) ?_
    rw [hA.1]
    refine ma_imul dX12_points_27 ?_
    refine ma_rcmp_ge 59 dX12_points_28 rfl (by constructor <;> omega) (by constructor <;> omega) (fun c28 => ?_) (fun c28 => ?_)
    · -- 59
      have e : c = 4 * t := by omega
      subst e
      exact K m hi
    · -- 31
      refine ma_aload_n dX12_points_31 rfl ?_
      refine ma_iload_n dX12_points_32 rfl ?_
      refine ma_cV [_] dX12_points_33 wX12_isFirst lX12_316 iX12_isFirst sX12_isFirst rfl (by first | exact rh_73 | exact ((rh_n (by decide)).trans h74) | exact rh_86 | exact rh_87 | exact rh_88) (Nat.le_of_ble_eq_true rfl) ?_
      refine c_X12_isFirst rh_73 rh_87 hG hB ⟨c0, by omega⟩ (fun hp => ?_) (fun hp => ?_)
      · -- k1
        refine ma_rif_eq 53 dX12_points_36 rfl (by decide) (fun c36 => absurd c36 (by decide)) (fun c36 => ?_)
        refine ma_iload_n dX12_points_39 rfl ?_
        refine ma_aload_n dX12_points_40 rfl ?_
        refine ma_aload_n dX12_points_41 rfl ?_
        refine ma_getf dX12_points_42 fX12_9 (by first | exact rh_73 | exact ((rh_n (by decide)).trans h74) | exact rh_86 | exact rh_87 | exact rh_88) (by rfl) ?_
        refine ma_iload_n dX12_points_45 rfl ?_
        refine ma_cV [_, _] dX12_points_46 wX12_chiOf lX12_291 iX12_chiOf sX12_chiOf rfl (by first | exact rh_73 | exact ((rh_n (by decide)).trans h74) | exact rh_86 | exact rh_87 | exact rh_88) (Nat.le_of_ble_eq_true rfl) ?_
        refine c_X12_chiOf rh_73 ((rh_n (by decide)).trans h74) hG hA rh_86 rh_87 hB (by unfold rg; omega) ?_
        have bx := (br_b (E := E) (P := P) (G := G) ht).2 c (by omega) (by omega)
        have xb : -1000 ≤ xiA t G E P c ∧ xiA t G E P c ≤ 1000 := by unfold xiA xi; omega
        refine ma_cS [_, _] dX12_points_49 wJ9_min_7cf53 lX12_248 tJ9_min_7cf53 (Nat.le_of_ble_eq_true rfl) ?_
        refine c_J9_min_7cf53 (by omega) (by omega) ?_
        refine ma_istore_nN dX12_points_52 (by decide) rfl ?_
        refine ma_iincN dX12_points_53 rfl (by decide) rfl ?_
        refine ma_goto 19 dX12_points_56 rfl ?_
        exact ih (c + 1) _ (by omega) (by omega) (by omega) (by split <;> omega) (il_y c0 hi hp)
      · -- k0
        refine ma_rif_eq 53 dX12_points_36 rfl (by decide) (fun c36 => ?_) (fun c36 => absurd c36 (by decide))
        refine ma_iincN dX12_points_53 rfl (by decide) rfl ?_
        refine ma_goto 19 dX12_points_56 rfl ?_
        exact ih (c + 1) m (by omega) (by omega) (by omega) mb (il_n hi hp)
theorem il_b {t m : Int} {G E P F R : Int → Int} (hB : BQ t G E P F R) (h : IL (fun c => P c = c) (xiA t G E P) 1000000 (4 * t) m) (hG : VG t G) : -1000 ≤ m ∧ m ≤ 1000000 := by
  have ht := hG.1
  refine ⟨?_, h.2.1⟩
  rcases h.1 with ⟨c, c0, c1, -, c3⟩ | z
  · have bx := (br_b (E := E) (P := P) (G := G) ht).2 c (by omega) (by omega)
    have xb : -1000 ≤ xiA t G E P c ∧ xiA t G E P c ≤ 1000 := by unfold xiA xi; omega
    omega
  · omega
set_option maxHeartbeats 2000000 in
theorem c_X12_points {h : ma_H} {nx d : Nat} {I : Nat → Int} {t : Int} {G Aa f F0 R0 fi0 : Int → Int} {Q : Option ma_V → ma_H → Nat → Prop} (h74 : h 74 = ci 33 Aa) (hG : VG t G) (hA : AG t G Aa) (K : ∀ E P F R I' m, BQ t G E P F R → IL (fun c => P c = c) (xiA t G E P) 1000000 (4 * t) m → IR I I' 2 → Q (some (vi (ct (qP P) (4 * t).toNat))) (rh h I' (uf (uf f 0 (ct (fun c => P c = c ∧ RD t G E P c) (4 * t).toNat)) 1 m) F R fi0) nx) : ma_Ct mX12_points (d + 7) 0 0 [vr 73] (rh h I f F0 R0 fi0) nx Q := by
  have ht := hG.1
  refine ma_Ct.of (by decide +kernel) (Nat.le_of_ble_eq_true rfl) ?_
  refine ma_aload_n dX12_points_0 rfl ?_
  refine ma_iconst dX12_points_1 ?_
  refine ma_puti dX12_points_2 fX12_128 (by first | exact rh_73 | exact ((rh_n (by decide)).trans h74) | exact rh_86 | exact rh_87 | exact rh_88) (Nat.le_of_ble_eq_true rfl) ?_
  rw [mo_5, rh_p]
  refine ma_aload_n dX12_points_5 rfl ?_
  refine ma_aload_n dX12_points_6 rfl ?_
  refine ma_getf dX12_points_7 fX12_9 (by first | exact rh_73 | exact ((rh_n (by decide)).trans h74) | exact rh_86 | exact rh_87 | exact rh_88) (by rfl) ?_
  refine ma_cV [_] dX12_points_10 wX12_layJoined lX12_269 iX12_layJoined sX12_layJoined rfl (by first | exact rh_73 | exact ((rh_n (by decide)).trans h74) | exact rh_86 | exact rh_87 | exact rh_88) (Nat.le_of_ble_eq_true rfl) ?_
  refine r_lj h74 hG hA (fun E P F R hB => ?_)
  have b4 := ct_in (qP P) (4 * t).toNat
  have b5 := ct_in (cP E) (16 * t).toNat
  have bc := br_b (E := E) (P := P) (G := G) ht
  refine ma_ldcw (n := 1000000) dX12_points_13 vX12_312 (by decide +kernel) ?_
  refine ma_istore_nN dX12_points_16 (by decide) rfl ?_
  refine ma_iconst dX12_points_17 ?_
  refine ma_istore_nN dX12_points_18 (by decide) rfl ?_
  refine l_pt19 h74 hG hA hB (fun m hi => ?_) 40 0 1000000 (by omega) (by omega) (by omega) (by decide) il_0
  refine ma_aload_n dX12_points_59 rfl ?_
  refine ma_iconst dX12_points_60 ?_
  refine ma_puti dX12_points_61 fX12_132 (by first | exact rh_73 | exact ((rh_n (by decide)).trans h74) | exact rh_86 | exact rh_87 | exact rh_88) (Nat.le_of_ble_eq_true rfl) ?_
  rw [mo_4, rh_p]
  refine ma_aload_n dX12_points_64 rfl ?_
  refine ma_aload_n dX12_points_65 rfl ?_
  refine ma_aload_n dX12_points_66 rfl ?_
  refine ma_getf dX12_points_67 fX12_9 (by first | exact rh_73 | exact ((rh_n (by decide)).trans h74) | exact rh_86 | exact rh_87 | exact rh_88) (by rfl) ?_
  refine ma_cV [_] dX12_points_70 wX12_roundMany lX12_319 iX12_roundMany sX12_roundMany rfl (by first | exact rh_73 | exact ((rh_n (by decide)).trans h74) | exact rh_86 | exact rh_87 | exact rh_88) (Nat.le_of_ble_eq_true rfl) ?_
  refine c_X12_roundMany rh_73 ((rh_n (by decide)).trans h74) hG hA rh_86 rh_87 hB ?_
  have b3 := ct_in (fun c => P c = c ∧ RD t G E P c) (4 * t).toNat
  refine ma_i2l dX12_points_73 ?_
  refine ma_cV [_] dX12_points_74 wX12_tell lX12_231 iX12_tell sX12_tell rfl (by first | exact rh_73 | exact ((rh_n (by decide)).trans h74) | exact rh_86 | exact rh_87 | exact rh_88) (Nat.le_of_ble_eq_true rfl) ?_
  refine r_tell 0 rfl (by decide) (iw_of (by omega) (by omega)) ?_
  refine ma_aload_n dX12_points_77 rfl ?_
  refine ma_iload_n dX12_points_78 rfl ?_
  refine ma_i2l dX12_points_79 ?_
  refine ma_cV [_] dX12_points_80 wX12_tell lX12_231 iX12_tell sX12_tell rfl (by first | exact rh_73 | exact ((rh_n (by decide)).trans h74) | exact rh_86 | exact rh_87 | exact rh_88) (Nat.le_of_ble_eq_true rfl) ?_
  refine r_tell 1 rfl (by decide) (iw_of (by have := il_b hB hi hG; omega) (by have := il_b hB hi hG; omega)) ?_
  refine ma_aload_n dX12_points_83 rfl ?_
  refine ma_aload_n dX12_points_84 rfl ?_
  refine ma_getf dX12_points_85 fX12_9 (by first | exact rh_73 | exact ((rh_n (by decide)).trans h74) | exact rh_86 | exact rh_87 | exact rh_88) (by rfl) ?_
  refine ma_cV [_] dX12_points_88 wX12_pointMany lX12_322 iX12_pointMany sX12_pointMany rfl (by first | exact rh_73 | exact ((rh_n (by decide)).trans h74) | exact rh_86 | exact rh_87 | exact rh_88) (Nat.le_of_ble_eq_true rfl) ?_
  refine c_X12_pointMany rh_73 ((rh_n (by decide)).trans h74) hG hA rh_86 rh_87 hB ?_
  exact ma_iret dX12_points_91 rfl (K E P F R _ m hB hi ⟨rfl, rfl, fun k a b c => by simp only [iu, if_neg a, if_neg b, if_neg c]⟩)
