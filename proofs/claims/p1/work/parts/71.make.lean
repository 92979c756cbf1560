/-- all but some places is as it was -/
def kp (h h' : ma_H) (l : List Nat) : Prop := ∀ j, j ∉ l → h' j = h j
theorem kp_up {h h' : ma_H} {l : List Nat} {k : Nat} {c : ma_C} (hk : k ∈ l) (h1 : kp h h' l) : kp h (ma_up h' k c) l := fun j hj => by
  have ne : j ≠ k := fun e => hj (by rw [e]; exact hk)
  rw [ma_up_n ne]
  exact h1 j hj
theorem kp_rf (h : ma_H) (l : List Nat) : kp h h l := fun _ _ => rfl
theorem kp_tr {h h' h'' : ma_H} {l : List Nat} (h1 : kp h h' l) (h2 : kp h' h'' l) : kp h h'' l := fun j hj => (h2 j hj).trans (h1 j hj)
theorem kp_mo {h h' : ma_H} {l l' : List Nat} (hl : ∀ x, x ∈ l → x ∈ l') (h1 : kp h h' l) : kp h h' l' := fun j hj => h1 j (fun w => hj (hl j w))
theorem kp_vh {h : ma_H} {H T : Int → Int} {e : Nat} {c : ma_C} : kp h (ma_up (vh h H T) e c) [57, 58, e] := by
  unfold vh
  exact kp_up (by simp) (kp_up (by simp) (kp_up (by simp) (kp_rf _ _)))
theorem vh_e57 {h : ma_H} {H T : Int → Int} {e : Nat} {c : ma_C} (ne : e ≠ 57 ∧ e ≠ 58 ∧ e ≠ 54) : ma_up (vh h H T) e c 57 = ci 32 H := (ma_up_n (Ne.symm ne.1)).trans vh_57
theorem vh_e58 {h : ma_H} {H T : Int → Int} {e : Nat} {c : ma_C} (ne : e ≠ 57 ∧ e ≠ 58 ∧ e ≠ 54) : ma_up (vh h H T) e c 58 = ci 32 T := (ma_up_n (Ne.symm ne.2.1)).trans vh_58
theorem m_two {h : ma_H} {b g c e nx d : Nat} {t u k : Int} {G H0 T0 : Int → Int} {Q : Option ma_V → ma_H → Nat → Prop} (hm : h 54 = co 1 [vr 44, vr 39, vr 55, vr 57, vr 58]) (hb : h b = co 8 [vi t, vr g]) (hg : h g = ci 32 G) (hc : h c = co 8 [vi u, vr e]) (he : h e = ci 32 (fun _ => -1)) (e57 : h 57 = ci 32 H0) (e58 : h 58 = ci 32 T0) (nb : b ≠ 57 ∧ b ≠ 58) (ng : g ≠ 57 ∧ g ≠ 58) (nc : c ≠ 57 ∧ c ≠ 58) (ne : e ≠ 57 ∧ e ≠ 58 ∧ e ≠ 54) (n2 : e ≠ b) (n3 : e ≠ g) (n6 : e ≠ c) (hG : VG t G) (hk : 0 ≤ k ∧ k < 4 * t) (hk2 : 0 ≤ G k ∧ G k / 32 ≠ k / 4) (h7 : t ≤ 7) (K : ∀ h' H T C, kp h h' [57, 58, e] → h' 57 = ci 32 H → h' 58 = ci 32 T → h' e = ci 32 C → FL t G (k / 4) (fun x => x = k % 4) (fun y => t - 2 + rkf (k % 4) y) (t - 2) (t + 1) → FU t G (k / 4) (fun x => x = k % 4) (fun y => t - 2 + rkf (k % 4) y) H T → FC G t (fun x => x = k % 4) (fun y => t - 2 + rkf (k % 4) y) H T C → Q none h' nx) : ma_Ct mX1_twoToThree (d + 2) 0 0 [vr 54, vr b, vi k, vr c] h nx Q := by
  rw [vh_of e57 e58]
  rcases four_of (m4 k).1 (m4 k).2 with hf | hf | hf | hf
  · rw [hf] at K
    exact c_X1_two0 hm hb hg hc he nb ng nc ne n2 n3 n6 hG hk hf hk2 h7 (fun H T hL => K _ _ _ _ kp_vh (vh_e57 ne) (vh_e58 ne) (ma_up_s _ _ _) (fl_two hG (by decide) (by decide) hk hf hk2 h7 (gs_two0 hf)) (fu_two0 hG hk hf hk2 hL) fc_two0)
  · rw [hf] at K
    exact c_X1_two1 hm hb hg hc he nb ng nc ne n2 n3 n6 hG hk hf hk2 h7 (fun H T hL => K _ _ _ _ kp_vh (vh_e57 ne) (vh_e58 ne) (ma_up_s _ _ _) (fl_two hG (by decide) (by decide) hk hf hk2 h7 (gs_two1 hf)) (fu_two1 hG hk hf hk2 hL) fc_two1)
  · rw [hf] at K
    exact c_X1_two2 hm hb hg hc he nb ng nc ne n2 n3 n6 hG hk hf hk2 h7 (fun H T hL => K _ _ _ _ kp_vh (vh_e57 ne) (vh_e58 ne) (ma_up_s _ _ _) (fl_two hG (by decide) (by decide) hk hf hk2 h7 (gs_two2 hf)) (fu_two2 hG hk hf hk2 hL) fc_two2)
  · rw [hf] at K
    exact c_X1_two3 hm hb hg hc he nb ng nc ne n2 n3 n6 hG hk hf hk2 h7 (fun H T hL => K _ _ _ _ kp_vh (vh_e57 ne) (vh_e58 ne) (ma_up_s _ _ _) (fl_two hG (by decide) (by decide) hk hf hk2 h7 (gs_two3 hf)) (fu_two3 hG hk hf hk2 hL) fc_two3)

theorem m_one {h : ma_H} {b g c e nx d : Nat} {t u k : Int} {G H0 T0 : Int → Int} {Q : Option ma_V → ma_H → Nat → Prop} (hm : h 54 = co 1 [vr 44, vr 39, vr 55, vr 57, vr 58]) (hb : h b = co 8 [vi t, vr g]) (hg : h g = ci 32 G) (hc : h c = co 8 [vi u, vr e]) (he : h e = ci 32 (fun _ => -1)) (e57 : h 57 = ci 32 H0) (e58 : h 58 = ci 32 T0) (nb : b ≠ 57 ∧ b ≠ 58) (ng : g ≠ 57 ∧ g ≠ 58) (nc : c ≠ 57 ∧ c ≠ 58) (ne : e ≠ 57 ∧ e ≠ 58 ∧ e ≠ 54) (n2 : e ≠ b) (n3 : e ≠ g) (n6 : e ≠ c) (hG : VG t G) (hk : 0 ≤ k ∧ k < t) (h5 : t ≤ 5) (K : ∀ h' H T C, kp h h' [57, 58, e] → h' 57 = ci 32 H → h' 58 = ci 32 T → h' e = ci 32 C → FL t G (k) (fun _ => False) (fun y => t - 1 + y) (t - 1) (t + 3) → FU t G (k) (fun _ => False) (fun y => t - 1 + y) H T → FC G t (fun _ => False) (fun y => t - 1 + y) H T C → Q none h' nx) : ma_Ct mX1_oneToFour (d + 2) 0 0 [vr 54, vr b, vi k, vr c] h nx Q := by
  rw [vh_of e57 e58]
  exact c_X1_one hm hb hg hc he nb ng nc ne n2 n3 n6 hG hk h5 (fun H T hL => K _ _ _ _ kp_vh (vh_e57 ne) (vh_e58 ne) (ma_up_s _ _ _) (fl_one hG hk h5) (fu_one hk hL) fc_one)
theorem m_four {h : ma_H} {b g c e nx d : Nat} {t u k : Int} {G H0 T0 : Int → Int} {Q : Option ma_V → ma_H → Nat → Prop} {E P : Int → Int} (hm : h 54 = co 1 [vr 44, vr 39, vr 55, vr 57, vr 58]) (hb : h b = co 8 [vi t, vr g]) (hg : h g = ci 32 G) (hc : h c = co 8 [vi u, vr e]) (he : h e = ci 32 (fun _ => -1)) (e57 : h 57 = ci 32 H0) (e58 : h 58 = ci 32 T0) (nb : b ≠ 57 ∧ b ≠ 58) (ng : g ≠ 57 ∧ g ≠ 58) (nc : c ≠ 57 ∧ c ≠ 58) (ne : e ≠ 57 ∧ e ≠ 58 ∧ e ≠ 54) (n2 : e ≠ b) (n3 : e ≠ g) (n6 : e ≠ c) (hG : VG t G) (hB : BP t G E P) (hk : oC t k) (h4 : C4 t G E P k) (K : ∀ h' H T C X nw s, (∀ x, 0 ≤ x → x < 4 → (X x ↔ x ≠ k % 4)) → s = sty (gS G (k / 4) X) t → kp h h' [57, 58, e] → h' 57 = ci 32 H → h' 58 = ci 32 T → h' e = ci 32 C → FL t G (k / 4) X nw s (s + 1) → FU t G (k / 4) X nw H T → FC G t X nw H T C → Q none h' nx) : ma_Ct mX1_fourToOne (d + 2) 0 0 [vr 54, vr b, vi k, vr c] h nx Q := by
  have ht := hG.1
  have hk2 : 0 ≤ k ∧ k < 4 * t := hk
  rw [vh_of e57 e58]
  obtain ⟨q1, q2⟩ := q4 hG h4 hk rfl
  have ha : 0 ≤ k / 4 ∧ k / 4 < t := by omega
  have hgl : ∀ x, 0 ≤ x → x < 4 → x ≠ k % 4 → 0 ≤ G (4 * (k / 4) + x) ∧ G (4 * (k / 4) + x) < 256 ∧ 0 ≤ G (4 * (k / 4) + x) % 32 ∧ G (4 * (k / 4) + x) % 32 < 24 ∧ G (4 * (k / 4) + x) / 32 < t := fun x x0 x1 xv => by
    have a := q1 x x0 x1 xv
    have b := vg_in hG (k := 4 * (k / 4) + x) (by omega) (by omega)
    omega
  rcases four_of (m4 k).1 (m4 k).2 with hf | hf | hf | hf
  · have ek : 4 * (k / 4) + 0 = k := by omega
    have fl := fl_four (X := (fun x => x ≠ 0)) (nw := fun _ => sty (gS G (k / 4) (fun x => x ≠ 0)) t) hG hB hk h4 (fun x x0 x1 => by rw [hf]) rfl
    refine c_X1_four0 (S := gS G (k / 4) (fun x => x ≠ 0)) hm hb hg hc he nb ng nc ne n2 n3 n6 hG hk2 hf hgl (fun i i0 i1 => ?_) (by have := fl.1.2.2.2.2; omega) (fun H T hL => ?_)
    · constructor
      · rintro (⟨x, x0, x1, x2, x3, x4⟩ | w)
        · exact Or.inr ⟨x, x0, x1, by rw [hf] at x2; exact x2, x4.symm⟩
        · exact Or.inl w
      · rintro (w | ⟨x, x0, x1, x2, x3⟩)
        · exact Or.inr w
        · exact Or.inl ⟨x, x0, x1, by rw [hf]; exact x2, (hgl x x0 x1 (by rw [hf]; exact x2)).1, x3.symm⟩
    · have fu := fu_four0 (a := k / 4) ha (fun x x0 x1 x2 => by have a := hgl x x0 x1 (by rw [hf]; exact x2); exact ⟨a.1, a.2.2.1, a.2.2.2.1, a.2.2.2.2, (q1 x x0 x1 (by rw [hf]; exact x2)).2.2⟩) (fun x y x0 x1 x2 y0 y1 y2 xy => q2 x y x0 x1 (by rw [hf]; exact x2) y0 y1 (by rw [hf]; exact y2) xy) hL
      rw [ek] at fu
      exact K _ _ _ _ (fun x => x ≠ 0) _ _ (fun x x0 x1 => by rw [hf]) rfl kp_vh (vh_e57 ne) (vh_e58 ne) (ma_up_s _ _ _) fl fu fc_four0
  · have ek : 4 * (k / 4) + 1 = k := by omega
    have fl := fl_four (X := (fun x => x ≠ 1)) (nw := fun _ => sty (gS G (k / 4) (fun x => x ≠ 1)) t) hG hB hk h4 (fun x x0 x1 => by rw [hf]) rfl
    refine c_X1_four1 (S := gS G (k / 4) (fun x => x ≠ 1)) hm hb hg hc he nb ng nc ne n2 n3 n6 hG hk2 hf hgl (fun i i0 i1 => ?_) (by have := fl.1.2.2.2.2; omega) (fun H T hL => ?_)
    · constructor
      · rintro (⟨x, x0, x1, x2, x3, x4⟩ | w)
        · exact Or.inr ⟨x, x0, x1, by rw [hf] at x2; exact x2, x4.symm⟩
        · exact Or.inl w
      · rintro (w | ⟨x, x0, x1, x2, x3⟩)
        · exact Or.inr w
        · exact Or.inl ⟨x, x0, x1, by rw [hf]; exact x2, (hgl x x0 x1 (by rw [hf]; exact x2)).1, x3.symm⟩
    · have fu := fu_four1 (a := k / 4) ha (fun x x0 x1 x2 => by have a := hgl x x0 x1 (by rw [hf]; exact x2); exact ⟨a.1, a.2.2.1, a.2.2.2.1, a.2.2.2.2, (q1 x x0 x1 (by rw [hf]; exact x2)).2.2⟩) (fun x y x0 x1 x2 y0 y1 y2 xy => q2 x y x0 x1 (by rw [hf]; exact x2) y0 y1 (by rw [hf]; exact y2) xy) hL
      rw [ek] at fu
      exact K _ _ _ _ (fun x => x ≠ 1) _ _ (fun x x0 x1 => by rw [hf]) rfl kp_vh (vh_e57 ne) (vh_e58 ne) (ma_up_s _ _ _) fl fu fc_four1
  · have ek : 4 * (k / 4) + 2 = k := by omega
    have fl := fl_four (X := (fun x => x ≠ 2)) (nw := fun _ => sty (gS G (k / 4) (fun x => x ≠ 2)) t) hG hB hk h4 (fun x x0 x1 => by rw [hf]) rfl
    refine c_X1_four2 (S := gS G (k / 4) (fun x => x ≠ 2)) hm hb hg hc he nb ng nc ne n2 n3 n6 hG hk2 hf hgl (fun i i0 i1 => ?_) (by have := fl.1.2.2.2.2; omega) (fun H T hL => ?_)
    · constructor
      · rintro (⟨x, x0, x1, x2, x3, x4⟩ | w)
        · exact Or.inr ⟨x, x0, x1, by rw [hf] at x2; exact x2, x4.symm⟩
        · exact Or.inl w
      · rintro (w | ⟨x, x0, x1, x2, x3⟩)
        · exact Or.inr w
        · exact Or.inl ⟨x, x0, x1, by rw [hf]; exact x2, (hgl x x0 x1 (by rw [hf]; exact x2)).1, x3.symm⟩
    · have fu := fu_four2 (a := k / 4) ha (fun x x0 x1 x2 => by have a := hgl x x0 x1 (by rw [hf]; exact x2); exact ⟨a.1, a.2.2.1, a.2.2.2.1, a.2.2.2.2, (q1 x x0 x1 (by rw [hf]; exact x2)).2.2⟩) (fun x y x0 x1 x2 y0 y1 y2 xy => q2 x y x0 x1 (by rw [hf]; exact x2) y0 y1 (by rw [hf]; exact y2) xy) hL
      rw [ek] at fu
      exact K _ _ _ _ (fun x => x ≠ 2) _ _ (fun x x0 x1 => by rw [hf]) rfl kp_vh (vh_e57 ne) (vh_e58 ne) (ma_up_s _ _ _) fl fu fc_four2
  · have ek : 4 * (k / 4) + 3 = k := by omega
    have fl := fl_four (X := (fun x => x ≠ 3)) (nw := fun _ => sty (gS G (k / 4) (fun x => x ≠ 3)) t) hG hB hk h4 (fun x x0 x1 => by rw [hf]) rfl
    refine c_X1_four3 (S := gS G (k / 4) (fun x => x ≠ 3)) hm hb hg hc he nb ng nc ne n2 n3 n6 hG hk2 hf hgl (fun i i0 i1 => ?_) (by have := fl.1.2.2.2.2; omega) (fun H T hL => ?_)
    · constructor
      · rintro (⟨x, x0, x1, x2, x3, x4⟩ | w)
        · exact Or.inr ⟨x, x0, x1, by rw [hf] at x2; exact x2, x4.symm⟩
        · exact Or.inl w
      · rintro (w | ⟨x, x0, x1, x2, x3⟩)
        · exact Or.inr w
        · exact Or.inl ⟨x, x0, x1, by rw [hf]; exact x2, (hgl x x0 x1 (by rw [hf]; exact x2)).1, x3.symm⟩
    · have fu := fu_four3 (a := k / 4) ha (fun x x0 x1 x2 => by have a := hgl x x0 x1 (by rw [hf]; exact x2); exact ⟨a.1, a.2.2.1, a.2.2.2.1, a.2.2.2.2, (q1 x x0 x1 (by rw [hf]; exact x2)).2.2⟩) (fun x y x0 x1 x2 y0 y1 y2 xy => q2 x y x0 x1 (by rw [hf]; exact x2) y0 y1 (by rw [hf]; exact y2) xy) hL
      rw [ek] at fu
      exact K _ _ _ _ (fun x => x ≠ 3) _ _ (fun x x0 x1 => by rw [hf]) rfl kp_vh (vh_e57 ne) (vh_e58 ne) (ma_up_s _ _ _) fl fu fc_four3

theorem m_three {h : ma_H} {b g c e nx d : Nat} {t u k : Int} {G H0 T0 : Int → Int} {Q : Option ma_V → ma_H → Nat → Prop} {E P : Int → Int} (hm : h 54 = co 1 [vr 44, vr 39, vr 55, vr 57, vr 58]) (hb : h b = co 8 [vi t, vr g]) (hg : h g = ci 32 G) (hc : h c = co 8 [vi u, vr e]) (he : h e = ci 32 (fun _ => -1)) (e57 : h 57 = ci 32 H0) (e58 : h 58 = ci 32 T0) (nb : b ≠ 57 ∧ b ≠ 58) (ng : g ≠ 57 ∧ g ≠ 58) (nc : c ≠ 57 ∧ c ≠ 58) (ne : e ≠ 57 ∧ e ≠ 58 ∧ e ≠ 54) (n2 : e ≠ b) (n3 : e ≠ g) (n6 : e ≠ c) (hG : VG t G) (hB : BP t G E P) (hk : oE t k) (huv : k / 4 % 4 < k % 4) (h3 : C3 t G E k) (K : ∀ h' H T C X nw, (∀ x, 0 ≤ x → x < 4 → (X x ↔ x ≠ k / 4 % 4 ∧ x ≠ k % 4)) → nw (k % 4) = t - 3 → nw (k / 4 % 4) = t - 3 + 1 → kp h h' [57, 58, e] → h' 57 = ci 32 H → h' 58 = ci 32 T → h' e = ci 32 C → FL t G (k / 16) X nw (t - 3) (t - 1) → FU t G (k / 16) X nw H T → FC G t X nw H T C → Q none h' nx) : ma_Ct mX1_threeToTwo (d + 2) 0 0 [vr 54, vr b, vi k, vr c] h nx Q := by
  have ht := hG.1
  have hk2 : 0 ≤ k ∧ k < 16 * t := ⟨hk.1, hk.2.1⟩
  rw [vh_of e57 e58]
  have fr := fr_0 hB hG hk h3.2.1
  have hgl : ∀ x, 0 ≤ x → x < 4 → x ≠ k / 4 % 4 → x ≠ k % 4 → 0 ≤ G (4 * (k / 16) + x) ∧ G (4 * (k / 16) + x) < 256 ∧ 0 ≤ G (4 * (k / 16) + x) % 32 ∧ G (4 * (k / 16) + x) % 32 < 24 ∧ G (4 * (k / 16) + x) / 32 < t := fun x x0 x1 xu xv => by
    have a := fr x x0 x1 xu xv
    have b := vg_in hG (k := 4 * (k / 16) + x) (by omega) (by omega)
    rcases hG.2.1 (4 * (k / 16) + x) (by omega) (by omega) with z | z <;> omega
  rcases four_of (m4 (k / 4)).1 (m4 (k / 4)).2 with hu | hu | hu | hu <;> rcases four_of (m4 k).1 (m4 k).2 with hv | hv | hv | hv
  · omega
  · have t3 : k / 16 ≠ G (4 * (k / 16) + 2) / 32 ∧ k / 16 ≠ G (4 * (k / 16) + 3) / 32 ∧ G (4 * (k / 16) + 2) / 32 ≠ G (4 * (k / 16) + 3) / 32 := by
      have a := h3.2.2.2 2 3 (by decide) (by decide) (by decide) (by decide) (by omega) (by omega) (by omega) (by omega) (by decide)
      have b := h3.2.2.2 3 2 (by decide) (by decide) (by decide) (by decide) (by omega) (by omega) (by omega) (by omega) (by decide)
      exact ⟨a.1, b.1, a.2⟩
    have g0 := hgl 2 (by decide) (by decide) (by omega) (by omega)
    have g1 := hgl 3 (by decide) (by decide) (by omega) (by omega)
    have hX : ∀ x, 0 ≤ x → x < 4 → (((fun x => x = 2 ∨ x = 3) : Int → Prop) x ↔ x ≠ k / 4 % 4 ∧ x ≠ k % 4) := fun x x0 x1 => by
      show x = 2 ∨ x = 3 ↔ _
      omega
    have fl := fl_three (X := (fun x => x = 2 ∨ x = 3)) (nw := (fun y => if y = 1 then t - 3 else t - 3 + 1)) hG hB hk h3 hX (by rw [gs_three01, sty_3 (by omega) (by omega) (by omega) (by omega) (by omega) (by omega) t3.1 t3.2.1 t3.2.2]) (by rw [hv]; exact if_pos rfl) (by rw [hu]; exact if_neg (by decide))
    exact c_X1_three01 hm hb hg hc he nb ng nc ne n2 n3 n6 hG hk2 hu hv hgl t3 (fun H T hL => K _ _ _ _ (fun x => x = 2 ∨ x = 3) (fun y => if y = 1 then t - 3 else t - 3 + 1) hX (by rw [hv]; exact if_pos rfl) (by rw [hu]; exact if_neg (by decide)) kp_vh (vh_e57 ne) (vh_e58 ne) (ma_up_s _ _ _) fl (fu_three01 hk2 (fun x x0 x1 hx => by have := hgl x x0 x1 ((hX x x0 x1).mp hx).1 ((hX x x0 x1).mp hx).2; exact ⟨this.1, this.2.2.1, this.2.2.2.1, this.2.2.2.2⟩) t3 hL) fc_three01)
  · have t3 : k / 16 ≠ G (4 * (k / 16) + 1) / 32 ∧ k / 16 ≠ G (4 * (k / 16) + 3) / 32 ∧ G (4 * (k / 16) + 1) / 32 ≠ G (4 * (k / 16) + 3) / 32 := by
      have a := h3.2.2.2 1 3 (by decide) (by decide) (by decide) (by decide) (by omega) (by omega) (by omega) (by omega) (by decide)
      have b := h3.2.2.2 3 1 (by decide) (by decide) (by decide) (by decide) (by omega) (by omega) (by omega) (by omega) (by decide)
      exact ⟨a.1, b.1, a.2⟩
    have g0 := hgl 1 (by decide) (by decide) (by omega) (by omega)
    have g1 := hgl 3 (by decide) (by decide) (by omega) (by omega)
    have hX : ∀ x, 0 ≤ x → x < 4 → (((fun x => x = 1 ∨ x = 3) : Int → Prop) x ↔ x ≠ k / 4 % 4 ∧ x ≠ k % 4) := fun x x0 x1 => by
      show x = 1 ∨ x = 3 ↔ _
      omega
    have fl := fl_three (X := (fun x => x = 1 ∨ x = 3)) (nw := (fun y => if y = 2 then t - 3 else t - 3 + 1)) hG hB hk h3 hX (by rw [gs_three02, sty_3 (by omega) (by omega) (by omega) (by omega) (by omega) (by omega) t3.1 t3.2.1 t3.2.2]) (by rw [hv]; exact if_pos rfl) (by rw [hu]; exact if_neg (by decide))
    exact c_X1_three02 hm hb hg hc he nb ng nc ne n2 n3 n6 hG hk2 hu hv hgl t3 (fun H T hL => K _ _ _ _ (fun x => x = 1 ∨ x = 3) (fun y => if y = 2 then t - 3 else t - 3 + 1) hX (by rw [hv]; exact if_pos rfl) (by rw [hu]; exact if_neg (by decide)) kp_vh (vh_e57 ne) (vh_e58 ne) (ma_up_s _ _ _) fl (fu_three02 hk2 (fun x x0 x1 hx => by have := hgl x x0 x1 ((hX x x0 x1).mp hx).1 ((hX x x0 x1).mp hx).2; exact ⟨this.1, this.2.2.1, this.2.2.2.1, this.2.2.2.2⟩) t3 hL) fc_three02)
  · have t3 : k / 16 ≠ G (4 * (k / 16) + 1) / 32 ∧ k / 16 ≠ G (4 * (k / 16) + 2) / 32 ∧ G (4 * (k / 16) + 1) / 32 ≠ G (4 * (k / 16) + 2) / 32 := by
      have a := h3.2.2.2 1 2 (by decide) (by decide) (by decide) (by decide) (by omega) (by omega) (by omega) (by omega) (by decide)
      have b := h3.2.2.2 2 1 (by decide) (by decide) (by decide) (by decide) (by omega) (by omega) (by omega) (by omega) (by decide)
      exact ⟨a.1, b.1, a.2⟩
    have g0 := hgl 1 (by decide) (by decide) (by omega) (by omega)
    have g1 := hgl 2 (by decide) (by decide) (by omega) (by omega)
    have hX : ∀ x, 0 ≤ x → x < 4 → (((fun x => x = 1 ∨ x = 2) : Int → Prop) x ↔ x ≠ k / 4 % 4 ∧ x ≠ k % 4) := fun x x0 x1 => by
      show x = 1 ∨ x = 2 ↔ _
      omega
    have fl := fl_three (X := (fun x => x = 1 ∨ x = 2)) (nw := (fun y => if y = 3 then t - 3 else t - 3 + 1)) hG hB hk h3 hX (by rw [gs_three03, sty_3 (by omega) (by omega) (by omega) (by omega) (by omega) (by omega) t3.1 t3.2.1 t3.2.2]) (by rw [hv]; exact if_pos rfl) (by rw [hu]; exact if_neg (by decide))
    exact c_X1_three03 hm hb hg hc he nb ng nc ne n2 n3 n6 hG hk2 hu hv hgl t3 (fun H T hL => K _ _ _ _ (fun x => x = 1 ∨ x = 2) (fun y => if y = 3 then t - 3 else t - 3 + 1) hX (by rw [hv]; exact if_pos rfl) (by rw [hu]; exact if_neg (by decide)) kp_vh (vh_e57 ne) (vh_e58 ne) (ma_up_s _ _ _) fl (fu_three03 hk2 (fun x x0 x1 hx => by have := hgl x x0 x1 ((hX x x0 x1).mp hx).1 ((hX x x0 x1).mp hx).2; exact ⟨this.1, this.2.2.1, this.2.2.2.1, this.2.2.2.2⟩) t3 hL) fc_three03)
  · omega
  · omega
  · have t3 : k / 16 ≠ G (4 * (k / 16) + 0) / 32 ∧ k / 16 ≠ G (4 * (k / 16) + 3) / 32 ∧ G (4 * (k / 16) + 0) / 32 ≠ G (4 * (k / 16) + 3) / 32 := by
      have a := h3.2.2.2 0 3 (by decide) (by decide) (by decide) (by decide) (by omega) (by omega) (by omega) (by omega) (by decide)
      have b := h3.2.2.2 3 0 (by decide) (by decide) (by decide) (by decide) (by omega) (by omega) (by omega) (by omega) (by decide)
      exact ⟨a.1, b.1, a.2⟩
    have g0 := hgl 0 (by decide) (by decide) (by omega) (by omega)
    have g1 := hgl 3 (by decide) (by decide) (by omega) (by omega)
    have hX : ∀ x, 0 ≤ x → x < 4 → (((fun x => x = 0 ∨ x = 3) : Int → Prop) x ↔ x ≠ k / 4 % 4 ∧ x ≠ k % 4) := fun x x0 x1 => by
      show x = 0 ∨ x = 3 ↔ _
      omega
    have fl := fl_three (X := (fun x => x = 0 ∨ x = 3)) (nw := (fun y => if y = 2 then t - 3 else t - 3 + 1)) hG hB hk h3 hX (by rw [gs_three12, sty_3 (by omega) (by omega) (by omega) (by omega) (by omega) (by omega) t3.1 t3.2.1 t3.2.2]) (by rw [hv]; exact if_pos rfl) (by rw [hu]; exact if_neg (by decide))
    exact c_X1_three12 hm hb hg hc he nb ng nc ne n2 n3 n6 hG hk2 hu hv hgl t3 (fun H T hL => K _ _ _ _ (fun x => x = 0 ∨ x = 3) (fun y => if y = 2 then t - 3 else t - 3 + 1) hX (by rw [hv]; exact if_pos rfl) (by rw [hu]; exact if_neg (by decide)) kp_vh (vh_e57 ne) (vh_e58 ne) (ma_up_s _ _ _) fl (fu_three12 hk2 (fun x x0 x1 hx => by have := hgl x x0 x1 ((hX x x0 x1).mp hx).1 ((hX x x0 x1).mp hx).2; exact ⟨this.1, this.2.2.1, this.2.2.2.1, this.2.2.2.2⟩) t3 hL) fc_three12)
  · have t3 : k / 16 ≠ G (4 * (k / 16) + 0) / 32 ∧ k / 16 ≠ G (4 * (k / 16) + 2) / 32 ∧ G (4 * (k / 16) + 0) / 32 ≠ G (4 * (k / 16) + 2) / 32 := by
      have a := h3.2.2.2 0 2 (by decide) (by decide) (by decide) (by decide) (by omega) (by omega) (by omega) (by omega) (by decide)
      have b := h3.2.2.2 2 0 (by decide) (by decide) (by decide) (by decide) (by omega) (by omega) (by omega) (by omega) (by decide)
      exact ⟨a.1, b.1, a.2⟩
    have g0 := hgl 0 (by decide) (by decide) (by omega) (by omega)
    have g1 := hgl 2 (by decide) (by decide) (by omega) (by omega)
    have hX : ∀ x, 0 ≤ x → x < 4 → (((fun x => x = 0 ∨ x = 2) : Int → Prop) x ↔ x ≠ k / 4 % 4 ∧ x ≠ k % 4) := fun x x0 x1 => by
      show x = 0 ∨ x = 2 ↔ _
      omega
    have fl := fl_three (X := (fun x => x = 0 ∨ x = 2)) (nw := (fun y => if y = 3 then t - 3 else t - 3 + 1)) hG hB hk h3 hX (by rw [gs_three13, sty_3 (by omega) (by omega) (by omega) (by omega) (by omega) (by omega) t3.1 t3.2.1 t3.2.2]) (by rw [hv]; exact if_pos rfl) (by rw [hu]; exact if_neg (by decide))
    exact c_X1_three13 hm hb hg hc he nb ng nc ne n2 n3 n6 hG hk2 hu hv hgl t3 (fun H T hL => K _ _ _ _ (fun x => x = 0 ∨ x = 2) (fun y => if y = 3 then t - 3 else t - 3 + 1) hX (by rw [hv]; exact if_pos rfl) (by rw [hu]; exact if_neg (by decide)) kp_vh (vh_e57 ne) (vh_e58 ne) (ma_up_s _ _ _) fl (fu_three13 hk2 (fun x x0 x1 hx => by have := hgl x x0 x1 ((hX x x0 x1).mp hx).1 ((hX x x0 x1).mp hx).2; exact ⟨this.1, this.2.2.1, this.2.2.2.1, this.2.2.2.2⟩) t3 hL) fc_three13)
  · omega
  · omega
  · omega
  · have t3 : k / 16 ≠ G (4 * (k / 16) + 0) / 32 ∧ k / 16 ≠ G (4 * (k / 16) + 1) / 32 ∧ G (4 * (k / 16) + 0) / 32 ≠ G (4 * (k / 16) + 1) / 32 := by
      have a := h3.2.2.2 0 1 (by decide) (by decide) (by decide) (by decide) (by omega) (by omega) (by omega) (by omega) (by decide)
      have b := h3.2.2.2 1 0 (by decide) (by decide) (by decide) (by decide) (by omega) (by omega) (by omega) (by omega) (by decide)
      exact ⟨a.1, b.1, a.2⟩
    have g0 := hgl 0 (by decide) (by decide) (by omega) (by omega)
    have g1 := hgl 1 (by decide) (by decide) (by omega) (by omega)
    have hX : ∀ x, 0 ≤ x → x < 4 → (((fun x => x = 0 ∨ x = 1) : Int → Prop) x ↔ x ≠ k / 4 % 4 ∧ x ≠ k % 4) := fun x x0 x1 => by
      show x = 0 ∨ x = 1 ↔ _
      omega
    have fl := fl_three (X := (fun x => x = 0 ∨ x = 1)) (nw := (fun y => if y = 3 then t - 3 else t - 3 + 1)) hG hB hk h3 hX (by rw [gs_three23, sty_3 (by omega) (by omega) (by omega) (by omega) (by omega) (by omega) t3.1 t3.2.1 t3.2.2]) (by rw [hv]; exact if_pos rfl) (by rw [hu]; exact if_neg (by decide))
    exact c_X1_three23 hm hb hg hc he nb ng nc ne n2 n3 n6 hG hk2 hu hv hgl t3 (fun H T hL => K _ _ _ _ (fun x => x = 0 ∨ x = 1) (fun y => if y = 3 then t - 3 else t - 3 + 1) hX (by rw [hv]; exact if_pos rfl) (by rw [hu]; exact if_neg (by decide)) kp_vh (vh_e57 ne) (vh_e58 ne) (ma_up_s _ _ _) fl (fu_three23 hk2 (fun x x0 x1 hx => by have := hgl x x0 x1 ((hX x x0 x1).mp hx).1 ((hX x x0 x1).mp hx).2; exact ⟨this.1, this.2.2.1, this.2.2.2.1, this.2.2.2.2⟩) t3 hL) fc_three23)
  · omega
  · omega
  · omega
  · omega

