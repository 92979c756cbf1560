theorem gs_three01 {k : Int} {G : Int → Int} : gS G (k / 16) (fun x => x = 2 ∨ x = 3) = (fun i => (i = k / 16 ∨ i = G (4 * (k / 16) + 2) / 32) ∨ i = G (4 * (k / 16) + 3) / 32) := by
  funext i
  refine propext ⟨fun h => ?_, fun h => ?_⟩
  · rcases h with h | ⟨x, -, -, e | e, h⟩
    · exact Or.inl (Or.inl h)
    · subst e
      exact Or.inl (Or.inr h)
    · subst e
      exact Or.inr h
  · rcases h with (h | h) | h
    · exact Or.inl h
    · exact Or.inr ⟨2, by decide, by decide, Or.inl rfl, h⟩
    · exact Or.inr ⟨3, by decide, by decide, Or.inr rfl, h⟩
theorem fu_three01 {t k : Int} {G H T : Int → Int} (hk : 0 ≤ k ∧ k < 16 * t) (hgl : ∀ x, 0 ≤ x → x < 4 → (fun x => x = 2 ∨ x = 3) x → 0 ≤ G (4 * (k / 16) + x) ∧ 0 ≤ G (4 * (k / 16) + x) % 32 ∧ G (4 * (k / 16) + x) % 32 < 24 ∧ G (4 * (k / 16) + x) / 32 < t) (h3 : k / 16 ≠ G (4 * (k / 16) + 2) / 32 ∧ k / 16 ≠ G (4 * (k / 16) + 3) / 32 ∧ G (4 * (k / 16) + 2) / 32 ≠ G (4 * (k / 16) + 3) / 32) (hL : ∀ j, 0 ≤ j → j < 4 * t → H j = lo (fun i => (i = k / 16 ∨ i = G (4 * (k / 16) + 2) / 32) ∨ i = G (4 * (k / 16) + 3) / 32) j ∧ T j = 0) : FU t G (k / 16) (fun x => x = 2 ∨ x = 3) (fun y => if y = 1 then t - 3 else t - 3 + 1) (uf (uf (uf (uf (uf (uf H (4 * (k / 16) + 1) (t - 3)) (4 * (k / 16) + 0) (t - 3 + 1)) (4 * (G (4 * (k / 16) + 2) / 32) + im (G (4 * (k / 16) + 2) % 32) 1) (t - 3)) (4 * (G (4 * (k / 16) + 2) / 32) + im (G (4 * (k / 16) + 2) % 32) 0) (t - 3 + 1)) (4 * (G (4 * (k / 16) + 3) / 32) + im (G (4 * (k / 16) + 3) % 32) 1) (t - 3)) (4 * (G (4 * (k / 16) + 3) / 32) + im (G (4 * (k / 16) + 3) % 32) 0) (t - 3 + 1)) (uf (uf (uf (uf (uf (uf T (4 * (k / 16) + 1) (0)) (4 * (k / 16) + 0) (0)) (4 * (G (4 * (k / 16) + 2) / 32) + im (G (4 * (k / 16) + 2) % 32) 1) (af (sx 2 1) (iv (G (4 * (k / 16) + 2) % 32)))) (4 * (G (4 * (k / 16) + 2) / 32) + im (G (4 * (k / 16) + 2) % 32) 0) (af (sx 2 0) (iv (G (4 * (k / 16) + 2) % 32)))) (4 * (G (4 * (k / 16) + 3) / 32) + im (G (4 * (k / 16) + 3) % 32) 1) (af (sx 3 1) (iv (G (4 * (k / 16) + 3) % 32)))) (4 * (G (4 * (k / 16) + 3) / 32) + im (G (4 * (k / 16) + 3) % 32) 0) (af (sx 3 0) (iv (G (4 * (k / 16) + 3) % 32)))) := by
  have gx := hgl 2 (by decide) (by decide) (Or.inl rfl)
  have gy := hgl 3 (by decide) (by decide) (Or.inr rfl)
  have x0 := gx.2.1
  have x1 := gx.2.2.1
  have y0 := gy.2.1
  have y1 := gy.2.2.1
  have pb0 := im_in x0 x1 (show (0 : Int) ≤ 0 by decide) (by decide)
  have pb1 := im_in x0 x1 (show (0 : Int) ≤ 1 by decide) (by decide)
  have pb2 := im_in x0 x1 (show (0 : Int) ≤ 2 by decide) (by decide)
  have pb3 := im_in x0 x1 (show (0 : Int) ≤ 3 by decide) (by decide)
  have pn01 : im (G (4 * (k / 16) + 2) % 32) 0 ≠ im (G (4 * (k / 16) + 2) % 32) 1 := fun z => absurd (im_ij x0 x1 (by decide) (by decide) (by decide) (by decide) z) (by decide)
  have pn02 : im (G (4 * (k / 16) + 2) % 32) 0 ≠ im (G (4 * (k / 16) + 2) % 32) 2 := fun z => absurd (im_ij x0 x1 (by decide) (by decide) (by decide) (by decide) z) (by decide)
  have pn03 : im (G (4 * (k / 16) + 2) % 32) 0 ≠ im (G (4 * (k / 16) + 2) % 32) 3 := fun z => absurd (im_ij x0 x1 (by decide) (by decide) (by decide) (by decide) z) (by decide)
  have pn12 : im (G (4 * (k / 16) + 2) % 32) 1 ≠ im (G (4 * (k / 16) + 2) % 32) 2 := fun z => absurd (im_ij x0 x1 (by decide) (by decide) (by decide) (by decide) z) (by decide)
  have pn13 : im (G (4 * (k / 16) + 2) % 32) 1 ≠ im (G (4 * (k / 16) + 2) % 32) 3 := fun z => absurd (im_ij x0 x1 (by decide) (by decide) (by decide) (by decide) z) (by decide)
  have pn23 : im (G (4 * (k / 16) + 2) % 32) 2 ≠ im (G (4 * (k / 16) + 2) % 32) 3 := fun z => absurd (im_ij x0 x1 (by decide) (by decide) (by decide) (by decide) z) (by decide)
  have qb0 := im_in y0 y1 (show (0 : Int) ≤ 0 by decide) (by decide)
  have qb1 := im_in y0 y1 (show (0 : Int) ≤ 1 by decide) (by decide)
  have qb2 := im_in y0 y1 (show (0 : Int) ≤ 2 by decide) (by decide)
  have qb3 := im_in y0 y1 (show (0 : Int) ≤ 3 by decide) (by decide)
  have qn01 : im (G (4 * (k / 16) + 3) % 32) 0 ≠ im (G (4 * (k / 16) + 3) % 32) 1 := fun z => absurd (im_ij y0 y1 (by decide) (by decide) (by decide) (by decide) z) (by decide)
  have qn02 : im (G (4 * (k / 16) + 3) % 32) 0 ≠ im (G (4 * (k / 16) + 3) % 32) 2 := fun z => absurd (im_ij y0 y1 (by decide) (by decide) (by decide) (by decide) z) (by decide)
  have qn03 : im (G (4 * (k / 16) + 3) % 32) 0 ≠ im (G (4 * (k / 16) + 3) % 32) 3 := fun z => absurd (im_ij y0 y1 (by decide) (by decide) (by decide) (by decide) z) (by decide)
  have qn12 : im (G (4 * (k / 16) + 3) % 32) 1 ≠ im (G (4 * (k / 16) + 3) % 32) 2 := fun z => absurd (im_ij y0 y1 (by decide) (by decide) (by decide) (by decide) z) (by decide)
  have qn13 : im (G (4 * (k / 16) + 3) % 32) 1 ≠ im (G (4 * (k / 16) + 3) % 32) 3 := fun z => absurd (im_ij y0 y1 (by decide) (by decide) (by decide) (by decide) z) (by decide)
  have qn23 : im (G (4 * (k / 16) + 3) % 32) 2 ≠ im (G (4 * (k / 16) + 3) % 32) 3 := fun z => absurd (im_ij y0 y1 (by decide) (by decide) (by decide) (by decide) z) (by decide)
  have g22 : 0 ≤ 4 * (G (4 * (k / 16) + 2) / 32) + im (G (4 * (k / 16) + 2) % 32) 2 ∧ 4 * (G (4 * (k / 16) + 2) / 32) + im (G (4 * (k / 16) + 2) % 32) 2 < 4 * t ∧ (4 * (G (4 * (k / 16) + 2) / 32) + im (G (4 * (k / 16) + 2) % 32) 2) / 4 = G (4 * (k / 16) + 2) / 32 := by
    have h1 := pb2
    have h2 := gx
    clear pn01 qn01 pn02 qn02 pn03 qn03 pn12 qn12 pn13 qn13 pn23 qn23 h3
    omega
  have g23 : 0 ≤ 4 * (G (4 * (k / 16) + 2) / 32) + im (G (4 * (k / 16) + 2) % 32) 3 ∧ 4 * (G (4 * (k / 16) + 2) / 32) + im (G (4 * (k / 16) + 2) % 32) 3 < 4 * t ∧ (4 * (G (4 * (k / 16) + 2) / 32) + im (G (4 * (k / 16) + 2) % 32) 3) / 4 = G (4 * (k / 16) + 2) / 32 := by
    have h1 := pb3
    have h2 := gx
    clear pn01 qn01 pn02 qn02 pn03 qn03 pn12 qn12 pn13 qn13 pn23 qn23 h3
    omega
  have g32 : 0 ≤ 4 * (G (4 * (k / 16) + 3) / 32) + im (G (4 * (k / 16) + 3) % 32) 2 ∧ 4 * (G (4 * (k / 16) + 3) / 32) + im (G (4 * (k / 16) + 3) % 32) 2 < 4 * t ∧ (4 * (G (4 * (k / 16) + 3) / 32) + im (G (4 * (k / 16) + 3) % 32) 2) / 4 = G (4 * (k / 16) + 3) / 32 := by
    have h1 := qb2
    have h2 := gy
    clear pn01 qn01 pn02 qn02 pn03 qn03 pn12 qn12 pn13 qn13 pn23 qn23 h3
    omega
  have g33 : 0 ≤ 4 * (G (4 * (k / 16) + 3) / 32) + im (G (4 * (k / 16) + 3) % 32) 3 ∧ 4 * (G (4 * (k / 16) + 3) / 32) + im (G (4 * (k / 16) + 3) % 32) 3 < 4 * t ∧ (4 * (G (4 * (k / 16) + 3) / 32) + im (G (4 * (k / 16) + 3) % 32) 3) / 4 = G (4 * (k / 16) + 3) / 32 := by
    have h1 := qb3
    have h2 := gy
    clear pn01 qn01 pn02 qn02 pn03 qn03 pn12 qn12 pn13 qn13 pn23 qn23 h3
    omega
  have ga : ∀ x, 0 ≤ x → x < 4 → 0 ≤ 4 * (k / 16) + x ∧ 4 * (k / 16) + x < 4 * t ∧ (4 * (k / 16) + x) / 4 = k / 16 := by
    clear pn01 qn01 pn02 qn02 pn03 qn03 pn12 qn12 pn13 qn13 pn23 qn23 h3
    intro x a b
    omega
  unfold FU fX bX pX
  rw [gs_three01]
  refine ⟨fun F F0 F1 hS => ?_, fun y y0 y1 hy => ?_, fun x y x0 x1 hx y0 y1 hy => ?_, fun x x0 x1 hx => ?_, fun x c x0 x1 hx c0 c1 hc => ?_⟩
  · have hS1 : F / 4 ≠ k / 16 := fun e => hS (Or.inl (Or.inl e))
    have hS2 : F / 4 ≠ G (4 * (k / 16) + 2) / 32 := fun e => hS (Or.inl (Or.inr e))
    have hS3 : F / 4 ≠ G (4 * (k / 16) + 3) / 32 := fun e => hS (Or.inr e)
    refine ⟨?_, ?_⟩
    · rw [uf_n (nF hS3 qb0.1 qb0.2), uf_n (nF hS3 qb1.1 qb1.2), uf_n (nF hS2 pb0.1 pb0.2), uf_n (nF hS2 pb1.1 pb1.2), uf_n (nF hS1 (by decide) (by decide)), uf_n (nF hS1 (by decide) (by decide)), (hL F F0 F1).1, lo_n hS]
    · rw [uf_n (nF hS3 qb0.1 qb0.2), uf_n (nF hS3 qb1.1 qb1.2), uf_n (nF hS2 pb0.1 pb0.2), uf_n (nF hS2 pb1.1 pb1.2), uf_n (nF hS1 (by decide) (by decide)), uf_n (nF hS1 (by decide) (by decide)), (hL F F0 F1).2]
  · rcases four_of y0 y1 with ey | ey | ey | ey <;> subst ey
    · refine ⟨?_, ?_⟩
      · rw [uf_n (nAB h3.2.1 (by decide) (by decide) qb0.1 qb0.2), uf_n (nAB h3.2.1 (by decide) (by decide) qb1.1 qb1.2), uf_n (nAB h3.1 (by decide) (by decide) pb0.1 pb0.2), uf_n (nAB h3.1 (by decide) (by decide) pb1.1 pb1.2), uf_s]
        exact (if_neg (by decide)).symm
      · rw [uf_n (nAB h3.2.1 (by decide) (by decide) qb0.1 qb0.2), uf_n (nAB h3.2.1 (by decide) (by decide) qb1.1 qb1.2), uf_n (nAB h3.1 (by decide) (by decide) pb0.1 pb0.2), uf_n (nAB h3.1 (by decide) (by decide) pb1.1 pb1.2), uf_s]
    · refine ⟨?_, ?_⟩
      · rw [uf_n (nAB h3.2.1 (by decide) (by decide) qb0.1 qb0.2), uf_n (nAB h3.2.1 (by decide) (by decide) qb1.1 qb1.2), uf_n (nAB h3.1 (by decide) (by decide) pb0.1 pb0.2), uf_n (nAB h3.1 (by decide) (by decide) pb1.1 pb1.2), uf_n (nAA (by decide)), uf_s]
        exact (if_pos rfl).symm
      · rw [uf_n (nAB h3.2.1 (by decide) (by decide) qb0.1 qb0.2), uf_n (nAB h3.2.1 (by decide) (by decide) qb1.1 qb1.2), uf_n (nAB h3.1 (by decide) (by decide) pb0.1 pb0.2), uf_n (nAB h3.1 (by decide) (by decide) pb1.1 pb1.2), uf_n (nAA (by decide)), uf_s]
    · exact absurd (Or.inl rfl) hy
    · exact absurd (Or.inr rfl) hy
  · rcases hx with hx | hx <;> subst hx
    · rcases four_of y0 y1 with ey | ey | ey | ey <;> subst ey
      · refine ⟨?_, ?_⟩
        · rw [uf_n (nAB h3.2.2 pb0.1 pb0.2 qb0.1 qb0.2), uf_n (nAB h3.2.2 pb0.1 pb0.2 qb1.1 qb1.2), uf_s]
          exact (if_neg (by decide)).symm
        · rw [uf_n (nAB h3.2.2 pb0.1 pb0.2 qb0.1 qb0.2), uf_n (nAB h3.2.2 pb0.1 pb0.2 qb1.1 qb1.2), uf_s]
      · refine ⟨?_, ?_⟩
        · rw [uf_n (nAB h3.2.2 pb1.1 pb1.2 qb0.1 qb0.2), uf_n (nAB h3.2.2 pb1.1 pb1.2 qb1.1 qb1.2), uf_n (nAA (Ne.symm pn01)), uf_s]
          exact (if_pos rfl).symm
        · rw [uf_n (nAB h3.2.2 pb1.1 pb1.2 qb0.1 qb0.2), uf_n (nAB h3.2.2 pb1.1 pb1.2 qb1.1 qb1.2), uf_n (nAA (Ne.symm pn01)), uf_s]
      · exact absurd (Or.inl rfl) hy
      · exact absurd (Or.inr rfl) hy
    · rcases four_of y0 y1 with ey | ey | ey | ey <;> subst ey
      · refine ⟨?_, ?_⟩
        · rw [uf_s]
          exact (if_neg (by decide)).symm
        · rw [uf_s]
      · refine ⟨?_, ?_⟩
        · rw [uf_n (nAA (Ne.symm qn01)), uf_s]
          exact (if_pos rfl).symm
        · rw [uf_n (nAA (Ne.symm qn01)), uf_s]
      · exact absurd (Or.inl rfl) hy
      · exact absurd (Or.inr rfl) hy
  · rcases hx with hx | hx <;> subst hx
    · rw [uf_n (nAB h3.2.1 (by decide) (by decide) qb0.1 qb0.2), uf_n (nAB h3.2.1 (by decide) (by decide) qb1.1 qb1.2), uf_n (nAB h3.1 (by decide) (by decide) pb0.1 pb0.2), uf_n (nAB h3.1 (by decide) (by decide) pb1.1 pb1.2), uf_n (nAA (by decide)), uf_n (nAA (by decide)), (hL _ (ga 2 (by decide) (by decide)).1 (ga 2 (by decide) (by decide)).2.1).1, lo_y (Or.inl (Or.inl (ga 2 (by decide) (by decide)).2.2))]
    · rw [uf_n (nAB h3.2.1 (by decide) (by decide) qb0.1 qb0.2), uf_n (nAB h3.2.1 (by decide) (by decide) qb1.1 qb1.2), uf_n (nAB h3.1 (by decide) (by decide) pb0.1 pb0.2), uf_n (nAB h3.1 (by decide) (by decide) pb1.1 pb1.2), uf_n (nAA (by decide)), uf_n (nAA (by decide)), (hL _ (ga 3 (by decide) (by decide)).1 (ga 3 (by decide) (by decide)).2.1).1, lo_y (Or.inl (Or.inl (ga 3 (by decide) (by decide)).2.2))]
  · rcases hx with hx | hx <;> rcases hc with hc | hc <;> subst hx <;> subst hc
    · rw [uf_n (nAB h3.2.2 pb2.1 pb2.2 qb0.1 qb0.2), uf_n (nAB h3.2.2 pb2.1 pb2.2 qb1.1 qb1.2), uf_n (nAA (Ne.symm pn02)), uf_n (nAA (Ne.symm pn12)), uf_n (nAB (Ne.symm h3.1) pb2.1 pb2.2 (by decide) (by decide)), uf_n (nAB (Ne.symm h3.1) pb2.1 pb2.2 (by decide) (by decide)), (hL _ g22.1 g22.2.1).1, lo_y (Or.inl (Or.inr g22.2.2))]
    · rw [uf_n (nAB h3.2.2 pb3.1 pb3.2 qb0.1 qb0.2), uf_n (nAB h3.2.2 pb3.1 pb3.2 qb1.1 qb1.2), uf_n (nAA (Ne.symm pn03)), uf_n (nAA (Ne.symm pn13)), uf_n (nAB (Ne.symm h3.1) pb3.1 pb3.2 (by decide) (by decide)), uf_n (nAB (Ne.symm h3.1) pb3.1 pb3.2 (by decide) (by decide)), (hL _ g23.1 g23.2.1).1, lo_y (Or.inl (Or.inr g23.2.2))]
    · rw [uf_n (nAA (Ne.symm qn02)), uf_n (nAA (Ne.symm qn12)), uf_n (nAB (Ne.symm h3.2.2) qb2.1 qb2.2 pb0.1 pb0.2), uf_n (nAB (Ne.symm h3.2.2) qb2.1 qb2.2 pb1.1 pb1.2), uf_n (nAB (Ne.symm h3.2.1) qb2.1 qb2.2 (by decide) (by decide)), uf_n (nAB (Ne.symm h3.2.1) qb2.1 qb2.2 (by decide) (by decide)), (hL _ g32.1 g32.2.1).1, lo_y ((Or.inr g32.2.2))]
    · rw [uf_n (nAA (Ne.symm qn03)), uf_n (nAA (Ne.symm qn13)), uf_n (nAB (Ne.symm h3.2.2) qb3.1 qb3.2 pb0.1 pb0.2), uf_n (nAB (Ne.symm h3.2.2) qb3.1 qb3.2 pb1.1 pb1.2), uf_n (nAB (Ne.symm h3.2.1) qb3.1 qb3.2 (by decide) (by decide)), uf_n (nAB (Ne.symm h3.2.1) qb3.1 qb3.2 (by decide) (by decide)), (hL _ g33.1 g33.2.1).1, lo_y ((Or.inr g33.2.2))]

theorem fc_three01 {t : Int} {G H T : Int → Int} : FC G t (fun x => x = 2 ∨ x = 3) (fun y => if y = 1 then t - 3 else t - 3 + 1) H T (fj (cy G H T (fun _ => -1) (4 * t).toNat) (t - 3) (t - 3 + 1) 1 0) := by
  obtain ⟨s01, s02, s03, s12, s13, s23, s10, s20, s30, s21, s31, s32⟩ := sx_v
  refine ⟨fun y z y0 y1 hy z0 z1 hz ne => ?_, fun n hn => ?_⟩
  · rcases four_of y0 y1 with ey | ey | ey | ey <;> rcases four_of z0 z1 with ez | ez | ez | ez <;> subst ey <;> subst ez
    · exact absurd rfl ne
    · show _ = 32 * (if (1 : Int) = 1 then t - 3 else t - 3 + 1) + sx 0 1
      rw [show (4 * (if (0 : Int) = 1 then t - 3 else t - 3 + 1) + 1 : Int) = 4 * (t - 3 + 1) + 1 from by rw [show (if (0 : Int) = 1 then t - 3 else t - 3 + 1 : Int) = t - 3 + 1 from if_neg (by decide)], show (if (1 : Int) = 1 then t - 3 else t - 3 + 1 : Int) = t - 3 from if_pos rfl, fj_2, s01, s10]
    · exact absurd (Or.inl rfl) hz
    · exact absurd (Or.inr rfl) hz
    · show _ = 32 * (if (0 : Int) = 1 then t - 3 else t - 3 + 1) + sx 1 0
      rw [show (4 * (if (1 : Int) = 1 then t - 3 else t - 3 + 1) + 0 : Int) = 4 * (t - 3) + 0 from by rw [show (if (1 : Int) = 1 then t - 3 else t - 3 + 1 : Int) = t - 3 from if_pos rfl], show (if (0 : Int) = 1 then t - 3 else t - 3 + 1 : Int) = t - 3 + 1 from if_neg (by decide), fj_1 (by omega)]
    · exact absurd rfl ne
    · exact absurd (Or.inl rfl) hz
    · exact absurd (Or.inr rfl) hz
    · exact absurd (Or.inl rfl) hy
    · exact absurd (Or.inl rfl) hy
    · exact absurd rfl ne
    · exact absurd (Or.inl rfl) hy
    · exact absurd (Or.inr rfl) hy
    · exact absurd (Or.inr rfl) hy
    · exact absurd (Or.inr rfl) hy
    · exact absurd rfl ne
  · rw [fj_out (fun e => hn 1 0 (by decide) (by decide) (by decide) (by decide) (by decide) (by decide) (by decide) (by rw [e]; show _ = 4 * (if (1 : Int) = 1 then t - 3 else t - 3 + 1) + 0; rw [show (if (1 : Int) = 1 then t - 3 else t - 3 + 1 : Int) = t - 3 from if_pos rfl])) (fun e => hn 0 1 (by decide) (by decide) (by decide) (by decide) (by decide) (by decide) (by decide) (by rw [e]; show _ = 4 * (if (0 : Int) = 1 then t - 3 else t - 3 + 1) + 1; rw [show (if (0 : Int) = 1 then t - 3 else t - 3 + 1 : Int) = t - 3 + 1 from if_neg (by decide)]))]
theorem gs_three02 {k : Int} {G : Int → Int} : gS G (k / 16) (fun x => x = 1 ∨ x = 3) = (fun i => (i = k / 16 ∨ i = G (4 * (k / 16) + 1) / 32) ∨ i = G (4 * (k / 16) + 3) / 32) := by
  funext i
  refine propext ⟨fun h => ?_, fun h => ?_⟩
  · rcases h with h | ⟨x, -, -, e | e, h⟩
    · exact Or.inl (Or.inl h)
    · subst e
      exact Or.inl (Or.inr h)
    · subst e
      exact Or.inr h
  · rcases h with (h | h) | h
    · exact Or.inl h
    · exact Or.inr ⟨1, by decide, by decide, Or.inl rfl, h⟩
    · exact Or.inr ⟨3, by decide, by decide, Or.inr rfl, h⟩
theorem fu_three02 {t k : Int} {G H T : Int → Int} (hk : 0 ≤ k ∧ k < 16 * t) (hgl : ∀ x, 0 ≤ x → x < 4 → (fun x => x = 1 ∨ x = 3) x → 0 ≤ G (4 * (k / 16) + x) ∧ 0 ≤ G (4 * (k / 16) + x) % 32 ∧ G (4 * (k / 16) + x) % 32 < 24 ∧ G (4 * (k / 16) + x) / 32 < t) (h3 : k / 16 ≠ G (4 * (k / 16) + 1) / 32 ∧ k / 16 ≠ G (4 * (k / 16) + 3) / 32 ∧ G (4 * (k / 16) + 1) / 32 ≠ G (4 * (k / 16) + 3) / 32) (hL : ∀ j, 0 ≤ j → j < 4 * t → H j = lo (fun i => (i = k / 16 ∨ i = G (4 * (k / 16) + 1) / 32) ∨ i = G (4 * (k / 16) + 3) / 32) j ∧ T j = 0) : FU t G (k / 16) (fun x => x = 1 ∨ x = 3) (fun y => if y = 2 then t - 3 else t - 3 + 1) (uf (uf (uf (uf (uf (uf H (4 * (k / 16) + 2) (t - 3)) (4 * (k / 16) + 0) (t - 3 + 1)) (4 * (G (4 * (k / 16) + 1) / 32) + im (G (4 * (k / 16) + 1) % 32) 2) (t - 3)) (4 * (G (4 * (k / 16) + 1) / 32) + im (G (4 * (k / 16) + 1) % 32) 0) (t - 3 + 1)) (4 * (G (4 * (k / 16) + 3) / 32) + im (G (4 * (k / 16) + 3) % 32) 2) (t - 3)) (4 * (G (4 * (k / 16) + 3) / 32) + im (G (4 * (k / 16) + 3) % 32) 0) (t - 3 + 1)) (uf (uf (uf (uf (uf (uf T (4 * (k / 16) + 2) (0)) (4 * (k / 16) + 0) (0)) (4 * (G (4 * (k / 16) + 1) / 32) + im (G (4 * (k / 16) + 1) % 32) 2) (af (sx 1 2) (iv (G (4 * (k / 16) + 1) % 32)))) (4 * (G (4 * (k / 16) + 1) / 32) + im (G (4 * (k / 16) + 1) % 32) 0) (af (sx 1 0) (iv (G (4 * (k / 16) + 1) % 32)))) (4 * (G (4 * (k / 16) + 3) / 32) + im (G (4 * (k / 16) + 3) % 32) 2) (af (sx 3 2) (iv (G (4 * (k / 16) + 3) % 32)))) (4 * (G (4 * (k / 16) + 3) / 32) + im (G (4 * (k / 16) + 3) % 32) 0) (af (sx 3 0) (iv (G (4 * (k / 16) + 3) % 32)))) := by
  have gx := hgl 1 (by decide) (by decide) (Or.inl rfl)
  have gy := hgl 3 (by decide) (by decide) (Or.inr rfl)
  have x0 := gx.2.1
  have x1 := gx.2.2.1
  have y0 := gy.2.1
  have y1 := gy.2.2.1
  have pb0 := im_in x0 x1 (show (0 : Int) ≤ 0 by decide) (by decide)
  have pb1 := im_in x0 x1 (show (0 : Int) ≤ 1 by decide) (by decide)
  have pb2 := im_in x0 x1 (show (0 : Int) ≤ 2 by decide) (by decide)
  have pb3 := im_in x0 x1 (show (0 : Int) ≤ 3 by decide) (by decide)
  have pn01 : im (G (4 * (k / 16) + 1) % 32) 0 ≠ im (G (4 * (k / 16) + 1) % 32) 1 := fun z => absurd (im_ij x0 x1 (by decide) (by decide) (by decide) (by decide) z) (by decide)
  have pn02 : im (G (4 * (k / 16) + 1) % 32) 0 ≠ im (G (4 * (k / 16) + 1) % 32) 2 := fun z => absurd (im_ij x0 x1 (by decide) (by decide) (by decide) (by decide) z) (by decide)
  have pn03 : im (G (4 * (k / 16) + 1) % 32) 0 ≠ im (G (4 * (k / 16) + 1) % 32) 3 := fun z => absurd (im_ij x0 x1 (by decide) (by decide) (by decide) (by decide) z) (by decide)
  have pn12 : im (G (4 * (k / 16) + 1) % 32) 1 ≠ im (G (4 * (k / 16) + 1) % 32) 2 := fun z => absurd (im_ij x0 x1 (by decide) (by decide) (by decide) (by decide) z) (by decide)
  have pn13 : im (G (4 * (k / 16) + 1) % 32) 1 ≠ im (G (4 * (k / 16) + 1) % 32) 3 := fun z => absurd (im_ij x0 x1 (by decide) (by decide) (by decide) (by decide) z) (by decide)
  have pn23 : im (G (4 * (k / 16) + 1) % 32) 2 ≠ im (G (4 * (k / 16) + 1) % 32) 3 := fun z => absurd (im_ij x0 x1 (by decide) (by decide) (by decide) (by decide) z) (by decide)
  have qb0 := im_in y0 y1 (show (0 : Int) ≤ 0 by decide) (by decide)
  have qb1 := im_in y0 y1 (show (0 : Int) ≤ 1 by decide) (by decide)
  have qb2 := im_in y0 y1 (show (0 : Int) ≤ 2 by decide) (by decide)
  have qb3 := im_in y0 y1 (show (0 : Int) ≤ 3 by decide) (by decide)
  have qn01 : im (G (4 * (k / 16) + 3) % 32) 0 ≠ im (G (4 * (k / 16) + 3) % 32) 1 := fun z => absurd (im_ij y0 y1 (by decide) (by decide) (by decide) (by decide) z) (by decide)
  have qn02 : im (G (4 * (k / 16) + 3) % 32) 0 ≠ im (G (4 * (k / 16) + 3) % 32) 2 := fun z => absurd (im_ij y0 y1 (by decide) (by decide) (by decide) (by decide) z) (by decide)
  have qn03 : im (G (4 * (k / 16) + 3) % 32) 0 ≠ im (G (4 * (k / 16) + 3) % 32) 3 := fun z => absurd (im_ij y0 y1 (by decide) (by decide) (by decide) (by decide) z) (by decide)
  have qn12 : im (G (4 * (k / 16) + 3) % 32) 1 ≠ im (G (4 * (k / 16) + 3) % 32) 2 := fun z => absurd (im_ij y0 y1 (by decide) (by decide) (by decide) (by decide) z) (by decide)
  have qn13 : im (G (4 * (k / 16) + 3) % 32) 1 ≠ im (G (4 * (k / 16) + 3) % 32) 3 := fun z => absurd (im_ij y0 y1 (by decide) (by decide) (by decide) (by decide) z) (by decide)
  have qn23 : im (G (4 * (k / 16) + 3) % 32) 2 ≠ im (G (4 * (k / 16) + 3) % 32) 3 := fun z => absurd (im_ij y0 y1 (by decide) (by decide) (by decide) (by decide) z) (by decide)
  have g11 : 0 ≤ 4 * (G (4 * (k / 16) + 1) / 32) + im (G (4 * (k / 16) + 1) % 32) 1 ∧ 4 * (G (4 * (k / 16) + 1) / 32) + im (G (4 * (k / 16) + 1) % 32) 1 < 4 * t ∧ (4 * (G (4 * (k / 16) + 1) / 32) + im (G (4 * (k / 16) + 1) % 32) 1) / 4 = G (4 * (k / 16) + 1) / 32 := by
    have h1 := pb1
    have h2 := gx
    clear pn01 qn01 pn02 qn02 pn03 qn03 pn12 qn12 pn13 qn13 pn23 qn23 h3
    omega
  have g13 : 0 ≤ 4 * (G (4 * (k / 16) + 1) / 32) + im (G (4 * (k / 16) + 1) % 32) 3 ∧ 4 * (G (4 * (k / 16) + 1) / 32) + im (G (4 * (k / 16) + 1) % 32) 3 < 4 * t ∧ (4 * (G (4 * (k / 16) + 1) / 32) + im (G (4 * (k / 16) + 1) % 32) 3) / 4 = G (4 * (k / 16) + 1) / 32 := by
    have h1 := pb3
    have h2 := gx
    clear pn01 qn01 pn02 qn02 pn03 qn03 pn12 qn12 pn13 qn13 pn23 qn23 h3
    omega
  have g31 : 0 ≤ 4 * (G (4 * (k / 16) + 3) / 32) + im (G (4 * (k / 16) + 3) % 32) 1 ∧ 4 * (G (4 * (k / 16) + 3) / 32) + im (G (4 * (k / 16) + 3) % 32) 1 < 4 * t ∧ (4 * (G (4 * (k / 16) + 3) / 32) + im (G (4 * (k / 16) + 3) % 32) 1) / 4 = G (4 * (k / 16) + 3) / 32 := by
    have h1 := qb1
    have h2 := gy
    clear pn01 qn01 pn02 qn02 pn03 qn03 pn12 qn12 pn13 qn13 pn23 qn23 h3
    omega
  have g33 : 0 ≤ 4 * (G (4 * (k / 16) + 3) / 32) + im (G (4 * (k / 16) + 3) % 32) 3 ∧ 4 * (G (4 * (k / 16) + 3) / 32) + im (G (4 * (k / 16) + 3) % 32) 3 < 4 * t ∧ (4 * (G (4 * (k / 16) + 3) / 32) + im (G (4 * (k / 16) + 3) % 32) 3) / 4 = G (4 * (k / 16) + 3) / 32 := by
    have h1 := qb3
    have h2 := gy
    clear pn01 qn01 pn02 qn02 pn03 qn03 pn12 qn12 pn13 qn13 pn23 qn23 h3
    omega
  have ga : ∀ x, 0 ≤ x → x < 4 → 0 ≤ 4 * (k / 16) + x ∧ 4 * (k / 16) + x < 4 * t ∧ (4 * (k / 16) + x) / 4 = k / 16 := by
    clear pn01 qn01 pn02 qn02 pn03 qn03 pn12 qn12 pn13 qn13 pn23 qn23 h3
    intro x a b
    omega
  unfold FU fX bX pX
  rw [gs_three02]
  refine ⟨fun F F0 F1 hS => ?_, fun y y0 y1 hy => ?_, fun x y x0 x1 hx y0 y1 hy => ?_, fun x x0 x1 hx => ?_, fun x c x0 x1 hx c0 c1 hc => ?_⟩
  · have hS1 : F / 4 ≠ k / 16 := fun e => hS (Or.inl (Or.inl e))
    have hS2 : F / 4 ≠ G (4 * (k / 16) + 1) / 32 := fun e => hS (Or.inl (Or.inr e))
    have hS3 : F / 4 ≠ G (4 * (k / 16) + 3) / 32 := fun e => hS (Or.inr e)
    refine ⟨?_, ?_⟩
    · rw [uf_n (nF hS3 qb0.1 qb0.2), uf_n (nF hS3 qb2.1 qb2.2), uf_n (nF hS2 pb0.1 pb0.2), uf_n (nF hS2 pb2.1 pb2.2), uf_n (nF hS1 (by decide) (by decide)), uf_n (nF hS1 (by decide) (by decide)), (hL F F0 F1).1, lo_n hS]
    · rw [uf_n (nF hS3 qb0.1 qb0.2), uf_n (nF hS3 qb2.1 qb2.2), uf_n (nF hS2 pb0.1 pb0.2), uf_n (nF hS2 pb2.1 pb2.2), uf_n (nF hS1 (by decide) (by decide)), uf_n (nF hS1 (by decide) (by decide)), (hL F F0 F1).2]
  · rcases four_of y0 y1 with ey | ey | ey | ey <;> subst ey
    · refine ⟨?_, ?_⟩
      · rw [uf_n (nAB h3.2.1 (by decide) (by decide) qb0.1 qb0.2), uf_n (nAB h3.2.1 (by decide) (by decide) qb2.1 qb2.2), uf_n (nAB h3.1 (by decide) (by decide) pb0.1 pb0.2), uf_n (nAB h3.1 (by decide) (by decide) pb2.1 pb2.2), uf_s]
        exact (if_neg (by decide)).symm
      · rw [uf_n (nAB h3.2.1 (by decide) (by decide) qb0.1 qb0.2), uf_n (nAB h3.2.1 (by decide) (by decide) qb2.1 qb2.2), uf_n (nAB h3.1 (by decide) (by decide) pb0.1 pb0.2), uf_n (nAB h3.1 (by decide) (by decide) pb2.1 pb2.2), uf_s]
    · exact absurd (Or.inl rfl) hy
    · refine ⟨?_, ?_⟩
      · rw [uf_n (nAB h3.2.1 (by decide) (by decide) qb0.1 qb0.2), uf_n (nAB h3.2.1 (by decide) (by decide) qb2.1 qb2.2), uf_n (nAB h3.1 (by decide) (by decide) pb0.1 pb0.2), uf_n (nAB h3.1 (by decide) (by decide) pb2.1 pb2.2), uf_n (nAA (by decide)), uf_s]
        exact (if_pos rfl).symm
      · rw [uf_n (nAB h3.2.1 (by decide) (by decide) qb0.1 qb0.2), uf_n (nAB h3.2.1 (by decide) (by decide) qb2.1 qb2.2), uf_n (nAB h3.1 (by decide) (by decide) pb0.1 pb0.2), uf_n (nAB h3.1 (by decide) (by decide) pb2.1 pb2.2), uf_n (nAA (by decide)), uf_s]
    · exact absurd (Or.inr rfl) hy
  · rcases hx with hx | hx <;> subst hx
    · rcases four_of y0 y1 with ey | ey | ey | ey <;> subst ey
      · refine ⟨?_, ?_⟩
        · rw [uf_n (nAB h3.2.2 pb0.1 pb0.2 qb0.1 qb0.2), uf_n (nAB h3.2.2 pb0.1 pb0.2 qb2.1 qb2.2), uf_s]
          exact (if_neg (by decide)).symm
        · rw [uf_n (nAB h3.2.2 pb0.1 pb0.2 qb0.1 qb0.2), uf_n (nAB h3.2.2 pb0.1 pb0.2 qb2.1 qb2.2), uf_s]
      · exact absurd (Or.inl rfl) hy
      · refine ⟨?_, ?_⟩
        · rw [uf_n (nAB h3.2.2 pb2.1 pb2.2 qb0.1 qb0.2), uf_n (nAB h3.2.2 pb2.1 pb2.2 qb2.1 qb2.2), uf_n (nAA (Ne.symm pn02)), uf_s]
          exact (if_pos rfl).symm
        · rw [uf_n (nAB h3.2.2 pb2.1 pb2.2 qb0.1 qb0.2), uf_n (nAB h3.2.2 pb2.1 pb2.2 qb2.1 qb2.2), uf_n (nAA (Ne.symm pn02)), uf_s]
      · exact absurd (Or.inr rfl) hy
    · rcases four_of y0 y1 with ey | ey | ey | ey <;> subst ey
      · refine ⟨?_, ?_⟩
        · rw [uf_s]
          exact (if_neg (by decide)).symm
        · rw [uf_s]
      · exact absurd (Or.inl rfl) hy
      · refine ⟨?_, ?_⟩
        · rw [uf_n (nAA (Ne.symm qn02)), uf_s]
          exact (if_pos rfl).symm
        · rw [uf_n (nAA (Ne.symm qn02)), uf_s]
      · exact absurd (Or.inr rfl) hy
  · rcases hx with hx | hx <;> subst hx
    · rw [uf_n (nAB h3.2.1 (by decide) (by decide) qb0.1 qb0.2), uf_n (nAB h3.2.1 (by decide) (by decide) qb2.1 qb2.2), uf_n (nAB h3.1 (by decide) (by decide) pb0.1 pb0.2), uf_n (nAB h3.1 (by decide) (by decide) pb2.1 pb2.2), uf_n (nAA (by decide)), uf_n (nAA (by decide)), (hL _ (ga 1 (by decide) (by decide)).1 (ga 1 (by decide) (by decide)).2.1).1, lo_y (Or.inl (Or.inl (ga 1 (by decide) (by decide)).2.2))]
    · rw [uf_n (nAB h3.2.1 (by decide) (by decide) qb0.1 qb0.2), uf_n (nAB h3.2.1 (by decide) (by decide) qb2.1 qb2.2), uf_n (nAB h3.1 (by decide) (by decide) pb0.1 pb0.2), uf_n (nAB h3.1 (by decide) (by decide) pb2.1 pb2.2), uf_n (nAA (by decide)), uf_n (nAA (by decide)), (hL _ (ga 3 (by decide) (by decide)).1 (ga 3 (by decide) (by decide)).2.1).1, lo_y (Or.inl (Or.inl (ga 3 (by decide) (by decide)).2.2))]
  · rcases hx with hx | hx <;> rcases hc with hc | hc <;> subst hx <;> subst hc
    · rw [uf_n (nAB h3.2.2 pb1.1 pb1.2 qb0.1 qb0.2), uf_n (nAB h3.2.2 pb1.1 pb1.2 qb2.1 qb2.2), uf_n (nAA (Ne.symm pn01)), uf_n (nAA pn12), uf_n (nAB (Ne.symm h3.1) pb1.1 pb1.2 (by decide) (by decide)), uf_n (nAB (Ne.symm h3.1) pb1.1 pb1.2 (by decide) (by decide)), (hL _ g11.1 g11.2.1).1, lo_y (Or.inl (Or.inr g11.2.2))]
    · rw [uf_n (nAB h3.2.2 pb3.1 pb3.2 qb0.1 qb0.2), uf_n (nAB h3.2.2 pb3.1 pb3.2 qb2.1 qb2.2), uf_n (nAA (Ne.symm pn03)), uf_n (nAA (Ne.symm pn23)), uf_n (nAB (Ne.symm h3.1) pb3.1 pb3.2 (by decide) (by decide)), uf_n (nAB (Ne.symm h3.1) pb3.1 pb3.2 (by decide) (by decide)), (hL _ g13.1 g13.2.1).1, lo_y (Or.inl (Or.inr g13.2.2))]
    · rw [uf_n (nAA (Ne.symm qn01)), uf_n (nAA qn12), uf_n (nAB (Ne.symm h3.2.2) qb1.1 qb1.2 pb0.1 pb0.2), uf_n (nAB (Ne.symm h3.2.2) qb1.1 qb1.2 pb2.1 pb2.2), uf_n (nAB (Ne.symm h3.2.1) qb1.1 qb1.2 (by decide) (by decide)), uf_n (nAB (Ne.symm h3.2.1) qb1.1 qb1.2 (by decide) (by decide)), (hL _ g31.1 g31.2.1).1, lo_y ((Or.inr g31.2.2))]
    · rw [uf_n (nAA (Ne.symm qn03)), uf_n (nAA (Ne.symm qn23)), uf_n (nAB (Ne.symm h3.2.2) qb3.1 qb3.2 pb0.1 pb0.2), uf_n (nAB (Ne.symm h3.2.2) qb3.1 qb3.2 pb2.1 pb2.2), uf_n (nAB (Ne.symm h3.2.1) qb3.1 qb3.2 (by decide) (by decide)), uf_n (nAB (Ne.symm h3.2.1) qb3.1 qb3.2 (by decide) (by decide)), (hL _ g33.1 g33.2.1).1, lo_y ((Or.inr g33.2.2))]

theorem fc_three02 {t : Int} {G H T : Int → Int} : FC G t (fun x => x = 1 ∨ x = 3) (fun y => if y = 2 then t - 3 else t - 3 + 1) H T (fj (cy G H T (fun _ => -1) (4 * t).toNat) (t - 3) (t - 3 + 1) 2 0) := by
  obtain ⟨s01, s02, s03, s12, s13, s23, s10, s20, s30, s21, s31, s32⟩ := sx_v
  refine ⟨fun y z y0 y1 hy z0 z1 hz ne => ?_, fun n hn => ?_⟩
  · rcases four_of y0 y1 with ey | ey | ey | ey <;> rcases four_of z0 z1 with ez | ez | ez | ez <;> subst ey <;> subst ez
    · exact absurd rfl ne
    · exact absurd (Or.inl rfl) hz
    · show _ = 32 * (if (2 : Int) = 2 then t - 3 else t - 3 + 1) + sx 0 2
      rw [show (4 * (if (0 : Int) = 2 then t - 3 else t - 3 + 1) + 2 : Int) = 4 * (t - 3 + 1) + 2 from by rw [show (if (0 : Int) = 2 then t - 3 else t - 3 + 1 : Int) = t - 3 + 1 from if_neg (by decide)], show (if (2 : Int) = 2 then t - 3 else t - 3 + 1 : Int) = t - 3 from if_pos rfl, fj_2, s02, s20]
    · exact absurd (Or.inr rfl) hz
    · exact absurd (Or.inl rfl) hy
    · exact absurd rfl ne
    · exact absurd (Or.inl rfl) hy
    · exact absurd (Or.inl rfl) hy
    · show _ = 32 * (if (0 : Int) = 2 then t - 3 else t - 3 + 1) + sx 2 0
      rw [show (4 * (if (2 : Int) = 2 then t - 3 else t - 3 + 1) + 0 : Int) = 4 * (t - 3) + 0 from by rw [show (if (2 : Int) = 2 then t - 3 else t - 3 + 1 : Int) = t - 3 from if_pos rfl], show (if (0 : Int) = 2 then t - 3 else t - 3 + 1 : Int) = t - 3 + 1 from if_neg (by decide), fj_1 (by omega)]
    · exact absurd (Or.inl rfl) hz
    · exact absurd rfl ne
    · exact absurd (Or.inr rfl) hz
    · exact absurd (Or.inr rfl) hy
    · exact absurd (Or.inr rfl) hy
    · exact absurd (Or.inr rfl) hy
    · exact absurd rfl ne
  · rw [fj_out (fun e => hn 2 0 (by decide) (by decide) (by decide) (by decide) (by decide) (by decide) (by decide) (by rw [e]; show _ = 4 * (if (2 : Int) = 2 then t - 3 else t - 3 + 1) + 0; rw [show (if (2 : Int) = 2 then t - 3 else t - 3 + 1 : Int) = t - 3 from if_pos rfl])) (fun e => hn 0 2 (by decide) (by decide) (by decide) (by decide) (by decide) (by decide) (by decide) (by rw [e]; show _ = 4 * (if (0 : Int) = 2 then t - 3 else t - 3 + 1) + 2; rw [show (if (0 : Int) = 2 then t - 3 else t - 3 + 1 : Int) = t - 3 + 1 from if_neg (by decide)]))]
theorem gs_three03 {k : Int} {G : Int → Int} : gS G (k / 16) (fun x => x = 1 ∨ x = 2) = (fun i => (i = k / 16 ∨ i = G (4 * (k / 16) + 1) / 32) ∨ i = G (4 * (k / 16) + 2) / 32) := by
  funext i
  refine propext ⟨fun h => ?_, fun h => ?_⟩
  · rcases h with h | ⟨x, -, -, e | e, h⟩
    · exact Or.inl (Or.inl h)
    · subst e
      exact Or.inl (Or.inr h)
    · subst e
      exact Or.inr h
  · rcases h with (h | h) | h
    · exact Or.inl h
    · exact Or.inr ⟨1, by decide, by decide, Or.inl rfl, h⟩
    · exact Or.inr ⟨2, by decide, by decide, Or.inr rfl, h⟩
theorem fu_three03 {t k : Int} {G H T : Int → Int} (hk : 0 ≤ k ∧ k < 16 * t) (hgl : ∀ x, 0 ≤ x → x < 4 → (fun x => x = 1 ∨ x = 2) x → 0 ≤ G (4 * (k / 16) + x) ∧ 0 ≤ G (4 * (k / 16) + x) % 32 ∧ G (4 * (k / 16) + x) % 32 < 24 ∧ G (4 * (k / 16) + x) / 32 < t) (h3 : k / 16 ≠ G (4 * (k / 16) + 1) / 32 ∧ k / 16 ≠ G (4 * (k / 16) + 2) / 32 ∧ G (4 * (k / 16) + 1) / 32 ≠ G (4 * (k / 16) + 2) / 32) (hL : ∀ j, 0 ≤ j → j < 4 * t → H j = lo (fun i => (i = k / 16 ∨ i = G (4 * (k / 16) + 1) / 32) ∨ i = G (4 * (k / 16) + 2) / 32) j ∧ T j = 0) : FU t G (k / 16) (fun x => x = 1 ∨ x = 2) (fun y => if y = 3 then t - 3 else t - 3 + 1) (uf (uf (uf (uf (uf (uf H (4 * (k / 16) + 3) (t - 3)) (4 * (k / 16) + 0) (t - 3 + 1)) (4 * (G (4 * (k / 16) + 1) / 32) + im (G (4 * (k / 16) + 1) % 32) 3) (t - 3)) (4 * (G (4 * (k / 16) + 1) / 32) + im (G (4 * (k / 16) + 1) % 32) 0) (t - 3 + 1)) (4 * (G (4 * (k / 16) + 2) / 32) + im (G (4 * (k / 16) + 2) % 32) 3) (t - 3)) (4 * (G (4 * (k / 16) + 2) / 32) + im (G (4 * (k / 16) + 2) % 32) 0) (t - 3 + 1)) (uf (uf (uf (uf (uf (uf T (4 * (k / 16) + 3) (0)) (4 * (k / 16) + 0) (0)) (4 * (G (4 * (k / 16) + 1) / 32) + im (G (4 * (k / 16) + 1) % 32) 3) (af (sx 1 3) (iv (G (4 * (k / 16) + 1) % 32)))) (4 * (G (4 * (k / 16) + 1) / 32) + im (G (4 * (k / 16) + 1) % 32) 0) (af (sx 1 0) (iv (G (4 * (k / 16) + 1) % 32)))) (4 * (G (4 * (k / 16) + 2) / 32) + im (G (4 * (k / 16) + 2) % 32) 3) (af (sx 2 3) (iv (G (4 * (k / 16) + 2) % 32)))) (4 * (G (4 * (k / 16) + 2) / 32) + im (G (4 * (k / 16) + 2) % 32) 0) (af (sx 2 0) (iv (G (4 * (k / 16) + 2) % 32)))) := by
  have gx := hgl 1 (by decide) (by decide) (Or.inl rfl)
  have gy := hgl 2 (by decide) (by decide) (Or.inr rfl)
  have x0 := gx.2.1
  have x1 := gx.2.2.1
  have y0 := gy.2.1
  have y1 := gy.2.2.1
  have pb0 := im_in x0 x1 (show (0 : Int) ≤ 0 by decide) (by decide)
  have pb1 := im_in x0 x1 (show (0 : Int) ≤ 1 by decide) (by decide)
  have pb2 := im_in x0 x1 (show (0 : Int) ≤ 2 by decide) (by decide)
  have pb3 := im_in x0 x1 (show (0 : Int) ≤ 3 by decide) (by decide)
  have pn01 : im (G (4 * (k / 16) + 1) % 32) 0 ≠ im (G (4 * (k / 16) + 1) % 32) 1 := fun z => absurd (im_ij x0 x1 (by decide) (by decide) (by decide) (by decide) z) (by decide)
  have pn02 : im (G (4 * (k / 16) + 1) % 32) 0 ≠ im (G (4 * (k / 16) + 1) % 32) 2 := fun z => absurd (im_ij x0 x1 (by decide) (by decide) (by decide) (by decide) z) (by decide)
  have pn03 : im (G (4 * (k / 16) + 1) % 32) 0 ≠ im (G (4 * (k / 16) + 1) % 32) 3 := fun z => absurd (im_ij x0 x1 (by decide) (by decide) (by decide) (by decide) z) (by decide)
  have pn12 : im (G (4 * (k / 16) + 1) % 32) 1 ≠ im (G (4 * (k / 16) + 1) % 32) 2 := fun z => absurd (im_ij x0 x1 (by decide) (by decide) (by decide) (by decide) z) (by decide)
  have pn13 : im (G (4 * (k / 16) + 1) % 32) 1 ≠ im (G (4 * (k / 16) + 1) % 32) 3 := fun z => absurd (im_ij x0 x1 (by decide) (by decide) (by decide) (by decide) z) (by decide)
  have pn23 : im (G (4 * (k / 16) + 1) % 32) 2 ≠ im (G (4 * (k / 16) + 1) % 32) 3 := fun z => absurd (im_ij x0 x1 (by decide) (by decide) (by decide) (by decide) z) (by decide)
  have qb0 := im_in y0 y1 (show (0 : Int) ≤ 0 by decide) (by decide)
  have qb1 := im_in y0 y1 (show (0 : Int) ≤ 1 by decide) (by decide)
  have qb2 := im_in y0 y1 (show (0 : Int) ≤ 2 by decide) (by decide)
  have qb3 := im_in y0 y1 (show (0 : Int) ≤ 3 by decide) (by decide)
  have qn01 : im (G (4 * (k / 16) + 2) % 32) 0 ≠ im (G (4 * (k / 16) + 2) % 32) 1 := fun z => absurd (im_ij y0 y1 (by decide) (by decide) (by decide) (by decide) z) (by decide)
  have qn02 : im (G (4 * (k / 16) + 2) % 32) 0 ≠ im (G (4 * (k / 16) + 2) % 32) 2 := fun z => absurd (im_ij y0 y1 (by decide) (by decide) (by decide) (by decide) z) (by decide)
  have qn03 : im (G (4 * (k / 16) + 2) % 32) 0 ≠ im (G (4 * (k / 16) + 2) % 32) 3 := fun z => absurd (im_ij y0 y1 (by decide) (by decide) (by decide) (by decide) z) (by decide)
  have qn12 : im (G (4 * (k / 16) + 2) % 32) 1 ≠ im (G (4 * (k / 16) + 2) % 32) 2 := fun z => absurd (im_ij y0 y1 (by decide) (by decide) (by decide) (by decide) z) (by decide)
  have qn13 : im (G (4 * (k / 16) + 2) % 32) 1 ≠ im (G (4 * (k / 16) + 2) % 32) 3 := fun z => absurd (im_ij y0 y1 (by decide) (by decide) (by decide) (by decide) z) (by decide)
  have qn23 : im (G (4 * (k / 16) + 2) % 32) 2 ≠ im (G (4 * (k / 16) + 2) % 32) 3 := fun z => absurd (im_ij y0 y1 (by decide) (by decide) (by decide) (by decide) z) (by decide)
  have g11 : 0 ≤ 4 * (G (4 * (k / 16) + 1) / 32) + im (G (4 * (k / 16) + 1) % 32) 1 ∧ 4 * (G (4 * (k / 16) + 1) / 32) + im (G (4 * (k / 16) + 1) % 32) 1 < 4 * t ∧ (4 * (G (4 * (k / 16) + 1) / 32) + im (G (4 * (k / 16) + 1) % 32) 1) / 4 = G (4 * (k / 16) + 1) / 32 := by
    have h1 := pb1
    have h2 := gx
    clear pn01 qn01 pn02 qn02 pn03 qn03 pn12 qn12 pn13 qn13 pn23 qn23 h3
    omega
  have g12 : 0 ≤ 4 * (G (4 * (k / 16) + 1) / 32) + im (G (4 * (k / 16) + 1) % 32) 2 ∧ 4 * (G (4 * (k / 16) + 1) / 32) + im (G (4 * (k / 16) + 1) % 32) 2 < 4 * t ∧ (4 * (G (4 * (k / 16) + 1) / 32) + im (G (4 * (k / 16) + 1) % 32) 2) / 4 = G (4 * (k / 16) + 1) / 32 := by
    have h1 := pb2
    have h2 := gx
    clear pn01 qn01 pn02 qn02 pn03 qn03 pn12 qn12 pn13 qn13 pn23 qn23 h3
    omega
  have g21 : 0 ≤ 4 * (G (4 * (k / 16) + 2) / 32) + im (G (4 * (k / 16) + 2) % 32) 1 ∧ 4 * (G (4 * (k / 16) + 2) / 32) + im (G (4 * (k / 16) + 2) % 32) 1 < 4 * t ∧ (4 * (G (4 * (k / 16) + 2) / 32) + im (G (4 * (k / 16) + 2) % 32) 1) / 4 = G (4 * (k / 16) + 2) / 32 := by
    have h1 := qb1
    have h2 := gy
    clear pn01 qn01 pn02 qn02 pn03 qn03 pn12 qn12 pn13 qn13 pn23 qn23 h3
    omega
  have g22 : 0 ≤ 4 * (G (4 * (k / 16) + 2) / 32) + im (G (4 * (k / 16) + 2) % 32) 2 ∧ 4 * (G (4 * (k / 16) + 2) / 32) + im (G (4 * (k / 16) + 2) % 32) 2 < 4 * t ∧ (4 * (G (4 * (k / 16) + 2) / 32) + im (G (4 * (k / 16) + 2) % 32) 2) / 4 = G (4 * (k / 16) + 2) / 32 := by
    have h1 := qb2
    have h2 := gy
    clear pn01 qn01 pn02 qn02 pn03 qn03 pn12 qn12 pn13 qn13 pn23 qn23 h3
    omega
  have ga : ∀ x, 0 ≤ x → x < 4 → 0 ≤ 4 * (k / 16) + x ∧ 4 * (k / 16) + x < 4 * t ∧ (4 * (k / 16) + x) / 4 = k / 16 := by
    clear pn01 qn01 pn02 qn02 pn03 qn03 pn12 qn12 pn13 qn13 pn23 qn23 h3
    intro x a b
    omega
  unfold FU fX bX pX
  rw [gs_three03]
  refine ⟨fun F F0 F1 hS => ?_, fun y y0 y1 hy => ?_, fun x y x0 x1 hx y0 y1 hy => ?_, fun x x0 x1 hx => ?_, fun x c x0 x1 hx c0 c1 hc => ?_⟩
  · have hS1 : F / 4 ≠ k / 16 := fun e => hS (Or.inl (Or.inl e))
    have hS2 : F / 4 ≠ G (4 * (k / 16) + 1) / 32 := fun e => hS (Or.inl (Or.inr e))
    have hS3 : F / 4 ≠ G (4 * (k / 16) + 2) / 32 := fun e => hS (Or.inr e)
    refine ⟨?_, ?_⟩
    · rw [uf_n (nF hS3 qb0.1 qb0.2), uf_n (nF hS3 qb3.1 qb3.2), uf_n (nF hS2 pb0.1 pb0.2), uf_n (nF hS2 pb3.1 pb3.2), uf_n (nF hS1 (by decide) (by decide)), uf_n (nF hS1 (by decide) (by decide)), (hL F F0 F1).1, lo_n hS]
    · rw [uf_n (nF hS3 qb0.1 qb0.2), uf_n (nF hS3 qb3.1 qb3.2), uf_n (nF hS2 pb0.1 pb0.2), uf_n (nF hS2 pb3.1 pb3.2), uf_n (nF hS1 (by decide) (by decide)), uf_n (nF hS1 (by decide) (by decide)), (hL F F0 F1).2]
  · rcases four_of y0 y1 with ey | ey | ey | ey <;> subst ey
    · refine ⟨?_, ?_⟩
      · rw [uf_n (nAB h3.2.1 (by decide) (by decide) qb0.1 qb0.2), uf_n (nAB h3.2.1 (by decide) (by decide) qb3.1 qb3.2), uf_n (nAB h3.1 (by decide) (by decide) pb0.1 pb0.2), uf_n (nAB h3.1 (by decide) (by decide) pb3.1 pb3.2), uf_s]
        exact (if_neg (by decide)).symm
      · rw [uf_n (nAB h3.2.1 (by decide) (by decide) qb0.1 qb0.2), uf_n (nAB h3.2.1 (by decide) (by decide) qb3.1 qb3.2), uf_n (nAB h3.1 (by decide) (by decide) pb0.1 pb0.2), uf_n (nAB h3.1 (by decide) (by decide) pb3.1 pb3.2), uf_s]
    · exact absurd (Or.inl rfl) hy
    · exact absurd (Or.inr rfl) hy
    · refine ⟨?_, ?_⟩
      · rw [uf_n (nAB h3.2.1 (by decide) (by decide) qb0.1 qb0.2), uf_n (nAB h3.2.1 (by decide) (by decide) qb3.1 qb3.2), uf_n (nAB h3.1 (by decide) (by decide) pb0.1 pb0.2), uf_n (nAB h3.1 (by decide) (by decide) pb3.1 pb3.2), uf_n (nAA (by decide)), uf_s]
        exact (if_pos rfl).symm
      · rw [uf_n (nAB h3.2.1 (by decide) (by decide) qb0.1 qb0.2), uf_n (nAB h3.2.1 (by decide) (by decide) qb3.1 qb3.2), uf_n (nAB h3.1 (by decide) (by decide) pb0.1 pb0.2), uf_n (nAB h3.1 (by decide) (by decide) pb3.1 pb3.2), uf_n (nAA (by decide)), uf_s]
  · rcases hx with hx | hx <;> subst hx
    · rcases four_of y0 y1 with ey | ey | ey | ey <;> subst ey
      · refine ⟨?_, ?_⟩
        · rw [uf_n (nAB h3.2.2 pb0.1 pb0.2 qb0.1 qb0.2), uf_n (nAB h3.2.2 pb0.1 pb0.2 qb3.1 qb3.2), uf_s]
          exact (if_neg (by decide)).symm
        · rw [uf_n (nAB h3.2.2 pb0.1 pb0.2 qb0.1 qb0.2), uf_n (nAB h3.2.2 pb0.1 pb0.2 qb3.1 qb3.2), uf_s]
      · exact absurd (Or.inl rfl) hy
      · exact absurd (Or.inr rfl) hy
      · refine ⟨?_, ?_⟩
        · rw [uf_n (nAB h3.2.2 pb3.1 pb3.2 qb0.1 qb0.2), uf_n (nAB h3.2.2 pb3.1 pb3.2 qb3.1 qb3.2), uf_n (nAA (Ne.symm pn03)), uf_s]
          exact (if_pos rfl).symm
        · rw [uf_n (nAB h3.2.2 pb3.1 pb3.2 qb0.1 qb0.2), uf_n (nAB h3.2.2 pb3.1 pb3.2 qb3.1 qb3.2), uf_n (nAA (Ne.symm pn03)), uf_s]
    · rcases four_of y0 y1 with ey | ey | ey | ey <;> subst ey
      · refine ⟨?_, ?_⟩
        · rw [uf_s]
          exact (if_neg (by decide)).symm
        · rw [uf_s]
      · exact absurd (Or.inl rfl) hy
      · exact absurd (Or.inr rfl) hy
      · refine ⟨?_, ?_⟩
        · rw [uf_n (nAA (Ne.symm qn03)), uf_s]
          exact (if_pos rfl).symm
        · rw [uf_n (nAA (Ne.symm qn03)), uf_s]
  · rcases hx with hx | hx <;> subst hx
    · rw [uf_n (nAB h3.2.1 (by decide) (by decide) qb0.1 qb0.2), uf_n (nAB h3.2.1 (by decide) (by decide) qb3.1 qb3.2), uf_n (nAB h3.1 (by decide) (by decide) pb0.1 pb0.2), uf_n (nAB h3.1 (by decide) (by decide) pb3.1 pb3.2), uf_n (nAA (by decide)), uf_n (nAA (by decide)), (hL _ (ga 1 (by decide) (by decide)).1 (ga 1 (by decide) (by decide)).2.1).1, lo_y (Or.inl (Or.inl (ga 1 (by decide) (by decide)).2.2))]
    · rw [uf_n (nAB h3.2.1 (by decide) (by decide) qb0.1 qb0.2), uf_n (nAB h3.2.1 (by decide) (by decide) qb3.1 qb3.2), uf_n (nAB h3.1 (by decide) (by decide) pb0.1 pb0.2), uf_n (nAB h3.1 (by decide) (by decide) pb3.1 pb3.2), uf_n (nAA (by decide)), uf_n (nAA (by decide)), (hL _ (ga 2 (by decide) (by decide)).1 (ga 2 (by decide) (by decide)).2.1).1, lo_y (Or.inl (Or.inl (ga 2 (by decide) (by decide)).2.2))]
  · rcases hx with hx | hx <;> rcases hc with hc | hc <;> subst hx <;> subst hc
    · rw [uf_n (nAB h3.2.2 pb1.1 pb1.2 qb0.1 qb0.2), uf_n (nAB h3.2.2 pb1.1 pb1.2 qb3.1 qb3.2), uf_n (nAA (Ne.symm pn01)), uf_n (nAA pn13), uf_n (nAB (Ne.symm h3.1) pb1.1 pb1.2 (by decide) (by decide)), uf_n (nAB (Ne.symm h3.1) pb1.1 pb1.2 (by decide) (by decide)), (hL _ g11.1 g11.2.1).1, lo_y (Or.inl (Or.inr g11.2.2))]
    · rw [uf_n (nAB h3.2.2 pb2.1 pb2.2 qb0.1 qb0.2), uf_n (nAB h3.2.2 pb2.1 pb2.2 qb3.1 qb3.2), uf_n (nAA (Ne.symm pn02)), uf_n (nAA pn23), uf_n (nAB (Ne.symm h3.1) pb2.1 pb2.2 (by decide) (by decide)), uf_n (nAB (Ne.symm h3.1) pb2.1 pb2.2 (by decide) (by decide)), (hL _ g12.1 g12.2.1).1, lo_y (Or.inl (Or.inr g12.2.2))]
    · rw [uf_n (nAA (Ne.symm qn01)), uf_n (nAA qn13), uf_n (nAB (Ne.symm h3.2.2) qb1.1 qb1.2 pb0.1 pb0.2), uf_n (nAB (Ne.symm h3.2.2) qb1.1 qb1.2 pb3.1 pb3.2), uf_n (nAB (Ne.symm h3.2.1) qb1.1 qb1.2 (by decide) (by decide)), uf_n (nAB (Ne.symm h3.2.1) qb1.1 qb1.2 (by decide) (by decide)), (hL _ g21.1 g21.2.1).1, lo_y ((Or.inr g21.2.2))]
    · rw [uf_n (nAA (Ne.symm qn02)), uf_n (nAA qn23), uf_n (nAB (Ne.symm h3.2.2) qb2.1 qb2.2 pb0.1 pb0.2), uf_n (nAB (Ne.symm h3.2.2) qb2.1 qb2.2 pb3.1 pb3.2), uf_n (nAB (Ne.symm h3.2.1) qb2.1 qb2.2 (by decide) (by decide)), uf_n (nAB (Ne.symm h3.2.1) qb2.1 qb2.2 (by decide) (by decide)), (hL _ g22.1 g22.2.1).1, lo_y ((Or.inr g22.2.2))]

theorem fc_three03 {t : Int} {G H T : Int → Int} : FC G t (fun x => x = 1 ∨ x = 2) (fun y => if y = 3 then t - 3 else t - 3 + 1) H T (fj (cy G H T (fun _ => -1) (4 * t).toNat) (t - 3) (t - 3 + 1) 3 0) := by
  obtain ⟨s01, s02, s03, s12, s13, s23, s10, s20, s30, s21, s31, s32⟩ := sx_v
  refine ⟨fun y z y0 y1 hy z0 z1 hz ne => ?_, fun n hn => ?_⟩
  · rcases four_of y0 y1 with ey | ey | ey | ey <;> rcases four_of z0 z1 with ez | ez | ez | ez <;> subst ey <;> subst ez
    · exact absurd rfl ne
    · exact absurd (Or.inl rfl) hz
    · exact absurd (Or.inr rfl) hz
    · show _ = 32 * (if (3 : Int) = 3 then t - 3 else t - 3 + 1) + sx 0 3
      rw [show (4 * (if (0 : Int) = 3 then t - 3 else t - 3 + 1) + 3 : Int) = 4 * (t - 3 + 1) + 3 from by rw [show (if (0 : Int) = 3 then t - 3 else t - 3 + 1 : Int) = t - 3 + 1 from if_neg (by decide)], show (if (3 : Int) = 3 then t - 3 else t - 3 + 1 : Int) = t - 3 from if_pos rfl, fj_2, s03, s30]
    · exact absurd (Or.inl rfl) hy
    · exact absurd rfl ne
    · exact absurd (Or.inl rfl) hy
    · exact absurd (Or.inl rfl) hy
    · exact absurd (Or.inr rfl) hy
    · exact absurd (Or.inr rfl) hy
    · exact absurd rfl ne
    · exact absurd (Or.inr rfl) hy
    · show _ = 32 * (if (0 : Int) = 3 then t - 3 else t - 3 + 1) + sx 3 0
      rw [show (4 * (if (3 : Int) = 3 then t - 3 else t - 3 + 1) + 0 : Int) = 4 * (t - 3) + 0 from by rw [show (if (3 : Int) = 3 then t - 3 else t - 3 + 1 : Int) = t - 3 from if_pos rfl], show (if (0 : Int) = 3 then t - 3 else t - 3 + 1 : Int) = t - 3 + 1 from if_neg (by decide), fj_1 (by omega)]
    · exact absurd (Or.inl rfl) hz
    · exact absurd (Or.inr rfl) hz
    · exact absurd rfl ne
  · rw [fj_out (fun e => hn 3 0 (by decide) (by decide) (by decide) (by decide) (by decide) (by decide) (by decide) (by rw [e]; show _ = 4 * (if (3 : Int) = 3 then t - 3 else t - 3 + 1) + 0; rw [show (if (3 : Int) = 3 then t - 3 else t - 3 + 1 : Int) = t - 3 from if_pos rfl])) (fun e => hn 0 3 (by decide) (by decide) (by decide) (by decide) (by decide) (by decide) (by decide) (by rw [e]; show _ = 4 * (if (0 : Int) = 3 then t - 3 else t - 3 + 1) + 3; rw [show (if (0 : Int) = 3 then t - 3 else t - 3 + 1 : Int) = t - 3 + 1 from if_neg (by decide)]))]
theorem gs_three12 {k : Int} {G : Int → Int} : gS G (k / 16) (fun x => x = 0 ∨ x = 3) = (fun i => (i = k / 16 ∨ i = G (4 * (k / 16) + 0) / 32) ∨ i = G (4 * (k / 16) + 3) / 32) := by
  funext i
  refine propext ⟨fun h => ?_, fun h => ?_⟩
  · rcases h with h | ⟨x, -, -, e | e, h⟩
    · exact Or.inl (Or.inl h)
    · subst e
      exact Or.inl (Or.inr h)
    · subst e
      exact Or.inr h
  · rcases h with (h | h) | h
    · exact Or.inl h
    · exact Or.inr ⟨0, by decide, by decide, Or.inl rfl, h⟩
    · exact Or.inr ⟨3, by decide, by decide, Or.inr rfl, h⟩
theorem fu_three12 {t k : Int} {G H T : Int → Int} (hk : 0 ≤ k ∧ k < 16 * t) (hgl : ∀ x, 0 ≤ x → x < 4 → (fun x => x = 0 ∨ x = 3) x → 0 ≤ G (4 * (k / 16) + x) ∧ 0 ≤ G (4 * (k / 16) + x) % 32 ∧ G (4 * (k / 16) + x) % 32 < 24 ∧ G (4 * (k / 16) + x) / 32 < t) (h3 : k / 16 ≠ G (4 * (k / 16) + 0) / 32 ∧ k / 16 ≠ G (4 * (k / 16) + 3) / 32 ∧ G (4 * (k / 16) + 0) / 32 ≠ G (4 * (k / 16) + 3) / 32) (hL : ∀ j, 0 ≤ j → j < 4 * t → H j = lo (fun i => (i = k / 16 ∨ i = G (4 * (k / 16) + 0) / 32) ∨ i = G (4 * (k / 16) + 3) / 32) j ∧ T j = 0) : FU t G (k / 16) (fun x => x = 0 ∨ x = 3) (fun y => if y = 2 then t - 3 else t - 3 + 1) (uf (uf (uf (uf (uf (uf H (4 * (k / 16) + 2) (t - 3)) (4 * (k / 16) + 1) (t - 3 + 1)) (4 * (G (4 * (k / 16) + 0) / 32) + im (G (4 * (k / 16) + 0) % 32) 2) (t - 3)) (4 * (G (4 * (k / 16) + 0) / 32) + im (G (4 * (k / 16) + 0) % 32) 1) (t - 3 + 1)) (4 * (G (4 * (k / 16) + 3) / 32) + im (G (4 * (k / 16) + 3) % 32) 2) (t - 3)) (4 * (G (4 * (k / 16) + 3) / 32) + im (G (4 * (k / 16) + 3) % 32) 1) (t - 3 + 1)) (uf (uf (uf (uf (uf (uf T (4 * (k / 16) + 2) (0)) (4 * (k / 16) + 1) (0)) (4 * (G (4 * (k / 16) + 0) / 32) + im (G (4 * (k / 16) + 0) % 32) 2) (af (sx 0 2) (iv (G (4 * (k / 16) + 0) % 32)))) (4 * (G (4 * (k / 16) + 0) / 32) + im (G (4 * (k / 16) + 0) % 32) 1) (af (sx 0 1) (iv (G (4 * (k / 16) + 0) % 32)))) (4 * (G (4 * (k / 16) + 3) / 32) + im (G (4 * (k / 16) + 3) % 32) 2) (af (sx 3 2) (iv (G (4 * (k / 16) + 3) % 32)))) (4 * (G (4 * (k / 16) + 3) / 32) + im (G (4 * (k / 16) + 3) % 32) 1) (af (sx 3 1) (iv (G (4 * (k / 16) + 3) % 32)))) := by
  have gx := hgl 0 (by decide) (by decide) (Or.inl rfl)
  have gy := hgl 3 (by decide) (by decide) (Or.inr rfl)
  have x0 := gx.2.1
  have x1 := gx.2.2.1
  have y0 := gy.2.1
  have y1 := gy.2.2.1
  have pb0 := im_in x0 x1 (show (0 : Int) ≤ 0 by decide) (by decide)
  have pb1 := im_in x0 x1 (show (0 : Int) ≤ 1 by decide) (by decide)
  have pb2 := im_in x0 x1 (show (0 : Int) ≤ 2 by decide) (by decide)
  have pb3 := im_in x0 x1 (show (0 : Int) ≤ 3 by decide) (by decide)
  have pn01 : im (G (4 * (k / 16) + 0) % 32) 0 ≠ im (G (4 * (k / 16) + 0) % 32) 1 := fun z => absurd (im_ij x0 x1 (by decide) (by decide) (by decide) (by decide) z) (by decide)
  have pn02 : im (G (4 * (k / 16) + 0) % 32) 0 ≠ im (G (4 * (k / 16) + 0) % 32) 2 := fun z => absurd (im_ij x0 x1 (by decide) (by decide) (by decide) (by decide) z) (by decide)
  have pn03 : im (G (4 * (k / 16) + 0) % 32) 0 ≠ im (G (4 * (k / 16) + 0) % 32) 3 := fun z => absurd (im_ij x0 x1 (by decide) (by decide) (by decide) (by decide) z) (by decide)
  have pn12 : im (G (4 * (k / 16) + 0) % 32) 1 ≠ im (G (4 * (k / 16) + 0) % 32) 2 := fun z => absurd (im_ij x0 x1 (by decide) (by decide) (by decide) (by decide) z) (by decide)
  have pn13 : im (G (4 * (k / 16) + 0) % 32) 1 ≠ im (G (4 * (k / 16) + 0) % 32) 3 := fun z => absurd (im_ij x0 x1 (by decide) (by decide) (by decide) (by decide) z) (by decide)
  have pn23 : im (G (4 * (k / 16) + 0) % 32) 2 ≠ im (G (4 * (k / 16) + 0) % 32) 3 := fun z => absurd (im_ij x0 x1 (by decide) (by decide) (by decide) (by decide) z) (by decide)
  have qb0 := im_in y0 y1 (show (0 : Int) ≤ 0 by decide) (by decide)
  have qb1 := im_in y0 y1 (show (0 : Int) ≤ 1 by decide) (by decide)
  have qb2 := im_in y0 y1 (show (0 : Int) ≤ 2 by decide) (by decide)
  have qb3 := im_in y0 y1 (show (0 : Int) ≤ 3 by decide) (by decide)
  have qn01 : im (G (4 * (k / 16) + 3) % 32) 0 ≠ im (G (4 * (k / 16) + 3) % 32) 1 := fun z => absurd (im_ij y0 y1 (by decide) (by decide) (by decide) (by decide) z) (by decide)
  have qn02 : im (G (4 * (k / 16) + 3) % 32) 0 ≠ im (G (4 * (k / 16) + 3) % 32) 2 := fun z => absurd (im_ij y0 y1 (by decide) (by decide) (by decide) (by decide) z) (by decide)
  have qn03 : im (G (4 * (k / 16) + 3) % 32) 0 ≠ im (G (4 * (k / 16) + 3) % 32) 3 := fun z => absurd (im_ij y0 y1 (by decide) (by decide) (by decide) (by decide) z) (by decide)
  have qn12 : im (G (4 * (k / 16) + 3) % 32) 1 ≠ im (G (4 * (k / 16) + 3) % 32) 2 := fun z => absurd (im_ij y0 y1 (by decide) (by decide) (by decide) (by decide) z) (by decide)
  have qn13 : im (G (4 * (k / 16) + 3) % 32) 1 ≠ im (G (4 * (k / 16) + 3) % 32) 3 := fun z => absurd (im_ij y0 y1 (by decide) (by decide) (by decide) (by decide) z) (by decide)
  have qn23 : im (G (4 * (k / 16) + 3) % 32) 2 ≠ im (G (4 * (k / 16) + 3) % 32) 3 := fun z => absurd (im_ij y0 y1 (by decide) (by decide) (by decide) (by decide) z) (by decide)
  have g00 : 0 ≤ 4 * (G (4 * (k / 16) + 0) / 32) + im (G (4 * (k / 16) + 0) % 32) 0 ∧ 4 * (G (4 * (k / 16) + 0) / 32) + im (G (4 * (k / 16) + 0) % 32) 0 < 4 * t ∧ (4 * (G (4 * (k / 16) + 0) / 32) + im (G (4 * (k / 16) + 0) % 32) 0) / 4 = G (4 * (k / 16) + 0) / 32 := by
    have h1 := pb0
    have h2 := gx
    clear pn01 qn01 pn02 qn02 pn03 qn03 pn12 qn12 pn13 qn13 pn23 qn23 h3
    omega
  have g03 : 0 ≤ 4 * (G (4 * (k / 16) + 0) / 32) + im (G (4 * (k / 16) + 0) % 32) 3 ∧ 4 * (G (4 * (k / 16) + 0) / 32) + im (G (4 * (k / 16) + 0) % 32) 3 < 4 * t ∧ (4 * (G (4 * (k / 16) + 0) / 32) + im (G (4 * (k / 16) + 0) % 32) 3) / 4 = G (4 * (k / 16) + 0) / 32 := by
    have h1 := pb3
    have h2 := gx
    clear pn01 qn01 pn02 qn02 pn03 qn03 pn12 qn12 pn13 qn13 pn23 qn23 h3
    omega
  have g30 : 0 ≤ 4 * (G (4 * (k / 16) + 3) / 32) + im (G (4 * (k / 16) + 3) % 32) 0 ∧ 4 * (G (4 * (k / 16) + 3) / 32) + im (G (4 * (k / 16) + 3) % 32) 0 < 4 * t ∧ (4 * (G (4 * (k / 16) + 3) / 32) + im (G (4 * (k / 16) + 3) % 32) 0) / 4 = G (4 * (k / 16) + 3) / 32 := by
    have h1 := qb0
    have h2 := gy
    clear pn01 qn01 pn02 qn02 pn03 qn03 pn12 qn12 pn13 qn13 pn23 qn23 h3
    omega
  have g33 : 0 ≤ 4 * (G (4 * (k / 16) + 3) / 32) + im (G (4 * (k / 16) + 3) % 32) 3 ∧ 4 * (G (4 * (k / 16) + 3) / 32) + im (G (4 * (k / 16) + 3) % 32) 3 < 4 * t ∧ (4 * (G (4 * (k / 16) + 3) / 32) + im (G (4 * (k / 16) + 3) % 32) 3) / 4 = G (4 * (k / 16) + 3) / 32 := by
    have h1 := qb3
    have h2 := gy
    clear pn01 qn01 pn02 qn02 pn03 qn03 pn12 qn12 pn13 qn13 pn23 qn23 h3
    omega
  have ga : ∀ x, 0 ≤ x → x < 4 → 0 ≤ 4 * (k / 16) + x ∧ 4 * (k / 16) + x < 4 * t ∧ (4 * (k / 16) + x) / 4 = k / 16 := by
    clear pn01 qn01 pn02 qn02 pn03 qn03 pn12 qn12 pn13 qn13 pn23 qn23 h3
    intro x a b
    omega
  unfold FU fX bX pX
  rw [gs_three12]
  refine ⟨fun F F0 F1 hS => ?_, fun y y0 y1 hy => ?_, fun x y x0 x1 hx y0 y1 hy => ?_, fun x x0 x1 hx => ?_, fun x c x0 x1 hx c0 c1 hc => ?_⟩
  · have hS1 : F / 4 ≠ k / 16 := fun e => hS (Or.inl (Or.inl e))
    have hS2 : F / 4 ≠ G (4 * (k / 16) + 0) / 32 := fun e => hS (Or.inl (Or.inr e))
    have hS3 : F / 4 ≠ G (4 * (k / 16) + 3) / 32 := fun e => hS (Or.inr e)
    refine ⟨?_, ?_⟩
    · rw [uf_n (nF hS3 qb1.1 qb1.2), uf_n (nF hS3 qb2.1 qb2.2), uf_n (nF hS2 pb1.1 pb1.2), uf_n (nF hS2 pb2.1 pb2.2), uf_n (nF hS1 (by decide) (by decide)), uf_n (nF hS1 (by decide) (by decide)), (hL F F0 F1).1, lo_n hS]
    · rw [uf_n (nF hS3 qb1.1 qb1.2), uf_n (nF hS3 qb2.1 qb2.2), uf_n (nF hS2 pb1.1 pb1.2), uf_n (nF hS2 pb2.1 pb2.2), uf_n (nF hS1 (by decide) (by decide)), uf_n (nF hS1 (by decide) (by decide)), (hL F F0 F1).2]
  · rcases four_of y0 y1 with ey | ey | ey | ey <;> subst ey
    · exact absurd (Or.inl rfl) hy
    · refine ⟨?_, ?_⟩
      · rw [uf_n (nAB h3.2.1 (by decide) (by decide) qb1.1 qb1.2), uf_n (nAB h3.2.1 (by decide) (by decide) qb2.1 qb2.2), uf_n (nAB h3.1 (by decide) (by decide) pb1.1 pb1.2), uf_n (nAB h3.1 (by decide) (by decide) pb2.1 pb2.2), uf_s]
        exact (if_neg (by decide)).symm
      · rw [uf_n (nAB h3.2.1 (by decide) (by decide) qb1.1 qb1.2), uf_n (nAB h3.2.1 (by decide) (by decide) qb2.1 qb2.2), uf_n (nAB h3.1 (by decide) (by decide) pb1.1 pb1.2), uf_n (nAB h3.1 (by decide) (by decide) pb2.1 pb2.2), uf_s]
    · refine ⟨?_, ?_⟩
      · rw [uf_n (nAB h3.2.1 (by decide) (by decide) qb1.1 qb1.2), uf_n (nAB h3.2.1 (by decide) (by decide) qb2.1 qb2.2), uf_n (nAB h3.1 (by decide) (by decide) pb1.1 pb1.2), uf_n (nAB h3.1 (by decide) (by decide) pb2.1 pb2.2), uf_n (nAA (by decide)), uf_s]
        exact (if_pos rfl).symm
      · rw [uf_n (nAB h3.2.1 (by decide) (by decide) qb1.1 qb1.2), uf_n (nAB h3.2.1 (by decide) (by decide) qb2.1 qb2.2), uf_n (nAB h3.1 (by decide) (by decide) pb1.1 pb1.2), uf_n (nAB h3.1 (by decide) (by decide) pb2.1 pb2.2), uf_n (nAA (by decide)), uf_s]
    · exact absurd (Or.inr rfl) hy
  · rcases hx with hx | hx <;> subst hx
    · rcases four_of y0 y1 with ey | ey | ey | ey <;> subst ey
      · exact absurd (Or.inl rfl) hy
      · refine ⟨?_, ?_⟩
        · rw [uf_n (nAB h3.2.2 pb1.1 pb1.2 qb1.1 qb1.2), uf_n (nAB h3.2.2 pb1.1 pb1.2 qb2.1 qb2.2), uf_s]
          exact (if_neg (by decide)).symm
        · rw [uf_n (nAB h3.2.2 pb1.1 pb1.2 qb1.1 qb1.2), uf_n (nAB h3.2.2 pb1.1 pb1.2 qb2.1 qb2.2), uf_s]
      · refine ⟨?_, ?_⟩
        · rw [uf_n (nAB h3.2.2 pb2.1 pb2.2 qb1.1 qb1.2), uf_n (nAB h3.2.2 pb2.1 pb2.2 qb2.1 qb2.2), uf_n (nAA (Ne.symm pn12)), uf_s]
          exact (if_pos rfl).symm
        · rw [uf_n (nAB h3.2.2 pb2.1 pb2.2 qb1.1 qb1.2), uf_n (nAB h3.2.2 pb2.1 pb2.2 qb2.1 qb2.2), uf_n (nAA (Ne.symm pn12)), uf_s]
      · exact absurd (Or.inr rfl) hy
    · rcases four_of y0 y1 with ey | ey | ey | ey <;> subst ey
      · exact absurd (Or.inl rfl) hy
      · refine ⟨?_, ?_⟩
        · rw [uf_s]
          exact (if_neg (by decide)).symm
        · rw [uf_s]
      · refine ⟨?_, ?_⟩
        · rw [uf_n (nAA (Ne.symm qn12)), uf_s]
          exact (if_pos rfl).symm
        · rw [uf_n (nAA (Ne.symm qn12)), uf_s]
      · exact absurd (Or.inr rfl) hy
  · rcases hx with hx | hx <;> subst hx
    · rw [uf_n (nAB h3.2.1 (by decide) (by decide) qb1.1 qb1.2), uf_n (nAB h3.2.1 (by decide) (by decide) qb2.1 qb2.2), uf_n (nAB h3.1 (by decide) (by decide) pb1.1 pb1.2), uf_n (nAB h3.1 (by decide) (by decide) pb2.1 pb2.2), uf_n (nAA (by decide)), uf_n (nAA (by decide)), (hL _ (ga 0 (by decide) (by decide)).1 (ga 0 (by decide) (by decide)).2.1).1, lo_y (Or.inl (Or.inl (ga 0 (by decide) (by decide)).2.2))]
    · rw [uf_n (nAB h3.2.1 (by decide) (by decide) qb1.1 qb1.2), uf_n (nAB h3.2.1 (by decide) (by decide) qb2.1 qb2.2), uf_n (nAB h3.1 (by decide) (by decide) pb1.1 pb1.2), uf_n (nAB h3.1 (by decide) (by decide) pb2.1 pb2.2), uf_n (nAA (by decide)), uf_n (nAA (by decide)), (hL _ (ga 3 (by decide) (by decide)).1 (ga 3 (by decide) (by decide)).2.1).1, lo_y (Or.inl (Or.inl (ga 3 (by decide) (by decide)).2.2))]
  · rcases hx with hx | hx <;> rcases hc with hc | hc <;> subst hx <;> subst hc
    · rw [uf_n (nAB h3.2.2 pb0.1 pb0.2 qb1.1 qb1.2), uf_n (nAB h3.2.2 pb0.1 pb0.2 qb2.1 qb2.2), uf_n (nAA pn01), uf_n (nAA pn02), uf_n (nAB (Ne.symm h3.1) pb0.1 pb0.2 (by decide) (by decide)), uf_n (nAB (Ne.symm h3.1) pb0.1 pb0.2 (by decide) (by decide)), (hL _ g00.1 g00.2.1).1, lo_y (Or.inl (Or.inr g00.2.2))]
    · rw [uf_n (nAB h3.2.2 pb3.1 pb3.2 qb1.1 qb1.2), uf_n (nAB h3.2.2 pb3.1 pb3.2 qb2.1 qb2.2), uf_n (nAA (Ne.symm pn13)), uf_n (nAA (Ne.symm pn23)), uf_n (nAB (Ne.symm h3.1) pb3.1 pb3.2 (by decide) (by decide)), uf_n (nAB (Ne.symm h3.1) pb3.1 pb3.2 (by decide) (by decide)), (hL _ g03.1 g03.2.1).1, lo_y (Or.inl (Or.inr g03.2.2))]
    · rw [uf_n (nAA qn01), uf_n (nAA qn02), uf_n (nAB (Ne.symm h3.2.2) qb0.1 qb0.2 pb1.1 pb1.2), uf_n (nAB (Ne.symm h3.2.2) qb0.1 qb0.2 pb2.1 pb2.2), uf_n (nAB (Ne.symm h3.2.1) qb0.1 qb0.2 (by decide) (by decide)), uf_n (nAB (Ne.symm h3.2.1) qb0.1 qb0.2 (by decide) (by decide)), (hL _ g30.1 g30.2.1).1, lo_y ((Or.inr g30.2.2))]
    · rw [uf_n (nAA (Ne.symm qn13)), uf_n (nAA (Ne.symm qn23)), uf_n (nAB (Ne.symm h3.2.2) qb3.1 qb3.2 pb1.1 pb1.2), uf_n (nAB (Ne.symm h3.2.2) qb3.1 qb3.2 pb2.1 pb2.2), uf_n (nAB (Ne.symm h3.2.1) qb3.1 qb3.2 (by decide) (by decide)), uf_n (nAB (Ne.symm h3.2.1) qb3.1 qb3.2 (by decide) (by decide)), (hL _ g33.1 g33.2.1).1, lo_y ((Or.inr g33.2.2))]

theorem fc_three12 {t : Int} {G H T : Int → Int} : FC G t (fun x => x = 0 ∨ x = 3) (fun y => if y = 2 then t - 3 else t - 3 + 1) H T (fj (cy G H T (fun _ => -1) (4 * t).toNat) (t - 3) (t - 3 + 1) 2 1) := by
  obtain ⟨s01, s02, s03, s12, s13, s23, s10, s20, s30, s21, s31, s32⟩ := sx_v
  refine ⟨fun y z y0 y1 hy z0 z1 hz ne => ?_, fun n hn => ?_⟩
  · rcases four_of y0 y1 with ey | ey | ey | ey <;> rcases four_of z0 z1 with ez | ez | ez | ez <;> subst ey <;> subst ez
    · exact absurd rfl ne
    · exact absurd (Or.inl rfl) hy
    · exact absurd (Or.inl rfl) hy
    · exact absurd (Or.inl rfl) hy
    · exact absurd (Or.inl rfl) hz
    · exact absurd rfl ne
    · show _ = 32 * (if (2 : Int) = 2 then t - 3 else t - 3 + 1) + sx 1 2
      rw [show (4 * (if (1 : Int) = 2 then t - 3 else t - 3 + 1) + 2 : Int) = 4 * (t - 3 + 1) + 2 from by rw [show (if (1 : Int) = 2 then t - 3 else t - 3 + 1 : Int) = t - 3 + 1 from if_neg (by decide)], show (if (2 : Int) = 2 then t - 3 else t - 3 + 1 : Int) = t - 3 from if_pos rfl, fj_2, s12, s21]
    · exact absurd (Or.inr rfl) hz
    · exact absurd (Or.inl rfl) hz
    · show _ = 32 * (if (1 : Int) = 2 then t - 3 else t - 3 + 1) + sx 2 1
      rw [show (4 * (if (2 : Int) = 2 then t - 3 else t - 3 + 1) + 1 : Int) = 4 * (t - 3) + 1 from by rw [show (if (2 : Int) = 2 then t - 3 else t - 3 + 1 : Int) = t - 3 from if_pos rfl], show (if (1 : Int) = 2 then t - 3 else t - 3 + 1 : Int) = t - 3 + 1 from if_neg (by decide), fj_1 (by omega)]
    · exact absurd rfl ne
    · exact absurd (Or.inr rfl) hz
    · exact absurd (Or.inr rfl) hy
    · exact absurd (Or.inr rfl) hy
    · exact absurd (Or.inr rfl) hy
    · exact absurd rfl ne
  · rw [fj_out (fun e => hn 2 1 (by decide) (by decide) (by decide) (by decide) (by decide) (by decide) (by decide) (by rw [e]; show _ = 4 * (if (2 : Int) = 2 then t - 3 else t - 3 + 1) + 1; rw [show (if (2 : Int) = 2 then t - 3 else t - 3 + 1 : Int) = t - 3 from if_pos rfl])) (fun e => hn 1 2 (by decide) (by decide) (by decide) (by decide) (by decide) (by decide) (by decide) (by rw [e]; show _ = 4 * (if (1 : Int) = 2 then t - 3 else t - 3 + 1) + 2; rw [show (if (1 : Int) = 2 then t - 3 else t - 3 + 1 : Int) = t - 3 + 1 from if_neg (by decide)]))]
theorem gs_three13 {k : Int} {G : Int → Int} : gS G (k / 16) (fun x => x = 0 ∨ x = 2) = (fun i => (i = k / 16 ∨ i = G (4 * (k / 16) + 0) / 32) ∨ i = G (4 * (k / 16) + 2) / 32) := by
  funext i
  refine propext ⟨fun h => ?_, fun h => ?_⟩
  · rcases h with h | ⟨x, -, -, e | e, h⟩
    · exact Or.inl (Or.inl h)
    · subst e
      exact Or.inl (Or.inr h)
    · subst e
      exact Or.inr h
  · rcases h with (h | h) | h
    · exact Or.inl h
    · exact Or.inr ⟨0, by decide, by decide, Or.inl rfl, h⟩
    · exact Or.inr ⟨2, by decide, by decide, Or.inr rfl, h⟩
theorem fu_three13 {t k : Int} {G H T : Int → Int} (hk : 0 ≤ k ∧ k < 16 * t) (hgl : ∀ x, 0 ≤ x → x < 4 → (fun x => x = 0 ∨ x = 2) x → 0 ≤ G (4 * (k / 16) + x) ∧ 0 ≤ G (4 * (k / 16) + x) % 32 ∧ G (4 * (k / 16) + x) % 32 < 24 ∧ G (4 * (k / 16) + x) / 32 < t) (h3 : k / 16 ≠ G (4 * (k / 16) + 0) / 32 ∧ k / 16 ≠ G (4 * (k / 16) + 2) / 32 ∧ G (4 * (k / 16) + 0) / 32 ≠ G (4 * (k / 16) + 2) / 32) (hL : ∀ j, 0 ≤ j → j < 4 * t → H j = lo (fun i => (i = k / 16 ∨ i = G (4 * (k / 16) + 0) / 32) ∨ i = G (4 * (k / 16) + 2) / 32) j ∧ T j = 0) : FU t G (k / 16) (fun x => x = 0 ∨ x = 2) (fun y => if y = 3 then t - 3 else t - 3 + 1) (uf (uf (uf (uf (uf (uf H (4 * (k / 16) + 3) (t - 3)) (4 * (k / 16) + 1) (t - 3 + 1)) (4 * (G (4 * (k / 16) + 0) / 32) + im (G (4 * (k / 16) + 0) % 32) 3) (t - 3)) (4 * (G (4 * (k / 16) + 0) / 32) + im (G (4 * (k / 16) + 0) % 32) 1) (t - 3 + 1)) (4 * (G (4 * (k / 16) + 2) / 32) + im (G (4 * (k / 16) + 2) % 32) 3) (t - 3)) (4 * (G (4 * (k / 16) + 2) / 32) + im (G (4 * (k / 16) + 2) % 32) 1) (t - 3 + 1)) (uf (uf (uf (uf (uf (uf T (4 * (k / 16) + 3) (0)) (4 * (k / 16) + 1) (0)) (4 * (G (4 * (k / 16) + 0) / 32) + im (G (4 * (k / 16) + 0) % 32) 3) (af (sx 0 3) (iv (G (4 * (k / 16) + 0) % 32)))) (4 * (G (4 * (k / 16) + 0) / 32) + im (G (4 * (k / 16) + 0) % 32) 1) (af (sx 0 1) (iv (G (4 * (k / 16) + 0) % 32)))) (4 * (G (4 * (k / 16) + 2) / 32) + im (G (4 * (k / 16) + 2) % 32) 3) (af (sx 2 3) (iv (G (4 * (k / 16) + 2) % 32)))) (4 * (G (4 * (k / 16) + 2) / 32) + im (G (4 * (k / 16) + 2) % 32) 1) (af (sx 2 1) (iv (G (4 * (k / 16) + 2) % 32)))) := by
  have gx := hgl 0 (by decide) (by decide) (Or.inl rfl)
  have gy := hgl 2 (by decide) (by decide) (Or.inr rfl)
  have x0 := gx.2.1
  have x1 := gx.2.2.1
  have y0 := gy.2.1
  have y1 := gy.2.2.1
  have pb0 := im_in x0 x1 (show (0 : Int) ≤ 0 by decide) (by decide)
  have pb1 := im_in x0 x1 (show (0 : Int) ≤ 1 by decide) (by decide)
  have pb2 := im_in x0 x1 (show (0 : Int) ≤ 2 by decide) (by decide)
  have pb3 := im_in x0 x1 (show (0 : Int) ≤ 3 by decide) (by decide)
  have pn01 : im (G (4 * (k / 16) + 0) % 32) 0 ≠ im (G (4 * (k / 16) + 0) % 32) 1 := fun z => absurd (im_ij x0 x1 (by decide) (by decide) (by decide) (by decide) z) (by decide)
  have pn02 : im (G (4 * (k / 16) + 0) % 32) 0 ≠ im (G (4 * (k / 16) + 0) % 32) 2 := fun z => absurd (im_ij x0 x1 (by decide) (by decide) (by decide) (by decide) z) (by decide)
  have pn03 : im (G (4 * (k / 16) + 0) % 32) 0 ≠ im (G (4 * (k / 16) + 0) % 32) 3 := fun z => absurd (im_ij x0 x1 (by decide) (by decide) (by decide) (by decide) z) (by decide)
  have pn12 : im (G (4 * (k / 16) + 0) % 32) 1 ≠ im (G (4 * (k / 16) + 0) % 32) 2 := fun z => absurd (im_ij x0 x1 (by decide) (by decide) (by decide) (by decide) z) (by decide)
  have pn13 : im (G (4 * (k / 16) + 0) % 32) 1 ≠ im (G (4 * (k / 16) + 0) % 32) 3 := fun z => absurd (im_ij x0 x1 (by decide) (by decide) (by decide) (by decide) z) (by decide)
  have pn23 : im (G (4 * (k / 16) + 0) % 32) 2 ≠ im (G (4 * (k / 16) + 0) % 32) 3 := fun z => absurd (im_ij x0 x1 (by decide) (by decide) (by decide) (by decide) z) (by decide)
  have qb0 := im_in y0 y1 (show (0 : Int) ≤ 0 by decide) (by decide)
  have qb1 := im_in y0 y1 (show (0 : Int) ≤ 1 by decide) (by decide)
  have qb2 := im_in y0 y1 (show (0 : Int) ≤ 2 by decide) (by decide)
  have qb3 := im_in y0 y1 (show (0 : Int) ≤ 3 by decide) (by decide)
  have qn01 : im (G (4 * (k / 16) + 2) % 32) 0 ≠ im (G (4 * (k / 16) + 2) % 32) 1 := fun z => absurd (im_ij y0 y1 (by decide) (by decide) (by decide) (by decide) z) (by decide)
  have qn02 : im (G (4 * (k / 16) + 2) % 32) 0 ≠ im (G (4 * (k / 16) + 2) % 32) 2 := fun z => absurd (im_ij y0 y1 (by decide) (by decide) (by decide) (by decide) z) (by decide)
  have qn03 : im (G (4 * (k / 16) + 2) % 32) 0 ≠ im (G (4 * (k / 16) + 2) % 32) 3 := fun z => absurd (im_ij y0 y1 (by decide) (by decide) (by decide) (by decide) z) (by decide)
  have qn12 : im (G (4 * (k / 16) + 2) % 32) 1 ≠ im (G (4 * (k / 16) + 2) % 32) 2 := fun z => absurd (im_ij y0 y1 (by decide) (by decide) (by decide) (by decide) z) (by decide)
  have qn13 : im (G (4 * (k / 16) + 2) % 32) 1 ≠ im (G (4 * (k / 16) + 2) % 32) 3 := fun z => absurd (im_ij y0 y1 (by decide) (by decide) (by decide) (by decide) z) (by decide)
  have qn23 : im (G (4 * (k / 16) + 2) % 32) 2 ≠ im (G (4 * (k / 16) + 2) % 32) 3 := fun z => absurd (im_ij y0 y1 (by decide) (by decide) (by decide) (by decide) z) (by decide)
  have g00 : 0 ≤ 4 * (G (4 * (k / 16) + 0) / 32) + im (G (4 * (k / 16) + 0) % 32) 0 ∧ 4 * (G (4 * (k / 16) + 0) / 32) + im (G (4 * (k / 16) + 0) % 32) 0 < 4 * t ∧ (4 * (G (4 * (k / 16) + 0) / 32) + im (G (4 * (k / 16) + 0) % 32) 0) / 4 = G (4 * (k / 16) + 0) / 32 := by
    have h1 := pb0
    have h2 := gx
    clear pn01 qn01 pn02 qn02 pn03 qn03 pn12 qn12 pn13 qn13 pn23 qn23 h3
    omega
  have g02 : 0 ≤ 4 * (G (4 * (k / 16) + 0) / 32) + im (G (4 * (k / 16) + 0) % 32) 2 ∧ 4 * (G (4 * (k / 16) + 0) / 32) + im (G (4 * (k / 16) + 0) % 32) 2 < 4 * t ∧ (4 * (G (4 * (k / 16) + 0) / 32) + im (G (4 * (k / 16) + 0) % 32) 2) / 4 = G (4 * (k / 16) + 0) / 32 := by
    have h1 := pb2
    have h2 := gx
    clear pn01 qn01 pn02 qn02 pn03 qn03 pn12 qn12 pn13 qn13 pn23 qn23 h3
    omega
  have g20 : 0 ≤ 4 * (G (4 * (k / 16) + 2) / 32) + im (G (4 * (k / 16) + 2) % 32) 0 ∧ 4 * (G (4 * (k / 16) + 2) / 32) + im (G (4 * (k / 16) + 2) % 32) 0 < 4 * t ∧ (4 * (G (4 * (k / 16) + 2) / 32) + im (G (4 * (k / 16) + 2) % 32) 0) / 4 = G (4 * (k / 16) + 2) / 32 := by
    have h1 := qb0
    have h2 := gy
    clear pn01 qn01 pn02 qn02 pn03 qn03 pn12 qn12 pn13 qn13 pn23 qn23 h3
    omega
  have g22 : 0 ≤ 4 * (G (4 * (k / 16) + 2) / 32) + im (G (4 * (k / 16) + 2) % 32) 2 ∧ 4 * (G (4 * (k / 16) + 2) / 32) + im (G (4 * (k / 16) + 2) % 32) 2 < 4 * t ∧ (4 * (G (4 * (k / 16) + 2) / 32) + im (G (4 * (k / 16) + 2) % 32) 2) / 4 = G (4 * (k / 16) + 2) / 32 := by
    have h1 := qb2
    have h2 := gy
    clear pn01 qn01 pn02 qn02 pn03 qn03 pn12 qn12 pn13 qn13 pn23 qn23 h3
    omega
  have ga : ∀ x, 0 ≤ x → x < 4 → 0 ≤ 4 * (k / 16) + x ∧ 4 * (k / 16) + x < 4 * t ∧ (4 * (k / 16) + x) / 4 = k / 16 := by
    clear pn01 qn01 pn02 qn02 pn03 qn03 pn12 qn12 pn13 qn13 pn23 qn23 h3
    intro x a b
    omega
  unfold FU fX bX pX
  rw [gs_three13]
  refine ⟨fun F F0 F1 hS => ?_, fun y y0 y1 hy => ?_, fun x y x0 x1 hx y0 y1 hy => ?_, fun x x0 x1 hx => ?_, fun x c x0 x1 hx c0 c1 hc => ?_⟩
  · have hS1 : F / 4 ≠ k / 16 := fun e => hS (Or.inl (Or.inl e))
    have hS2 : F / 4 ≠ G (4 * (k / 16) + 0) / 32 := fun e => hS (Or.inl (Or.inr e))
    have hS3 : F / 4 ≠ G (4 * (k / 16) + 2) / 32 := fun e => hS (Or.inr e)
    refine ⟨?_, ?_⟩
    · rw [uf_n (nF hS3 qb1.1 qb1.2), uf_n (nF hS3 qb3.1 qb3.2), uf_n (nF hS2 pb1.1 pb1.2), uf_n (nF hS2 pb3.1 pb3.2), uf_n (nF hS1 (by decide) (by decide)), uf_n (nF hS1 (by decide) (by decide)), (hL F F0 F1).1, lo_n hS]
    · rw [uf_n (nF hS3 qb1.1 qb1.2), uf_n (nF hS3 qb3.1 qb3.2), uf_n (nF hS2 pb1.1 pb1.2), uf_n (nF hS2 pb3.1 pb3.2), uf_n (nF hS1 (by decide) (by decide)), uf_n (nF hS1 (by decide) (by decide)), (hL F F0 F1).2]
  · rcases four_of y0 y1 with ey | ey | ey | ey <;> subst ey
    · exact absurd (Or.inl rfl) hy
    · refine ⟨?_, ?_⟩
      · rw [uf_n (nAB h3.2.1 (by decide) (by decide) qb1.1 qb1.2), uf_n (nAB h3.2.1 (by decide) (by decide) qb3.1 qb3.2), uf_n (nAB h3.1 (by decide) (by decide) pb1.1 pb1.2), uf_n (nAB h3.1 (by decide) (by decide) pb3.1 pb3.2), uf_s]
        exact (if_neg (by decide)).symm
      · rw [uf_n (nAB h3.2.1 (by decide) (by decide) qb1.1 qb1.2), uf_n (nAB h3.2.1 (by decide) (by decide) qb3.1 qb3.2), uf_n (nAB h3.1 (by decide) (by decide) pb1.1 pb1.2), uf_n (nAB h3.1 (by decide) (by decide) pb3.1 pb3.2), uf_s]
    · exact absurd (Or.inr rfl) hy
    · refine ⟨?_, ?_⟩
      · rw [uf_n (nAB h3.2.1 (by decide) (by decide) qb1.1 qb1.2), uf_n (nAB h3.2.1 (by decide) (by decide) qb3.1 qb3.2), uf_n (nAB h3.1 (by decide) (by decide) pb1.1 pb1.2), uf_n (nAB h3.1 (by decide) (by decide) pb3.1 pb3.2), uf_n (nAA (by decide)), uf_s]
        exact (if_pos rfl).symm
      · rw [uf_n (nAB h3.2.1 (by decide) (by decide) qb1.1 qb1.2), uf_n (nAB h3.2.1 (by decide) (by decide) qb3.1 qb3.2), uf_n (nAB h3.1 (by decide) (by decide) pb1.1 pb1.2), uf_n (nAB h3.1 (by decide) (by decide) pb3.1 pb3.2), uf_n (nAA (by decide)), uf_s]
  · rcases hx with hx | hx <;> subst hx
    · rcases four_of y0 y1 with ey | ey | ey | ey <;> subst ey
      · exact absurd (Or.inl rfl) hy
      · refine ⟨?_, ?_⟩
        · rw [uf_n (nAB h3.2.2 pb1.1 pb1.2 qb1.1 qb1.2), uf_n (nAB h3.2.2 pb1.1 pb1.2 qb3.1 qb3.2), uf_s]
          exact (if_neg (by decide)).symm
        · rw [uf_n (nAB h3.2.2 pb1.1 pb1.2 qb1.1 qb1.2), uf_n (nAB h3.2.2 pb1.1 pb1.2 qb3.1 qb3.2), uf_s]
      · exact absurd (Or.inr rfl) hy
      · refine ⟨?_, ?_⟩
        · rw [uf_n (nAB h3.2.2 pb3.1 pb3.2 qb1.1 qb1.2), uf_n (nAB h3.2.2 pb3.1 pb3.2 qb3.1 qb3.2), uf_n (nAA (Ne.symm pn13)), uf_s]
          exact (if_pos rfl).symm
        · rw [uf_n (nAB h3.2.2 pb3.1 pb3.2 qb1.1 qb1.2), uf_n (nAB h3.2.2 pb3.1 pb3.2 qb3.1 qb3.2), uf_n (nAA (Ne.symm pn13)), uf_s]
    · rcases four_of y0 y1 with ey | ey | ey | ey <;> subst ey
      · exact absurd (Or.inl rfl) hy
      · refine ⟨?_, ?_⟩
        · rw [uf_s]
          exact (if_neg (by decide)).symm
        · rw [uf_s]
      · exact absurd (Or.inr rfl) hy
      · refine ⟨?_, ?_⟩
        · rw [uf_n (nAA (Ne.symm qn13)), uf_s]
          exact (if_pos rfl).symm
        · rw [uf_n (nAA (Ne.symm qn13)), uf_s]
  · rcases hx with hx | hx <;> subst hx
    · rw [uf_n (nAB h3.2.1 (by decide) (by decide) qb1.1 qb1.2), uf_n (nAB h3.2.1 (by decide) (by decide) qb3.1 qb3.2), uf_n (nAB h3.1 (by decide) (by decide) pb1.1 pb1.2), uf_n (nAB h3.1 (by decide) (by decide) pb3.1 pb3.2), uf_n (nAA (by decide)), uf_n (nAA (by decide)), (hL _ (ga 0 (by decide) (by decide)).1 (ga 0 (by decide) (by decide)).2.1).1, lo_y (Or.inl (Or.inl (ga 0 (by decide) (by decide)).2.2))]
    · rw [uf_n (nAB h3.2.1 (by decide) (by decide) qb1.1 qb1.2), uf_n (nAB h3.2.1 (by decide) (by decide) qb3.1 qb3.2), uf_n (nAB h3.1 (by decide) (by decide) pb1.1 pb1.2), uf_n (nAB h3.1 (by decide) (by decide) pb3.1 pb3.2), uf_n (nAA (by decide)), uf_n (nAA (by decide)), (hL _ (ga 2 (by decide) (by decide)).1 (ga 2 (by decide) (by decide)).2.1).1, lo_y (Or.inl (Or.inl (ga 2 (by decide) (by decide)).2.2))]
  · rcases hx with hx | hx <;> rcases hc with hc | hc <;> subst hx <;> subst hc
    · rw [uf_n (nAB h3.2.2 pb0.1 pb0.2 qb1.1 qb1.2), uf_n (nAB h3.2.2 pb0.1 pb0.2 qb3.1 qb3.2), uf_n (nAA pn01), uf_n (nAA pn03), uf_n (nAB (Ne.symm h3.1) pb0.1 pb0.2 (by decide) (by decide)), uf_n (nAB (Ne.symm h3.1) pb0.1 pb0.2 (by decide) (by decide)), (hL _ g00.1 g00.2.1).1, lo_y (Or.inl (Or.inr g00.2.2))]
    · rw [uf_n (nAB h3.2.2 pb2.1 pb2.2 qb1.1 qb1.2), uf_n (nAB h3.2.2 pb2.1 pb2.2 qb3.1 qb3.2), uf_n (nAA (Ne.symm pn12)), uf_n (nAA pn23), uf_n (nAB (Ne.symm h3.1) pb2.1 pb2.2 (by decide) (by decide)), uf_n (nAB (Ne.symm h3.1) pb2.1 pb2.2 (by decide) (by decide)), (hL _ g02.1 g02.2.1).1, lo_y (Or.inl (Or.inr g02.2.2))]
    · rw [uf_n (nAA qn01), uf_n (nAA qn03), uf_n (nAB (Ne.symm h3.2.2) qb0.1 qb0.2 pb1.1 pb1.2), uf_n (nAB (Ne.symm h3.2.2) qb0.1 qb0.2 pb3.1 pb3.2), uf_n (nAB (Ne.symm h3.2.1) qb0.1 qb0.2 (by decide) (by decide)), uf_n (nAB (Ne.symm h3.2.1) qb0.1 qb0.2 (by decide) (by decide)), (hL _ g20.1 g20.2.1).1, lo_y ((Or.inr g20.2.2))]
    · rw [uf_n (nAA (Ne.symm qn12)), uf_n (nAA qn23), uf_n (nAB (Ne.symm h3.2.2) qb2.1 qb2.2 pb1.1 pb1.2), uf_n (nAB (Ne.symm h3.2.2) qb2.1 qb2.2 pb3.1 pb3.2), uf_n (nAB (Ne.symm h3.2.1) qb2.1 qb2.2 (by decide) (by decide)), uf_n (nAB (Ne.symm h3.2.1) qb2.1 qb2.2 (by decide) (by decide)), (hL _ g22.1 g22.2.1).1, lo_y ((Or.inr g22.2.2))]

theorem fc_three13 {t : Int} {G H T : Int → Int} : FC G t (fun x => x = 0 ∨ x = 2) (fun y => if y = 3 then t - 3 else t - 3 + 1) H T (fj (cy G H T (fun _ => -1) (4 * t).toNat) (t - 3) (t - 3 + 1) 3 1) := by
  obtain ⟨s01, s02, s03, s12, s13, s23, s10, s20, s30, s21, s31, s32⟩ := sx_v
  refine ⟨fun y z y0 y1 hy z0 z1 hz ne => ?_, fun n hn => ?_⟩
  · rcases four_of y0 y1 with ey | ey | ey | ey <;> rcases four_of z0 z1 with ez | ez | ez | ez <;> subst ey <;> subst ez
    · exact absurd rfl ne
    · exact absurd (Or.inl rfl) hy
    · exact absurd (Or.inl rfl) hy
    · exact absurd (Or.inl rfl) hy
    · exact absurd (Or.inl rfl) hz
    · exact absurd rfl ne
    · exact absurd (Or.inr rfl) hz
    · show _ = 32 * (if (3 : Int) = 3 then t - 3 else t - 3 + 1) + sx 1 3
      rw [show (4 * (if (1 : Int) = 3 then t - 3 else t - 3 + 1) + 3 : Int) = 4 * (t - 3 + 1) + 3 from by rw [show (if (1 : Int) = 3 then t - 3 else t - 3 + 1 : Int) = t - 3 + 1 from if_neg (by decide)], show (if (3 : Int) = 3 then t - 3 else t - 3 + 1 : Int) = t - 3 from if_pos rfl, fj_2, s13, s31]
    · exact absurd (Or.inr rfl) hy
    · exact absurd (Or.inr rfl) hy
    · exact absurd rfl ne
    · exact absurd (Or.inr rfl) hy
    · exact absurd (Or.inl rfl) hz
    · show _ = 32 * (if (1 : Int) = 3 then t - 3 else t - 3 + 1) + sx 3 1
      rw [show (4 * (if (3 : Int) = 3 then t - 3 else t - 3 + 1) + 1 : Int) = 4 * (t - 3) + 1 from by rw [show (if (3 : Int) = 3 then t - 3 else t - 3 + 1 : Int) = t - 3 from if_pos rfl], show (if (1 : Int) = 3 then t - 3 else t - 3 + 1 : Int) = t - 3 + 1 from if_neg (by decide), fj_1 (by omega)]
    · exact absurd (Or.inr rfl) hz
    · exact absurd rfl ne
  · rw [fj_out (fun e => hn 3 1 (by decide) (by decide) (by decide) (by decide) (by decide) (by decide) (by decide) (by rw [e]; show _ = 4 * (if (3 : Int) = 3 then t - 3 else t - 3 + 1) + 1; rw [show (if (3 : Int) = 3 then t - 3 else t - 3 + 1 : Int) = t - 3 from if_pos rfl])) (fun e => hn 1 3 (by decide) (by decide) (by decide) (by decide) (by decide) (by decide) (by decide) (by rw [e]; show _ = 4 * (if (1 : Int) = 3 then t - 3 else t - 3 + 1) + 3; rw [show (if (1 : Int) = 3 then t - 3 else t - 3 + 1 : Int) = t - 3 + 1 from if_neg (by decide)]))]
theorem gs_three23 {k : Int} {G : Int → Int} : gS G (k / 16) (fun x => x = 0 ∨ x = 1) = (fun i => (i = k / 16 ∨ i = G (4 * (k / 16) + 0) / 32) ∨ i = G (4 * (k / 16) + 1) / 32) := by
  funext i
  refine propext ⟨fun h => ?_, fun h => ?_⟩
  · rcases h with h | ⟨x, -, -, e | e, h⟩
    · exact Or.inl (Or.inl h)
    · subst e
      exact Or.inl (Or.inr h)
    · subst e
      exact Or.inr h
  · rcases h with (h | h) | h
    · exact Or.inl h
    · exact Or.inr ⟨0, by decide, by decide, Or.inl rfl, h⟩
    · exact Or.inr ⟨1, by decide, by decide, Or.inr rfl, h⟩
theorem fu_three23 {t k : Int} {G H T : Int → Int} (hk : 0 ≤ k ∧ k < 16 * t) (hgl : ∀ x, 0 ≤ x → x < 4 → (fun x => x = 0 ∨ x = 1) x → 0 ≤ G (4 * (k / 16) + x) ∧ 0 ≤ G (4 * (k / 16) + x) % 32 ∧ G (4 * (k / 16) + x) % 32 < 24 ∧ G (4 * (k / 16) + x) / 32 < t) (h3 : k / 16 ≠ G (4 * (k / 16) + 0) / 32 ∧ k / 16 ≠ G (4 * (k / 16) + 1) / 32 ∧ G (4 * (k / 16) + 0) / 32 ≠ G (4 * (k / 16) + 1) / 32) (hL : ∀ j, 0 ≤ j → j < 4 * t → H j = lo (fun i => (i = k / 16 ∨ i = G (4 * (k / 16) + 0) / 32) ∨ i = G (4 * (k / 16) + 1) / 32) j ∧ T j = 0) : FU t G (k / 16) (fun x => x = 0 ∨ x = 1) (fun y => if y = 3 then t - 3 else t - 3 + 1) (uf (uf (uf (uf (uf (uf H (4 * (k / 16) + 3) (t - 3)) (4 * (k / 16) + 2) (t - 3 + 1)) (4 * (G (4 * (k / 16) + 0) / 32) + im (G (4 * (k / 16) + 0) % 32) 3) (t - 3)) (4 * (G (4 * (k / 16) + 0) / 32) + im (G (4 * (k / 16) + 0) % 32) 2) (t - 3 + 1)) (4 * (G (4 * (k / 16) + 1) / 32) + im (G (4 * (k / 16) + 1) % 32) 3) (t - 3)) (4 * (G (4 * (k / 16) + 1) / 32) + im (G (4 * (k / 16) + 1) % 32) 2) (t - 3 + 1)) (uf (uf (uf (uf (uf (uf T (4 * (k / 16) + 3) (0)) (4 * (k / 16) + 2) (0)) (4 * (G (4 * (k / 16) + 0) / 32) + im (G (4 * (k / 16) + 0) % 32) 3) (af (sx 0 3) (iv (G (4 * (k / 16) + 0) % 32)))) (4 * (G (4 * (k / 16) + 0) / 32) + im (G (4 * (k / 16) + 0) % 32) 2) (af (sx 0 2) (iv (G (4 * (k / 16) + 0) % 32)))) (4 * (G (4 * (k / 16) + 1) / 32) + im (G (4 * (k / 16) + 1) % 32) 3) (af (sx 1 3) (iv (G (4 * (k / 16) + 1) % 32)))) (4 * (G (4 * (k / 16) + 1) / 32) + im (G (4 * (k / 16) + 1) % 32) 2) (af (sx 1 2) (iv (G (4 * (k / 16) + 1) % 32)))) := by
  have gx := hgl 0 (by decide) (by decide) (Or.inl rfl)
  have gy := hgl 1 (by decide) (by decide) (Or.inr rfl)
  have x0 := gx.2.1
  have x1 := gx.2.2.1
  have y0 := gy.2.1
  have y1 := gy.2.2.1
  have pb0 := im_in x0 x1 (show (0 : Int) ≤ 0 by decide) (by decide)
  have pb1 := im_in x0 x1 (show (0 : Int) ≤ 1 by decide) (by decide)
  have pb2 := im_in x0 x1 (show (0 : Int) ≤ 2 by decide) (by decide)
  have pb3 := im_in x0 x1 (show (0 : Int) ≤ 3 by decide) (by decide)
  have pn01 : im (G (4 * (k / 16) + 0) % 32) 0 ≠ im (G (4 * (k / 16) + 0) % 32) 1 := fun z => absurd (im_ij x0 x1 (by decide) (by decide) (by decide) (by decide) z) (by decide)
  have pn02 : im (G (4 * (k / 16) + 0) % 32) 0 ≠ im (G (4 * (k / 16) + 0) % 32) 2 := fun z => absurd (im_ij x0 x1 (by decide) (by decide) (by decide) (by decide) z) (by decide)
  have pn03 : im (G (4 * (k / 16) + 0) % 32) 0 ≠ im (G (4 * (k / 16) + 0) % 32) 3 := fun z => absurd (im_ij x0 x1 (by decide) (by decide) (by decide) (by decide) z) (by decide)
  have pn12 : im (G (4 * (k / 16) + 0) % 32) 1 ≠ im (G (4 * (k / 16) + 0) % 32) 2 := fun z => absurd (im_ij x0 x1 (by decide) (by decide) (by decide) (by decide) z) (by decide)
  have pn13 : im (G (4 * (k / 16) + 0) % 32) 1 ≠ im (G (4 * (k / 16) + 0) % 32) 3 := fun z => absurd (im_ij x0 x1 (by decide) (by decide) (by decide) (by decide) z) (by decide)
  have pn23 : im (G (4 * (k / 16) + 0) % 32) 2 ≠ im (G (4 * (k / 16) + 0) % 32) 3 := fun z => absurd (im_ij x0 x1 (by decide) (by decide) (by decide) (by decide) z) (by decide)
  have qb0 := im_in y0 y1 (show (0 : Int) ≤ 0 by decide) (by decide)
  have qb1 := im_in y0 y1 (show (0 : Int) ≤ 1 by decide) (by decide)
  have qb2 := im_in y0 y1 (show (0 : Int) ≤ 2 by decide) (by decide)
  have qb3 := im_in y0 y1 (show (0 : Int) ≤ 3 by decide) (by decide)
  have qn01 : im (G (4 * (k / 16) + 1) % 32) 0 ≠ im (G (4 * (k / 16) + 1) % 32) 1 := fun z => absurd (im_ij y0 y1 (by decide) (by decide) (by decide) (by decide) z) (by decide)
  have qn02 : im (G (4 * (k / 16) + 1) % 32) 0 ≠ im (G (4 * (k / 16) + 1) % 32) 2 := fun z => absurd (im_ij y0 y1 (by decide) (by decide) (by decide) (by decide) z) (by decide)
  have qn03 : im (G (4 * (k / 16) + 1) % 32) 0 ≠ im (G (4 * (k / 16) + 1) % 32) 3 := fun z => absurd (im_ij y0 y1 (by decide) (by decide) (by decide) (by decide) z) (by decide)
  have qn12 : im (G (4 * (k / 16) + 1) % 32) 1 ≠ im (G (4 * (k / 16) + 1) % 32) 2 := fun z => absurd (im_ij y0 y1 (by decide) (by decide) (by decide) (by decide) z) (by decide)
  have qn13 : im (G (4 * (k / 16) + 1) % 32) 1 ≠ im (G (4 * (k / 16) + 1) % 32) 3 := fun z => absurd (im_ij y0 y1 (by decide) (by decide) (by decide) (by decide) z) (by decide)
  have qn23 : im (G (4 * (k / 16) + 1) % 32) 2 ≠ im (G (4 * (k / 16) + 1) % 32) 3 := fun z => absurd (im_ij y0 y1 (by decide) (by decide) (by decide) (by decide) z) (by decide)
  have g00 : 0 ≤ 4 * (G (4 * (k / 16) + 0) / 32) + im (G (4 * (k / 16) + 0) % 32) 0 ∧ 4 * (G (4 * (k / 16) + 0) / 32) + im (G (4 * (k / 16) + 0) % 32) 0 < 4 * t ∧ (4 * (G (4 * (k / 16) + 0) / 32) + im (G (4 * (k / 16) + 0) % 32) 0) / 4 = G (4 * (k / 16) + 0) / 32 := by
    have h1 := pb0
    have h2 := gx
    clear pn01 qn01 pn02 qn02 pn03 qn03 pn12 qn12 pn13 qn13 pn23 qn23 h3
    omega
  have g01 : 0 ≤ 4 * (G (4 * (k / 16) + 0) / 32) + im (G (4 * (k / 16) + 0) % 32) 1 ∧ 4 * (G (4 * (k / 16) + 0) / 32) + im (G (4 * (k / 16) + 0) % 32) 1 < 4 * t ∧ (4 * (G (4 * (k / 16) + 0) / 32) + im (G (4 * (k / 16) + 0) % 32) 1) / 4 = G (4 * (k / 16) + 0) / 32 := by
    have h1 := pb1
    have h2 := gx
    clear pn01 qn01 pn02 qn02 pn03 qn03 pn12 qn12 pn13 qn13 pn23 qn23 h3
    omega
  have g10 : 0 ≤ 4 * (G (4 * (k / 16) + 1) / 32) + im (G (4 * (k / 16) + 1) % 32) 0 ∧ 4 * (G (4 * (k / 16) + 1) / 32) + im (G (4 * (k / 16) + 1) % 32) 0 < 4 * t ∧ (4 * (G (4 * (k / 16) + 1) / 32) + im (G (4 * (k / 16) + 1) % 32) 0) / 4 = G (4 * (k / 16) + 1) / 32 := by
    have h1 := qb0
    have h2 := gy
    clear pn01 qn01 pn02 qn02 pn03 qn03 pn12 qn12 pn13 qn13 pn23 qn23 h3
    omega
  have g11 : 0 ≤ 4 * (G (4 * (k / 16) + 1) / 32) + im (G (4 * (k / 16) + 1) % 32) 1 ∧ 4 * (G (4 * (k / 16) + 1) / 32) + im (G (4 * (k / 16) + 1) % 32) 1 < 4 * t ∧ (4 * (G (4 * (k / 16) + 1) / 32) + im (G (4 * (k / 16) + 1) % 32) 1) / 4 = G (4 * (k / 16) + 1) / 32 := by
    have h1 := qb1
    have h2 := gy
    clear pn01 qn01 pn02 qn02 pn03 qn03 pn12 qn12 pn13 qn13 pn23 qn23 h3
    omega
  have ga : ∀ x, 0 ≤ x → x < 4 → 0 ≤ 4 * (k / 16) + x ∧ 4 * (k / 16) + x < 4 * t ∧ (4 * (k / 16) + x) / 4 = k / 16 := by
    clear pn01 qn01 pn02 qn02 pn03 qn03 pn12 qn12 pn13 qn13 pn23 qn23 h3
    intro x a b
    omega
  unfold FU fX bX pX
  rw [gs_three23]
  refine ⟨fun F F0 F1 hS => ?_, fun y y0 y1 hy => ?_, fun x y x0 x1 hx y0 y1 hy => ?_, fun x x0 x1 hx => ?_, fun x c x0 x1 hx c0 c1 hc => ?_⟩
  · have hS1 : F / 4 ≠ k / 16 := fun e => hS (Or.inl (Or.inl e))
    have hS2 : F / 4 ≠ G (4 * (k / 16) + 0) / 32 := fun e => hS (Or.inl (Or.inr e))
    have hS3 : F / 4 ≠ G (4 * (k / 16) + 1) / 32 := fun e => hS (Or.inr e)
    refine ⟨?_, ?_⟩
    · rw [uf_n (nF hS3 qb2.1 qb2.2), uf_n (nF hS3 qb3.1 qb3.2), uf_n (nF hS2 pb2.1 pb2.2), uf_n (nF hS2 pb3.1 pb3.2), uf_n (nF hS1 (by decide) (by decide)), uf_n (nF hS1 (by decide) (by decide)), (hL F F0 F1).1, lo_n hS]
    · rw [uf_n (nF hS3 qb2.1 qb2.2), uf_n (nF hS3 qb3.1 qb3.2), uf_n (nF hS2 pb2.1 pb2.2), uf_n (nF hS2 pb3.1 pb3.2), uf_n (nF hS1 (by decide) (by decide)), uf_n (nF hS1 (by decide) (by decide)), (hL F F0 F1).2]
  · rcases four_of y0 y1 with ey | ey | ey | ey <;> subst ey
    · exact absurd (Or.inl rfl) hy
    · exact absurd (Or.inr rfl) hy
    · refine ⟨?_, ?_⟩
      · rw [uf_n (nAB h3.2.1 (by decide) (by decide) qb2.1 qb2.2), uf_n (nAB h3.2.1 (by decide) (by decide) qb3.1 qb3.2), uf_n (nAB h3.1 (by decide) (by decide) pb2.1 pb2.2), uf_n (nAB h3.1 (by decide) (by decide) pb3.1 pb3.2), uf_s]
        exact (if_neg (by decide)).symm
      · rw [uf_n (nAB h3.2.1 (by decide) (by decide) qb2.1 qb2.2), uf_n (nAB h3.2.1 (by decide) (by decide) qb3.1 qb3.2), uf_n (nAB h3.1 (by decide) (by decide) pb2.1 pb2.2), uf_n (nAB h3.1 (by decide) (by decide) pb3.1 pb3.2), uf_s]
    · refine ⟨?_, ?_⟩
      · rw [uf_n (nAB h3.2.1 (by decide) (by decide) qb2.1 qb2.2), uf_n (nAB h3.2.1 (by decide) (by decide) qb3.1 qb3.2), uf_n (nAB h3.1 (by decide) (by decide) pb2.1 pb2.2), uf_n (nAB h3.1 (by decide) (by decide) pb3.1 pb3.2), uf_n (nAA (by decide)), uf_s]
        exact (if_pos rfl).symm
      · rw [uf_n (nAB h3.2.1 (by decide) (by decide) qb2.1 qb2.2), uf_n (nAB h3.2.1 (by decide) (by decide) qb3.1 qb3.2), uf_n (nAB h3.1 (by decide) (by decide) pb2.1 pb2.2), uf_n (nAB h3.1 (by decide) (by decide) pb3.1 pb3.2), uf_n (nAA (by decide)), uf_s]
  · rcases hx with hx | hx <;> subst hx
    · rcases four_of y0 y1 with ey | ey | ey | ey <;> subst ey
      · exact absurd (Or.inl rfl) hy
      · exact absurd (Or.inr rfl) hy
      · refine ⟨?_, ?_⟩
        · rw [uf_n (nAB h3.2.2 pb2.1 pb2.2 qb2.1 qb2.2), uf_n (nAB h3.2.2 pb2.1 pb2.2 qb3.1 qb3.2), uf_s]
          exact (if_neg (by decide)).symm
        · rw [uf_n (nAB h3.2.2 pb2.1 pb2.2 qb2.1 qb2.2), uf_n (nAB h3.2.2 pb2.1 pb2.2 qb3.1 qb3.2), uf_s]
      · refine ⟨?_, ?_⟩
        · rw [uf_n (nAB h3.2.2 pb3.1 pb3.2 qb2.1 qb2.2), uf_n (nAB h3.2.2 pb3.1 pb3.2 qb3.1 qb3.2), uf_n (nAA (Ne.symm pn23)), uf_s]
          exact (if_pos rfl).symm
        · rw [uf_n (nAB h3.2.2 pb3.1 pb3.2 qb2.1 qb2.2), uf_n (nAB h3.2.2 pb3.1 pb3.2 qb3.1 qb3.2), uf_n (nAA (Ne.symm pn23)), uf_s]
    · rcases four_of y0 y1 with ey | ey | ey | ey <;> subst ey
      · exact absurd (Or.inl rfl) hy
      · exact absurd (Or.inr rfl) hy
      · refine ⟨?_, ?_⟩
        · rw [uf_s]
          exact (if_neg (by decide)).symm
        · rw [uf_s]
      · refine ⟨?_, ?_⟩
        · rw [uf_n (nAA (Ne.symm qn23)), uf_s]
          exact (if_pos rfl).symm
        · rw [uf_n (nAA (Ne.symm qn23)), uf_s]
  · rcases hx with hx | hx <;> subst hx
    · rw [uf_n (nAB h3.2.1 (by decide) (by decide) qb2.1 qb2.2), uf_n (nAB h3.2.1 (by decide) (by decide) qb3.1 qb3.2), uf_n (nAB h3.1 (by decide) (by decide) pb2.1 pb2.2), uf_n (nAB h3.1 (by decide) (by decide) pb3.1 pb3.2), uf_n (nAA (by decide)), uf_n (nAA (by decide)), (hL _ (ga 0 (by decide) (by decide)).1 (ga 0 (by decide) (by decide)).2.1).1, lo_y (Or.inl (Or.inl (ga 0 (by decide) (by decide)).2.2))]
    · rw [uf_n (nAB h3.2.1 (by decide) (by decide) qb2.1 qb2.2), uf_n (nAB h3.2.1 (by decide) (by decide) qb3.1 qb3.2), uf_n (nAB h3.1 (by decide) (by decide) pb2.1 pb2.2), uf_n (nAB h3.1 (by decide) (by decide) pb3.1 pb3.2), uf_n (nAA (by decide)), uf_n (nAA (by decide)), (hL _ (ga 1 (by decide) (by decide)).1 (ga 1 (by decide) (by decide)).2.1).1, lo_y (Or.inl (Or.inl (ga 1 (by decide) (by decide)).2.2))]
  · rcases hx with hx | hx <;> rcases hc with hc | hc <;> subst hx <;> subst hc
    · rw [uf_n (nAB h3.2.2 pb0.1 pb0.2 qb2.1 qb2.2), uf_n (nAB h3.2.2 pb0.1 pb0.2 qb3.1 qb3.2), uf_n (nAA pn02), uf_n (nAA pn03), uf_n (nAB (Ne.symm h3.1) pb0.1 pb0.2 (by decide) (by decide)), uf_n (nAB (Ne.symm h3.1) pb0.1 pb0.2 (by decide) (by decide)), (hL _ g00.1 g00.2.1).1, lo_y (Or.inl (Or.inr g00.2.2))]
    · rw [uf_n (nAB h3.2.2 pb1.1 pb1.2 qb2.1 qb2.2), uf_n (nAB h3.2.2 pb1.1 pb1.2 qb3.1 qb3.2), uf_n (nAA pn12), uf_n (nAA pn13), uf_n (nAB (Ne.symm h3.1) pb1.1 pb1.2 (by decide) (by decide)), uf_n (nAB (Ne.symm h3.1) pb1.1 pb1.2 (by decide) (by decide)), (hL _ g01.1 g01.2.1).1, lo_y (Or.inl (Or.inr g01.2.2))]
    · rw [uf_n (nAA qn02), uf_n (nAA qn03), uf_n (nAB (Ne.symm h3.2.2) qb0.1 qb0.2 pb2.1 pb2.2), uf_n (nAB (Ne.symm h3.2.2) qb0.1 qb0.2 pb3.1 pb3.2), uf_n (nAB (Ne.symm h3.2.1) qb0.1 qb0.2 (by decide) (by decide)), uf_n (nAB (Ne.symm h3.2.1) qb0.1 qb0.2 (by decide) (by decide)), (hL _ g10.1 g10.2.1).1, lo_y ((Or.inr g10.2.2))]
    · rw [uf_n (nAA qn12), uf_n (nAA qn13), uf_n (nAB (Ne.symm h3.2.2) qb1.1 qb1.2 pb2.1 pb2.2), uf_n (nAB (Ne.symm h3.2.2) qb1.1 qb1.2 pb3.1 pb3.2), uf_n (nAB (Ne.symm h3.2.1) qb1.1 qb1.2 (by decide) (by decide)), uf_n (nAB (Ne.symm h3.2.1) qb1.1 qb1.2 (by decide) (by decide)), (hL _ g11.1 g11.2.1).1, lo_y ((Or.inr g11.2.2))]

theorem fc_three23 {t : Int} {G H T : Int → Int} : FC G t (fun x => x = 0 ∨ x = 1) (fun y => if y = 3 then t - 3 else t - 3 + 1) H T (fj (cy G H T (fun _ => -1) (4 * t).toNat) (t - 3) (t - 3 + 1) 3 2) := by
  obtain ⟨s01, s02, s03, s12, s13, s23, s10, s20, s30, s21, s31, s32⟩ := sx_v
  refine ⟨fun y z y0 y1 hy z0 z1 hz ne => ?_, fun n hn => ?_⟩
  · rcases four_of y0 y1 with ey | ey | ey | ey <;> rcases four_of z0 z1 with ez | ez | ez | ez <;> subst ey <;> subst ez
    · exact absurd rfl ne
    · exact absurd (Or.inl rfl) hy
    · exact absurd (Or.inl rfl) hy
    · exact absurd (Or.inl rfl) hy
    · exact absurd (Or.inr rfl) hy
    · exact absurd rfl ne
    · exact absurd (Or.inr rfl) hy
    · exact absurd (Or.inr rfl) hy
    · exact absurd (Or.inl rfl) hz
    · exact absurd (Or.inr rfl) hz
    · exact absurd rfl ne
    · show _ = 32 * (if (3 : Int) = 3 then t - 3 else t - 3 + 1) + sx 2 3
      rw [show (4 * (if (2 : Int) = 3 then t - 3 else t - 3 + 1) + 3 : Int) = 4 * (t - 3 + 1) + 3 from by rw [show (if (2 : Int) = 3 then t - 3 else t - 3 + 1 : Int) = t - 3 + 1 from if_neg (by decide)], show (if (3 : Int) = 3 then t - 3 else t - 3 + 1 : Int) = t - 3 from if_pos rfl, fj_2, s23, s32]
    · exact absurd (Or.inl rfl) hz
    · exact absurd (Or.inr rfl) hz
    · show _ = 32 * (if (2 : Int) = 3 then t - 3 else t - 3 + 1) + sx 3 2
      rw [show (4 * (if (3 : Int) = 3 then t - 3 else t - 3 + 1) + 2 : Int) = 4 * (t - 3) + 2 from by rw [show (if (3 : Int) = 3 then t - 3 else t - 3 + 1 : Int) = t - 3 from if_pos rfl], show (if (2 : Int) = 3 then t - 3 else t - 3 + 1 : Int) = t - 3 + 1 from if_neg (by decide), fj_1 (by omega)]
    · exact absurd rfl ne
  · rw [fj_out (fun e => hn 3 2 (by decide) (by decide) (by decide) (by decide) (by decide) (by decide) (by decide) (by rw [e]; show _ = 4 * (if (3 : Int) = 3 then t - 3 else t - 3 + 1) + 2; rw [show (if (3 : Int) = 3 then t - 3 else t - 3 + 1 : Int) = t - 3 from if_pos rfl])) (fun e => hn 2 3 (by decide) (by decide) (by decide) (by decide) (by decide) (by decide) (by decide) (by rw [e]; show _ = 4 * (if (2 : Int) = 3 then t - 3 else t - 3 + 1) + 3; rw [show (if (2 : Int) = 3 then t - 3 else t - 3 + 1 : Int) = t - 3 + 1 from if_neg (by decide)]))]
theorem fu_four0 {t a : Int} {G H T : Int → Int} (ha : 0 ≤ a ∧ a < t) (hgl : ∀ x, 0 ≤ x → x < 4 → x ≠ 0 → 0 ≤ G (4 * a + x) ∧ 0 ≤ G (4 * a + x) % 32 ∧ G (4 * a + x) % 32 < 24 ∧ G (4 * a + x) / 32 < t ∧ G (4 * a + x) / 32 ≠ a) (hd : ∀ x y, 0 ≤ x → x < 4 → x ≠ 0 → 0 ≤ y → y < 4 → y ≠ 0 → x ≠ y → G (4 * a + x) / 32 ≠ G (4 * a + y) / 32) (hL : ∀ j, 0 ≤ j → j < 4 * t → H j = lo (gS G a (fun x => x ≠ 0)) j ∧ T j = 0) : FU t G a (fun x => x ≠ 0) (fun _ => sty (gS G a (fun x => x ≠ 0)) t) (uf (uf (uf (uf H (4 * a + 0) (sty (gS G a (fun x => x ≠ 0)) t)) (4 * (G (4 * a + 1) / 32) + im (G (4 * a + 1) % 32) 0) (sty (gS G a (fun x => x ≠ 0)) t)) (4 * (G (4 * a + 2) / 32) + im (G (4 * a + 2) % 32) 0) (sty (gS G a (fun x => x ≠ 0)) t)) (4 * (G (4 * a + 3) / 32) + im (G (4 * a + 3) % 32) 0) (sty (gS G a (fun x => x ≠ 0)) t)) (uf (uf (uf (uf T (4 * a + 0) (0)) (4 * (G (4 * a + 1) / 32) + im (G (4 * a + 1) % 32) 0) (af (sx 1 0) (iv (G (4 * a + 1) % 32)))) (4 * (G (4 * a + 2) / 32) + im (G (4 * a + 2) % 32) 0) (af (sx 2 0) (iv (G (4 * a + 2) % 32)))) (4 * (G (4 * a + 3) / 32) + im (G (4 * a + 3) % 32) 0) (af (sx 3 0) (iv (G (4 * a + 3) % 32)))) := by
  have z1 := hgl 1 (by decide) (by decide) (by decide)
  have w1 := z1.2.2.2.2
  have q10 := z1.2.1
  have q11 := z1.2.2.1
  have p1b0 := im_in q10 q11 (show (0 : Int) ≤ 0 by decide) (by decide)
  have p1b1 := im_in q10 q11 (show (0 : Int) ≤ 1 by decide) (by decide)
  have p1b2 := im_in q10 q11 (show (0 : Int) ≤ 2 by decide) (by decide)
  have p1b3 := im_in q10 q11 (show (0 : Int) ≤ 3 by decide) (by decide)
  have p1n01 : im (G (4 * a + 1) % 32) 0 ≠ im (G (4 * a + 1) % 32) 1 := fun z => absurd (im_ij q10 q11 (by decide) (by decide) (by decide) (by decide) z) (by decide)
  have p1n02 : im (G (4 * a + 1) % 32) 0 ≠ im (G (4 * a + 1) % 32) 2 := fun z => absurd (im_ij q10 q11 (by decide) (by decide) (by decide) (by decide) z) (by decide)
  have p1n03 : im (G (4 * a + 1) % 32) 0 ≠ im (G (4 * a + 1) % 32) 3 := fun z => absurd (im_ij q10 q11 (by decide) (by decide) (by decide) (by decide) z) (by decide)
  have p1n12 : im (G (4 * a + 1) % 32) 1 ≠ im (G (4 * a + 1) % 32) 2 := fun z => absurd (im_ij q10 q11 (by decide) (by decide) (by decide) (by decide) z) (by decide)
  have p1n13 : im (G (4 * a + 1) % 32) 1 ≠ im (G (4 * a + 1) % 32) 3 := fun z => absurd (im_ij q10 q11 (by decide) (by decide) (by decide) (by decide) z) (by decide)
  have p1n23 : im (G (4 * a + 1) % 32) 2 ≠ im (G (4 * a + 1) % 32) 3 := fun z => absurd (im_ij q10 q11 (by decide) (by decide) (by decide) (by decide) z) (by decide)
  have w12 := hd 1 2 (by decide) (by decide) (by decide) (by decide) (by decide) (by decide) (by decide)
  have w13 := hd 1 3 (by decide) (by decide) (by decide) (by decide) (by decide) (by decide) (by decide)
  have z2 := hgl 2 (by decide) (by decide) (by decide)
  have w2 := z2.2.2.2.2
  have q20 := z2.2.1
  have q21 := z2.2.2.1
  have p2b0 := im_in q20 q21 (show (0 : Int) ≤ 0 by decide) (by decide)
  have p2b1 := im_in q20 q21 (show (0 : Int) ≤ 1 by decide) (by decide)
  have p2b2 := im_in q20 q21 (show (0 : Int) ≤ 2 by decide) (by decide)
  have p2b3 := im_in q20 q21 (show (0 : Int) ≤ 3 by decide) (by decide)
  have p2n01 : im (G (4 * a + 2) % 32) 0 ≠ im (G (4 * a + 2) % 32) 1 := fun z => absurd (im_ij q20 q21 (by decide) (by decide) (by decide) (by decide) z) (by decide)
  have p2n02 : im (G (4 * a + 2) % 32) 0 ≠ im (G (4 * a + 2) % 32) 2 := fun z => absurd (im_ij q20 q21 (by decide) (by decide) (by decide) (by decide) z) (by decide)
  have p2n03 : im (G (4 * a + 2) % 32) 0 ≠ im (G (4 * a + 2) % 32) 3 := fun z => absurd (im_ij q20 q21 (by decide) (by decide) (by decide) (by decide) z) (by decide)
  have p2n12 : im (G (4 * a + 2) % 32) 1 ≠ im (G (4 * a + 2) % 32) 2 := fun z => absurd (im_ij q20 q21 (by decide) (by decide) (by decide) (by decide) z) (by decide)
  have p2n13 : im (G (4 * a + 2) % 32) 1 ≠ im (G (4 * a + 2) % 32) 3 := fun z => absurd (im_ij q20 q21 (by decide) (by decide) (by decide) (by decide) z) (by decide)
  have p2n23 : im (G (4 * a + 2) % 32) 2 ≠ im (G (4 * a + 2) % 32) 3 := fun z => absurd (im_ij q20 q21 (by decide) (by decide) (by decide) (by decide) z) (by decide)
  have w21 := hd 2 1 (by decide) (by decide) (by decide) (by decide) (by decide) (by decide) (by decide)
  have w23 := hd 2 3 (by decide) (by decide) (by decide) (by decide) (by decide) (by decide) (by decide)
  have z3 := hgl 3 (by decide) (by decide) (by decide)
  have w3 := z3.2.2.2.2
  have q30 := z3.2.1
  have q31 := z3.2.2.1
  have p3b0 := im_in q30 q31 (show (0 : Int) ≤ 0 by decide) (by decide)
  have p3b1 := im_in q30 q31 (show (0 : Int) ≤ 1 by decide) (by decide)
  have p3b2 := im_in q30 q31 (show (0 : Int) ≤ 2 by decide) (by decide)
  have p3b3 := im_in q30 q31 (show (0 : Int) ≤ 3 by decide) (by decide)
  have p3n01 : im (G (4 * a + 3) % 32) 0 ≠ im (G (4 * a + 3) % 32) 1 := fun z => absurd (im_ij q30 q31 (by decide) (by decide) (by decide) (by decide) z) (by decide)
  have p3n02 : im (G (4 * a + 3) % 32) 0 ≠ im (G (4 * a + 3) % 32) 2 := fun z => absurd (im_ij q30 q31 (by decide) (by decide) (by decide) (by decide) z) (by decide)
  have p3n03 : im (G (4 * a + 3) % 32) 0 ≠ im (G (4 * a + 3) % 32) 3 := fun z => absurd (im_ij q30 q31 (by decide) (by decide) (by decide) (by decide) z) (by decide)
  have p3n12 : im (G (4 * a + 3) % 32) 1 ≠ im (G (4 * a + 3) % 32) 2 := fun z => absurd (im_ij q30 q31 (by decide) (by decide) (by decide) (by decide) z) (by decide)
  have p3n13 : im (G (4 * a + 3) % 32) 1 ≠ im (G (4 * a + 3) % 32) 3 := fun z => absurd (im_ij q30 q31 (by decide) (by decide) (by decide) (by decide) z) (by decide)
  have p3n23 : im (G (4 * a + 3) % 32) 2 ≠ im (G (4 * a + 3) % 32) 3 := fun z => absurd (im_ij q30 q31 (by decide) (by decide) (by decide) (by decide) z) (by decide)
  have w31 := hd 3 1 (by decide) (by decide) (by decide) (by decide) (by decide) (by decide) (by decide)
  have w32 := hd 3 2 (by decide) (by decide) (by decide) (by decide) (by decide) (by decide) (by decide)
  have g11 : 0 ≤ 4 * (G (4 * a + 1) / 32) + im (G (4 * a + 1) % 32) 1 ∧ 4 * (G (4 * a + 1) / 32) + im (G (4 * a + 1) % 32) 1 < 4 * t ∧ (4 * (G (4 * a + 1) / 32) + im (G (4 * a + 1) % 32) 1) / 4 = G (4 * a + 1) / 32 := by
    have h1 := p1b1
    have h2 := z1
    clear p1n01 p1n02 p1n03 p1n12 p1n13 p1n23 p2n01 p2n02 p2n03 p2n12 p2n13 p2n23 p3n01 p3n02 p3n03 p3n12 p3n13 p3n23 w2 z2 w3 z3 w1 w12 w13 w21 w23 w31 w32
    omega
  have g12 : 0 ≤ 4 * (G (4 * a + 1) / 32) + im (G (4 * a + 1) % 32) 2 ∧ 4 * (G (4 * a + 1) / 32) + im (G (4 * a + 1) % 32) 2 < 4 * t ∧ (4 * (G (4 * a + 1) / 32) + im (G (4 * a + 1) % 32) 2) / 4 = G (4 * a + 1) / 32 := by
    have h1 := p1b2
    have h2 := z1
    clear p1n01 p1n02 p1n03 p1n12 p1n13 p1n23 p2n01 p2n02 p2n03 p2n12 p2n13 p2n23 p3n01 p3n02 p3n03 p3n12 p3n13 p3n23 w2 z2 w3 z3 w1 w12 w13 w21 w23 w31 w32
    omega
  have g13 : 0 ≤ 4 * (G (4 * a + 1) / 32) + im (G (4 * a + 1) % 32) 3 ∧ 4 * (G (4 * a + 1) / 32) + im (G (4 * a + 1) % 32) 3 < 4 * t ∧ (4 * (G (4 * a + 1) / 32) + im (G (4 * a + 1) % 32) 3) / 4 = G (4 * a + 1) / 32 := by
    have h1 := p1b3
    have h2 := z1
    clear p1n01 p1n02 p1n03 p1n12 p1n13 p1n23 p2n01 p2n02 p2n03 p2n12 p2n13 p2n23 p3n01 p3n02 p3n03 p3n12 p3n13 p3n23 w2 z2 w3 z3 w1 w12 w13 w21 w23 w31 w32
    omega
  have g21 : 0 ≤ 4 * (G (4 * a + 2) / 32) + im (G (4 * a + 2) % 32) 1 ∧ 4 * (G (4 * a + 2) / 32) + im (G (4 * a + 2) % 32) 1 < 4 * t ∧ (4 * (G (4 * a + 2) / 32) + im (G (4 * a + 2) % 32) 1) / 4 = G (4 * a + 2) / 32 := by
    have h1 := p2b1
    have h2 := z2
    clear p1n01 p1n02 p1n03 p1n12 p1n13 p1n23 p2n01 p2n02 p2n03 p2n12 p2n13 p2n23 p3n01 p3n02 p3n03 p3n12 p3n13 p3n23 w1 z1 w3 z3 w2 w12 w13 w21 w23 w31 w32
    omega
  have g22 : 0 ≤ 4 * (G (4 * a + 2) / 32) + im (G (4 * a + 2) % 32) 2 ∧ 4 * (G (4 * a + 2) / 32) + im (G (4 * a + 2) % 32) 2 < 4 * t ∧ (4 * (G (4 * a + 2) / 32) + im (G (4 * a + 2) % 32) 2) / 4 = G (4 * a + 2) / 32 := by
    have h1 := p2b2
    have h2 := z2
    clear p1n01 p1n02 p1n03 p1n12 p1n13 p1n23 p2n01 p2n02 p2n03 p2n12 p2n13 p2n23 p3n01 p3n02 p3n03 p3n12 p3n13 p3n23 w1 z1 w3 z3 w2 w12 w13 w21 w23 w31 w32
    omega
  have g23 : 0 ≤ 4 * (G (4 * a + 2) / 32) + im (G (4 * a + 2) % 32) 3 ∧ 4 * (G (4 * a + 2) / 32) + im (G (4 * a + 2) % 32) 3 < 4 * t ∧ (4 * (G (4 * a + 2) / 32) + im (G (4 * a + 2) % 32) 3) / 4 = G (4 * a + 2) / 32 := by
    have h1 := p2b3
    have h2 := z2
    clear p1n01 p1n02 p1n03 p1n12 p1n13 p1n23 p2n01 p2n02 p2n03 p2n12 p2n13 p2n23 p3n01 p3n02 p3n03 p3n12 p3n13 p3n23 w1 z1 w3 z3 w2 w12 w13 w21 w23 w31 w32
    omega
  have g31 : 0 ≤ 4 * (G (4 * a + 3) / 32) + im (G (4 * a + 3) % 32) 1 ∧ 4 * (G (4 * a + 3) / 32) + im (G (4 * a + 3) % 32) 1 < 4 * t ∧ (4 * (G (4 * a + 3) / 32) + im (G (4 * a + 3) % 32) 1) / 4 = G (4 * a + 3) / 32 := by
    have h1 := p3b1
    have h2 := z3
    clear p1n01 p1n02 p1n03 p1n12 p1n13 p1n23 p2n01 p2n02 p2n03 p2n12 p2n13 p2n23 p3n01 p3n02 p3n03 p3n12 p3n13 p3n23 w1 z1 w2 z2 w3 w12 w13 w21 w23 w31 w32
    omega
  have g32 : 0 ≤ 4 * (G (4 * a + 3) / 32) + im (G (4 * a + 3) % 32) 2 ∧ 4 * (G (4 * a + 3) / 32) + im (G (4 * a + 3) % 32) 2 < 4 * t ∧ (4 * (G (4 * a + 3) / 32) + im (G (4 * a + 3) % 32) 2) / 4 = G (4 * a + 3) / 32 := by
    have h1 := p3b2
    have h2 := z3
    clear p1n01 p1n02 p1n03 p1n12 p1n13 p1n23 p2n01 p2n02 p2n03 p2n12 p2n13 p2n23 p3n01 p3n02 p3n03 p3n12 p3n13 p3n23 w1 z1 w2 z2 w3 w12 w13 w21 w23 w31 w32
    omega
  have g33 : 0 ≤ 4 * (G (4 * a + 3) / 32) + im (G (4 * a + 3) % 32) 3 ∧ 4 * (G (4 * a + 3) / 32) + im (G (4 * a + 3) % 32) 3 < 4 * t ∧ (4 * (G (4 * a + 3) / 32) + im (G (4 * a + 3) % 32) 3) / 4 = G (4 * a + 3) / 32 := by
    have h1 := p3b3
    have h2 := z3
    clear p1n01 p1n02 p1n03 p1n12 p1n13 p1n23 p2n01 p2n02 p2n03 p2n12 p2n13 p2n23 p3n01 p3n02 p3n03 p3n12 p3n13 p3n23 w1 z1 w2 z2 w3 w12 w13 w21 w23 w31 w32
    omega
  have ga : ∀ x, 0 ≤ x → x < 4 → 0 ≤ 4 * a + x ∧ 4 * a + x < 4 * t ∧ (4 * a + x) / 4 = a := by
    clear p1n01 p1n02 p1n03 p1n12 p1n13 p1n23 p2n01 p2n02 p2n03 p2n12 p2n13 p2n23 p3n01 p3n02 p3n03 p3n12 p3n13 p3n23 w1 w2 w3 w12 w13 w21 w23 w31 w32 z1 z2 z3
    intro x a b
    omega
  refine ⟨fun F F0 F1 hS => ?_, fun y y0 y1 hy => ?_, fun x y x0 x1 hx y0 y1 hy => ?_, fun x x0 x1 hx => ?_, fun x c x0 x1 hx c0 c1 hc => ?_⟩
  · have hSa : F / 4 ≠ a := fun e => hS (Or.inl e)
    have hS1 : F / 4 ≠ G (4 * a + 1) / 32 := fun e => hS (Or.inr ⟨1, by decide, by decide, (show (1 : Int) ≠ 0 by decide), e⟩)
    have hS2 : F / 4 ≠ G (4 * a + 2) / 32 := fun e => hS (Or.inr ⟨2, by decide, by decide, (show (2 : Int) ≠ 0 by decide), e⟩)
    have hS3 : F / 4 ≠ G (4 * a + 3) / 32 := fun e => hS (Or.inr ⟨3, by decide, by decide, (show (3 : Int) ≠ 0 by decide), e⟩)
    refine ⟨?_, ?_⟩
    · rw [uf_n (nF hS3 p3b0.1 p3b0.2), uf_n (nF hS2 p2b0.1 p2b0.2), uf_n (nF hS1 p1b0.1 p1b0.2), uf_n (nF hSa (by decide) (by decide)), (hL F F0 F1).1, lo_n hS]
    · rw [uf_n (nF hS3 p3b0.1 p3b0.2), uf_n (nF hS2 p2b0.1 p2b0.2), uf_n (nF hS1 p1b0.1 p1b0.2), uf_n (nF hSa (by decide) (by decide)), (hL F F0 F1).2]
  · have e : y = 0 := Classical.byContradiction hy
    subst e
    exact ⟨by rw [uf_n (nAB (Ne.symm w3) (by decide) (by decide) p3b0.1 p3b0.2), uf_n (nAB (Ne.symm w2) (by decide) (by decide) p2b0.1 p2b0.2), uf_n (nAB (Ne.symm w1) (by decide) (by decide) p1b0.1 p1b0.2), uf_s], by rw [uf_n (nAB (Ne.symm w3) (by decide) (by decide) p3b0.1 p3b0.2), uf_n (nAB (Ne.symm w2) (by decide) (by decide) p2b0.1 p2b0.2), uf_n (nAB (Ne.symm w1) (by decide) (by decide) p1b0.1 p1b0.2), uf_s]⟩
  · have e : y = 0 := Classical.byContradiction hy
    subst e
    unfold fX bX pX
    rcases four_of x0 x1 with ex | ex | ex | ex <;> subst ex
    · exact absurd rfl hx
    · exact ⟨by rw [uf_n (nAB w13 p1b0.1 p1b0.2 p3b0.1 p3b0.2), uf_n (nAB w12 p1b0.1 p1b0.2 p2b0.1 p2b0.2), uf_s], by rw [uf_n (nAB w13 p1b0.1 p1b0.2 p3b0.1 p3b0.2), uf_n (nAB w12 p1b0.1 p1b0.2 p2b0.1 p2b0.2), uf_s]⟩
    · exact ⟨by rw [uf_n (nAB w23 p2b0.1 p2b0.2 p3b0.1 p3b0.2), uf_s], by rw [uf_n (nAB w23 p2b0.1 p2b0.2 p3b0.1 p3b0.2), uf_s]⟩
    · exact ⟨by rw [uf_s], by rw [uf_s]⟩
  · rcases four_of x0 x1 with ex | ex | ex | ex <;> subst ex
    · exact absurd rfl hx
    · rw [uf_n (nAB (Ne.symm w3) (by decide) (by decide) p3b0.1 p3b0.2), uf_n (nAB (Ne.symm w2) (by decide) (by decide) p2b0.1 p2b0.2), uf_n (nAB (Ne.symm w1) (by decide) (by decide) p1b0.1 p1b0.2), uf_n (nAA (by decide)), (hL _ (ga _ (by decide) (by decide)).1 (ga _ (by decide) (by decide)).2.1).1, lo_y (Or.inl (ga _ (by decide) (by decide)).2.2)]
    · rw [uf_n (nAB (Ne.symm w3) (by decide) (by decide) p3b0.1 p3b0.2), uf_n (nAB (Ne.symm w2) (by decide) (by decide) p2b0.1 p2b0.2), uf_n (nAB (Ne.symm w1) (by decide) (by decide) p1b0.1 p1b0.2), uf_n (nAA (by decide)), (hL _ (ga _ (by decide) (by decide)).1 (ga _ (by decide) (by decide)).2.1).1, lo_y (Or.inl (ga _ (by decide) (by decide)).2.2)]
    · rw [uf_n (nAB (Ne.symm w3) (by decide) (by decide) p3b0.1 p3b0.2), uf_n (nAB (Ne.symm w2) (by decide) (by decide) p2b0.1 p2b0.2), uf_n (nAB (Ne.symm w1) (by decide) (by decide) p1b0.1 p1b0.2), uf_n (nAA (by decide)), (hL _ (ga _ (by decide) (by decide)).1 (ga _ (by decide) (by decide)).2.1).1, lo_y (Or.inl (ga _ (by decide) (by decide)).2.2)]
  · unfold fX bX pX
    rcases four_of x0 x1 with ex | ex | ex | ex <;> rcases four_of c0 c1 with ec | ec | ec | ec <;> subst ex <;> subst ec
    · exact absurd rfl hx
    · exact absurd rfl hx
    · exact absurd rfl hx
    · exact absurd rfl hx
    · exact absurd rfl hc
    · rw [uf_n (nAB w13 p1b1.1 p1b1.2 p3b0.1 p3b0.2), uf_n (nAB w12 p1b1.1 p1b1.2 p2b0.1 p2b0.2), uf_n (nAA (Ne.symm p1n01)), uf_n (nAB w1 p1b1.1 p1b1.2 (by decide) (by decide)), (hL _ g11.1 g11.2.1).1, lo_y (Or.inr ⟨1, by decide, by decide, (show (1 : Int) ≠ 0 by decide), g11.2.2⟩)]
    · rw [uf_n (nAB w13 p1b2.1 p1b2.2 p3b0.1 p3b0.2), uf_n (nAB w12 p1b2.1 p1b2.2 p2b0.1 p2b0.2), uf_n (nAA (Ne.symm p1n02)), uf_n (nAB w1 p1b2.1 p1b2.2 (by decide) (by decide)), (hL _ g12.1 g12.2.1).1, lo_y (Or.inr ⟨1, by decide, by decide, (show (1 : Int) ≠ 0 by decide), g12.2.2⟩)]
    · rw [uf_n (nAB w13 p1b3.1 p1b3.2 p3b0.1 p3b0.2), uf_n (nAB w12 p1b3.1 p1b3.2 p2b0.1 p2b0.2), uf_n (nAA (Ne.symm p1n03)), uf_n (nAB w1 p1b3.1 p1b3.2 (by decide) (by decide)), (hL _ g13.1 g13.2.1).1, lo_y (Or.inr ⟨1, by decide, by decide, (show (1 : Int) ≠ 0 by decide), g13.2.2⟩)]
    · exact absurd rfl hc
    · rw [uf_n (nAB w23 p2b1.1 p2b1.2 p3b0.1 p3b0.2), uf_n (nAA (Ne.symm p2n01)), uf_n (nAB w21 p2b1.1 p2b1.2 p1b0.1 p1b0.2), uf_n (nAB w2 p2b1.1 p2b1.2 (by decide) (by decide)), (hL _ g21.1 g21.2.1).1, lo_y (Or.inr ⟨2, by decide, by decide, (show (2 : Int) ≠ 0 by decide), g21.2.2⟩)]
    · rw [uf_n (nAB w23 p2b2.1 p2b2.2 p3b0.1 p3b0.2), uf_n (nAA (Ne.symm p2n02)), uf_n (nAB w21 p2b2.1 p2b2.2 p1b0.1 p1b0.2), uf_n (nAB w2 p2b2.1 p2b2.2 (by decide) (by decide)), (hL _ g22.1 g22.2.1).1, lo_y (Or.inr ⟨2, by decide, by decide, (show (2 : Int) ≠ 0 by decide), g22.2.2⟩)]
    · rw [uf_n (nAB w23 p2b3.1 p2b3.2 p3b0.1 p3b0.2), uf_n (nAA (Ne.symm p2n03)), uf_n (nAB w21 p2b3.1 p2b3.2 p1b0.1 p1b0.2), uf_n (nAB w2 p2b3.1 p2b3.2 (by decide) (by decide)), (hL _ g23.1 g23.2.1).1, lo_y (Or.inr ⟨2, by decide, by decide, (show (2 : Int) ≠ 0 by decide), g23.2.2⟩)]
    · exact absurd rfl hc
    · rw [uf_n (nAA (Ne.symm p3n01)), uf_n (nAB w32 p3b1.1 p3b1.2 p2b0.1 p2b0.2), uf_n (nAB w31 p3b1.1 p3b1.2 p1b0.1 p1b0.2), uf_n (nAB w3 p3b1.1 p3b1.2 (by decide) (by decide)), (hL _ g31.1 g31.2.1).1, lo_y (Or.inr ⟨3, by decide, by decide, (show (3 : Int) ≠ 0 by decide), g31.2.2⟩)]
    · rw [uf_n (nAA (Ne.symm p3n02)), uf_n (nAB w32 p3b2.1 p3b2.2 p2b0.1 p2b0.2), uf_n (nAB w31 p3b2.1 p3b2.2 p1b0.1 p1b0.2), uf_n (nAB w3 p3b2.1 p3b2.2 (by decide) (by decide)), (hL _ g32.1 g32.2.1).1, lo_y (Or.inr ⟨3, by decide, by decide, (show (3 : Int) ≠ 0 by decide), g32.2.2⟩)]
    · rw [uf_n (nAA (Ne.symm p3n03)), uf_n (nAB w32 p3b3.1 p3b3.2 p2b0.1 p2b0.2), uf_n (nAB w31 p3b3.1 p3b3.2 p1b0.1 p1b0.2), uf_n (nAB w3 p3b3.1 p3b3.2 (by decide) (by decide)), (hL _ g33.1 g33.2.1).1, lo_y (Or.inr ⟨3, by decide, by decide, (show (3 : Int) ≠ 0 by decide), g33.2.2⟩)]

theorem fc_four0 {t : Int} {G H T : Int → Int} {nw : Int → Int} : FC G t (fun x => x ≠ 0) nw H T (cy G H T (fun _ => -1) (4 * t).toNat) :=
  ⟨fun y z y0 y1 hy z0 z1 hz ne => absurd ((show y = 0 from Classical.byContradiction hy).trans (show z = 0 from Classical.byContradiction hz).symm) ne, fun n hn => rfl⟩
theorem fu_four1 {t a : Int} {G H T : Int → Int} (ha : 0 ≤ a ∧ a < t) (hgl : ∀ x, 0 ≤ x → x < 4 → x ≠ 1 → 0 ≤ G (4 * a + x) ∧ 0 ≤ G (4 * a + x) % 32 ∧ G (4 * a + x) % 32 < 24 ∧ G (4 * a + x) / 32 < t ∧ G (4 * a + x) / 32 ≠ a) (hd : ∀ x y, 0 ≤ x → x < 4 → x ≠ 1 → 0 ≤ y → y < 4 → y ≠ 1 → x ≠ y → G (4 * a + x) / 32 ≠ G (4 * a + y) / 32) (hL : ∀ j, 0 ≤ j → j < 4 * t → H j = lo (gS G a (fun x => x ≠ 1)) j ∧ T j = 0) : FU t G a (fun x => x ≠ 1) (fun _ => sty (gS G a (fun x => x ≠ 1)) t) (uf (uf (uf (uf H (4 * a + 1) (sty (gS G a (fun x => x ≠ 1)) t)) (4 * (G (4 * a + 0) / 32) + im (G (4 * a + 0) % 32) 1) (sty (gS G a (fun x => x ≠ 1)) t)) (4 * (G (4 * a + 2) / 32) + im (G (4 * a + 2) % 32) 1) (sty (gS G a (fun x => x ≠ 1)) t)) (4 * (G (4 * a + 3) / 32) + im (G (4 * a + 3) % 32) 1) (sty (gS G a (fun x => x ≠ 1)) t)) (uf (uf (uf (uf T (4 * a + 1) (0)) (4 * (G (4 * a + 0) / 32) + im (G (4 * a + 0) % 32) 1) (af (sx 0 1) (iv (G (4 * a + 0) % 32)))) (4 * (G (4 * a + 2) / 32) + im (G (4 * a + 2) % 32) 1) (af (sx 2 1) (iv (G (4 * a + 2) % 32)))) (4 * (G (4 * a + 3) / 32) + im (G (4 * a + 3) % 32) 1) (af (sx 3 1) (iv (G (4 * a + 3) % 32)))) := by
  have z0 := hgl 0 (by decide) (by decide) (by decide)
  have w0 := z0.2.2.2.2
  have q00 := z0.2.1
  have q01 := z0.2.2.1
  have p0b0 := im_in q00 q01 (show (0 : Int) ≤ 0 by decide) (by decide)
  have p0b1 := im_in q00 q01 (show (0 : Int) ≤ 1 by decide) (by decide)
  have p0b2 := im_in q00 q01 (show (0 : Int) ≤ 2 by decide) (by decide)
  have p0b3 := im_in q00 q01 (show (0 : Int) ≤ 3 by decide) (by decide)
  have p0n01 : im (G (4 * a + 0) % 32) 0 ≠ im (G (4 * a + 0) % 32) 1 := fun z => absurd (im_ij q00 q01 (by decide) (by decide) (by decide) (by decide) z) (by decide)
  have p0n02 : im (G (4 * a + 0) % 32) 0 ≠ im (G (4 * a + 0) % 32) 2 := fun z => absurd (im_ij q00 q01 (by decide) (by decide) (by decide) (by decide) z) (by decide)
  have p0n03 : im (G (4 * a + 0) % 32) 0 ≠ im (G (4 * a + 0) % 32) 3 := fun z => absurd (im_ij q00 q01 (by decide) (by decide) (by decide) (by decide) z) (by decide)
  have p0n12 : im (G (4 * a + 0) % 32) 1 ≠ im (G (4 * a + 0) % 32) 2 := fun z => absurd (im_ij q00 q01 (by decide) (by decide) (by decide) (by decide) z) (by decide)
  have p0n13 : im (G (4 * a + 0) % 32) 1 ≠ im (G (4 * a + 0) % 32) 3 := fun z => absurd (im_ij q00 q01 (by decide) (by decide) (by decide) (by decide) z) (by decide)
  have p0n23 : im (G (4 * a + 0) % 32) 2 ≠ im (G (4 * a + 0) % 32) 3 := fun z => absurd (im_ij q00 q01 (by decide) (by decide) (by decide) (by decide) z) (by decide)
  have w02 := hd 0 2 (by decide) (by decide) (by decide) (by decide) (by decide) (by decide) (by decide)
  have w03 := hd 0 3 (by decide) (by decide) (by decide) (by decide) (by decide) (by decide) (by decide)
  have z2 := hgl 2 (by decide) (by decide) (by decide)
  have w2 := z2.2.2.2.2
  have q20 := z2.2.1
  have q21 := z2.2.2.1
  have p2b0 := im_in q20 q21 (show (0 : Int) ≤ 0 by decide) (by decide)
  have p2b1 := im_in q20 q21 (show (0 : Int) ≤ 1 by decide) (by decide)
  have p2b2 := im_in q20 q21 (show (0 : Int) ≤ 2 by decide) (by decide)
  have p2b3 := im_in q20 q21 (show (0 : Int) ≤ 3 by decide) (by decide)
  have p2n01 : im (G (4 * a + 2) % 32) 0 ≠ im (G (4 * a + 2) % 32) 1 := fun z => absurd (im_ij q20 q21 (by decide) (by decide) (by decide) (by decide) z) (by decide)
  have p2n02 : im (G (4 * a + 2) % 32) 0 ≠ im (G (4 * a + 2) % 32) 2 := fun z => absurd (im_ij q20 q21 (by decide) (by decide) (by decide) (by decide) z) (by decide)
  have p2n03 : im (G (4 * a + 2) % 32) 0 ≠ im (G (4 * a + 2) % 32) 3 := fun z => absurd (im_ij q20 q21 (by decide) (by decide) (by decide) (by decide) z) (by decide)
  have p2n12 : im (G (4 * a + 2) % 32) 1 ≠ im (G (4 * a + 2) % 32) 2 := fun z => absurd (im_ij q20 q21 (by decide) (by decide) (by decide) (by decide) z) (by decide)
  have p2n13 : im (G (4 * a + 2) % 32) 1 ≠ im (G (4 * a + 2) % 32) 3 := fun z => absurd (im_ij q20 q21 (by decide) (by decide) (by decide) (by decide) z) (by decide)
  have p2n23 : im (G (4 * a + 2) % 32) 2 ≠ im (G (4 * a + 2) % 32) 3 := fun z => absurd (im_ij q20 q21 (by decide) (by decide) (by decide) (by decide) z) (by decide)
  have w20 := hd 2 0 (by decide) (by decide) (by decide) (by decide) (by decide) (by decide) (by decide)
  have w23 := hd 2 3 (by decide) (by decide) (by decide) (by decide) (by decide) (by decide) (by decide)
  have z3 := hgl 3 (by decide) (by decide) (by decide)
  have w3 := z3.2.2.2.2
  have q30 := z3.2.1
  have q31 := z3.2.2.1
  have p3b0 := im_in q30 q31 (show (0 : Int) ≤ 0 by decide) (by decide)
  have p3b1 := im_in q30 q31 (show (0 : Int) ≤ 1 by decide) (by decide)
  have p3b2 := im_in q30 q31 (show (0 : Int) ≤ 2 by decide) (by decide)
  have p3b3 := im_in q30 q31 (show (0 : Int) ≤ 3 by decide) (by decide)
  have p3n01 : im (G (4 * a + 3) % 32) 0 ≠ im (G (4 * a + 3) % 32) 1 := fun z => absurd (im_ij q30 q31 (by decide) (by decide) (by decide) (by decide) z) (by decide)
  have p3n02 : im (G (4 * a + 3) % 32) 0 ≠ im (G (4 * a + 3) % 32) 2 := fun z => absurd (im_ij q30 q31 (by decide) (by decide) (by decide) (by decide) z) (by decide)
  have p3n03 : im (G (4 * a + 3) % 32) 0 ≠ im (G (4 * a + 3) % 32) 3 := fun z => absurd (im_ij q30 q31 (by decide) (by decide) (by decide) (by decide) z) (by decide)
  have p3n12 : im (G (4 * a + 3) % 32) 1 ≠ im (G (4 * a + 3) % 32) 2 := fun z => absurd (im_ij q30 q31 (by decide) (by decide) (by decide) (by decide) z) (by decide)
  have p3n13 : im (G (4 * a + 3) % 32) 1 ≠ im (G (4 * a + 3) % 32) 3 := fun z => absurd (im_ij q30 q31 (by decide) (by decide) (by decide) (by decide) z) (by decide)
  have p3n23 : im (G (4 * a + 3) % 32) 2 ≠ im (G (4 * a + 3) % 32) 3 := fun z => absurd (im_ij q30 q31 (by decide) (by decide) (by decide) (by decide) z) (by decide)
  have w30 := hd 3 0 (by decide) (by decide) (by decide) (by decide) (by decide) (by decide) (by decide)
  have w32 := hd 3 2 (by decide) (by decide) (by decide) (by decide) (by decide) (by decide) (by decide)
  have g00 : 0 ≤ 4 * (G (4 * a + 0) / 32) + im (G (4 * a + 0) % 32) 0 ∧ 4 * (G (4 * a + 0) / 32) + im (G (4 * a + 0) % 32) 0 < 4 * t ∧ (4 * (G (4 * a + 0) / 32) + im (G (4 * a + 0) % 32) 0) / 4 = G (4 * a + 0) / 32 := by
    have h1 := p0b0
    have h2 := z0
    clear p0n01 p0n02 p0n03 p0n12 p0n13 p0n23 p2n01 p2n02 p2n03 p2n12 p2n13 p2n23 p3n01 p3n02 p3n03 p3n12 p3n13 p3n23 w2 z2 w3 z3 w0 w02 w03 w20 w23 w30 w32
    omega
  have g02 : 0 ≤ 4 * (G (4 * a + 0) / 32) + im (G (4 * a + 0) % 32) 2 ∧ 4 * (G (4 * a + 0) / 32) + im (G (4 * a + 0) % 32) 2 < 4 * t ∧ (4 * (G (4 * a + 0) / 32) + im (G (4 * a + 0) % 32) 2) / 4 = G (4 * a + 0) / 32 := by
    have h1 := p0b2
    have h2 := z0
    clear p0n01 p0n02 p0n03 p0n12 p0n13 p0n23 p2n01 p2n02 p2n03 p2n12 p2n13 p2n23 p3n01 p3n02 p3n03 p3n12 p3n13 p3n23 w2 z2 w3 z3 w0 w02 w03 w20 w23 w30 w32
    omega
  have g03 : 0 ≤ 4 * (G (4 * a + 0) / 32) + im (G (4 * a + 0) % 32) 3 ∧ 4 * (G (4 * a + 0) / 32) + im (G (4 * a + 0) % 32) 3 < 4 * t ∧ (4 * (G (4 * a + 0) / 32) + im (G (4 * a + 0) % 32) 3) / 4 = G (4 * a + 0) / 32 := by
    have h1 := p0b3
    have h2 := z0
    clear p0n01 p0n02 p0n03 p0n12 p0n13 p0n23 p2n01 p2n02 p2n03 p2n12 p2n13 p2n23 p3n01 p3n02 p3n03 p3n12 p3n13 p3n23 w2 z2 w3 z3 w0 w02 w03 w20 w23 w30 w32
    omega
  have g20 : 0 ≤ 4 * (G (4 * a + 2) / 32) + im (G (4 * a + 2) % 32) 0 ∧ 4 * (G (4 * a + 2) / 32) + im (G (4 * a + 2) % 32) 0 < 4 * t ∧ (4 * (G (4 * a + 2) / 32) + im (G (4 * a + 2) % 32) 0) / 4 = G (4 * a + 2) / 32 := by
    have h1 := p2b0
    have h2 := z2
    clear p0n01 p0n02 p0n03 p0n12 p0n13 p0n23 p2n01 p2n02 p2n03 p2n12 p2n13 p2n23 p3n01 p3n02 p3n03 p3n12 p3n13 p3n23 w0 z0 w3 z3 w2 w02 w03 w20 w23 w30 w32
    omega
  have g22 : 0 ≤ 4 * (G (4 * a + 2) / 32) + im (G (4 * a + 2) % 32) 2 ∧ 4 * (G (4 * a + 2) / 32) + im (G (4 * a + 2) % 32) 2 < 4 * t ∧ (4 * (G (4 * a + 2) / 32) + im (G (4 * a + 2) % 32) 2) / 4 = G (4 * a + 2) / 32 := by
    have h1 := p2b2
    have h2 := z2
    clear p0n01 p0n02 p0n03 p0n12 p0n13 p0n23 p2n01 p2n02 p2n03 p2n12 p2n13 p2n23 p3n01 p3n02 p3n03 p3n12 p3n13 p3n23 w0 z0 w3 z3 w2 w02 w03 w20 w23 w30 w32
    omega
  have g23 : 0 ≤ 4 * (G (4 * a + 2) / 32) + im (G (4 * a + 2) % 32) 3 ∧ 4 * (G (4 * a + 2) / 32) + im (G (4 * a + 2) % 32) 3 < 4 * t ∧ (4 * (G (4 * a + 2) / 32) + im (G (4 * a + 2) % 32) 3) / 4 = G (4 * a + 2) / 32 := by
    have h1 := p2b3
    have h2 := z2
    clear p0n01 p0n02 p0n03 p0n12 p0n13 p0n23 p2n01 p2n02 p2n03 p2n12 p2n13 p2n23 p3n01 p3n02 p3n03 p3n12 p3n13 p3n23 w0 z0 w3 z3 w2 w02 w03 w20 w23 w30 w32
    omega
  have g30 : 0 ≤ 4 * (G (4 * a + 3) / 32) + im (G (4 * a + 3) % 32) 0 ∧ 4 * (G (4 * a + 3) / 32) + im (G (4 * a + 3) % 32) 0 < 4 * t ∧ (4 * (G (4 * a + 3) / 32) + im (G (4 * a + 3) % 32) 0) / 4 = G (4 * a + 3) / 32 := by
    have h1 := p3b0
    have h2 := z3
    clear p0n01 p0n02 p0n03 p0n12 p0n13 p0n23 p2n01 p2n02 p2n03 p2n12 p2n13 p2n23 p3n01 p3n02 p3n03 p3n12 p3n13 p3n23 w0 z0 w2 z2 w3 w02 w03 w20 w23 w30 w32
    omega
  have g32 : 0 ≤ 4 * (G (4 * a + 3) / 32) + im (G (4 * a + 3) % 32) 2 ∧ 4 * (G (4 * a + 3) / 32) + im (G (4 * a + 3) % 32) 2 < 4 * t ∧ (4 * (G (4 * a + 3) / 32) + im (G (4 * a + 3) % 32) 2) / 4 = G (4 * a + 3) / 32 := by
    have h1 := p3b2
    have h2 := z3
    clear p0n01 p0n02 p0n03 p0n12 p0n13 p0n23 p2n01 p2n02 p2n03 p2n12 p2n13 p2n23 p3n01 p3n02 p3n03 p3n12 p3n13 p3n23 w0 z0 w2 z2 w3 w02 w03 w20 w23 w30 w32
    omega
  have g33 : 0 ≤ 4 * (G (4 * a + 3) / 32) + im (G (4 * a + 3) % 32) 3 ∧ 4 * (G (4 * a + 3) / 32) + im (G (4 * a + 3) % 32) 3 < 4 * t ∧ (4 * (G (4 * a + 3) / 32) + im (G (4 * a + 3) % 32) 3) / 4 = G (4 * a + 3) / 32 := by
    have h1 := p3b3
    have h2 := z3
    clear p0n01 p0n02 p0n03 p0n12 p0n13 p0n23 p2n01 p2n02 p2n03 p2n12 p2n13 p2n23 p3n01 p3n02 p3n03 p3n12 p3n13 p3n23 w0 z0 w2 z2 w3 w02 w03 w20 w23 w30 w32
    omega
  have ga : ∀ x, 0 ≤ x → x < 4 → 0 ≤ 4 * a + x ∧ 4 * a + x < 4 * t ∧ (4 * a + x) / 4 = a := by
    clear p0n01 p0n02 p0n03 p0n12 p0n13 p0n23 p2n01 p2n02 p2n03 p2n12 p2n13 p2n23 p3n01 p3n02 p3n03 p3n12 p3n13 p3n23 w0 w2 w3 w02 w03 w20 w23 w30 w32 z0 z2 z3
    intro x a b
    omega
  refine ⟨fun F F0 F1 hS => ?_, fun y y0 y1 hy => ?_, fun x y x0 x1 hx y0 y1 hy => ?_, fun x x0 x1 hx => ?_, fun x c x0 x1 hx c0 c1 hc => ?_⟩
  · have hSa : F / 4 ≠ a := fun e => hS (Or.inl e)
    have hS0 : F / 4 ≠ G (4 * a + 0) / 32 := fun e => hS (Or.inr ⟨0, by decide, by decide, (show (0 : Int) ≠ 1 by decide), e⟩)
    have hS2 : F / 4 ≠ G (4 * a + 2) / 32 := fun e => hS (Or.inr ⟨2, by decide, by decide, (show (2 : Int) ≠ 1 by decide), e⟩)
    have hS3 : F / 4 ≠ G (4 * a + 3) / 32 := fun e => hS (Or.inr ⟨3, by decide, by decide, (show (3 : Int) ≠ 1 by decide), e⟩)
    refine ⟨?_, ?_⟩
    · rw [uf_n (nF hS3 p3b1.1 p3b1.2), uf_n (nF hS2 p2b1.1 p2b1.2), uf_n (nF hS0 p0b1.1 p0b1.2), uf_n (nF hSa (by decide) (by decide)), (hL F F0 F1).1, lo_n hS]
    · rw [uf_n (nF hS3 p3b1.1 p3b1.2), uf_n (nF hS2 p2b1.1 p2b1.2), uf_n (nF hS0 p0b1.1 p0b1.2), uf_n (nF hSa (by decide) (by decide)), (hL F F0 F1).2]
  · have e : y = 1 := Classical.byContradiction hy
    subst e
    exact ⟨by rw [uf_n (nAB (Ne.symm w3) (by decide) (by decide) p3b1.1 p3b1.2), uf_n (nAB (Ne.symm w2) (by decide) (by decide) p2b1.1 p2b1.2), uf_n (nAB (Ne.symm w0) (by decide) (by decide) p0b1.1 p0b1.2), uf_s], by rw [uf_n (nAB (Ne.symm w3) (by decide) (by decide) p3b1.1 p3b1.2), uf_n (nAB (Ne.symm w2) (by decide) (by decide) p2b1.1 p2b1.2), uf_n (nAB (Ne.symm w0) (by decide) (by decide) p0b1.1 p0b1.2), uf_s]⟩
  · have e : y = 1 := Classical.byContradiction hy
    subst e
    unfold fX bX pX
    rcases four_of x0 x1 with ex | ex | ex | ex <;> subst ex
    · exact ⟨by rw [uf_n (nAB w03 p0b1.1 p0b1.2 p3b1.1 p3b1.2), uf_n (nAB w02 p0b1.1 p0b1.2 p2b1.1 p2b1.2), uf_s], by rw [uf_n (nAB w03 p0b1.1 p0b1.2 p3b1.1 p3b1.2), uf_n (nAB w02 p0b1.1 p0b1.2 p2b1.1 p2b1.2), uf_s]⟩
    · exact absurd rfl hx
    · exact ⟨by rw [uf_n (nAB w23 p2b1.1 p2b1.2 p3b1.1 p3b1.2), uf_s], by rw [uf_n (nAB w23 p2b1.1 p2b1.2 p3b1.1 p3b1.2), uf_s]⟩
    · exact ⟨by rw [uf_s], by rw [uf_s]⟩
  · rcases four_of x0 x1 with ex | ex | ex | ex <;> subst ex
    · rw [uf_n (nAB (Ne.symm w3) (by decide) (by decide) p3b1.1 p3b1.2), uf_n (nAB (Ne.symm w2) (by decide) (by decide) p2b1.1 p2b1.2), uf_n (nAB (Ne.symm w0) (by decide) (by decide) p0b1.1 p0b1.2), uf_n (nAA (by decide)), (hL _ (ga _ (by decide) (by decide)).1 (ga _ (by decide) (by decide)).2.1).1, lo_y (Or.inl (ga _ (by decide) (by decide)).2.2)]
    · exact absurd rfl hx
    · rw [uf_n (nAB (Ne.symm w3) (by decide) (by decide) p3b1.1 p3b1.2), uf_n (nAB (Ne.symm w2) (by decide) (by decide) p2b1.1 p2b1.2), uf_n (nAB (Ne.symm w0) (by decide) (by decide) p0b1.1 p0b1.2), uf_n (nAA (by decide)), (hL _ (ga _ (by decide) (by decide)).1 (ga _ (by decide) (by decide)).2.1).1, lo_y (Or.inl (ga _ (by decide) (by decide)).2.2)]
    · rw [uf_n (nAB (Ne.symm w3) (by decide) (by decide) p3b1.1 p3b1.2), uf_n (nAB (Ne.symm w2) (by decide) (by decide) p2b1.1 p2b1.2), uf_n (nAB (Ne.symm w0) (by decide) (by decide) p0b1.1 p0b1.2), uf_n (nAA (by decide)), (hL _ (ga _ (by decide) (by decide)).1 (ga _ (by decide) (by decide)).2.1).1, lo_y (Or.inl (ga _ (by decide) (by decide)).2.2)]
  · unfold fX bX pX
    rcases four_of x0 x1 with ex | ex | ex | ex <;> rcases four_of c0 c1 with ec | ec | ec | ec <;> subst ex <;> subst ec
    · rw [uf_n (nAB w03 p0b0.1 p0b0.2 p3b1.1 p3b1.2), uf_n (nAB w02 p0b0.1 p0b0.2 p2b1.1 p2b1.2), uf_n (nAA p0n01), uf_n (nAB w0 p0b0.1 p0b0.2 (by decide) (by decide)), (hL _ g00.1 g00.2.1).1, lo_y (Or.inr ⟨0, by decide, by decide, (show (0 : Int) ≠ 1 by decide), g00.2.2⟩)]
    · exact absurd rfl hc
    · rw [uf_n (nAB w03 p0b2.1 p0b2.2 p3b1.1 p3b1.2), uf_n (nAB w02 p0b2.1 p0b2.2 p2b1.1 p2b1.2), uf_n (nAA (Ne.symm p0n12)), uf_n (nAB w0 p0b2.1 p0b2.2 (by decide) (by decide)), (hL _ g02.1 g02.2.1).1, lo_y (Or.inr ⟨0, by decide, by decide, (show (0 : Int) ≠ 1 by decide), g02.2.2⟩)]
    · rw [uf_n (nAB w03 p0b3.1 p0b3.2 p3b1.1 p3b1.2), uf_n (nAB w02 p0b3.1 p0b3.2 p2b1.1 p2b1.2), uf_n (nAA (Ne.symm p0n13)), uf_n (nAB w0 p0b3.1 p0b3.2 (by decide) (by decide)), (hL _ g03.1 g03.2.1).1, lo_y (Or.inr ⟨0, by decide, by decide, (show (0 : Int) ≠ 1 by decide), g03.2.2⟩)]
    · exact absurd rfl hx
    · exact absurd rfl hx
    · exact absurd rfl hx
    · exact absurd rfl hx
    · rw [uf_n (nAB w23 p2b0.1 p2b0.2 p3b1.1 p3b1.2), uf_n (nAA p2n01), uf_n (nAB w20 p2b0.1 p2b0.2 p0b1.1 p0b1.2), uf_n (nAB w2 p2b0.1 p2b0.2 (by decide) (by decide)), (hL _ g20.1 g20.2.1).1, lo_y (Or.inr ⟨2, by decide, by decide, (show (2 : Int) ≠ 1 by decide), g20.2.2⟩)]
    · exact absurd rfl hc
    · rw [uf_n (nAB w23 p2b2.1 p2b2.2 p3b1.1 p3b1.2), uf_n (nAA (Ne.symm p2n12)), uf_n (nAB w20 p2b2.1 p2b2.2 p0b1.1 p0b1.2), uf_n (nAB w2 p2b2.1 p2b2.2 (by decide) (by decide)), (hL _ g22.1 g22.2.1).1, lo_y (Or.inr ⟨2, by decide, by decide, (show (2 : Int) ≠ 1 by decide), g22.2.2⟩)]
    · rw [uf_n (nAB w23 p2b3.1 p2b3.2 p3b1.1 p3b1.2), uf_n (nAA (Ne.symm p2n13)), uf_n (nAB w20 p2b3.1 p2b3.2 p0b1.1 p0b1.2), uf_n (nAB w2 p2b3.1 p2b3.2 (by decide) (by decide)), (hL _ g23.1 g23.2.1).1, lo_y (Or.inr ⟨2, by decide, by decide, (show (2 : Int) ≠ 1 by decide), g23.2.2⟩)]
    · rw [uf_n (nAA p3n01), uf_n (nAB w32 p3b0.1 p3b0.2 p2b1.1 p2b1.2), uf_n (nAB w30 p3b0.1 p3b0.2 p0b1.1 p0b1.2), uf_n (nAB w3 p3b0.1 p3b0.2 (by decide) (by decide)), (hL _ g30.1 g30.2.1).1, lo_y (Or.inr ⟨3, by decide, by decide, (show (3 : Int) ≠ 1 by decide), g30.2.2⟩)]
    · exact absurd rfl hc
    · rw [uf_n (nAA (Ne.symm p3n12)), uf_n (nAB w32 p3b2.1 p3b2.2 p2b1.1 p2b1.2), uf_n (nAB w30 p3b2.1 p3b2.2 p0b1.1 p0b1.2), uf_n (nAB w3 p3b2.1 p3b2.2 (by decide) (by decide)), (hL _ g32.1 g32.2.1).1, lo_y (Or.inr ⟨3, by decide, by decide, (show (3 : Int) ≠ 1 by decide), g32.2.2⟩)]
    · rw [uf_n (nAA (Ne.symm p3n13)), uf_n (nAB w32 p3b3.1 p3b3.2 p2b1.1 p2b1.2), uf_n (nAB w30 p3b3.1 p3b3.2 p0b1.1 p0b1.2), uf_n (nAB w3 p3b3.1 p3b3.2 (by decide) (by decide)), (hL _ g33.1 g33.2.1).1, lo_y (Or.inr ⟨3, by decide, by decide, (show (3 : Int) ≠ 1 by decide), g33.2.2⟩)]

theorem fc_four1 {t : Int} {G H T : Int → Int} {nw : Int → Int} : FC G t (fun x => x ≠ 1) nw H T (cy G H T (fun _ => -1) (4 * t).toNat) :=
  ⟨fun y z y0 y1 hy z0 z1 hz ne => absurd ((show y = 1 from Classical.byContradiction hy).trans (show z = 1 from Classical.byContradiction hz).symm) ne, fun n hn => rfl⟩
theorem fu_four2 {t a : Int} {G H T : Int → Int} (ha : 0 ≤ a ∧ a < t) (hgl : ∀ x, 0 ≤ x → x < 4 → x ≠ 2 → 0 ≤ G (4 * a + x) ∧ 0 ≤ G (4 * a + x) % 32 ∧ G (4 * a + x) % 32 < 24 ∧ G (4 * a + x) / 32 < t ∧ G (4 * a + x) / 32 ≠ a) (hd : ∀ x y, 0 ≤ x → x < 4 → x ≠ 2 → 0 ≤ y → y < 4 → y ≠ 2 → x ≠ y → G (4 * a + x) / 32 ≠ G (4 * a + y) / 32) (hL : ∀ j, 0 ≤ j → j < 4 * t → H j = lo (gS G a (fun x => x ≠ 2)) j ∧ T j = 0) : FU t G a (fun x => x ≠ 2) (fun _ => sty (gS G a (fun x => x ≠ 2)) t) (uf (uf (uf (uf H (4 * a + 2) (sty (gS G a (fun x => x ≠ 2)) t)) (4 * (G (4 * a + 0) / 32) + im (G (4 * a + 0) % 32) 2) (sty (gS G a (fun x => x ≠ 2)) t)) (4 * (G (4 * a + 1) / 32) + im (G (4 * a + 1) % 32) 2) (sty (gS G a (fun x => x ≠ 2)) t)) (4 * (G (4 * a + 3) / 32) + im (G (4 * a + 3) % 32) 2) (sty (gS G a (fun x => x ≠ 2)) t)) (uf (uf (uf (uf T (4 * a + 2) (0)) (4 * (G (4 * a + 0) / 32) + im (G (4 * a + 0) % 32) 2) (af (sx 0 2) (iv (G (4 * a + 0) % 32)))) (4 * (G (4 * a + 1) / 32) + im (G (4 * a + 1) % 32) 2) (af (sx 1 2) (iv (G (4 * a + 1) % 32)))) (4 * (G (4 * a + 3) / 32) + im (G (4 * a + 3) % 32) 2) (af (sx 3 2) (iv (G (4 * a + 3) % 32)))) := by
  have z0 := hgl 0 (by decide) (by decide) (by decide)
  have w0 := z0.2.2.2.2
  have q00 := z0.2.1
  have q01 := z0.2.2.1
  have p0b0 := im_in q00 q01 (show (0 : Int) ≤ 0 by decide) (by decide)
  have p0b1 := im_in q00 q01 (show (0 : Int) ≤ 1 by decide) (by decide)
  have p0b2 := im_in q00 q01 (show (0 : Int) ≤ 2 by decide) (by decide)
  have p0b3 := im_in q00 q01 (show (0 : Int) ≤ 3 by decide) (by decide)
  have p0n01 : im (G (4 * a + 0) % 32) 0 ≠ im (G (4 * a + 0) % 32) 1 := fun z => absurd (im_ij q00 q01 (by decide) (by decide) (by decide) (by decide) z) (by decide)
  have p0n02 : im (G (4 * a + 0) % 32) 0 ≠ im (G (4 * a + 0) % 32) 2 := fun z => absurd (im_ij q00 q01 (by decide) (by decide) (by decide) (by decide) z) (by decide)
  have p0n03 : im (G (4 * a + 0) % 32) 0 ≠ im (G (4 * a + 0) % 32) 3 := fun z => absurd (im_ij q00 q01 (by decide) (by decide) (by decide) (by decide) z) (by decide)
  have p0n12 : im (G (4 * a + 0) % 32) 1 ≠ im (G (4 * a + 0) % 32) 2 := fun z => absurd (im_ij q00 q01 (by decide) (by decide) (by decide) (by decide) z) (by decide)
  have p0n13 : im (G (4 * a + 0) % 32) 1 ≠ im (G (4 * a + 0) % 32) 3 := fun z => absurd (im_ij q00 q01 (by decide) (by decide) (by decide) (by decide) z) (by decide)
  have p0n23 : im (G (4 * a + 0) % 32) 2 ≠ im (G (4 * a + 0) % 32) 3 := fun z => absurd (im_ij q00 q01 (by decide) (by decide) (by decide) (by decide) z) (by decide)
  have w01 := hd 0 1 (by decide) (by decide) (by decide) (by decide) (by decide) (by decide) (by decide)
  have w03 := hd 0 3 (by decide) (by decide) (by decide) (by decide) (by decide) (by decide) (by decide)
  have z1 := hgl 1 (by decide) (by decide) (by decide)
  have w1 := z1.2.2.2.2
  have q10 := z1.2.1
  have q11 := z1.2.2.1
  have p1b0 := im_in q10 q11 (show (0 : Int) ≤ 0 by decide) (by decide)
  have p1b1 := im_in q10 q11 (show (0 : Int) ≤ 1 by decide) (by decide)
  have p1b2 := im_in q10 q11 (show (0 : Int) ≤ 2 by decide) (by decide)
  have p1b3 := im_in q10 q11 (show (0 : Int) ≤ 3 by decide) (by decide)
  have p1n01 : im (G (4 * a + 1) % 32) 0 ≠ im (G (4 * a + 1) % 32) 1 := fun z => absurd (im_ij q10 q11 (by decide) (by decide) (by decide) (by decide) z) (by decide)
  have p1n02 : im (G (4 * a + 1) % 32) 0 ≠ im (G (4 * a + 1) % 32) 2 := fun z => absurd (im_ij q10 q11 (by decide) (by decide) (by decide) (by decide) z) (by decide)
  have p1n03 : im (G (4 * a + 1) % 32) 0 ≠ im (G (4 * a + 1) % 32) 3 := fun z => absurd (im_ij q10 q11 (by decide) (by decide) (by decide) (by decide) z) (by decide)
  have p1n12 : im (G (4 * a + 1) % 32) 1 ≠ im (G (4 * a + 1) % 32) 2 := fun z => absurd (im_ij q10 q11 (by decide) (by decide) (by decide) (by decide) z) (by decide)
  have p1n13 : im (G (4 * a + 1) % 32) 1 ≠ im (G (4 * a + 1) % 32) 3 := fun z => absurd (im_ij q10 q11 (by decide) (by decide) (by decide) (by decide) z) (by decide)
  have p1n23 : im (G (4 * a + 1) % 32) 2 ≠ im (G (4 * a + 1) % 32) 3 := fun z => absurd (im_ij q10 q11 (by decide) (by decide) (by decide) (by decide) z) (by decide)
  have w10 := hd 1 0 (by decide) (by decide) (by decide) (by decide) (by decide) (by decide) (by decide)
  have w13 := hd 1 3 (by decide) (by decide) (by decide) (by decide) (by decide) (by decide) (by decide)
  have z3 := hgl 3 (by decide) (by decide) (by decide)
  have w3 := z3.2.2.2.2
  have q30 := z3.2.1
  have q31 := z3.2.2.1
  have p3b0 := im_in q30 q31 (show (0 : Int) ≤ 0 by decide) (by decide)
  have p3b1 := im_in q30 q31 (show (0 : Int) ≤ 1 by decide) (by decide)
  have p3b2 := im_in q30 q31 (show (0 : Int) ≤ 2 by decide) (by decide)
  have p3b3 := im_in q30 q31 (show (0 : Int) ≤ 3 by decide) (by decide)
  have p3n01 : im (G (4 * a + 3) % 32) 0 ≠ im (G (4 * a + 3) % 32) 1 := fun z => absurd (im_ij q30 q31 (by decide) (by decide) (by decide) (by decide) z) (by decide)
  have p3n02 : im (G (4 * a + 3) % 32) 0 ≠ im (G (4 * a + 3) % 32) 2 := fun z => absurd (im_ij q30 q31 (by decide) (by decide) (by decide) (by decide) z) (by decide)
  have p3n03 : im (G (4 * a + 3) % 32) 0 ≠ im (G (4 * a + 3) % 32) 3 := fun z => absurd (im_ij q30 q31 (by decide) (by decide) (by decide) (by decide) z) (by decide)
  have p3n12 : im (G (4 * a + 3) % 32) 1 ≠ im (G (4 * a + 3) % 32) 2 := fun z => absurd (im_ij q30 q31 (by decide) (by decide) (by decide) (by decide) z) (by decide)
  have p3n13 : im (G (4 * a + 3) % 32) 1 ≠ im (G (4 * a + 3) % 32) 3 := fun z => absurd (im_ij q30 q31 (by decide) (by decide) (by decide) (by decide) z) (by decide)
  have p3n23 : im (G (4 * a + 3) % 32) 2 ≠ im (G (4 * a + 3) % 32) 3 := fun z => absurd (im_ij q30 q31 (by decide) (by decide) (by decide) (by decide) z) (by decide)
  have w30 := hd 3 0 (by decide) (by decide) (by decide) (by decide) (by decide) (by decide) (by decide)
  have w31 := hd 3 1 (by decide) (by decide) (by decide) (by decide) (by decide) (by decide) (by decide)
  have g00 : 0 ≤ 4 * (G (4 * a + 0) / 32) + im (G (4 * a + 0) % 32) 0 ∧ 4 * (G (4 * a + 0) / 32) + im (G (4 * a + 0) % 32) 0 < 4 * t ∧ (4 * (G (4 * a + 0) / 32) + im (G (4 * a + 0) % 32) 0) / 4 = G (4 * a + 0) / 32 := by
    have h1 := p0b0
    have h2 := z0
    clear p0n01 p0n02 p0n03 p0n12 p0n13 p0n23 p1n01 p1n02 p1n03 p1n12 p1n13 p1n23 p3n01 p3n02 p3n03 p3n12 p3n13 p3n23 w1 z1 w3 z3 w0 w01 w03 w10 w13 w30 w31
    omega
  have g01 : 0 ≤ 4 * (G (4 * a + 0) / 32) + im (G (4 * a + 0) % 32) 1 ∧ 4 * (G (4 * a + 0) / 32) + im (G (4 * a + 0) % 32) 1 < 4 * t ∧ (4 * (G (4 * a + 0) / 32) + im (G (4 * a + 0) % 32) 1) / 4 = G (4 * a + 0) / 32 := by
    have h1 := p0b1
    have h2 := z0
    clear p0n01 p0n02 p0n03 p0n12 p0n13 p0n23 p1n01 p1n02 p1n03 p1n12 p1n13 p1n23 p3n01 p3n02 p3n03 p3n12 p3n13 p3n23 w1 z1 w3 z3 w0 w01 w03 w10 w13 w30 w31
    omega
  have g03 : 0 ≤ 4 * (G (4 * a + 0) / 32) + im (G (4 * a + 0) % 32) 3 ∧ 4 * (G (4 * a + 0) / 32) + im (G (4 * a + 0) % 32) 3 < 4 * t ∧ (4 * (G (4 * a + 0) / 32) + im (G (4 * a + 0) % 32) 3) / 4 = G (4 * a + 0) / 32 := by
    have h1 := p0b3
    have h2 := z0
    clear p0n01 p0n02 p0n03 p0n12 p0n13 p0n23 p1n01 p1n02 p1n03 p1n12 p1n13 p1n23 p3n01 p3n02 p3n03 p3n12 p3n13 p3n23 w1 z1 w3 z3 w0 w01 w03 w10 w13 w30 w31
    omega
  have g10 : 0 ≤ 4 * (G (4 * a + 1) / 32) + im (G (4 * a + 1) % 32) 0 ∧ 4 * (G (4 * a + 1) / 32) + im (G (4 * a + 1) % 32) 0 < 4 * t ∧ (4 * (G (4 * a + 1) / 32) + im (G (4 * a + 1) % 32) 0) / 4 = G (4 * a + 1) / 32 := by
    have h1 := p1b0
    have h2 := z1
    clear p0n01 p0n02 p0n03 p0n12 p0n13 p0n23 p1n01 p1n02 p1n03 p1n12 p1n13 p1n23 p3n01 p3n02 p3n03 p3n12 p3n13 p3n23 w0 z0 w3 z3 w1 w01 w03 w10 w13 w30 w31
    omega
  have g11 : 0 ≤ 4 * (G (4 * a + 1) / 32) + im (G (4 * a + 1) % 32) 1 ∧ 4 * (G (4 * a + 1) / 32) + im (G (4 * a + 1) % 32) 1 < 4 * t ∧ (4 * (G (4 * a + 1) / 32) + im (G (4 * a + 1) % 32) 1) / 4 = G (4 * a + 1) / 32 := by
    have h1 := p1b1
    have h2 := z1
    clear p0n01 p0n02 p0n03 p0n12 p0n13 p0n23 p1n01 p1n02 p1n03 p1n12 p1n13 p1n23 p3n01 p3n02 p3n03 p3n12 p3n13 p3n23 w0 z0 w3 z3 w1 w01 w03 w10 w13 w30 w31
    omega
  have g13 : 0 ≤ 4 * (G (4 * a + 1) / 32) + im (G (4 * a + 1) % 32) 3 ∧ 4 * (G (4 * a + 1) / 32) + im (G (4 * a + 1) % 32) 3 < 4 * t ∧ (4 * (G (4 * a + 1) / 32) + im (G (4 * a + 1) % 32) 3) / 4 = G (4 * a + 1) / 32 := by
    have h1 := p1b3
    have h2 := z1
    clear p0n01 p0n02 p0n03 p0n12 p0n13 p0n23 p1n01 p1n02 p1n03 p1n12 p1n13 p1n23 p3n01 p3n02 p3n03 p3n12 p3n13 p3n23 w0 z0 w3 z3 w1 w01 w03 w10 w13 w30 w31
    omega
  have g30 : 0 ≤ 4 * (G (4 * a + 3) / 32) + im (G (4 * a + 3) % 32) 0 ∧ 4 * (G (4 * a + 3) / 32) + im (G (4 * a + 3) % 32) 0 < 4 * t ∧ (4 * (G (4 * a + 3) / 32) + im (G (4 * a + 3) % 32) 0) / 4 = G (4 * a + 3) / 32 := by
    have h1 := p3b0
    have h2 := z3
    clear p0n01 p0n02 p0n03 p0n12 p0n13 p0n23 p1n01 p1n02 p1n03 p1n12 p1n13 p1n23 p3n01 p3n02 p3n03 p3n12 p3n13 p3n23 w0 z0 w1 z1 w3 w01 w03 w10 w13 w30 w31
    omega
  have g31 : 0 ≤ 4 * (G (4 * a + 3) / 32) + im (G (4 * a + 3) % 32) 1 ∧ 4 * (G (4 * a + 3) / 32) + im (G (4 * a + 3) % 32) 1 < 4 * t ∧ (4 * (G (4 * a + 3) / 32) + im (G (4 * a + 3) % 32) 1) / 4 = G (4 * a + 3) / 32 := by
    have h1 := p3b1
    have h2 := z3
    clear p0n01 p0n02 p0n03 p0n12 p0n13 p0n23 p1n01 p1n02 p1n03 p1n12 p1n13 p1n23 p3n01 p3n02 p3n03 p3n12 p3n13 p3n23 w0 z0 w1 z1 w3 w01 w03 w10 w13 w30 w31
    omega
  have g33 : 0 ≤ 4 * (G (4 * a + 3) / 32) + im (G (4 * a + 3) % 32) 3 ∧ 4 * (G (4 * a + 3) / 32) + im (G (4 * a + 3) % 32) 3 < 4 * t ∧ (4 * (G (4 * a + 3) / 32) + im (G (4 * a + 3) % 32) 3) / 4 = G (4 * a + 3) / 32 := by
    have h1 := p3b3
    have h2 := z3
    clear p0n01 p0n02 p0n03 p0n12 p0n13 p0n23 p1n01 p1n02 p1n03 p1n12 p1n13 p1n23 p3n01 p3n02 p3n03 p3n12 p3n13 p3n23 w0 z0 w1 z1 w3 w01 w03 w10 w13 w30 w31
    omega
  have ga : ∀ x, 0 ≤ x → x < 4 → 0 ≤ 4 * a + x ∧ 4 * a + x < 4 * t ∧ (4 * a + x) / 4 = a := by
    clear p0n01 p0n02 p0n03 p0n12 p0n13 p0n23 p1n01 p1n02 p1n03 p1n12 p1n13 p1n23 p3n01 p3n02 p3n03 p3n12 p3n13 p3n23 w0 w1 w3 w01 w03 w10 w13 w30 w31 z0 z1 z3
    intro x a b
    omega
  refine ⟨fun F F0 F1 hS => ?_, fun y y0 y1 hy => ?_, fun x y x0 x1 hx y0 y1 hy => ?_, fun x x0 x1 hx => ?_, fun x c x0 x1 hx c0 c1 hc => ?_⟩
  · have hSa : F / 4 ≠ a := fun e => hS (Or.inl e)
    have hS0 : F / 4 ≠ G (4 * a + 0) / 32 := fun e => hS (Or.inr ⟨0, by decide, by decide, (show (0 : Int) ≠ 2 by decide), e⟩)
    have hS1 : F / 4 ≠ G (4 * a + 1) / 32 := fun e => hS (Or.inr ⟨1, by decide, by decide, (show (1 : Int) ≠ 2 by decide), e⟩)
    have hS3 : F / 4 ≠ G (4 * a + 3) / 32 := fun e => hS (Or.inr ⟨3, by decide, by decide, (show (3 : Int) ≠ 2 by decide), e⟩)
    refine ⟨?_, ?_⟩
    · rw [uf_n (nF hS3 p3b2.1 p3b2.2), uf_n (nF hS1 p1b2.1 p1b2.2), uf_n (nF hS0 p0b2.1 p0b2.2), uf_n (nF hSa (by decide) (by decide)), (hL F F0 F1).1, lo_n hS]
    · rw [uf_n (nF hS3 p3b2.1 p3b2.2), uf_n (nF hS1 p1b2.1 p1b2.2), uf_n (nF hS0 p0b2.1 p0b2.2), uf_n (nF hSa (by decide) (by decide)), (hL F F0 F1).2]
  · have e : y = 2 := Classical.byContradiction hy
    subst e
    exact ⟨by rw [uf_n (nAB (Ne.symm w3) (by decide) (by decide) p3b2.1 p3b2.2), uf_n (nAB (Ne.symm w1) (by decide) (by decide) p1b2.1 p1b2.2), uf_n (nAB (Ne.symm w0) (by decide) (by decide) p0b2.1 p0b2.2), uf_s], by rw [uf_n (nAB (Ne.symm w3) (by decide) (by decide) p3b2.1 p3b2.2), uf_n (nAB (Ne.symm w1) (by decide) (by decide) p1b2.1 p1b2.2), uf_n (nAB (Ne.symm w0) (by decide) (by decide) p0b2.1 p0b2.2), uf_s]⟩
  · have e : y = 2 := Classical.byContradiction hy
    subst e
    unfold fX bX pX
    rcases four_of x0 x1 with ex | ex | ex | ex <;> subst ex
    · exact ⟨by rw [uf_n (nAB w03 p0b2.1 p0b2.2 p3b2.1 p3b2.2), uf_n (nAB w01 p0b2.1 p0b2.2 p1b2.1 p1b2.2), uf_s], by rw [uf_n (nAB w03 p0b2.1 p0b2.2 p3b2.1 p3b2.2), uf_n (nAB w01 p0b2.1 p0b2.2 p1b2.1 p1b2.2), uf_s]⟩
    · exact ⟨by rw [uf_n (nAB w13 p1b2.1 p1b2.2 p3b2.1 p3b2.2), uf_s], by rw [uf_n (nAB w13 p1b2.1 p1b2.2 p3b2.1 p3b2.2), uf_s]⟩
    · exact absurd rfl hx
    · exact ⟨by rw [uf_s], by rw [uf_s]⟩
  · rcases four_of x0 x1 with ex | ex | ex | ex <;> subst ex
    · rw [uf_n (nAB (Ne.symm w3) (by decide) (by decide) p3b2.1 p3b2.2), uf_n (nAB (Ne.symm w1) (by decide) (by decide) p1b2.1 p1b2.2), uf_n (nAB (Ne.symm w0) (by decide) (by decide) p0b2.1 p0b2.2), uf_n (nAA (by decide)), (hL _ (ga _ (by decide) (by decide)).1 (ga _ (by decide) (by decide)).2.1).1, lo_y (Or.inl (ga _ (by decide) (by decide)).2.2)]
    · rw [uf_n (nAB (Ne.symm w3) (by decide) (by decide) p3b2.1 p3b2.2), uf_n (nAB (Ne.symm w1) (by decide) (by decide) p1b2.1 p1b2.2), uf_n (nAB (Ne.symm w0) (by decide) (by decide) p0b2.1 p0b2.2), uf_n (nAA (by decide)), (hL _ (ga _ (by decide) (by decide)).1 (ga _ (by decide) (by decide)).2.1).1, lo_y (Or.inl (ga _ (by decide) (by decide)).2.2)]
    · exact absurd rfl hx
    · rw [uf_n (nAB (Ne.symm w3) (by decide) (by decide) p3b2.1 p3b2.2), uf_n (nAB (Ne.symm w1) (by decide) (by decide) p1b2.1 p1b2.2), uf_n (nAB (Ne.symm w0) (by decide) (by decide) p0b2.1 p0b2.2), uf_n (nAA (by decide)), (hL _ (ga _ (by decide) (by decide)).1 (ga _ (by decide) (by decide)).2.1).1, lo_y (Or.inl (ga _ (by decide) (by decide)).2.2)]
  · unfold fX bX pX
    rcases four_of x0 x1 with ex | ex | ex | ex <;> rcases four_of c0 c1 with ec | ec | ec | ec <;> subst ex <;> subst ec
    · rw [uf_n (nAB w03 p0b0.1 p0b0.2 p3b2.1 p3b2.2), uf_n (nAB w01 p0b0.1 p0b0.2 p1b2.1 p1b2.2), uf_n (nAA p0n02), uf_n (nAB w0 p0b0.1 p0b0.2 (by decide) (by decide)), (hL _ g00.1 g00.2.1).1, lo_y (Or.inr ⟨0, by decide, by decide, (show (0 : Int) ≠ 2 by decide), g00.2.2⟩)]
    · rw [uf_n (nAB w03 p0b1.1 p0b1.2 p3b2.1 p3b2.2), uf_n (nAB w01 p0b1.1 p0b1.2 p1b2.1 p1b2.2), uf_n (nAA p0n12), uf_n (nAB w0 p0b1.1 p0b1.2 (by decide) (by decide)), (hL _ g01.1 g01.2.1).1, lo_y (Or.inr ⟨0, by decide, by decide, (show (0 : Int) ≠ 2 by decide), g01.2.2⟩)]
    · exact absurd rfl hc
    · rw [uf_n (nAB w03 p0b3.1 p0b3.2 p3b2.1 p3b2.2), uf_n (nAB w01 p0b3.1 p0b3.2 p1b2.1 p1b2.2), uf_n (nAA (Ne.symm p0n23)), uf_n (nAB w0 p0b3.1 p0b3.2 (by decide) (by decide)), (hL _ g03.1 g03.2.1).1, lo_y (Or.inr ⟨0, by decide, by decide, (show (0 : Int) ≠ 2 by decide), g03.2.2⟩)]
    · rw [uf_n (nAB w13 p1b0.1 p1b0.2 p3b2.1 p3b2.2), uf_n (nAA p1n02), uf_n (nAB w10 p1b0.1 p1b0.2 p0b2.1 p0b2.2), uf_n (nAB w1 p1b0.1 p1b0.2 (by decide) (by decide)), (hL _ g10.1 g10.2.1).1, lo_y (Or.inr ⟨1, by decide, by decide, (show (1 : Int) ≠ 2 by decide), g10.2.2⟩)]
    · rw [uf_n (nAB w13 p1b1.1 p1b1.2 p3b2.1 p3b2.2), uf_n (nAA p1n12), uf_n (nAB w10 p1b1.1 p1b1.2 p0b2.1 p0b2.2), uf_n (nAB w1 p1b1.1 p1b1.2 (by decide) (by decide)), (hL _ g11.1 g11.2.1).1, lo_y (Or.inr ⟨1, by decide, by decide, (show (1 : Int) ≠ 2 by decide), g11.2.2⟩)]
    · exact absurd rfl hc
    · rw [uf_n (nAB w13 p1b3.1 p1b3.2 p3b2.1 p3b2.2), uf_n (nAA (Ne.symm p1n23)), uf_n (nAB w10 p1b3.1 p1b3.2 p0b2.1 p0b2.2), uf_n (nAB w1 p1b3.1 p1b3.2 (by decide) (by decide)), (hL _ g13.1 g13.2.1).1, lo_y (Or.inr ⟨1, by decide, by decide, (show (1 : Int) ≠ 2 by decide), g13.2.2⟩)]
    · exact absurd rfl hx
    · exact absurd rfl hx
    · exact absurd rfl hx
    · exact absurd rfl hx
    · rw [uf_n (nAA p3n02), uf_n (nAB w31 p3b0.1 p3b0.2 p1b2.1 p1b2.2), uf_n (nAB w30 p3b0.1 p3b0.2 p0b2.1 p0b2.2), uf_n (nAB w3 p3b0.1 p3b0.2 (by decide) (by decide)), (hL _ g30.1 g30.2.1).1, lo_y (Or.inr ⟨3, by decide, by decide, (show (3 : Int) ≠ 2 by decide), g30.2.2⟩)]
    · rw [uf_n (nAA p3n12), uf_n (nAB w31 p3b1.1 p3b1.2 p1b2.1 p1b2.2), uf_n (nAB w30 p3b1.1 p3b1.2 p0b2.1 p0b2.2), uf_n (nAB w3 p3b1.1 p3b1.2 (by decide) (by decide)), (hL _ g31.1 g31.2.1).1, lo_y (Or.inr ⟨3, by decide, by decide, (show (3 : Int) ≠ 2 by decide), g31.2.2⟩)]
    · exact absurd rfl hc
    · rw [uf_n (nAA (Ne.symm p3n23)), uf_n (nAB w31 p3b3.1 p3b3.2 p1b2.1 p1b2.2), uf_n (nAB w30 p3b3.1 p3b3.2 p0b2.1 p0b2.2), uf_n (nAB w3 p3b3.1 p3b3.2 (by decide) (by decide)), (hL _ g33.1 g33.2.1).1, lo_y (Or.inr ⟨3, by decide, by decide, (show (3 : Int) ≠ 2 by decide), g33.2.2⟩)]

theorem fc_four2 {t : Int} {G H T : Int → Int} {nw : Int → Int} : FC G t (fun x => x ≠ 2) nw H T (cy G H T (fun _ => -1) (4 * t).toNat) :=
  ⟨fun y z y0 y1 hy z0 z1 hz ne => absurd ((show y = 2 from Classical.byContradiction hy).trans (show z = 2 from Classical.byContradiction hz).symm) ne, fun n hn => rfl⟩
theorem fu_four3 {t a : Int} {G H T : Int → Int} (ha : 0 ≤ a ∧ a < t) (hgl : ∀ x, 0 ≤ x → x < 4 → x ≠ 3 → 0 ≤ G (4 * a + x) ∧ 0 ≤ G (4 * a + x) % 32 ∧ G (4 * a + x) % 32 < 24 ∧ G (4 * a + x) / 32 < t ∧ G (4 * a + x) / 32 ≠ a) (hd : ∀ x y, 0 ≤ x → x < 4 → x ≠ 3 → 0 ≤ y → y < 4 → y ≠ 3 → x ≠ y → G (4 * a + x) / 32 ≠ G (4 * a + y) / 32) (hL : ∀ j, 0 ≤ j → j < 4 * t → H j = lo (gS G a (fun x => x ≠ 3)) j ∧ T j = 0) : FU t G a (fun x => x ≠ 3) (fun _ => sty (gS G a (fun x => x ≠ 3)) t) (uf (uf (uf (uf H (4 * a + 3) (sty (gS G a (fun x => x ≠ 3)) t)) (4 * (G (4 * a + 0) / 32) + im (G (4 * a + 0) % 32) 3) (sty (gS G a (fun x => x ≠ 3)) t)) (4 * (G (4 * a + 1) / 32) + im (G (4 * a + 1) % 32) 3) (sty (gS G a (fun x => x ≠ 3)) t)) (4 * (G (4 * a + 2) / 32) + im (G (4 * a + 2) % 32) 3) (sty (gS G a (fun x => x ≠ 3)) t)) (uf (uf (uf (uf T (4 * a + 3) (0)) (4 * (G (4 * a + 0) / 32) + im (G (4 * a + 0) % 32) 3) (af (sx 0 3) (iv (G (4 * a + 0) % 32)))) (4 * (G (4 * a + 1) / 32) + im (G (4 * a + 1) % 32) 3) (af (sx 1 3) (iv (G (4 * a + 1) % 32)))) (4 * (G (4 * a + 2) / 32) + im (G (4 * a + 2) % 32) 3) (af (sx 2 3) (iv (G (4 * a + 2) % 32)))) := by
  have z0 := hgl 0 (by decide) (by decide) (by decide)
  have w0 := z0.2.2.2.2
  have q00 := z0.2.1
  have q01 := z0.2.2.1
  have p0b0 := im_in q00 q01 (show (0 : Int) ≤ 0 by decide) (by decide)
  have p0b1 := im_in q00 q01 (show (0 : Int) ≤ 1 by decide) (by decide)
  have p0b2 := im_in q00 q01 (show (0 : Int) ≤ 2 by decide) (by decide)
  have p0b3 := im_in q00 q01 (show (0 : Int) ≤ 3 by decide) (by decide)
  have p0n01 : im (G (4 * a + 0) % 32) 0 ≠ im (G (4 * a + 0) % 32) 1 := fun z => absurd (im_ij q00 q01 (by decide) (by decide) (by decide) (by decide) z) (by decide)
  have p0n02 : im (G (4 * a + 0) % 32) 0 ≠ im (G (4 * a + 0) % 32) 2 := fun z => absurd (im_ij q00 q01 (by decide) (by decide) (by decide) (by decide) z) (by decide)
  have p0n03 : im (G (4 * a + 0) % 32) 0 ≠ im (G (4 * a + 0) % 32) 3 := fun z => absurd (im_ij q00 q01 (by decide) (by decide) (by decide) (by decide) z) (by decide)
  have p0n12 : im (G (4 * a + 0) % 32) 1 ≠ im (G (4 * a + 0) % 32) 2 := fun z => absurd (im_ij q00 q01 (by decide) (by decide) (by decide) (by decide) z) (by decide)
  have p0n13 : im (G (4 * a + 0) % 32) 1 ≠ im (G (4 * a + 0) % 32) 3 := fun z => absurd (im_ij q00 q01 (by decide) (by decide) (by decide) (by decide) z) (by decide)
  have p0n23 : im (G (4 * a + 0) % 32) 2 ≠ im (G (4 * a + 0) % 32) 3 := fun z => absurd (im_ij q00 q01 (by decide) (by decide) (by decide) (by decide) z) (by decide)
  have w01 := hd 0 1 (by decide) (by decide) (by decide) (by decide) (by decide) (by decide) (by decide)
  have w02 := hd 0 2 (by decide) (by decide) (by decide) (by decide) (by decide) (by decide) (by decide)
  have z1 := hgl 1 (by decide) (by decide) (by decide)
  have w1 := z1.2.2.2.2
  have q10 := z1.2.1
  have q11 := z1.2.2.1
  have p1b0 := im_in q10 q11 (show (0 : Int) ≤ 0 by decide) (by decide)
  have p1b1 := im_in q10 q11 (show (0 : Int) ≤ 1 by decide) (by decide)
  have p1b2 := im_in q10 q11 (show (0 : Int) ≤ 2 by decide) (by decide)
  have p1b3 := im_in q10 q11 (show (0 : Int) ≤ 3 by decide) (by decide)
  have p1n01 : im (G (4 * a + 1) % 32) 0 ≠ im (G (4 * a + 1) % 32) 1 := fun z => absurd (im_ij q10 q11 (by decide) (by decide) (by decide) (by decide) z) (by decide)
  have p1n02 : im (G (4 * a + 1) % 32) 0 ≠ im (G (4 * a + 1) % 32) 2 := fun z => absurd (im_ij q10 q11 (by decide) (by decide) (by decide) (by decide) z) (by decide)
  have p1n03 : im (G (4 * a + 1) % 32) 0 ≠ im (G (4 * a + 1) % 32) 3 := fun z => absurd (im_ij q10 q11 (by decide) (by decide) (by decide) (by decide) z) (by decide)
  have p1n12 : im (G (4 * a + 1) % 32) 1 ≠ im (G (4 * a + 1) % 32) 2 := fun z => absurd (im_ij q10 q11 (by decide) (by decide) (by decide) (by decide) z) (by decide)
  have p1n13 : im (G (4 * a + 1) % 32) 1 ≠ im (G (4 * a + 1) % 32) 3 := fun z => absurd (im_ij q10 q11 (by decide) (by decide) (by decide) (by decide) z) (by decide)
  have p1n23 : im (G (4 * a + 1) % 32) 2 ≠ im (G (4 * a + 1) % 32) 3 := fun z => absurd (im_ij q10 q11 (by decide) (by decide) (by decide) (by decide) z) (by decide)
  have w10 := hd 1 0 (by decide) (by decide) (by decide) (by decide) (by decide) (by decide) (by decide)
  have w12 := hd 1 2 (by decide) (by decide) (by decide) (by decide) (by decide) (by decide) (by decide)
  have z2 := hgl 2 (by decide) (by decide) (by decide)
  have w2 := z2.2.2.2.2
  have q20 := z2.2.1
  have q21 := z2.2.2.1
  have p2b0 := im_in q20 q21 (show (0 : Int) ≤ 0 by decide) (by decide)
  have p2b1 := im_in q20 q21 (show (0 : Int) ≤ 1 by decide) (by decide)
  have p2b2 := im_in q20 q21 (show (0 : Int) ≤ 2 by decide) (by decide)
  have p2b3 := im_in q20 q21 (show (0 : Int) ≤ 3 by decide) (by decide)
  have p2n01 : im (G (4 * a + 2) % 32) 0 ≠ im (G (4 * a + 2) % 32) 1 := fun z => absurd (im_ij q20 q21 (by decide) (by decide) (by decide) (by decide) z) (by decide)
  have p2n02 : im (G (4 * a + 2) % 32) 0 ≠ im (G (4 * a + 2) % 32) 2 := fun z => absurd (im_ij q20 q21 (by decide) (by decide) (by decide) (by decide) z) (by decide)
  have p2n03 : im (G (4 * a + 2) % 32) 0 ≠ im (G (4 * a + 2) % 32) 3 := fun z => absurd (im_ij q20 q21 (by decide) (by decide) (by decide) (by decide) z) (by decide)
  have p2n12 : im (G (4 * a + 2) % 32) 1 ≠ im (G (4 * a + 2) % 32) 2 := fun z => absurd (im_ij q20 q21 (by decide) (by decide) (by decide) (by decide) z) (by decide)
  have p2n13 : im (G (4 * a + 2) % 32) 1 ≠ im (G (4 * a + 2) % 32) 3 := fun z => absurd (im_ij q20 q21 (by decide) (by decide) (by decide) (by decide) z) (by decide)
  have p2n23 : im (G (4 * a + 2) % 32) 2 ≠ im (G (4 * a + 2) % 32) 3 := fun z => absurd (im_ij q20 q21 (by decide) (by decide) (by decide) (by decide) z) (by decide)
  have w20 := hd 2 0 (by decide) (by decide) (by decide) (by decide) (by decide) (by decide) (by decide)
  have w21 := hd 2 1 (by decide) (by decide) (by decide) (by decide) (by decide) (by decide) (by decide)
  have g00 : 0 ≤ 4 * (G (4 * a + 0) / 32) + im (G (4 * a + 0) % 32) 0 ∧ 4 * (G (4 * a + 0) / 32) + im (G (4 * a + 0) % 32) 0 < 4 * t ∧ (4 * (G (4 * a + 0) / 32) + im (G (4 * a + 0) % 32) 0) / 4 = G (4 * a + 0) / 32 := by
    have h1 := p0b0
    have h2 := z0
    clear p0n01 p0n02 p0n03 p0n12 p0n13 p0n23 p1n01 p1n02 p1n03 p1n12 p1n13 p1n23 p2n01 p2n02 p2n03 p2n12 p2n13 p2n23 w1 z1 w2 z2 w0 w01 w02 w10 w12 w20 w21
    omega
  have g01 : 0 ≤ 4 * (G (4 * a + 0) / 32) + im (G (4 * a + 0) % 32) 1 ∧ 4 * (G (4 * a + 0) / 32) + im (G (4 * a + 0) % 32) 1 < 4 * t ∧ (4 * (G (4 * a + 0) / 32) + im (G (4 * a + 0) % 32) 1) / 4 = G (4 * a + 0) / 32 := by
    have h1 := p0b1
    have h2 := z0
    clear p0n01 p0n02 p0n03 p0n12 p0n13 p0n23 p1n01 p1n02 p1n03 p1n12 p1n13 p1n23 p2n01 p2n02 p2n03 p2n12 p2n13 p2n23 w1 z1 w2 z2 w0 w01 w02 w10 w12 w20 w21
    omega
  have g02 : 0 ≤ 4 * (G (4 * a + 0) / 32) + im (G (4 * a + 0) % 32) 2 ∧ 4 * (G (4 * a + 0) / 32) + im (G (4 * a + 0) % 32) 2 < 4 * t ∧ (4 * (G (4 * a + 0) / 32) + im (G (4 * a + 0) % 32) 2) / 4 = G (4 * a + 0) / 32 := by
    have h1 := p0b2
    have h2 := z0
    clear p0n01 p0n02 p0n03 p0n12 p0n13 p0n23 p1n01 p1n02 p1n03 p1n12 p1n13 p1n23 p2n01 p2n02 p2n03 p2n12 p2n13 p2n23 w1 z1 w2 z2 w0 w01 w02 w10 w12 w20 w21
    omega
  have g10 : 0 ≤ 4 * (G (4 * a + 1) / 32) + im (G (4 * a + 1) % 32) 0 ∧ 4 * (G (4 * a + 1) / 32) + im (G (4 * a + 1) % 32) 0 < 4 * t ∧ (4 * (G (4 * a + 1) / 32) + im (G (4 * a + 1) % 32) 0) / 4 = G (4 * a + 1) / 32 := by
    have h1 := p1b0
    have h2 := z1
    clear p0n01 p0n02 p0n03 p0n12 p0n13 p0n23 p1n01 p1n02 p1n03 p1n12 p1n13 p1n23 p2n01 p2n02 p2n03 p2n12 p2n13 p2n23 w0 z0 w2 z2 w1 w01 w02 w10 w12 w20 w21
    omega
  have g11 : 0 ≤ 4 * (G (4 * a + 1) / 32) + im (G (4 * a + 1) % 32) 1 ∧ 4 * (G (4 * a + 1) / 32) + im (G (4 * a + 1) % 32) 1 < 4 * t ∧ (4 * (G (4 * a + 1) / 32) + im (G (4 * a + 1) % 32) 1) / 4 = G (4 * a + 1) / 32 := by
    have h1 := p1b1
    have h2 := z1
    clear p0n01 p0n02 p0n03 p0n12 p0n13 p0n23 p1n01 p1n02 p1n03 p1n12 p1n13 p1n23 p2n01 p2n02 p2n03 p2n12 p2n13 p2n23 w0 z0 w2 z2 w1 w01 w02 w10 w12 w20 w21
    omega
  have g12 : 0 ≤ 4 * (G (4 * a + 1) / 32) + im (G (4 * a + 1) % 32) 2 ∧ 4 * (G (4 * a + 1) / 32) + im (G (4 * a + 1) % 32) 2 < 4 * t ∧ (4 * (G (4 * a + 1) / 32) + im (G (4 * a + 1) % 32) 2) / 4 = G (4 * a + 1) / 32 := by
    have h1 := p1b2
    have h2 := z1
    clear p0n01 p0n02 p0n03 p0n12 p0n13 p0n23 p1n01 p1n02 p1n03 p1n12 p1n13 p1n23 p2n01 p2n02 p2n03 p2n12 p2n13 p2n23 w0 z0 w2 z2 w1 w01 w02 w10 w12 w20 w21
    omega
  have g20 : 0 ≤ 4 * (G (4 * a + 2) / 32) + im (G (4 * a + 2) % 32) 0 ∧ 4 * (G (4 * a + 2) / 32) + im (G (4 * a + 2) % 32) 0 < 4 * t ∧ (4 * (G (4 * a + 2) / 32) + im (G (4 * a + 2) % 32) 0) / 4 = G (4 * a + 2) / 32 := by
    have h1 := p2b0
    have h2 := z2
    clear p0n01 p0n02 p0n03 p0n12 p0n13 p0n23 p1n01 p1n02 p1n03 p1n12 p1n13 p1n23 p2n01 p2n02 p2n03 p2n12 p2n13 p2n23 w0 z0 w1 z1 w2 w01 w02 w10 w12 w20 w21
    omega
  have g21 : 0 ≤ 4 * (G (4 * a + 2) / 32) + im (G (4 * a + 2) % 32) 1 ∧ 4 * (G (4 * a + 2) / 32) + im (G (4 * a + 2) % 32) 1 < 4 * t ∧ (4 * (G (4 * a + 2) / 32) + im (G (4 * a + 2) % 32) 1) / 4 = G (4 * a + 2) / 32 := by
    have h1 := p2b1
    have h2 := z2
    clear p0n01 p0n02 p0n03 p0n12 p0n13 p0n23 p1n01 p1n02 p1n03 p1n12 p1n13 p1n23 p2n01 p2n02 p2n03 p2n12 p2n13 p2n23 w0 z0 w1 z1 w2 w01 w02 w10 w12 w20 w21
    omega
  have g22 : 0 ≤ 4 * (G (4 * a + 2) / 32) + im (G (4 * a + 2) % 32) 2 ∧ 4 * (G (4 * a + 2) / 32) + im (G (4 * a + 2) % 32) 2 < 4 * t ∧ (4 * (G (4 * a + 2) / 32) + im (G (4 * a + 2) % 32) 2) / 4 = G (4 * a + 2) / 32 := by
    have h1 := p2b2
    have h2 := z2
    clear p0n01 p0n02 p0n03 p0n12 p0n13 p0n23 p1n01 p1n02 p1n03 p1n12 p1n13 p1n23 p2n01 p2n02 p2n03 p2n12 p2n13 p2n23 w0 z0 w1 z1 w2 w01 w02 w10 w12 w20 w21
    omega
  have ga : ∀ x, 0 ≤ x → x < 4 → 0 ≤ 4 * a + x ∧ 4 * a + x < 4 * t ∧ (4 * a + x) / 4 = a := by
    clear p0n01 p0n02 p0n03 p0n12 p0n13 p0n23 p1n01 p1n02 p1n03 p1n12 p1n13 p1n23 p2n01 p2n02 p2n03 p2n12 p2n13 p2n23 w0 w1 w2 w01 w02 w10 w12 w20 w21 z0 z1 z2
    intro x a b
    omega
  refine ⟨fun F F0 F1 hS => ?_, fun y y0 y1 hy => ?_, fun x y x0 x1 hx y0 y1 hy => ?_, fun x x0 x1 hx => ?_, fun x c x0 x1 hx c0 c1 hc => ?_⟩
  · have hSa : F / 4 ≠ a := fun e => hS (Or.inl e)
    have hS0 : F / 4 ≠ G (4 * a + 0) / 32 := fun e => hS (Or.inr ⟨0, by decide, by decide, (show (0 : Int) ≠ 3 by decide), e⟩)
    have hS1 : F / 4 ≠ G (4 * a + 1) / 32 := fun e => hS (Or.inr ⟨1, by decide, by decide, (show (1 : Int) ≠ 3 by decide), e⟩)
    have hS2 : F / 4 ≠ G (4 * a + 2) / 32 := fun e => hS (Or.inr ⟨2, by decide, by decide, (show (2 : Int) ≠ 3 by decide), e⟩)
    refine ⟨?_, ?_⟩
    · rw [uf_n (nF hS2 p2b3.1 p2b3.2), uf_n (nF hS1 p1b3.1 p1b3.2), uf_n (nF hS0 p0b3.1 p0b3.2), uf_n (nF hSa (by decide) (by decide)), (hL F F0 F1).1, lo_n hS]
    · rw [uf_n (nF hS2 p2b3.1 p2b3.2), uf_n (nF hS1 p1b3.1 p1b3.2), uf_n (nF hS0 p0b3.1 p0b3.2), uf_n (nF hSa (by decide) (by decide)), (hL F F0 F1).2]
  · have e : y = 3 := Classical.byContradiction hy
    subst e
    exact ⟨by rw [uf_n (nAB (Ne.symm w2) (by decide) (by decide) p2b3.1 p2b3.2), uf_n (nAB (Ne.symm w1) (by decide) (by decide) p1b3.1 p1b3.2), uf_n (nAB (Ne.symm w0) (by decide) (by decide) p0b3.1 p0b3.2), uf_s], by rw [uf_n (nAB (Ne.symm w2) (by decide) (by decide) p2b3.1 p2b3.2), uf_n (nAB (Ne.symm w1) (by decide) (by decide) p1b3.1 p1b3.2), uf_n (nAB (Ne.symm w0) (by decide) (by decide) p0b3.1 p0b3.2), uf_s]⟩
  · have e : y = 3 := Classical.byContradiction hy
    subst e
    unfold fX bX pX
    rcases four_of x0 x1 with ex | ex | ex | ex <;> subst ex
    · exact ⟨by rw [uf_n (nAB w02 p0b3.1 p0b3.2 p2b3.1 p2b3.2), uf_n (nAB w01 p0b3.1 p0b3.2 p1b3.1 p1b3.2), uf_s], by rw [uf_n (nAB w02 p0b3.1 p0b3.2 p2b3.1 p2b3.2), uf_n (nAB w01 p0b3.1 p0b3.2 p1b3.1 p1b3.2), uf_s]⟩
    · exact ⟨by rw [uf_n (nAB w12 p1b3.1 p1b3.2 p2b3.1 p2b3.2), uf_s], by rw [uf_n (nAB w12 p1b3.1 p1b3.2 p2b3.1 p2b3.2), uf_s]⟩
    · exact ⟨by rw [uf_s], by rw [uf_s]⟩
    · exact absurd rfl hx
  · rcases four_of x0 x1 with ex | ex | ex | ex <;> subst ex
    · rw [uf_n (nAB (Ne.symm w2) (by decide) (by decide) p2b3.1 p2b3.2), uf_n (nAB (Ne.symm w1) (by decide) (by decide) p1b3.1 p1b3.2), uf_n (nAB (Ne.symm w0) (by decide) (by decide) p0b3.1 p0b3.2), uf_n (nAA (by decide)), (hL _ (ga _ (by decide) (by decide)).1 (ga _ (by decide) (by decide)).2.1).1, lo_y (Or.inl (ga _ (by decide) (by decide)).2.2)]
    · rw [uf_n (nAB (Ne.symm w2) (by decide) (by decide) p2b3.1 p2b3.2), uf_n (nAB (Ne.symm w1) (by decide) (by decide) p1b3.1 p1b3.2), uf_n (nAB (Ne.symm w0) (by decide) (by decide) p0b3.1 p0b3.2), uf_n (nAA (by decide)), (hL _ (ga _ (by decide) (by decide)).1 (ga _ (by decide) (by decide)).2.1).1, lo_y (Or.inl (ga _ (by decide) (by decide)).2.2)]
    · rw [uf_n (nAB (Ne.symm w2) (by decide) (by decide) p2b3.1 p2b3.2), uf_n (nAB (Ne.symm w1) (by decide) (by decide) p1b3.1 p1b3.2), uf_n (nAB (Ne.symm w0) (by decide) (by decide) p0b3.1 p0b3.2), uf_n (nAA (by decide)), (hL _ (ga _ (by decide) (by decide)).1 (ga _ (by decide) (by decide)).2.1).1, lo_y (Or.inl (ga _ (by decide) (by decide)).2.2)]
    · exact absurd rfl hx
  · unfold fX bX pX
    rcases four_of x0 x1 with ex | ex | ex | ex <;> rcases four_of c0 c1 with ec | ec | ec | ec <;> subst ex <;> subst ec
    · rw [uf_n (nAB w02 p0b0.1 p0b0.2 p2b3.1 p2b3.2), uf_n (nAB w01 p0b0.1 p0b0.2 p1b3.1 p1b3.2), uf_n (nAA p0n03), uf_n (nAB w0 p0b0.1 p0b0.2 (by decide) (by decide)), (hL _ g00.1 g00.2.1).1, lo_y (Or.inr ⟨0, by decide, by decide, (show (0 : Int) ≠ 3 by decide), g00.2.2⟩)]
    · rw [uf_n (nAB w02 p0b1.1 p0b1.2 p2b3.1 p2b3.2), uf_n (nAB w01 p0b1.1 p0b1.2 p1b3.1 p1b3.2), uf_n (nAA p0n13), uf_n (nAB w0 p0b1.1 p0b1.2 (by decide) (by decide)), (hL _ g01.1 g01.2.1).1, lo_y (Or.inr ⟨0, by decide, by decide, (show (0 : Int) ≠ 3 by decide), g01.2.2⟩)]
    · rw [uf_n (nAB w02 p0b2.1 p0b2.2 p2b3.1 p2b3.2), uf_n (nAB w01 p0b2.1 p0b2.2 p1b3.1 p1b3.2), uf_n (nAA p0n23), uf_n (nAB w0 p0b2.1 p0b2.2 (by decide) (by decide)), (hL _ g02.1 g02.2.1).1, lo_y (Or.inr ⟨0, by decide, by decide, (show (0 : Int) ≠ 3 by decide), g02.2.2⟩)]
    · exact absurd rfl hc
    · rw [uf_n (nAB w12 p1b0.1 p1b0.2 p2b3.1 p2b3.2), uf_n (nAA p1n03), uf_n (nAB w10 p1b0.1 p1b0.2 p0b3.1 p0b3.2), uf_n (nAB w1 p1b0.1 p1b0.2 (by decide) (by decide)), (hL _ g10.1 g10.2.1).1, lo_y (Or.inr ⟨1, by decide, by decide, (show (1 : Int) ≠ 3 by decide), g10.2.2⟩)]
    · rw [uf_n (nAB w12 p1b1.1 p1b1.2 p2b3.1 p2b3.2), uf_n (nAA p1n13), uf_n (nAB w10 p1b1.1 p1b1.2 p0b3.1 p0b3.2), uf_n (nAB w1 p1b1.1 p1b1.2 (by decide) (by decide)), (hL _ g11.1 g11.2.1).1, lo_y (Or.inr ⟨1, by decide, by decide, (show (1 : Int) ≠ 3 by decide), g11.2.2⟩)]
    · rw [uf_n (nAB w12 p1b2.1 p1b2.2 p2b3.1 p2b3.2), uf_n (nAA p1n23), uf_n (nAB w10 p1b2.1 p1b2.2 p0b3.1 p0b3.2), uf_n (nAB w1 p1b2.1 p1b2.2 (by decide) (by decide)), (hL _ g12.1 g12.2.1).1, lo_y (Or.inr ⟨1, by decide, by decide, (show (1 : Int) ≠ 3 by decide), g12.2.2⟩)]
    · exact absurd rfl hc
    · rw [uf_n (nAA p2n03), uf_n (nAB w21 p2b0.1 p2b0.2 p1b3.1 p1b3.2), uf_n (nAB w20 p2b0.1 p2b0.2 p0b3.1 p0b3.2), uf_n (nAB w2 p2b0.1 p2b0.2 (by decide) (by decide)), (hL _ g20.1 g20.2.1).1, lo_y (Or.inr ⟨2, by decide, by decide, (show (2 : Int) ≠ 3 by decide), g20.2.2⟩)]
    · rw [uf_n (nAA p2n13), uf_n (nAB w21 p2b1.1 p2b1.2 p1b3.1 p1b3.2), uf_n (nAB w20 p2b1.1 p2b1.2 p0b3.1 p0b3.2), uf_n (nAB w2 p2b1.1 p2b1.2 (by decide) (by decide)), (hL _ g21.1 g21.2.1).1, lo_y (Or.inr ⟨2, by decide, by decide, (show (2 : Int) ≠ 3 by decide), g21.2.2⟩)]
    · rw [uf_n (nAA p2n23), uf_n (nAB w21 p2b2.1 p2b2.2 p1b3.1 p1b3.2), uf_n (nAB w20 p2b2.1 p2b2.2 p0b3.1 p0b3.2), uf_n (nAB w2 p2b2.1 p2b2.2 (by decide) (by decide)), (hL _ g22.1 g22.2.1).1, lo_y (Or.inr ⟨2, by decide, by decide, (show (2 : Int) ≠ 3 by decide), g22.2.2⟩)]
    · exact absurd rfl hc
    · exact absurd rfl hx
    · exact absurd rfl hx
    · exact absurd rfl hx
    · exact absurd rfl hx

theorem fc_four3 {t : Int} {G H T : Int → Int} {nw : Int → Int} : FC G t (fun x => x ≠ 3) nw H T (cy G H T (fun _ => -1) (4 * t).toNat) :=
  ⟨fun y z y0 y1 hy z0 z1 hz ne => absurd ((show y = 3 from Classical.byContradiction hy).trans (show z = 3 from Classical.byContradiction hz).symm) ne, fun n hn => rfl⟩
