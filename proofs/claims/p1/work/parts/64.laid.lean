theorem fj_out {C : Int → Int} {a b x y n : Int} (h1 : n ≠ 4 * a + y) (h2 : n ≠ 4 * b + x) : fj C a b x y n = C n := by
  unfold fj
  rw [uf_n h2, uf_n h1]
theorem fj_1 {C : Int → Int} {a b x y : Int} (h : 4 * a + y ≠ 4 * b + x) : fj C a b x y (4 * a + y) = 32 * b + sx x y := by
  unfold fj
  rw [uf_n h, uf_s]
theorem fj_2 {C : Int → Int} {a b x y : Int} : fj C a b x y (4 * b + x) = 32 * a + sx x y := by
  unfold fj
  rw [uf_s]
theorem sx_v : sx 0 1 = 6 ∧ sx 0 2 = 14 ∧ sx 0 3 = 21 ∧ sx 1 2 = 2 ∧ sx 1 3 = 5 ∧ sx 2 3 = 1 ∧ sx 1 0 = 6 ∧ sx 2 0 = 14 ∧ sx 3 0 = 21 ∧ sx 2 1 = 2 ∧ sx 3 1 = 5 ∧ sx 3 2 = 1 := by decide +kernel
theorem lo_y {S : Int → Prop} {j : Int} (h : S (j / 4)) : lo S j = -1 := by
  unfold lo
  rw [if_pos h]
theorem lo_n {S : Int → Prop} {j : Int} (h : ¬ S (j / 4)) : lo S j = sty S (j / 4) := by
  unfold lo
  rw [if_neg h]
theorem nAB {a b x c : Int} (h : a ≠ b) (x0 : 0 ≤ x) (x1 : x < 4) (c0 : 0 ≤ c) (c1 : c < 4) : 4 * a + x ≠ 4 * b + c := by omega
theorem nAA {a x y : Int} (h : x ≠ y) : 4 * a + x ≠ 4 * a + y := by omega
theorem nF {F a c : Int} (h : F / 4 ≠ a) (c0 : 0 ≤ c) (c1 : c < 4) : F ≠ 4 * a + c := by omega
def rkf (f y : Int) : Int := if f < y then y - 1 else y
theorem four_of {y : Int} (y0 : 0 ≤ y) (y1 : y < 4) : y = 0 ∨ y = 1 ∨ y = 2 ∨ y = 3 := by omega
theorem gs_two0 {k : Int} {G : Int → Int} (hf : k % 4 = 0) : gS G (k / 4) (fun x => x = 0) = (fun i => i = k / 4 ∨ i = G k / 32) := by
  have ek : 4 * (k / 4) + 0 = k := by omega
  funext i
  refine propext ⟨fun h => ?_, fun h => ?_⟩
  · rcases h with h | ⟨x, -, -, e, h⟩
    · exact Or.inl h
    · have e : x = 0 := e
      unfold bX at h
      rw [e, ek] at h
      exact Or.inr h
  · rcases h with h | h
    · exact Or.inl h
    · refine Or.inr ⟨0, by decide, by decide, rfl, ?_⟩
      unfold bX
      rw [ek]
      exact h
theorem fu_two0 {t k : Int} {G H T : Int → Int} (hG : VG t G) (hk : 0 ≤ k ∧ k < 4 * t) (hf : k % 4 = 0) (hk2 : 0 ≤ G k ∧ G k / 32 ≠ k / 4) (hL : ∀ j, 0 ≤ j → j < 4 * t → H j = lo (fun i => i = k / 4 ∨ i = G k / 32) j ∧ T j = 0) : FU t G (k / 4) (fun x => x = 0) (fun y => t - 2 + rkf 0 y) (uf (uf (uf (uf (uf (uf H (4 * (k / 4) + 1) (t - 2)) (4 * (G k / 32) + im (G k % 32) 1) (t - 2)) (4 * (k / 4) + 2) (t - 2 + 1)) (4 * (G k / 32) + im (G k % 32) 2) (t - 2 + 1)) (4 * (k / 4) + 3) (t - 2 + 1 + 1)) (4 * (G k / 32) + im (G k % 32) 3) (t - 2 + 1 + 1)) (uf (uf (uf (uf (uf (uf T (4 * (k / 4) + 1) (0)) (4 * (G k / 32) + im (G k % 32) 1) (af (sx 0 1) (iv (G k % 32)))) (4 * (k / 4) + 2) (0)) (4 * (G k / 32) + im (G k % 32) 2) (af (sx 0 2) (iv (G k % 32)))) (4 * (k / 4) + 3) (0)) (4 * (G k / 32) + im (G k % 32) 3) (af (sx 0 3) (iv (G k % 32)))) := by
  have hg1 : 0 ≤ G k ∧ G k / 32 < t ∧ G k % 32 < 24 := by
    rcases hG.2.1 k hk.1 hk.2 with z | z
    · omega
    · exact ⟨z.1, z.2.1, z.2.2.1⟩
  have q0 : 0 ≤ G k % 32 := by omega
  have q1 := hg1.2.2
  have b0 := im_in q0 q1 (show (0 : Int) ≤ 0 by decide) (by decide)
  have b1 := im_in q0 q1 (show (0 : Int) ≤ 1 by decide) (by decide)
  have b2 := im_in q0 q1 (show (0 : Int) ≤ 2 by decide) (by decide)
  have b3 := im_in q0 q1 (show (0 : Int) ≤ 3 by decide) (by decide)
  have n01 : im (G k % 32) 0 ≠ im (G k % 32) 1 := fun z => absurd (im_ij q0 q1 (by decide) (by decide) (by decide) (by decide) z) (by decide)
  have n02 : im (G k % 32) 0 ≠ im (G k % 32) 2 := fun z => absurd (im_ij q0 q1 (by decide) (by decide) (by decide) (by decide) z) (by decide)
  have n03 : im (G k % 32) 0 ≠ im (G k % 32) 3 := fun z => absurd (im_ij q0 q1 (by decide) (by decide) (by decide) (by decide) z) (by decide)
  have n12 : im (G k % 32) 1 ≠ im (G k % 32) 2 := fun z => absurd (im_ij q0 q1 (by decide) (by decide) (by decide) (by decide) z) (by decide)
  have n13 : im (G k % 32) 1 ≠ im (G k % 32) 3 := fun z => absurd (im_ij q0 q1 (by decide) (by decide) (by decide) (by decide) z) (by decide)
  have n23 : im (G k % 32) 2 ≠ im (G k % 32) 3 := fun z => absurd (im_ij q0 q1 (by decide) (by decide) (by decide) (by decide) z) (by decide)
  have ek : 4 * (k / 4) + 0 = k := by omega
  have gb : 0 ≤ 4 * (G k / 32) + im (G k % 32) 0 ∧ 4 * (G k / 32) + im (G k % 32) 0 < 4 * t ∧ (4 * (G k / 32) + im (G k % 32) 0) / 4 = G k / 32 := by
    clear n01 n02 n03 n12 n13 n23
    omega
  unfold FU fX bX pX
  rw [gs_two0 hf]
  refine ⟨fun F F0 F1 hS => ?_, fun y y0 y1 hy => ?_, fun x y x0 x1 hx y0 y1 hy => ?_, fun x x0 x1 hx => ?_, fun x c x0 x1 hx c0 c1 hc => ?_⟩
  · have hS1 : F / 4 ≠ k / 4 := fun e => hS (Or.inl e)
    have hS2 : F / 4 ≠ G k / 32 := fun e => hS (Or.inr e)
    refine ⟨?_, ?_⟩
    · rw [uf_n (nF hS2 b3.1 b3.2), uf_n (nF hS1 (by decide) (by decide)), uf_n (nF hS2 b2.1 b2.2), uf_n (nF hS1 (by decide) (by decide)), uf_n (nF hS2 b1.1 b1.2), uf_n (nF hS1 (by decide) (by decide)), (hL F F0 F1).1, lo_n hS]
    · rw [uf_n (nF hS2 b3.1 b3.2), uf_n (nF hS1 (by decide) (by decide)), uf_n (nF hS2 b2.1 b2.2), uf_n (nF hS1 (by decide) (by decide)), uf_n (nF hS2 b1.1 b1.2), uf_n (nF hS1 (by decide) (by decide)), (hL F F0 F1).2]
  · rcases four_of y0 y1 with ey | ey | ey | ey <;> subst ey
    · exact absurd rfl hy
    · refine ⟨?_, ?_⟩
      · rw [uf_n (nAB (Ne.symm hk2.2) (by decide) (by decide) b3.1 b3.2), uf_n (nAA (by decide)), uf_n (nAB (Ne.symm hk2.2) (by decide) (by decide) b2.1 b2.2), uf_n (nAA (by decide)), uf_n (nAB (Ne.symm hk2.2) (by decide) (by decide) b1.1 b1.2), uf_s]
        show _ = t - 2 + rkf 0 1
        rw [show rkf 0 1 = 0 by decide]
        try omega
      · rw [uf_n (nAB (Ne.symm hk2.2) (by decide) (by decide) b3.1 b3.2), uf_n (nAA (by decide)), uf_n (nAB (Ne.symm hk2.2) (by decide) (by decide) b2.1 b2.2), uf_n (nAA (by decide)), uf_n (nAB (Ne.symm hk2.2) (by decide) (by decide) b1.1 b1.2), uf_s]
    · refine ⟨?_, ?_⟩
      · rw [uf_n (nAB (Ne.symm hk2.2) (by decide) (by decide) b3.1 b3.2), uf_n (nAA (by decide)), uf_n (nAB (Ne.symm hk2.2) (by decide) (by decide) b2.1 b2.2), uf_s]
        show _ = t - 2 + rkf 0 2
        rw [show rkf 0 2 = 1 by decide]
        try omega
      · rw [uf_n (nAB (Ne.symm hk2.2) (by decide) (by decide) b3.1 b3.2), uf_n (nAA (by decide)), uf_n (nAB (Ne.symm hk2.2) (by decide) (by decide) b2.1 b2.2), uf_s]
    · refine ⟨?_, ?_⟩
      · rw [uf_n (nAB (Ne.symm hk2.2) (by decide) (by decide) b3.1 b3.2), uf_s]
        show _ = t - 2 + rkf 0 3
        rw [show rkf 0 3 = 2 by decide]
        try omega
      · rw [uf_n (nAB (Ne.symm hk2.2) (by decide) (by decide) b3.1 b3.2), uf_s]
  · have hx : x = 0 := hx
    subst hx
    rw [ek]
    rcases four_of y0 y1 with ey | ey | ey | ey <;> subst ey
    · exact absurd rfl hy
    · refine ⟨?_, ?_⟩
      · rw [uf_n (nAA n13), uf_n (nAB hk2.2 b1.1 b1.2 (by decide) (by decide)), uf_n (nAA n12), uf_n (nAB hk2.2 b1.1 b1.2 (by decide) (by decide)), uf_s]
        show _ = t - 2 + rkf 0 1
        rw [show rkf 0 1 = 0 by decide]
        try omega
      · rw [uf_n (nAA n13), uf_n (nAB hk2.2 b1.1 b1.2 (by decide) (by decide)), uf_n (nAA n12), uf_n (nAB hk2.2 b1.1 b1.2 (by decide) (by decide)), uf_s]
    · refine ⟨?_, ?_⟩
      · rw [uf_n (nAA n23), uf_n (nAB hk2.2 b2.1 b2.2 (by decide) (by decide)), uf_s]
        show _ = t - 2 + rkf 0 2
        rw [show rkf 0 2 = 1 by decide]
        try omega
      · rw [uf_n (nAA n23), uf_n (nAB hk2.2 b2.1 b2.2 (by decide) (by decide)), uf_s]
    · refine ⟨?_, ?_⟩
      · rw [uf_s]
        show _ = t - 2 + rkf 0 3
        rw [show rkf 0 3 = 2 by decide]
        try omega
      · rw [uf_s]
  · have hx : x = 0 := hx
    subst hx
    rw [uf_n (nAB (Ne.symm hk2.2) (by decide) (by decide) b3.1 b3.2), uf_n (nAA (by decide)), uf_n (nAB (Ne.symm hk2.2) (by decide) (by decide) b2.1 b2.2), uf_n (nAA (by decide)), uf_n (nAB (Ne.symm hk2.2) (by decide) (by decide) b1.1 b1.2), uf_n (nAA (by decide)), ek, (hL k hk.1 hk.2).1, lo_y (Or.inl rfl)]
  · have hx : x = 0 := hx
    have hc : c = 0 := hc
    subst hx
    subst hc
    rw [ek, uf_n (nAA n03), uf_n (nAB hk2.2 b0.1 b0.2 (by decide) (by decide)), uf_n (nAA n02), uf_n (nAB hk2.2 b0.1 b0.2 (by decide) (by decide)), uf_n (nAA n01), uf_n (nAB hk2.2 b0.1 b0.2 (by decide) (by decide)), (hL _ gb.1 gb.2.1).1, lo_y (Or.inr gb.2.2)]
theorem fc_two0 {t : Int} {G H T : Int → Int} : FC G t (fun x => x = 0) (fun y => t - 2 + rkf 0 y) H T (fj (fj (fj (cy G H T (fun _ => -1) (4 * t).toNat) (t - 2 + 0) (t - 2 + 1) 1 2) (t - 2 + 0) (t - 2 + 2) 1 3) (t - 2 + 1) (t - 2 + 2) 2 3) := by
  obtain ⟨s01, s02, s03, s12, s13, s23, s10, s20, s30, s21, s31, s32⟩ := sx_v
  refine ⟨fun y z y0 y1 hy z0 z1 hz ne => ?_, fun n hn => ?_⟩
  · rcases four_of y0 y1 with ey | ey | ey | ey <;> rcases four_of z0 z1 with ez | ez | ez | ez <;> subst ey <;> subst ez
    · exact absurd rfl ne
    · exact absurd rfl hy
    · exact absurd rfl hy
    · exact absurd rfl hy
    · exact absurd rfl hz
    · exact absurd rfl ne
    · show _ = 32 * (t - 2 + rkf 0 2) + sx 1 2
      rw [show (4 * (t - 2 + rkf 0 1) + 2 : Int) = 4 * (t - 2 + 0) + 2 from by rw [show (t - 2 + rkf 0 1 : Int) = t - 2 + 0 from (congrArg (fun z => t - 2 + z) (by decide))], show (t - 2 + rkf 0 2 : Int) = t - 2 + 1 from (congrArg (fun z => t - 2 + z) (by decide)), fj_out (by omega) (by omega), fj_out (by omega) (by omega), fj_1 (by omega)]
    · show _ = 32 * (t - 2 + rkf 0 3) + sx 1 3
      rw [show (4 * (t - 2 + rkf 0 1) + 3 : Int) = 4 * (t - 2 + 0) + 3 from by rw [show (t - 2 + rkf 0 1 : Int) = t - 2 + 0 from (congrArg (fun z => t - 2 + z) (by decide))], show (t - 2 + rkf 0 3 : Int) = t - 2 + 2 from (congrArg (fun z => t - 2 + z) (by decide)), fj_out (by omega) (by omega), fj_1 (by omega)]
    · exact absurd rfl hz
    · show _ = 32 * (t - 2 + rkf 0 1) + sx 2 1
      rw [show (4 * (t - 2 + rkf 0 2) + 1 : Int) = 4 * (t - 2 + 1) + 1 from by rw [show (t - 2 + rkf 0 2 : Int) = t - 2 + 1 from (congrArg (fun z => t - 2 + z) (by decide))], show (t - 2 + rkf 0 1 : Int) = t - 2 + 0 from (congrArg (fun z => t - 2 + z) (by decide)), fj_out (by omega) (by omega), fj_out (by omega) (by omega), fj_2, s21, s12]
    · exact absurd rfl ne
    · show _ = 32 * (t - 2 + rkf 0 3) + sx 2 3
      rw [show (4 * (t - 2 + rkf 0 2) + 3 : Int) = 4 * (t - 2 + 1) + 3 from by rw [show (t - 2 + rkf 0 2 : Int) = t - 2 + 1 from (congrArg (fun z => t - 2 + z) (by decide))], show (t - 2 + rkf 0 3 : Int) = t - 2 + 2 from (congrArg (fun z => t - 2 + z) (by decide)), fj_1 (by omega)]
    · exact absurd rfl hz
    · show _ = 32 * (t - 2 + rkf 0 1) + sx 3 1
      rw [show (4 * (t - 2 + rkf 0 3) + 1 : Int) = 4 * (t - 2 + 2) + 1 from by rw [show (t - 2 + rkf 0 3 : Int) = t - 2 + 2 from (congrArg (fun z => t - 2 + z) (by decide))], show (t - 2 + rkf 0 1 : Int) = t - 2 + 0 from (congrArg (fun z => t - 2 + z) (by decide)), fj_out (by omega) (by omega), fj_2, s31, s13]
    · show _ = 32 * (t - 2 + rkf 0 2) + sx 3 2
      rw [show (4 * (t - 2 + rkf 0 3) + 2 : Int) = 4 * (t - 2 + 2) + 2 from by rw [show (t - 2 + rkf 0 3 : Int) = t - 2 + 2 from (congrArg (fun z => t - 2 + z) (by decide))], show (t - 2 + rkf 0 2 : Int) = t - 2 + 1 from (congrArg (fun z => t - 2 + z) (by decide)), fj_2, s32, s23]
    · exact absurd rfl ne
  · rw [fj_out (fun e => hn 2 3 (by decide) (by decide) (by decide) (by decide) (by decide) (by decide) (by decide) (by rw [e]; show _ = 4 * (t - 2 + rkf 0 2) + 3; rw [show (t - 2 + rkf 0 2 : Int) = t - 2 + 1 from (congrArg (fun z => t - 2 + z) (by decide))])) (fun e => hn 3 2 (by decide) (by decide) (by decide) (by decide) (by decide) (by decide) (by decide) (by rw [e]; show _ = 4 * (t - 2 + rkf 0 3) + 2; rw [show (t - 2 + rkf 0 3 : Int) = t - 2 + 2 from (congrArg (fun z => t - 2 + z) (by decide))])), fj_out (fun e => hn 1 3 (by decide) (by decide) (by decide) (by decide) (by decide) (by decide) (by decide) (by rw [e]; show _ = 4 * (t - 2 + rkf 0 1) + 3; rw [show (t - 2 + rkf 0 1 : Int) = t - 2 + 0 from (congrArg (fun z => t - 2 + z) (by decide))])) (fun e => hn 3 1 (by decide) (by decide) (by decide) (by decide) (by decide) (by decide) (by decide) (by rw [e]; show _ = 4 * (t - 2 + rkf 0 3) + 1; rw [show (t - 2 + rkf 0 3 : Int) = t - 2 + 2 from (congrArg (fun z => t - 2 + z) (by decide))])), fj_out (fun e => hn 1 2 (by decide) (by decide) (by decide) (by decide) (by decide) (by decide) (by decide) (by rw [e]; show _ = 4 * (t - 2 + rkf 0 1) + 2; rw [show (t - 2 + rkf 0 1 : Int) = t - 2 + 0 from (congrArg (fun z => t - 2 + z) (by decide))])) (fun e => hn 2 1 (by decide) (by decide) (by decide) (by decide) (by decide) (by decide) (by decide) (by rw [e]; show _ = 4 * (t - 2 + rkf 0 2) + 1; rw [show (t - 2 + rkf 0 2 : Int) = t - 2 + 1 from (congrArg (fun z => t - 2 + z) (by decide))]))]
theorem gs_two1 {k : Int} {G : Int → Int} (hf : k % 4 = 1) : gS G (k / 4) (fun x => x = 1) = (fun i => i = k / 4 ∨ i = G k / 32) := by
  have ek : 4 * (k / 4) + 1 = k := by omega
  funext i
  refine propext ⟨fun h => ?_, fun h => ?_⟩
  · rcases h with h | ⟨x, -, -, e, h⟩
    · exact Or.inl h
    · have e : x = 1 := e
      unfold bX at h
      rw [e, ek] at h
      exact Or.inr h
  · rcases h with h | h
    · exact Or.inl h
    · refine Or.inr ⟨1, by decide, by decide, rfl, ?_⟩
      unfold bX
      rw [ek]
      exact h
theorem fu_two1 {t k : Int} {G H T : Int → Int} (hG : VG t G) (hk : 0 ≤ k ∧ k < 4 * t) (hf : k % 4 = 1) (hk2 : 0 ≤ G k ∧ G k / 32 ≠ k / 4) (hL : ∀ j, 0 ≤ j → j < 4 * t → H j = lo (fun i => i = k / 4 ∨ i = G k / 32) j ∧ T j = 0) : FU t G (k / 4) (fun x => x = 1) (fun y => t - 2 + rkf 1 y) (uf (uf (uf (uf (uf (uf H (4 * (k / 4) + 0) (t - 2)) (4 * (G k / 32) + im (G k % 32) 0) (t - 2)) (4 * (k / 4) + 2) (t - 2 + 1)) (4 * (G k / 32) + im (G k % 32) 2) (t - 2 + 1)) (4 * (k / 4) + 3) (t - 2 + 1 + 1)) (4 * (G k / 32) + im (G k % 32) 3) (t - 2 + 1 + 1)) (uf (uf (uf (uf (uf (uf T (4 * (k / 4) + 0) (0)) (4 * (G k / 32) + im (G k % 32) 0) (af (sx 1 0) (iv (G k % 32)))) (4 * (k / 4) + 2) (0)) (4 * (G k / 32) + im (G k % 32) 2) (af (sx 1 2) (iv (G k % 32)))) (4 * (k / 4) + 3) (0)) (4 * (G k / 32) + im (G k % 32) 3) (af (sx 1 3) (iv (G k % 32)))) := by
  have hg1 : 0 ≤ G k ∧ G k / 32 < t ∧ G k % 32 < 24 := by
    rcases hG.2.1 k hk.1 hk.2 with z | z
    · omega
    · exact ⟨z.1, z.2.1, z.2.2.1⟩
  have q0 : 0 ≤ G k % 32 := by omega
  have q1 := hg1.2.2
  have b0 := im_in q0 q1 (show (0 : Int) ≤ 0 by decide) (by decide)
  have b1 := im_in q0 q1 (show (0 : Int) ≤ 1 by decide) (by decide)
  have b2 := im_in q0 q1 (show (0 : Int) ≤ 2 by decide) (by decide)
  have b3 := im_in q0 q1 (show (0 : Int) ≤ 3 by decide) (by decide)
  have n01 : im (G k % 32) 0 ≠ im (G k % 32) 1 := fun z => absurd (im_ij q0 q1 (by decide) (by decide) (by decide) (by decide) z) (by decide)
  have n02 : im (G k % 32) 0 ≠ im (G k % 32) 2 := fun z => absurd (im_ij q0 q1 (by decide) (by decide) (by decide) (by decide) z) (by decide)
  have n03 : im (G k % 32) 0 ≠ im (G k % 32) 3 := fun z => absurd (im_ij q0 q1 (by decide) (by decide) (by decide) (by decide) z) (by decide)
  have n12 : im (G k % 32) 1 ≠ im (G k % 32) 2 := fun z => absurd (im_ij q0 q1 (by decide) (by decide) (by decide) (by decide) z) (by decide)
  have n13 : im (G k % 32) 1 ≠ im (G k % 32) 3 := fun z => absurd (im_ij q0 q1 (by decide) (by decide) (by decide) (by decide) z) (by decide)
  have n23 : im (G k % 32) 2 ≠ im (G k % 32) 3 := fun z => absurd (im_ij q0 q1 (by decide) (by decide) (by decide) (by decide) z) (by decide)
  have ek : 4 * (k / 4) + 1 = k := by omega
  have gb : 0 ≤ 4 * (G k / 32) + im (G k % 32) 1 ∧ 4 * (G k / 32) + im (G k % 32) 1 < 4 * t ∧ (4 * (G k / 32) + im (G k % 32) 1) / 4 = G k / 32 := by
    clear n01 n02 n03 n12 n13 n23
    omega
  unfold FU fX bX pX
  rw [gs_two1 hf]
  refine ⟨fun F F0 F1 hS => ?_, fun y y0 y1 hy => ?_, fun x y x0 x1 hx y0 y1 hy => ?_, fun x x0 x1 hx => ?_, fun x c x0 x1 hx c0 c1 hc => ?_⟩
  · have hS1 : F / 4 ≠ k / 4 := fun e => hS (Or.inl e)
    have hS2 : F / 4 ≠ G k / 32 := fun e => hS (Or.inr e)
    refine ⟨?_, ?_⟩
    · rw [uf_n (nF hS2 b3.1 b3.2), uf_n (nF hS1 (by decide) (by decide)), uf_n (nF hS2 b2.1 b2.2), uf_n (nF hS1 (by decide) (by decide)), uf_n (nF hS2 b0.1 b0.2), uf_n (nF hS1 (by decide) (by decide)), (hL F F0 F1).1, lo_n hS]
    · rw [uf_n (nF hS2 b3.1 b3.2), uf_n (nF hS1 (by decide) (by decide)), uf_n (nF hS2 b2.1 b2.2), uf_n (nF hS1 (by decide) (by decide)), uf_n (nF hS2 b0.1 b0.2), uf_n (nF hS1 (by decide) (by decide)), (hL F F0 F1).2]
  · rcases four_of y0 y1 with ey | ey | ey | ey <;> subst ey
    · refine ⟨?_, ?_⟩
      · rw [uf_n (nAB (Ne.symm hk2.2) (by decide) (by decide) b3.1 b3.2), uf_n (nAA (by decide)), uf_n (nAB (Ne.symm hk2.2) (by decide) (by decide) b2.1 b2.2), uf_n (nAA (by decide)), uf_n (nAB (Ne.symm hk2.2) (by decide) (by decide) b0.1 b0.2), uf_s]
        show _ = t - 2 + rkf 1 0
        rw [show rkf 1 0 = 0 by decide]
        try omega
      · rw [uf_n (nAB (Ne.symm hk2.2) (by decide) (by decide) b3.1 b3.2), uf_n (nAA (by decide)), uf_n (nAB (Ne.symm hk2.2) (by decide) (by decide) b2.1 b2.2), uf_n (nAA (by decide)), uf_n (nAB (Ne.symm hk2.2) (by decide) (by decide) b0.1 b0.2), uf_s]
    · exact absurd rfl hy
    · refine ⟨?_, ?_⟩
      · rw [uf_n (nAB (Ne.symm hk2.2) (by decide) (by decide) b3.1 b3.2), uf_n (nAA (by decide)), uf_n (nAB (Ne.symm hk2.2) (by decide) (by decide) b2.1 b2.2), uf_s]
        show _ = t - 2 + rkf 1 2
        rw [show rkf 1 2 = 1 by decide]
        try omega
      · rw [uf_n (nAB (Ne.symm hk2.2) (by decide) (by decide) b3.1 b3.2), uf_n (nAA (by decide)), uf_n (nAB (Ne.symm hk2.2) (by decide) (by decide) b2.1 b2.2), uf_s]
    · refine ⟨?_, ?_⟩
      · rw [uf_n (nAB (Ne.symm hk2.2) (by decide) (by decide) b3.1 b3.2), uf_s]
        show _ = t - 2 + rkf 1 3
        rw [show rkf 1 3 = 2 by decide]
        try omega
      · rw [uf_n (nAB (Ne.symm hk2.2) (by decide) (by decide) b3.1 b3.2), uf_s]
  · have hx : x = 1 := hx
    subst hx
    rw [ek]
    rcases four_of y0 y1 with ey | ey | ey | ey <;> subst ey
    · refine ⟨?_, ?_⟩
      · rw [uf_n (nAA n03), uf_n (nAB hk2.2 b0.1 b0.2 (by decide) (by decide)), uf_n (nAA n02), uf_n (nAB hk2.2 b0.1 b0.2 (by decide) (by decide)), uf_s]
        show _ = t - 2 + rkf 1 0
        rw [show rkf 1 0 = 0 by decide]
        try omega
      · rw [uf_n (nAA n03), uf_n (nAB hk2.2 b0.1 b0.2 (by decide) (by decide)), uf_n (nAA n02), uf_n (nAB hk2.2 b0.1 b0.2 (by decide) (by decide)), uf_s]
    · exact absurd rfl hy
    · refine ⟨?_, ?_⟩
      · rw [uf_n (nAA n23), uf_n (nAB hk2.2 b2.1 b2.2 (by decide) (by decide)), uf_s]
        show _ = t - 2 + rkf 1 2
        rw [show rkf 1 2 = 1 by decide]
        try omega
      · rw [uf_n (nAA n23), uf_n (nAB hk2.2 b2.1 b2.2 (by decide) (by decide)), uf_s]
    · refine ⟨?_, ?_⟩
      · rw [uf_s]
        show _ = t - 2 + rkf 1 3
        rw [show rkf 1 3 = 2 by decide]
        try omega
      · rw [uf_s]
  · have hx : x = 1 := hx
    subst hx
    rw [uf_n (nAB (Ne.symm hk2.2) (by decide) (by decide) b3.1 b3.2), uf_n (nAA (by decide)), uf_n (nAB (Ne.symm hk2.2) (by decide) (by decide) b2.1 b2.2), uf_n (nAA (by decide)), uf_n (nAB (Ne.symm hk2.2) (by decide) (by decide) b0.1 b0.2), uf_n (nAA (by decide)), ek, (hL k hk.1 hk.2).1, lo_y (Or.inl rfl)]
  · have hx : x = 1 := hx
    have hc : c = 1 := hc
    subst hx
    subst hc
    rw [ek, uf_n (nAA n13), uf_n (nAB hk2.2 b1.1 b1.2 (by decide) (by decide)), uf_n (nAA n12), uf_n (nAB hk2.2 b1.1 b1.2 (by decide) (by decide)), uf_n (nAA (Ne.symm n01)), uf_n (nAB hk2.2 b1.1 b1.2 (by decide) (by decide)), (hL _ gb.1 gb.2.1).1, lo_y (Or.inr gb.2.2)]
theorem fc_two1 {t : Int} {G H T : Int → Int} : FC G t (fun x => x = 1) (fun y => t - 2 + rkf 1 y) H T (fj (fj (fj (cy G H T (fun _ => -1) (4 * t).toNat) (t - 2 + 0) (t - 2 + 1) 0 2) (t - 2 + 0) (t - 2 + 2) 0 3) (t - 2 + 1) (t - 2 + 2) 2 3) := by
  obtain ⟨s01, s02, s03, s12, s13, s23, s10, s20, s30, s21, s31, s32⟩ := sx_v
  refine ⟨fun y z y0 y1 hy z0 z1 hz ne => ?_, fun n hn => ?_⟩
  · rcases four_of y0 y1 with ey | ey | ey | ey <;> rcases four_of z0 z1 with ez | ez | ez | ez <;> subst ey <;> subst ez
    · exact absurd rfl ne
    · exact absurd rfl hz
    · show _ = 32 * (t - 2 + rkf 1 2) + sx 0 2
      rw [show (4 * (t - 2 + rkf 1 0) + 2 : Int) = 4 * (t - 2 + 0) + 2 from by rw [show (t - 2 + rkf 1 0 : Int) = t - 2 + 0 from (congrArg (fun z => t - 2 + z) (by decide))], show (t - 2 + rkf 1 2 : Int) = t - 2 + 1 from (congrArg (fun z => t - 2 + z) (by decide)), fj_out (by omega) (by omega), fj_out (by omega) (by omega), fj_1 (by omega)]
    · show _ = 32 * (t - 2 + rkf 1 3) + sx 0 3
      rw [show (4 * (t - 2 + rkf 1 0) + 3 : Int) = 4 * (t - 2 + 0) + 3 from by rw [show (t - 2 + rkf 1 0 : Int) = t - 2 + 0 from (congrArg (fun z => t - 2 + z) (by decide))], show (t - 2 + rkf 1 3 : Int) = t - 2 + 2 from (congrArg (fun z => t - 2 + z) (by decide)), fj_out (by omega) (by omega), fj_1 (by omega)]
    · exact absurd rfl hy
    · exact absurd rfl ne
    · exact absurd rfl hy
    · exact absurd rfl hy
    · show _ = 32 * (t - 2 + rkf 1 0) + sx 2 0
      rw [show (4 * (t - 2 + rkf 1 2) + 0 : Int) = 4 * (t - 2 + 1) + 0 from by rw [show (t - 2 + rkf 1 2 : Int) = t - 2 + 1 from (congrArg (fun z => t - 2 + z) (by decide))], show (t - 2 + rkf 1 0 : Int) = t - 2 + 0 from (congrArg (fun z => t - 2 + z) (by decide)), fj_out (by omega) (by omega), fj_out (by omega) (by omega), fj_2, s20, s02]
    · exact absurd rfl hz
    · exact absurd rfl ne
    · show _ = 32 * (t - 2 + rkf 1 3) + sx 2 3
      rw [show (4 * (t - 2 + rkf 1 2) + 3 : Int) = 4 * (t - 2 + 1) + 3 from by rw [show (t - 2 + rkf 1 2 : Int) = t - 2 + 1 from (congrArg (fun z => t - 2 + z) (by decide))], show (t - 2 + rkf 1 3 : Int) = t - 2 + 2 from (congrArg (fun z => t - 2 + z) (by decide)), fj_1 (by omega)]
    · show _ = 32 * (t - 2 + rkf 1 0) + sx 3 0
      rw [show (4 * (t - 2 + rkf 1 3) + 0 : Int) = 4 * (t - 2 + 2) + 0 from by rw [show (t - 2 + rkf 1 3 : Int) = t - 2 + 2 from (congrArg (fun z => t - 2 + z) (by decide))], show (t - 2 + rkf 1 0 : Int) = t - 2 + 0 from (congrArg (fun z => t - 2 + z) (by decide)), fj_out (by omega) (by omega), fj_2, s30, s03]
    · exact absurd rfl hz
    · show _ = 32 * (t - 2 + rkf 1 2) + sx 3 2
      rw [show (4 * (t - 2 + rkf 1 3) + 2 : Int) = 4 * (t - 2 + 2) + 2 from by rw [show (t - 2 + rkf 1 3 : Int) = t - 2 + 2 from (congrArg (fun z => t - 2 + z) (by decide))], show (t - 2 + rkf 1 2 : Int) = t - 2 + 1 from (congrArg (fun z => t - 2 + z) (by decide)), fj_2, s32, s23]
    · exact absurd rfl ne
  · rw [fj_out (fun e => hn 2 3 (by decide) (by decide) (by decide) (by decide) (by decide) (by decide) (by decide) (by rw [e]; show _ = 4 * (t - 2 + rkf 1 2) + 3; rw [show (t - 2 + rkf 1 2 : Int) = t - 2 + 1 from (congrArg (fun z => t - 2 + z) (by decide))])) (fun e => hn 3 2 (by decide) (by decide) (by decide) (by decide) (by decide) (by decide) (by decide) (by rw [e]; show _ = 4 * (t - 2 + rkf 1 3) + 2; rw [show (t - 2 + rkf 1 3 : Int) = t - 2 + 2 from (congrArg (fun z => t - 2 + z) (by decide))])), fj_out (fun e => hn 0 3 (by decide) (by decide) (by decide) (by decide) (by decide) (by decide) (by decide) (by rw [e]; show _ = 4 * (t - 2 + rkf 1 0) + 3; rw [show (t - 2 + rkf 1 0 : Int) = t - 2 + 0 from (congrArg (fun z => t - 2 + z) (by decide))])) (fun e => hn 3 0 (by decide) (by decide) (by decide) (by decide) (by decide) (by decide) (by decide) (by rw [e]; show _ = 4 * (t - 2 + rkf 1 3) + 0; rw [show (t - 2 + rkf 1 3 : Int) = t - 2 + 2 from (congrArg (fun z => t - 2 + z) (by decide))])), fj_out (fun e => hn 0 2 (by decide) (by decide) (by decide) (by decide) (by decide) (by decide) (by decide) (by rw [e]; show _ = 4 * (t - 2 + rkf 1 0) + 2; rw [show (t - 2 + rkf 1 0 : Int) = t - 2 + 0 from (congrArg (fun z => t - 2 + z) (by decide))])) (fun e => hn 2 0 (by decide) (by decide) (by decide) (by decide) (by decide) (by decide) (by decide) (by rw [e]; show _ = 4 * (t - 2 + rkf 1 2) + 0; rw [show (t - 2 + rkf 1 2 : Int) = t - 2 + 1 from (congrArg (fun z => t - 2 + z) (by decide))]))]
theorem gs_two2 {k : Int} {G : Int → Int} (hf : k % 4 = 2) : gS G (k / 4) (fun x => x = 2) = (fun i => i = k / 4 ∨ i = G k / 32) := by
  have ek : 4 * (k / 4) + 2 = k := by omega
  funext i
  refine propext ⟨fun h => ?_, fun h => ?_⟩
  · rcases h with h | ⟨x, -, -, e, h⟩
    · exact Or.inl h
    · have e : x = 2 := e
      unfold bX at h
      rw [e, ek] at h
      exact Or.inr h
  · rcases h with h | h
    · exact Or.inl h
    · refine Or.inr ⟨2, by decide, by decide, rfl, ?_⟩
      unfold bX
      rw [ek]
      exact h
theorem fu_two2 {t k : Int} {G H T : Int → Int} (hG : VG t G) (hk : 0 ≤ k ∧ k < 4 * t) (hf : k % 4 = 2) (hk2 : 0 ≤ G k ∧ G k / 32 ≠ k / 4) (hL : ∀ j, 0 ≤ j → j < 4 * t → H j = lo (fun i => i = k / 4 ∨ i = G k / 32) j ∧ T j = 0) : FU t G (k / 4) (fun x => x = 2) (fun y => t - 2 + rkf 2 y) (uf (uf (uf (uf (uf (uf H (4 * (k / 4) + 0) (t - 2)) (4 * (G k / 32) + im (G k % 32) 0) (t - 2)) (4 * (k / 4) + 1) (t - 2 + 1)) (4 * (G k / 32) + im (G k % 32) 1) (t - 2 + 1)) (4 * (k / 4) + 3) (t - 2 + 1 + 1)) (4 * (G k / 32) + im (G k % 32) 3) (t - 2 + 1 + 1)) (uf (uf (uf (uf (uf (uf T (4 * (k / 4) + 0) (0)) (4 * (G k / 32) + im (G k % 32) 0) (af (sx 2 0) (iv (G k % 32)))) (4 * (k / 4) + 1) (0)) (4 * (G k / 32) + im (G k % 32) 1) (af (sx 2 1) (iv (G k % 32)))) (4 * (k / 4) + 3) (0)) (4 * (G k / 32) + im (G k % 32) 3) (af (sx 2 3) (iv (G k % 32)))) := by
  have hg1 : 0 ≤ G k ∧ G k / 32 < t ∧ G k % 32 < 24 := by
    rcases hG.2.1 k hk.1 hk.2 with z | z
    · omega
    · exact ⟨z.1, z.2.1, z.2.2.1⟩
  have q0 : 0 ≤ G k % 32 := by omega
  have q1 := hg1.2.2
  have b0 := im_in q0 q1 (show (0 : Int) ≤ 0 by decide) (by decide)
  have b1 := im_in q0 q1 (show (0 : Int) ≤ 1 by decide) (by decide)
  have b2 := im_in q0 q1 (show (0 : Int) ≤ 2 by decide) (by decide)
  have b3 := im_in q0 q1 (show (0 : Int) ≤ 3 by decide) (by decide)
  have n01 : im (G k % 32) 0 ≠ im (G k % 32) 1 := fun z => absurd (im_ij q0 q1 (by decide) (by decide) (by decide) (by decide) z) (by decide)
  have n02 : im (G k % 32) 0 ≠ im (G k % 32) 2 := fun z => absurd (im_ij q0 q1 (by decide) (by decide) (by decide) (by decide) z) (by decide)
  have n03 : im (G k % 32) 0 ≠ im (G k % 32) 3 := fun z => absurd (im_ij q0 q1 (by decide) (by decide) (by decide) (by decide) z) (by decide)
  have n12 : im (G k % 32) 1 ≠ im (G k % 32) 2 := fun z => absurd (im_ij q0 q1 (by decide) (by decide) (by decide) (by decide) z) (by decide)
  have n13 : im (G k % 32) 1 ≠ im (G k % 32) 3 := fun z => absurd (im_ij q0 q1 (by decide) (by decide) (by decide) (by decide) z) (by decide)
  have n23 : im (G k % 32) 2 ≠ im (G k % 32) 3 := fun z => absurd (im_ij q0 q1 (by decide) (by decide) (by decide) (by decide) z) (by decide)
  have ek : 4 * (k / 4) + 2 = k := by omega
  have gb : 0 ≤ 4 * (G k / 32) + im (G k % 32) 2 ∧ 4 * (G k / 32) + im (G k % 32) 2 < 4 * t ∧ (4 * (G k / 32) + im (G k % 32) 2) / 4 = G k / 32 := by
    clear n01 n02 n03 n12 n13 n23
    omega
  unfold FU fX bX pX
  rw [gs_two2 hf]
  refine ⟨fun F F0 F1 hS => ?_, fun y y0 y1 hy => ?_, fun x y x0 x1 hx y0 y1 hy => ?_, fun x x0 x1 hx => ?_, fun x c x0 x1 hx c0 c1 hc => ?_⟩
  · have hS1 : F / 4 ≠ k / 4 := fun e => hS (Or.inl e)
    have hS2 : F / 4 ≠ G k / 32 := fun e => hS (Or.inr e)
    refine ⟨?_, ?_⟩
    · rw [uf_n (nF hS2 b3.1 b3.2), uf_n (nF hS1 (by decide) (by decide)), uf_n (nF hS2 b1.1 b1.2), uf_n (nF hS1 (by decide) (by decide)), uf_n (nF hS2 b0.1 b0.2), uf_n (nF hS1 (by decide) (by decide)), (hL F F0 F1).1, lo_n hS]
    · rw [uf_n (nF hS2 b3.1 b3.2), uf_n (nF hS1 (by decide) (by decide)), uf_n (nF hS2 b1.1 b1.2), uf_n (nF hS1 (by decide) (by decide)), uf_n (nF hS2 b0.1 b0.2), uf_n (nF hS1 (by decide) (by decide)), (hL F F0 F1).2]
  · rcases four_of y0 y1 with ey | ey | ey | ey <;> subst ey
    · refine ⟨?_, ?_⟩
      · rw [uf_n (nAB (Ne.symm hk2.2) (by decide) (by decide) b3.1 b3.2), uf_n (nAA (by decide)), uf_n (nAB (Ne.symm hk2.2) (by decide) (by decide) b1.1 b1.2), uf_n (nAA (by decide)), uf_n (nAB (Ne.symm hk2.2) (by decide) (by decide) b0.1 b0.2), uf_s]
        show _ = t - 2 + rkf 2 0
        rw [show rkf 2 0 = 0 by decide]
        try omega
      · rw [uf_n (nAB (Ne.symm hk2.2) (by decide) (by decide) b3.1 b3.2), uf_n (nAA (by decide)), uf_n (nAB (Ne.symm hk2.2) (by decide) (by decide) b1.1 b1.2), uf_n (nAA (by decide)), uf_n (nAB (Ne.symm hk2.2) (by decide) (by decide) b0.1 b0.2), uf_s]
    · refine ⟨?_, ?_⟩
      · rw [uf_n (nAB (Ne.symm hk2.2) (by decide) (by decide) b3.1 b3.2), uf_n (nAA (by decide)), uf_n (nAB (Ne.symm hk2.2) (by decide) (by decide) b1.1 b1.2), uf_s]
        show _ = t - 2 + rkf 2 1
        rw [show rkf 2 1 = 1 by decide]
        try omega
      · rw [uf_n (nAB (Ne.symm hk2.2) (by decide) (by decide) b3.1 b3.2), uf_n (nAA (by decide)), uf_n (nAB (Ne.symm hk2.2) (by decide) (by decide) b1.1 b1.2), uf_s]
    · exact absurd rfl hy
    · refine ⟨?_, ?_⟩
      · rw [uf_n (nAB (Ne.symm hk2.2) (by decide) (by decide) b3.1 b3.2), uf_s]
        show _ = t - 2 + rkf 2 3
        rw [show rkf 2 3 = 2 by decide]
        try omega
      · rw [uf_n (nAB (Ne.symm hk2.2) (by decide) (by decide) b3.1 b3.2), uf_s]
  · have hx : x = 2 := hx
    subst hx
    rw [ek]
    rcases four_of y0 y1 with ey | ey | ey | ey <;> subst ey
    · refine ⟨?_, ?_⟩
      · rw [uf_n (nAA n03), uf_n (nAB hk2.2 b0.1 b0.2 (by decide) (by decide)), uf_n (nAA n01), uf_n (nAB hk2.2 b0.1 b0.2 (by decide) (by decide)), uf_s]
        show _ = t - 2 + rkf 2 0
        rw [show rkf 2 0 = 0 by decide]
        try omega
      · rw [uf_n (nAA n03), uf_n (nAB hk2.2 b0.1 b0.2 (by decide) (by decide)), uf_n (nAA n01), uf_n (nAB hk2.2 b0.1 b0.2 (by decide) (by decide)), uf_s]
    · refine ⟨?_, ?_⟩
      · rw [uf_n (nAA n13), uf_n (nAB hk2.2 b1.1 b1.2 (by decide) (by decide)), uf_s]
        show _ = t - 2 + rkf 2 1
        rw [show rkf 2 1 = 1 by decide]
        try omega
      · rw [uf_n (nAA n13), uf_n (nAB hk2.2 b1.1 b1.2 (by decide) (by decide)), uf_s]
    · exact absurd rfl hy
    · refine ⟨?_, ?_⟩
      · rw [uf_s]
        show _ = t - 2 + rkf 2 3
        rw [show rkf 2 3 = 2 by decide]
        try omega
      · rw [uf_s]
  · have hx : x = 2 := hx
    subst hx
    rw [uf_n (nAB (Ne.symm hk2.2) (by decide) (by decide) b3.1 b3.2), uf_n (nAA (by decide)), uf_n (nAB (Ne.symm hk2.2) (by decide) (by decide) b1.1 b1.2), uf_n (nAA (by decide)), uf_n (nAB (Ne.symm hk2.2) (by decide) (by decide) b0.1 b0.2), uf_n (nAA (by decide)), ek, (hL k hk.1 hk.2).1, lo_y (Or.inl rfl)]
  · have hx : x = 2 := hx
    have hc : c = 2 := hc
    subst hx
    subst hc
    rw [ek, uf_n (nAA n23), uf_n (nAB hk2.2 b2.1 b2.2 (by decide) (by decide)), uf_n (nAA (Ne.symm n12)), uf_n (nAB hk2.2 b2.1 b2.2 (by decide) (by decide)), uf_n (nAA (Ne.symm n02)), uf_n (nAB hk2.2 b2.1 b2.2 (by decide) (by decide)), (hL _ gb.1 gb.2.1).1, lo_y (Or.inr gb.2.2)]
theorem fc_two2 {t : Int} {G H T : Int → Int} : FC G t (fun x => x = 2) (fun y => t - 2 + rkf 2 y) H T (fj (fj (fj (cy G H T (fun _ => -1) (4 * t).toNat) (t - 2 + 0) (t - 2 + 1) 0 1) (t - 2 + 0) (t - 2 + 2) 0 3) (t - 2 + 1) (t - 2 + 2) 1 3) := by
  obtain ⟨s01, s02, s03, s12, s13, s23, s10, s20, s30, s21, s31, s32⟩ := sx_v
  refine ⟨fun y z y0 y1 hy z0 z1 hz ne => ?_, fun n hn => ?_⟩
  · rcases four_of y0 y1 with ey | ey | ey | ey <;> rcases four_of z0 z1 with ez | ez | ez | ez <;> subst ey <;> subst ez
    · exact absurd rfl ne
    · show _ = 32 * (t - 2 + rkf 2 1) + sx 0 1
      rw [show (4 * (t - 2 + rkf 2 0) + 1 : Int) = 4 * (t - 2 + 0) + 1 from by rw [show (t - 2 + rkf 2 0 : Int) = t - 2 + 0 from (congrArg (fun z => t - 2 + z) (by decide))], show (t - 2 + rkf 2 1 : Int) = t - 2 + 1 from (congrArg (fun z => t - 2 + z) (by decide)), fj_out (by omega) (by omega), fj_out (by omega) (by omega), fj_1 (by omega)]
    · exact absurd rfl hz
    · show _ = 32 * (t - 2 + rkf 2 3) + sx 0 3
      rw [show (4 * (t - 2 + rkf 2 0) + 3 : Int) = 4 * (t - 2 + 0) + 3 from by rw [show (t - 2 + rkf 2 0 : Int) = t - 2 + 0 from (congrArg (fun z => t - 2 + z) (by decide))], show (t - 2 + rkf 2 3 : Int) = t - 2 + 2 from (congrArg (fun z => t - 2 + z) (by decide)), fj_out (by omega) (by omega), fj_1 (by omega)]
    · show _ = 32 * (t - 2 + rkf 2 0) + sx 1 0
      rw [show (4 * (t - 2 + rkf 2 1) + 0 : Int) = 4 * (t - 2 + 1) + 0 from by rw [show (t - 2 + rkf 2 1 : Int) = t - 2 + 1 from (congrArg (fun z => t - 2 + z) (by decide))], show (t - 2 + rkf 2 0 : Int) = t - 2 + 0 from (congrArg (fun z => t - 2 + z) (by decide)), fj_out (by omega) (by omega), fj_out (by omega) (by omega), fj_2, s10, s01]
    · exact absurd rfl ne
    · exact absurd rfl hz
    · show _ = 32 * (t - 2 + rkf 2 3) + sx 1 3
      rw [show (4 * (t - 2 + rkf 2 1) + 3 : Int) = 4 * (t - 2 + 1) + 3 from by rw [show (t - 2 + rkf 2 1 : Int) = t - 2 + 1 from (congrArg (fun z => t - 2 + z) (by decide))], show (t - 2 + rkf 2 3 : Int) = t - 2 + 2 from (congrArg (fun z => t - 2 + z) (by decide)), fj_1 (by omega)]
    · exact absurd rfl hy
    · exact absurd rfl hy
    · exact absurd rfl ne
    · exact absurd rfl hy
    · show _ = 32 * (t - 2 + rkf 2 0) + sx 3 0
      rw [show (4 * (t - 2 + rkf 2 3) + 0 : Int) = 4 * (t - 2 + 2) + 0 from by rw [show (t - 2 + rkf 2 3 : Int) = t - 2 + 2 from (congrArg (fun z => t - 2 + z) (by decide))], show (t - 2 + rkf 2 0 : Int) = t - 2 + 0 from (congrArg (fun z => t - 2 + z) (by decide)), fj_out (by omega) (by omega), fj_2, s30, s03]
    · show _ = 32 * (t - 2 + rkf 2 1) + sx 3 1
      rw [show (4 * (t - 2 + rkf 2 3) + 1 : Int) = 4 * (t - 2 + 2) + 1 from by rw [show (t - 2 + rkf 2 3 : Int) = t - 2 + 2 from (congrArg (fun z => t - 2 + z) (by decide))], show (t - 2 + rkf 2 1 : Int) = t - 2 + 1 from (congrArg (fun z => t - 2 + z) (by decide)), fj_2, s31, s13]
    · exact absurd rfl hz
    · exact absurd rfl ne
  · rw [fj_out (fun e => hn 1 3 (by decide) (by decide) (by decide) (by decide) (by decide) (by decide) (by decide) (by rw [e]; show _ = 4 * (t - 2 + rkf 2 1) + 3; rw [show (t - 2 + rkf 2 1 : Int) = t - 2 + 1 from (congrArg (fun z => t - 2 + z) (by decide))])) (fun e => hn 3 1 (by decide) (by decide) (by decide) (by decide) (by decide) (by decide) (by decide) (by rw [e]; show _ = 4 * (t - 2 + rkf 2 3) + 1; rw [show (t - 2 + rkf 2 3 : Int) = t - 2 + 2 from (congrArg (fun z => t - 2 + z) (by decide))])), fj_out (fun e => hn 0 3 (by decide) (by decide) (by decide) (by decide) (by decide) (by decide) (by decide) (by rw [e]; show _ = 4 * (t - 2 + rkf 2 0) + 3; rw [show (t - 2 + rkf 2 0 : Int) = t - 2 + 0 from (congrArg (fun z => t - 2 + z) (by decide))])) (fun e => hn 3 0 (by decide) (by decide) (by decide) (by decide) (by decide) (by decide) (by decide) (by rw [e]; show _ = 4 * (t - 2 + rkf 2 3) + 0; rw [show (t - 2 + rkf 2 3 : Int) = t - 2 + 2 from (congrArg (fun z => t - 2 + z) (by decide))])), fj_out (fun e => hn 0 1 (by decide) (by decide) (by decide) (by decide) (by decide) (by decide) (by decide) (by rw [e]; show _ = 4 * (t - 2 + rkf 2 0) + 1; rw [show (t - 2 + rkf 2 0 : Int) = t - 2 + 0 from (congrArg (fun z => t - 2 + z) (by decide))])) (fun e => hn 1 0 (by decide) (by decide) (by decide) (by decide) (by decide) (by decide) (by decide) (by rw [e]; show _ = 4 * (t - 2 + rkf 2 1) + 0; rw [show (t - 2 + rkf 2 1 : Int) = t - 2 + 1 from (congrArg (fun z => t - 2 + z) (by decide))]))]
theorem gs_two3 {k : Int} {G : Int → Int} (hf : k % 4 = 3) : gS G (k / 4) (fun x => x = 3) = (fun i => i = k / 4 ∨ i = G k / 32) := by
  have ek : 4 * (k / 4) + 3 = k := by omega
  funext i
  refine propext ⟨fun h => ?_, fun h => ?_⟩
  · rcases h with h | ⟨x, -, -, e, h⟩
    · exact Or.inl h
    · have e : x = 3 := e
      unfold bX at h
      rw [e, ek] at h
      exact Or.inr h
  · rcases h with h | h
    · exact Or.inl h
    · refine Or.inr ⟨3, by decide, by decide, rfl, ?_⟩
      unfold bX
      rw [ek]
      exact h
theorem fu_two3 {t k : Int} {G H T : Int → Int} (hG : VG t G) (hk : 0 ≤ k ∧ k < 4 * t) (hf : k % 4 = 3) (hk2 : 0 ≤ G k ∧ G k / 32 ≠ k / 4) (hL : ∀ j, 0 ≤ j → j < 4 * t → H j = lo (fun i => i = k / 4 ∨ i = G k / 32) j ∧ T j = 0) : FU t G (k / 4) (fun x => x = 3) (fun y => t - 2 + rkf 3 y) (uf (uf (uf (uf (uf (uf H (4 * (k / 4) + 0) (t - 2)) (4 * (G k / 32) + im (G k % 32) 0) (t - 2)) (4 * (k / 4) + 1) (t - 2 + 1)) (4 * (G k / 32) + im (G k % 32) 1) (t - 2 + 1)) (4 * (k / 4) + 2) (t - 2 + 1 + 1)) (4 * (G k / 32) + im (G k % 32) 2) (t - 2 + 1 + 1)) (uf (uf (uf (uf (uf (uf T (4 * (k / 4) + 0) (0)) (4 * (G k / 32) + im (G k % 32) 0) (af (sx 3 0) (iv (G k % 32)))) (4 * (k / 4) + 1) (0)) (4 * (G k / 32) + im (G k % 32) 1) (af (sx 3 1) (iv (G k % 32)))) (4 * (k / 4) + 2) (0)) (4 * (G k / 32) + im (G k % 32) 2) (af (sx 3 2) (iv (G k % 32)))) := by
  have hg1 : 0 ≤ G k ∧ G k / 32 < t ∧ G k % 32 < 24 := by
    rcases hG.2.1 k hk.1 hk.2 with z | z
    · omega
    · exact ⟨z.1, z.2.1, z.2.2.1⟩
  have q0 : 0 ≤ G k % 32 := by omega
  have q1 := hg1.2.2
  have b0 := im_in q0 q1 (show (0 : Int) ≤ 0 by decide) (by decide)
  have b1 := im_in q0 q1 (show (0 : Int) ≤ 1 by decide) (by decide)
  have b2 := im_in q0 q1 (show (0 : Int) ≤ 2 by decide) (by decide)
  have b3 := im_in q0 q1 (show (0 : Int) ≤ 3 by decide) (by decide)
  have n01 : im (G k % 32) 0 ≠ im (G k % 32) 1 := fun z => absurd (im_ij q0 q1 (by decide) (by decide) (by decide) (by decide) z) (by decide)
  have n02 : im (G k % 32) 0 ≠ im (G k % 32) 2 := fun z => absurd (im_ij q0 q1 (by decide) (by decide) (by decide) (by decide) z) (by decide)
  have n03 : im (G k % 32) 0 ≠ im (G k % 32) 3 := fun z => absurd (im_ij q0 q1 (by decide) (by decide) (by decide) (by decide) z) (by decide)
  have n12 : im (G k % 32) 1 ≠ im (G k % 32) 2 := fun z => absurd (im_ij q0 q1 (by decide) (by decide) (by decide) (by decide) z) (by decide)
  have n13 : im (G k % 32) 1 ≠ im (G k % 32) 3 := fun z => absurd (im_ij q0 q1 (by decide) (by decide) (by decide) (by decide) z) (by decide)
  have n23 : im (G k % 32) 2 ≠ im (G k % 32) 3 := fun z => absurd (im_ij q0 q1 (by decide) (by decide) (by decide) (by decide) z) (by decide)
  have ek : 4 * (k / 4) + 3 = k := by omega
  have gb : 0 ≤ 4 * (G k / 32) + im (G k % 32) 3 ∧ 4 * (G k / 32) + im (G k % 32) 3 < 4 * t ∧ (4 * (G k / 32) + im (G k % 32) 3) / 4 = G k / 32 := by
    clear n01 n02 n03 n12 n13 n23
    omega
  unfold FU fX bX pX
  rw [gs_two3 hf]
  refine ⟨fun F F0 F1 hS => ?_, fun y y0 y1 hy => ?_, fun x y x0 x1 hx y0 y1 hy => ?_, fun x x0 x1 hx => ?_, fun x c x0 x1 hx c0 c1 hc => ?_⟩
  · have hS1 : F / 4 ≠ k / 4 := fun e => hS (Or.inl e)
    have hS2 : F / 4 ≠ G k / 32 := fun e => hS (Or.inr e)
    refine ⟨?_, ?_⟩
    · rw [uf_n (nF hS2 b2.1 b2.2), uf_n (nF hS1 (by decide) (by decide)), uf_n (nF hS2 b1.1 b1.2), uf_n (nF hS1 (by decide) (by decide)), uf_n (nF hS2 b0.1 b0.2), uf_n (nF hS1 (by decide) (by decide)), (hL F F0 F1).1, lo_n hS]
    · rw [uf_n (nF hS2 b2.1 b2.2), uf_n (nF hS1 (by decide) (by decide)), uf_n (nF hS2 b1.1 b1.2), uf_n (nF hS1 (by decide) (by decide)), uf_n (nF hS2 b0.1 b0.2), uf_n (nF hS1 (by decide) (by decide)), (hL F F0 F1).2]
  · rcases four_of y0 y1 with ey | ey | ey | ey <;> subst ey
    · refine ⟨?_, ?_⟩
      · rw [uf_n (nAB (Ne.symm hk2.2) (by decide) (by decide) b2.1 b2.2), uf_n (nAA (by decide)), uf_n (nAB (Ne.symm hk2.2) (by decide) (by decide) b1.1 b1.2), uf_n (nAA (by decide)), uf_n (nAB (Ne.symm hk2.2) (by decide) (by decide) b0.1 b0.2), uf_s]
        show _ = t - 2 + rkf 3 0
        rw [show rkf 3 0 = 0 by decide]
        try omega
      · rw [uf_n (nAB (Ne.symm hk2.2) (by decide) (by decide) b2.1 b2.2), uf_n (nAA (by decide)), uf_n (nAB (Ne.symm hk2.2) (by decide) (by decide) b1.1 b1.2), uf_n (nAA (by decide)), uf_n (nAB (Ne.symm hk2.2) (by decide) (by decide) b0.1 b0.2), uf_s]
    · refine ⟨?_, ?_⟩
      · rw [uf_n (nAB (Ne.symm hk2.2) (by decide) (by decide) b2.1 b2.2), uf_n (nAA (by decide)), uf_n (nAB (Ne.symm hk2.2) (by decide) (by decide) b1.1 b1.2), uf_s]
        show _ = t - 2 + rkf 3 1
        rw [show rkf 3 1 = 1 by decide]
        try omega
      · rw [uf_n (nAB (Ne.symm hk2.2) (by decide) (by decide) b2.1 b2.2), uf_n (nAA (by decide)), uf_n (nAB (Ne.symm hk2.2) (by decide) (by decide) b1.1 b1.2), uf_s]
    · refine ⟨?_, ?_⟩
      · rw [uf_n (nAB (Ne.symm hk2.2) (by decide) (by decide) b2.1 b2.2), uf_s]
        show _ = t - 2 + rkf 3 2
        rw [show rkf 3 2 = 2 by decide]
        try omega
      · rw [uf_n (nAB (Ne.symm hk2.2) (by decide) (by decide) b2.1 b2.2), uf_s]
    · exact absurd rfl hy
  · have hx : x = 3 := hx
    subst hx
    rw [ek]
    rcases four_of y0 y1 with ey | ey | ey | ey <;> subst ey
    · refine ⟨?_, ?_⟩
      · rw [uf_n (nAA n02), uf_n (nAB hk2.2 b0.1 b0.2 (by decide) (by decide)), uf_n (nAA n01), uf_n (nAB hk2.2 b0.1 b0.2 (by decide) (by decide)), uf_s]
        show _ = t - 2 + rkf 3 0
        rw [show rkf 3 0 = 0 by decide]
        try omega
      · rw [uf_n (nAA n02), uf_n (nAB hk2.2 b0.1 b0.2 (by decide) (by decide)), uf_n (nAA n01), uf_n (nAB hk2.2 b0.1 b0.2 (by decide) (by decide)), uf_s]
    · refine ⟨?_, ?_⟩
      · rw [uf_n (nAA n12), uf_n (nAB hk2.2 b1.1 b1.2 (by decide) (by decide)), uf_s]
        show _ = t - 2 + rkf 3 1
        rw [show rkf 3 1 = 1 by decide]
        try omega
      · rw [uf_n (nAA n12), uf_n (nAB hk2.2 b1.1 b1.2 (by decide) (by decide)), uf_s]
    · refine ⟨?_, ?_⟩
      · rw [uf_s]
        show _ = t - 2 + rkf 3 2
        rw [show rkf 3 2 = 2 by decide]
        try omega
      · rw [uf_s]
    · exact absurd rfl hy
  · have hx : x = 3 := hx
    subst hx
    rw [uf_n (nAB (Ne.symm hk2.2) (by decide) (by decide) b2.1 b2.2), uf_n (nAA (by decide)), uf_n (nAB (Ne.symm hk2.2) (by decide) (by decide) b1.1 b1.2), uf_n (nAA (by decide)), uf_n (nAB (Ne.symm hk2.2) (by decide) (by decide) b0.1 b0.2), uf_n (nAA (by decide)), ek, (hL k hk.1 hk.2).1, lo_y (Or.inl rfl)]
  · have hx : x = 3 := hx
    have hc : c = 3 := hc
    subst hx
    subst hc
    rw [ek, uf_n (nAA (Ne.symm n23)), uf_n (nAB hk2.2 b3.1 b3.2 (by decide) (by decide)), uf_n (nAA (Ne.symm n13)), uf_n (nAB hk2.2 b3.1 b3.2 (by decide) (by decide)), uf_n (nAA (Ne.symm n03)), uf_n (nAB hk2.2 b3.1 b3.2 (by decide) (by decide)), (hL _ gb.1 gb.2.1).1, lo_y (Or.inr gb.2.2)]
theorem fc_two3 {t : Int} {G H T : Int → Int} : FC G t (fun x => x = 3) (fun y => t - 2 + rkf 3 y) H T (fj (fj (fj (cy G H T (fun _ => -1) (4 * t).toNat) (t - 2 + 0) (t - 2 + 1) 0 1) (t - 2 + 0) (t - 2 + 2) 0 2) (t - 2 + 1) (t - 2 + 2) 1 2) := by
  obtain ⟨s01, s02, s03, s12, s13, s23, s10, s20, s30, s21, s31, s32⟩ := sx_v
  refine ⟨fun y z y0 y1 hy z0 z1 hz ne => ?_, fun n hn => ?_⟩
  · rcases four_of y0 y1 with ey | ey | ey | ey <;> rcases four_of z0 z1 with ez | ez | ez | ez <;> subst ey <;> subst ez
    · exact absurd rfl ne
    · show _ = 32 * (t - 2 + rkf 3 1) + sx 0 1
      rw [show (4 * (t - 2 + rkf 3 0) + 1 : Int) = 4 * (t - 2 + 0) + 1 from by rw [show (t - 2 + rkf 3 0 : Int) = t - 2 + 0 from (congrArg (fun z => t - 2 + z) (by decide))], show (t - 2 + rkf 3 1 : Int) = t - 2 + 1 from (congrArg (fun z => t - 2 + z) (by decide)), fj_out (by omega) (by omega), fj_out (by omega) (by omega), fj_1 (by omega)]
    · show _ = 32 * (t - 2 + rkf 3 2) + sx 0 2
      rw [show (4 * (t - 2 + rkf 3 0) + 2 : Int) = 4 * (t - 2 + 0) + 2 from by rw [show (t - 2 + rkf 3 0 : Int) = t - 2 + 0 from (congrArg (fun z => t - 2 + z) (by decide))], show (t - 2 + rkf 3 2 : Int) = t - 2 + 2 from (congrArg (fun z => t - 2 + z) (by decide)), fj_out (by omega) (by omega), fj_1 (by omega)]
    · exact absurd rfl hz
    · show _ = 32 * (t - 2 + rkf 3 0) + sx 1 0
      rw [show (4 * (t - 2 + rkf 3 1) + 0 : Int) = 4 * (t - 2 + 1) + 0 from by rw [show (t - 2 + rkf 3 1 : Int) = t - 2 + 1 from (congrArg (fun z => t - 2 + z) (by decide))], show (t - 2 + rkf 3 0 : Int) = t - 2 + 0 from (congrArg (fun z => t - 2 + z) (by decide)), fj_out (by omega) (by omega), fj_out (by omega) (by omega), fj_2, s10, s01]
    · exact absurd rfl ne
    · show _ = 32 * (t - 2 + rkf 3 2) + sx 1 2
      rw [show (4 * (t - 2 + rkf 3 1) + 2 : Int) = 4 * (t - 2 + 1) + 2 from by rw [show (t - 2 + rkf 3 1 : Int) = t - 2 + 1 from (congrArg (fun z => t - 2 + z) (by decide))], show (t - 2 + rkf 3 2 : Int) = t - 2 + 2 from (congrArg (fun z => t - 2 + z) (by decide)), fj_1 (by omega)]
    · exact absurd rfl hz
    · show _ = 32 * (t - 2 + rkf 3 0) + sx 2 0
      rw [show (4 * (t - 2 + rkf 3 2) + 0 : Int) = 4 * (t - 2 + 2) + 0 from by rw [show (t - 2 + rkf 3 2 : Int) = t - 2 + 2 from (congrArg (fun z => t - 2 + z) (by decide))], show (t - 2 + rkf 3 0 : Int) = t - 2 + 0 from (congrArg (fun z => t - 2 + z) (by decide)), fj_out (by omega) (by omega), fj_2, s20, s02]
    · show _ = 32 * (t - 2 + rkf 3 1) + sx 2 1
      rw [show (4 * (t - 2 + rkf 3 2) + 1 : Int) = 4 * (t - 2 + 2) + 1 from by rw [show (t - 2 + rkf 3 2 : Int) = t - 2 + 2 from (congrArg (fun z => t - 2 + z) (by decide))], show (t - 2 + rkf 3 1 : Int) = t - 2 + 1 from (congrArg (fun z => t - 2 + z) (by decide)), fj_2, s21, s12]
    · exact absurd rfl ne
    · exact absurd rfl hz
    · exact absurd rfl hy
    · exact absurd rfl hy
    · exact absurd rfl hy
    · exact absurd rfl ne
  · rw [fj_out (fun e => hn 1 2 (by decide) (by decide) (by decide) (by decide) (by decide) (by decide) (by decide) (by rw [e]; show _ = 4 * (t - 2 + rkf 3 1) + 2; rw [show (t - 2 + rkf 3 1 : Int) = t - 2 + 1 from (congrArg (fun z => t - 2 + z) (by decide))])) (fun e => hn 2 1 (by decide) (by decide) (by decide) (by decide) (by decide) (by decide) (by decide) (by rw [e]; show _ = 4 * (t - 2 + rkf 3 2) + 1; rw [show (t - 2 + rkf 3 2 : Int) = t - 2 + 2 from (congrArg (fun z => t - 2 + z) (by decide))])), fj_out (fun e => hn 0 2 (by decide) (by decide) (by decide) (by decide) (by decide) (by decide) (by decide) (by rw [e]; show _ = 4 * (t - 2 + rkf 3 0) + 2; rw [show (t - 2 + rkf 3 0 : Int) = t - 2 + 0 from (congrArg (fun z => t - 2 + z) (by decide))])) (fun e => hn 2 0 (by decide) (by decide) (by decide) (by decide) (by decide) (by decide) (by decide) (by rw [e]; show _ = 4 * (t - 2 + rkf 3 2) + 0; rw [show (t - 2 + rkf 3 2 : Int) = t - 2 + 2 from (congrArg (fun z => t - 2 + z) (by decide))])), fj_out (fun e => hn 0 1 (by decide) (by decide) (by decide) (by decide) (by decide) (by decide) (by decide) (by rw [e]; show _ = 4 * (t - 2 + rkf 3 0) + 1; rw [show (t - 2 + rkf 3 0 : Int) = t - 2 + 0 from (congrArg (fun z => t - 2 + z) (by decide))])) (fun e => hn 1 0 (by decide) (by decide) (by decide) (by decide) (by decide) (by decide) (by decide) (by rw [e]; show _ = 4 * (t - 2 + rkf 3 1) + 0; rw [show (t - 2 + rkf 3 1 : Int) = t - 2 + 1 from (congrArg (fun z => t - 2 + z) (by decide))]))]
theorem gs_one {k : Int} {G : Int → Int} : gS G k (fun _ => False) = (fun i => i = k) := by
  funext i
  refine propext ⟨fun h => ?_, fun h => Or.inl h⟩
  rcases h with h | ⟨x, -, -, e, -⟩
  · exact h
  · exact e.elim
theorem fu_one {t k : Int} {G H T : Int → Int} (hk : 0 ≤ k ∧ k < t) (hL : ∀ j, 0 ≤ j → j < 4 * t → H j = lo (fun i => i = k) j ∧ T j = 0) : FU t G k (fun _ => False) (fun y => t - 1 + y) (uf (uf (uf (uf H (4 * k + 0) (t - 1 + 0)) (4 * k + 1) (t - 1 + 1)) (4 * k + 2) (t - 1 + 2)) (4 * k + 3) (t - 1 + 3)) (uf (uf (uf (uf T (4 * k + 0) (0)) (4 * k + 1) (0)) (4 * k + 2) (0)) (4 * k + 3) (0)) := by
  unfold FU
  rw [gs_one]
  refine ⟨fun F F0 F1 hS => ?_, fun y y0 y1 hy => ?_, fun x y x0 x1 hx => hx.elim, fun x x0 x1 hx => hx.elim, fun x c x0 x1 hx => hx.elim⟩
  · have hS1 : F / 4 ≠ k := fun e => hS e
    refine ⟨?_, ?_⟩
    · rw [uf_n (nF hS1 (by decide) (by decide)), uf_n (nF hS1 (by decide) (by decide)), uf_n (nF hS1 (by decide) (by decide)), uf_n (nF hS1 (by decide) (by decide)), (hL F F0 F1).1, lo_n hS]
    · rw [uf_n (nF hS1 (by decide) (by decide)), uf_n (nF hS1 (by decide) (by decide)), uf_n (nF hS1 (by decide) (by decide)), uf_n (nF hS1 (by decide) (by decide)), (hL F F0 F1).2]
  · rcases four_of y0 y1 with ey | ey | ey | ey <;> subst ey
    · exact ⟨by rw [uf_n (nAA (by decide)), uf_n (nAA (by decide)), uf_n (nAA (by decide)), uf_s], by rw [uf_n (nAA (by decide)), uf_n (nAA (by decide)), uf_n (nAA (by decide)), uf_s]⟩
    · exact ⟨by rw [uf_n (nAA (by decide)), uf_n (nAA (by decide)), uf_s], by rw [uf_n (nAA (by decide)), uf_n (nAA (by decide)), uf_s]⟩
    · exact ⟨by rw [uf_n (nAA (by decide)), uf_s], by rw [uf_n (nAA (by decide)), uf_s]⟩
    · exact ⟨by rw [uf_s], by rw [uf_s]⟩

theorem fc_one {t : Int} {G H T : Int → Int} : FC G t (fun _ => False) (fun y => t - 1 + y) H T (fj (fj (fj (fj (fj (fj (cy G H T (fun _ => -1) (4 * t).toNat) (t - 1 + 0) (t - 1 + 1) 0 1) (t - 1 + 0) (t - 1 + 2) 0 2) (t - 1 + 0) (t - 1 + 3) 0 3) (t - 1 + 1) (t - 1 + 2) 1 2) (t - 1 + 1) (t - 1 + 3) 1 3) (t - 1 + 2) (t - 1 + 3) 2 3) := by
  obtain ⟨s01, s02, s03, s12, s13, s23, s10, s20, s30, s21, s31, s32⟩ := sx_v
  refine ⟨fun y z y0 y1 hy z0 z1 hz ne => ?_, fun n hn => ?_⟩
  · rcases four_of y0 y1 with ey | ey | ey | ey <;> rcases four_of z0 z1 with ez | ez | ez | ez <;> subst ey <;> subst ez
    · exact absurd rfl ne
    · dsimp only
      rw [fj_out (by omega) (by omega), fj_out (by omega) (by omega), fj_out (by omega) (by omega), fj_out (by omega) (by omega), fj_out (by omega) (by omega), fj_1 (by omega)]
    · dsimp only
      rw [fj_out (by omega) (by omega), fj_out (by omega) (by omega), fj_out (by omega) (by omega), fj_out (by omega) (by omega), fj_1 (by omega)]
    · dsimp only
      rw [fj_out (by omega) (by omega), fj_out (by omega) (by omega), fj_out (by omega) (by omega), fj_1 (by omega)]
    · dsimp only
      rw [fj_out (by omega) (by omega), fj_out (by omega) (by omega), fj_out (by omega) (by omega), fj_out (by omega) (by omega), fj_out (by omega) (by omega), fj_2, s10, s01]
    · exact absurd rfl ne
    · dsimp only
      rw [fj_out (by omega) (by omega), fj_out (by omega) (by omega), fj_1 (by omega)]
    · dsimp only
      rw [fj_out (by omega) (by omega), fj_1 (by omega)]
    · dsimp only
      rw [fj_out (by omega) (by omega), fj_out (by omega) (by omega), fj_out (by omega) (by omega), fj_out (by omega) (by omega), fj_2, s20, s02]
    · dsimp only
      rw [fj_out (by omega) (by omega), fj_out (by omega) (by omega), fj_2, s21, s12]
    · exact absurd rfl ne
    · dsimp only
      rw [fj_1 (by omega)]
    · dsimp only
      rw [fj_out (by omega) (by omega), fj_out (by omega) (by omega), fj_out (by omega) (by omega), fj_2, s30, s03]
    · dsimp only
      rw [fj_out (by omega) (by omega), fj_2, s31, s13]
    · dsimp only
      rw [fj_2, s32, s23]
    · exact absurd rfl ne
  · rw [fj_out (fun e => hn 2 3 (by decide) (by decide) (fun z => z) (by decide) (by decide) (fun z => z) (by decide) e) (fun e => hn 3 2 (by decide) (by decide) (fun z => z) (by decide) (by decide) (fun z => z) (by decide) e), fj_out (fun e => hn 1 3 (by decide) (by decide) (fun z => z) (by decide) (by decide) (fun z => z) (by decide) e) (fun e => hn 3 1 (by decide) (by decide) (fun z => z) (by decide) (by decide) (fun z => z) (by decide) e), fj_out (fun e => hn 1 2 (by decide) (by decide) (fun z => z) (by decide) (by decide) (fun z => z) (by decide) e) (fun e => hn 2 1 (by decide) (by decide) (fun z => z) (by decide) (by decide) (fun z => z) (by decide) e), fj_out (fun e => hn 0 3 (by decide) (by decide) (fun z => z) (by decide) (by decide) (fun z => z) (by decide) e) (fun e => hn 3 0 (by decide) (by decide) (fun z => z) (by decide) (by decide) (fun z => z) (by decide) e), fj_out (fun e => hn 0 2 (by decide) (by decide) (fun z => z) (by decide) (by decide) (fun z => z) (by decide) e) (fun e => hn 2 0 (by decide) (by decide) (fun z => z) (by decide) (by decide) (fun z => z) (by decide) e), fj_out (fun e => hn 0 1 (by decide) (by decide) (fun z => z) (by decide) (by decide) (fun z => z) (by decide) e) (fun e => hn 1 0 (by decide) (by decide) (fun z => z) (by decide) (by decide) (fun z => z) (by decide) e)]
