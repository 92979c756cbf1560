def kE (x g : Int) : Int := 64 * (x / 16) + 16 * g + 4 * (x / 4 % 4) + x % 4
def kC (x g : Int) : Int := 16 * (x / 4) + 4 * g + x % 4
abbrev JE (t : Int) (G F r : Int → Int) (K : Int) : Prop := JU 128 (oE t) (nE G) kE F r K
abbrev JC (t : Int) (G R q : Int → Int) (K : Int) : Prop := JU 32 (oC t) (nC G) kC R q K
theorem je_add {t : Int} {G F r : Int → Int} {tt f u v : Int} (hG : VG t G) (h : JE t G F r (64 * tt + 16 * f + 4 * u + v)) (t0 : 0 ≤ tt ∧ tt < t) (f0 : 0 ≤ f ∧ f < 4) (u0 : 0 ≤ u ∧ u < 4) (v0 : 0 ≤ v ∧ v < 4) (uf' : u ≠ f) (vf : v ≠ f) (vu : v ≠ u) (g : 0 ≤ G (4 * tt + f)) :
    ∃ r', JE t G (uf F (mxi (r (16 * tt + 4 * u + v)) (r (16 * (G (4 * tt + f) / 32) + 4 * im (G (4 * tt + f) % 32) u + im (G (4 * tt + f) % 32) v))) (mni (r (16 * tt + 4 * u + v)) (r (16 * (G (4 * tt + f) / 32) + 4 * im (G (4 * tt + f) % 32) u + im (G (4 * tt + f) % 32) v)))) r' (64 * tt + 16 * f + 4 * u + v + 1) := by
  have e1 : (16 * tt + 4 * u + v) / 16 = tt := by omega
  have e2 : (16 * tt + 4 * u + v) / 4 % 4 = u := by omega
  have e3 : (16 * tt + 4 * u + v) % 4 = v := by omega
  have hx : oE t (16 * tt + 4 * u + v) := ⟨by omega, by omega, by omega⟩
  have hn : nE G f (16 * tt + 4 * u + v) = 16 * (G (4 * tt + f) / 32) + 4 * im (G (4 * tt + f) % 32) u + im (G (4 * tt + f) % 32) v := by
    unfold nE
    rw [e1, e2, e3, if_neg (by omega)]
  have hn0 : 0 ≤ nE G f (16 * tt + 4 * u + v) := by
    obtain ⟨y1, y2, y3, y4, y5, y6, -⟩ := pt_pt hG (k := 4 * tt + f) (by omega) (by omega) g
    have a := im_in y5 y6 u0.1 u0.2
    have b := im_in y5 y6 v0.1 v0.2
    rw [hn]
    omega
  have := ju_add (nb_E hG) h hx f0.1 f0.2 hn0 (fun y e hy e0 e1 hk => by
    unfold kE at hk ⊢
    unfold oE at hy
    omega)
  rw [hn] at this
  exact this
theorem jc_add {t : Int} {G F r : Int → Int} {tt f u : Int} (hG : VG t G) (h : JC t G F r (16 * tt + 4 * f + u)) (t0 : 0 ≤ tt ∧ tt < t) (f0 : 0 ≤ f ∧ f < 4) (u0 : 0 ≤ u ∧ u < 4) (uf' : u ≠ f) (g : 0 ≤ G (4 * tt + f)) :
    ∃ r', JC t G (uf F (mxi (r (4 * tt + u)) (r (4 * (G (4 * tt + f) / 32) + im (G (4 * tt + f) % 32) u))) (mni (r (4 * tt + u)) (r (4 * (G (4 * tt + f) / 32) + im (G (4 * tt + f) % 32) u)))) r' (16 * tt + 4 * f + u + 1) := by
  have e1 : (4 * tt + u) / 4 = tt := by omega
  have e3 : (4 * tt + u) % 4 = u := by omega
  have hx : oC t (4 * tt + u) := ⟨by omega, by omega⟩
  have hn : nC G f (4 * tt + u) = 4 * (G (4 * tt + f) / 32) + im (G (4 * tt + f) % 32) u := by
    unfold nC
    rw [e1, e3, if_neg (by omega)]
  have hn0 : 0 ≤ nC G f (4 * tt + u) := by
    obtain ⟨y1, y2, y3, y4, y5, y6, -⟩ := pt_pt hG (k := 4 * tt + f) (by omega) (by omega) g
    have a := im_in y5 y6 u0.1 u0.2
    rw [hn]
    omega
  have := ju_add (nb_C hG) h hx f0.1 f0.2 hn0 (fun y e hy e0 e1 hk => by
    unfold kC at hk ⊢
    unfold oC at hy
    omega)
  rw [hn] at this
  exact this
theorem dg1 {A g U V tt f u v : Int} (g0 : 0 ≤ g) (g1 : g < 4) (U0 : 0 ≤ U) (U1 : U < 4) (V0 : 0 ≤ V) (V1 : V < 4) (f0 : 0 ≤ f ∧ f < 4) (u0 : 0 ≤ u ∧ u < 4) (v0 : 0 ≤ v ∧ v < 4) (h1 : 64 * tt + 16 * f + 4 * u + v ≤ 64 * A + 16 * g + 4 * U + V) (h2 : 64 * A + 16 * g + 4 * U + V < 64 * tt + 16 * f + 16) : A = tt ∧ g = f ∧ (64 * A + 16 * g + 4 * U + V < 64 * tt + 16 * f + 4 * u + 4 → U = u) := by
  have a : A = tt := by omega
  have b : g = f := by omega
  exact ⟨a, b, fun c => by omega⟩
theorem je_skip {t : Int} {G F r : Int → Int} {tt f u v K' : Int} (h : JE t G F r (64 * tt + 16 * f + 4 * u + v)) (f0 : 0 ≤ f ∧ f < 4) (u0 : 0 ≤ u ∧ u < 4) (v0 : 0 ≤ v ∧ v < 4) (hs : (K' = 64 * tt + 16 * f + 4 * u + v + 1 ∧ (v = u ∨ v = f)) ∨ (K' = 64 * tt + 16 * f + 4 * u + 4 ∧ u = f) ∨ (K' = 64 * tt + 16 * f + 16 ∧ G (4 * tt + f) < 0)) : JE t G F r K' := by
  refine ju_skip h (fun x g hx g0 g1 hn h1 h2 => ?_)
  unfold kE at h1 h2
  unfold nE at hn
  unfold oE at hx
  have d := dg1 (A := x / 16) (U := x / 4 % 4) (V := x % 4) g0 g1 (by omega) (by omega) (by omega) (by omega) f0 u0 v0 h1 (by omega)
  obtain ⟨d1, d2, d3⟩ := d
  rcases hs with ⟨e, z⟩ | ⟨e, z⟩ | ⟨e, z⟩
  · have d4 := d3 (by omega)
    have d5 : x % 4 = v := by omega
    rw [if_pos (by omega)] at hn; omega
  · have d4 := d3 (by omega)
    rw [if_pos (by omega)] at hn; omega
  · rw [d1, d2, if_pos (by omega)] at hn
    omega
theorem jc_skip {t : Int} {G F r : Int → Int} {tt f u K' : Int} (h : JC t G F r (16 * tt + 4 * f + u)) (f0 : 0 ≤ f ∧ f < 4) (u0 : 0 ≤ u ∧ u < 4) (hs : (K' = 16 * tt + 4 * f + u + 1 ∧ u = f) ∨ (K' = 16 * tt + 4 * f + 4 ∧ G (4 * tt + f) < 0)) : JC t G F r K' := by
  refine ju_skip h (fun x g hx g0 g1 hn h1 h2 => ?_)
  unfold kC at h1 h2
  unfold nC at hn
  unfold oC at hx
  rcases hs with ⟨rfl, z⟩ | ⟨rfl, z⟩
  · have d1 : x / 4 = tt := by omega
    have d2 : g = f := by omega
    rw [if_pos (by omega)] at hn; omega
  · have d1 : x / 4 = tt := by omega
    have d2 : g = f := by omega
    rw [d1, d2, if_pos (by omega)] at hn
    omega
theorem ju_in {N : Int} {ok : Int → Prop} {nb key : Int → Int → Int} {f r : Int → Int} {K : Int} (h : JU N ok nb key f r K) : UF N f r := h.1
set_option maxHeartbeats 2000000 in
theorem l_X12_lJ136 {h : ma_H} {a nx d : Nat} {t : Int} {G Aa : Int → Int} {Q : Option ma_V → ma_H → Nat → Prop} {I : Nat → Int} {tt f u : Int} {R : Int → Int} (hM : h 73 = co 12 (mo I)) (ha : h a = ci 33 Aa) (na : a ≠ 86 ∧ a ≠ 87) (hG : VG t G) (hA : AG t G Aa) (t0 : 0 ≤ tt ∧ tt < t) (f0 : 0 ≤ f ∧ f < 4) (u0 : 0 ≤ u ∧ u < 4) (uf' : u ≠ f) (g : 0 ≤ G (4 * tt + f)) (KO : ∀ F r, JE t G F r (64 * tt + 16 * f + 4 * u + 4) → ma_J none mX12_layJoined (d + 2) 0 0 195 [some (vr 73), some (vr a), some (vi tt), some (vi f), some (vi (cv (G (4 * tt + f)))), some (vi (G (4 * tt + f) / 32)), some (vi (G (4 * tt + f) % 32)), some (vi u), some (vi 4)] [] (ma_up (ma_up h 86 (ci 128 F)) 87 (ci 32 R)) nx Q) :
    ∀ (m : Nat) (v : Int) (F : Int → Int) (r : Int → Int), (0 ≤ v) → (v ≤ 4) → (4 - v < m) → (JE t G F r (64 * tt + 16 * f + 4 * u + v)) → ma_J none mX12_layJoined (d + 2) 0 0 136 [some (vr 73), some (vr a), some (vi tt), some (vi f), some (vi (cv (G (4 * tt + f)))), some (vi (G (4 * tt + f) / 32)), some (vi (G (4 * tt + f) % 32)), some (vi u), some (vi v)] [] (ma_up (ma_up h 86 (ci 128 F)) 87 (ci 32 R)) nx Q := by
  have ht := hG.1
  obtain ⟨-, -, y3, -, hp0, hp1, -⟩ := pt_pt hG (k := 4 * tt + f) (by omega) (by omega) g
  have hp : 0 ≤ G (4 * tt + f) % 32 ∧ G (4 * tt + f) % 32 < 24 := ⟨hp0, hp1⟩
  have hs : 0 ≤ G (4 * tt + f) / 32 ∧ G (4 * tt + f) / 32 < t := by have q := pt_pt hG (k := 4 * tt + f) (by omega) (by omega) g; omega
  intro m
  induction m with
  | zero => intro v F r v0 v1 v2 hE; omega
  | succ m ih =>
    intro v F r v0 v1 v2 hE
    refine ma_iload dX12_layJoined_136 rfl ?_
    refine ma_iconst dX12_layJoined_138 ?_
    refine ma_rcmp_ge 195 dX12_layJoined_139 rfl (by constructor <;> omega) (by constructor <;> omega) (fun c139 => ?_) (fun c139 => ?_)
    · -- 195
      have e4 : v = 4 := by omega
      subst e4
      exact KO F r hE
    · -- 142
      refine ma_iload dX12_layJoined_142 rfl ?_
      refine ma_iload dX12_layJoined_144 rfl ?_
      refine ma_rcmp_eq 189 dX12_layJoined_146 rfl (by constructor <;> omega) (by constructor <;> omega) (fun c146 => ?_) (fun c146 => ?_)
      · -- 189
        refine ma_iincN dX12_layJoined_189 rfl (by decide) rfl ?_
        refine ma_goto 136 dX12_layJoined_192 rfl ?_
        exact ih (v + 1) F r (by omega) (by omega) (by omega) (by rw [show 64 * tt + 16 * f + 4 * u + (v + 1) = 64 * tt + 16 * f + 4 * u + v + 1 by omega]; exact je_skip hE f0 u0 ⟨v0, by omega⟩ (Or.inl ⟨rfl, by omega⟩))
      · -- 149
        refine ma_iload dX12_layJoined_149 rfl ?_
        refine ma_iload_n dX12_layJoined_151 rfl ?_
        refine ma_rcmp_eq 189 dX12_layJoined_152 rfl (by constructor <;> omega) (by constructor <;> omega) (fun c152 => ?_) (fun c152 => ?_)
        · -- 189
          refine ma_iincN dX12_layJoined_189 rfl (by decide) rfl ?_
          refine ma_goto 136 dX12_layJoined_192 rfl ?_
          exact ih (v + 1) F r (by omega) (by omega) (by omega) (by rw [show 64 * tt + 16 * f + 4 * u + (v + 1) = 64 * tt + 16 * f + 4 * u + v + 1 by omega]; exact je_skip hE f0 u0 ⟨v0, by omega⟩ (Or.inl ⟨rfl, by omega⟩))
        · -- 155
          refine ma_aload_n dX12_layJoined_155 rfl ?_
          refine ma_getf dX12_layJoined_156 fX12_48 (by first | exact ma_up_s _ _ _ | exact (ma_up_n (by decide)).trans (ma_up_s _ _ _) | exact (ma_up_n (by decide)).trans ((ma_up_n (by decide)).trans (by assumption)) | exact (ma_up_n na.2).trans ((ma_up_n na.1).trans (by assumption))) (by rfl) ?_
          refine ma_iload_n dX12_layJoined_159 rfl ?_
          refine ma_iload dX12_layJoined_160 rfl ?_
          refine ma_iload dX12_layJoined_162 rfl ?_
          refine ma_cS [_, _, _] dX12_layJoined_164 wX12_endAt lX12_255 tX12_endAt (Nat.le_of_ble_eq_true rfl) ?_
          refine c_X12_endAt ?_
          refine ma_iload dX12_layJoined_167 rfl ?_
          refine ma_iload dX12_layJoined_169 rfl ?_
          refine ma_iload dX12_layJoined_171 rfl ?_
          refine ma_cS [_, _] dX12_layJoined_173 wX12_image lX12_124 tX12_image (Nat.le_of_ble_eq_true rfl) ?_
          have iu := im_in hp.1 hp.2 u0.1 u0.2
          have iv' := im_in hp.1 hp.2 v0 (show v < 4 by omega)
          refine c_X12_image hp u0 ?_
          refine ma_iload dX12_layJoined_176 rfl ?_
          refine ma_iload dX12_layJoined_178 rfl ?_
          refine ma_cS [_, _] dX12_layJoined_180 wX12_image lX12_124 tX12_image (Nat.le_of_ble_eq_true rfl) ?_
          refine c_X12_image hp ⟨v0, by omega⟩ ?_
          refine ma_cS [_, _, _] dX12_layJoined_183 wX12_endAt lX12_255 tX12_endAt (Nat.le_of_ble_eq_true rfl) ?_
          refine c_X12_endAt ?_
          refine ma_cS [_, _, _] dX12_layJoined_186 wX12_unite lX12_251 tX12_unite (Nat.le_of_ble_eq_true rfl) ?_
          refine c_X12_unite ((ma_up_n (by decide)).trans (ma_up_s _ _ _)) (ju_in hE) (by omega) (by constructor <;> omega) (by constructor <;> omega) ?_
          rw [fl_e (by decide)]
          obtain ⟨r', hE'⟩ := je_add hG hE t0 f0 u0 ⟨v0, by omega⟩ uf' c152 c146 g
          refine ma_iincN dX12_layJoined_189 rfl (by decide) rfl ?_
          refine ma_goto 136 dX12_layJoined_192 rfl ?_
          exact ih (v + 1) _ r' (by omega) (by omega) (by omega) (by rw [show 64 * tt + 16 * f + 4 * u + (v + 1) = 64 * tt + 16 * f + 4 * u + v + 1 by omega]; exact hE')
set_option maxHeartbeats 2000000 in
theorem l_X12_lJ93 {h : ma_H} {a nx d : Nat} {t : Int} {G Aa : Int → Int} {Q : Option ma_V → ma_H → Nat → Prop} {I : Nat → Int} {tt f : Int} (hM : h 73 = co 12 (mo I)) (ha : h a = ci 33 Aa) (na : a ≠ 86 ∧ a ≠ 87) (hG : VG t G) (hA : AG t G Aa) (t0 : 0 ≤ tt ∧ tt < t) (f0 : 0 ≤ f ∧ f < 4) (g : 0 ≤ G (4 * tt + f)) (KO : ∀ F r R q x7 x8, JE t G F r (64 * tt + 16 * f + 16) → JC t G R q (16 * tt + 4 * f + 4) → ma_J none mX12_layJoined (d + 2) 0 0 201 [some (vr 73), some (vr a), some (vi tt), some (vi f), some (vi (cv (G (4 * tt + f)))), some (vi (G (4 * tt + f) / 32)), some (vi (G (4 * tt + f) % 32)), x7, x8] [] (ma_up (ma_up h 86 (ci 128 F)) 87 (ci 32 R)) nx Q) :
    ∀ (m : Nat) (u : Int) (F : Int → Int) (r : Int → Int) (R : Int → Int) (q : Int → Int) (x8 : Option ma_V), (0 ≤ u) → (u ≤ 4) → (4 - u < m) → (JE t G F r (64 * tt + 16 * f + 4 * u)) → (JC t G R q (16 * tt + 4 * f + u)) → ma_J none mX12_layJoined (d + 2) 0 0 93 [some (vr 73), some (vr a), some (vi tt), some (vi f), some (vi (cv (G (4 * tt + f)))), some (vi (G (4 * tt + f) / 32)), some (vi (G (4 * tt + f) % 32)), some (vi u), x8] [] (ma_up (ma_up h 86 (ci 128 F)) 87 (ci 32 R)) nx Q := by
  have ht := hG.1
  obtain ⟨-, -, y3, -, hp0, hp1, -⟩ := pt_pt hG (k := 4 * tt + f) (by omega) (by omega) g
  have hp : 0 ≤ G (4 * tt + f) % 32 ∧ G (4 * tt + f) % 32 < 24 := ⟨hp0, hp1⟩
  have hs : 0 ≤ G (4 * tt + f) / 32 ∧ G (4 * tt + f) / 32 < t := by have q := pt_pt hG (k := 4 * tt + f) (by omega) (by omega) g; omega
  intro m
  induction m with
  | zero => intro u F r R q x8 u0 u1 u2 hE hC; omega
  | succ m ih =>
    intro u F r R q x8 u0 u1 u2 hE hC
    refine ma_iload dX12_layJoined_93 rfl ?_
    refine ma_iconst dX12_layJoined_95 ?_
    refine ma_rcmp_ge 201 dX12_layJoined_96 rfl (by constructor <;> omega) (by constructor <;> omega) (fun c96 => ?_) (fun c96 => ?_)
    · -- 201
      have e4 : u = 4 := by omega
      subst e4
      exact KO F r R q _ _ hE hC
    · -- 99
      refine ma_iload dX12_layJoined_99 rfl ?_
      refine ma_iload_n dX12_layJoined_101 rfl ?_
      refine ma_rcmp_ne 108 dX12_layJoined_102 rfl (by constructor <;> omega) (by constructor <;> omega) (fun c102 => ?_) (fun c102 => ?_)
      · -- 108
        refine ma_aload_n dX12_layJoined_108 rfl ?_
        refine ma_getf dX12_layJoined_109 fX12_51 (by first | exact ma_up_s _ _ _ | exact (ma_up_n (by decide)).trans (ma_up_s _ _ _) | exact (ma_up_n (by decide)).trans ((ma_up_n (by decide)).trans (by assumption)) | exact (ma_up_n na.2).trans ((ma_up_n na.1).trans (by assumption))) (by rfl) ?_
        refine ma_iconst dX12_layJoined_112 ?_
        refine ma_iload_n dX12_layJoined_113 rfl ?_
        refine ma_imul dX12_layJoined_114 ?_
        refine ma_iload dX12_layJoined_115 rfl ?_
        refine ma_iadd dX12_layJoined_117 ?_
        refine ma_iconst dX12_layJoined_118 ?_
        refine ma_iload dX12_layJoined_119 rfl ?_
        refine ma_imul dX12_layJoined_121 ?_
        refine ma_iload dX12_layJoined_122 rfl ?_
        refine ma_iload dX12_layJoined_124 rfl ?_
        refine ma_cS [_, _] dX12_layJoined_126 wX12_image lX12_124 tX12_image (Nat.le_of_ble_eq_true rfl) ?_
        refine c_X12_image hp ⟨u0, by omega⟩ ?_
        have iu := im_in hp.1 hp.2 u0 (show u < 4 by omega)
        refine ma_iadd dX12_layJoined_129 ?_
        refine ma_cS [_, _, _] dX12_layJoined_130 wX12_unite lX12_251 tX12_unite (Nat.le_of_ble_eq_true rfl) ?_
        refine c_X12_unite (ma_up_s _ _ _) (ju_in hC) (by omega) (by constructor <;> omega) (by constructor <;> omega) ?_
        rw [ma_up_up]
        obtain ⟨q', hC'⟩ := jc_add hG hC t0 f0 ⟨u0, by omega⟩ c102 g
        refine ma_iconst dX12_layJoined_133 ?_
        refine ma_istoreN dX12_layJoined_134 (by decide) rfl ?_
        refine l_X12_lJ136 hM ha na hG hA t0 f0 ⟨u0, by omega⟩ c102 g (fun F' r'' hE'' => ?_) 5 0 F r (by omega) (by omega) (by omega) (by rw [Int.add_zero]; exact hE)
        refine ma_iincN dX12_layJoined_195 rfl (by decide) rfl ?_
        refine ma_goto 93 dX12_layJoined_198 rfl ?_
        exact ih (u + 1) F' r'' _ q' _ (by omega) (by omega) (by omega) (by rw [show 64 * tt + 16 * f + 4 * (u + 1) = 64 * tt + 16 * f + 4 * u + 4 by omega]; exact hE'') (by rw [show 16 * tt + 4 * f + (u + 1) = 16 * tt + 4 * f + u + 1 by omega]; exact hC')
      · -- 105
        refine ma_goto 195 dX12_layJoined_105 rfl ?_
        refine ma_iincN dX12_layJoined_195 rfl (by decide) rfl ?_
        refine ma_goto 93 dX12_layJoined_198 rfl ?_
        exact ih (u + 1) F r R q _ (by omega) (by omega) (by omega) (by rw [show 64 * tt + 16 * f + 4 * (u + 1) = 64 * tt + 16 * f + 4 * u + 4 by omega]; exact je_skip (v := 0) (by rw [Int.add_zero]; exact hE) f0 ⟨u0, by omega⟩ (by omega) (Or.inr (Or.inl ⟨rfl, by omega⟩))) (by rw [show 16 * tt + 4 * f + (u + 1) = 16 * tt + 4 * f + u + 1 by omega]; exact jc_skip hC f0 ⟨u0, by omega⟩ (Or.inl ⟨rfl, by omega⟩))
set_option maxHeartbeats 2000000 in
theorem l_X12_lJ54 {h : ma_H} {a nx d : Nat} {t : Int} {G Aa : Int → Int} {Q : Option ma_V → ma_H → Nat → Prop} {I : Nat → Int} {tt : Int} (hM : h 73 = co 12 (mo I)) (ha : h a = ci 33 Aa) (na : a ≠ 86 ∧ a ≠ 87) (hG : VG t G) (hA : AG t G Aa) (t0 : 0 ≤ tt ∧ tt < t) (KO : ∀ F r R q x3 x4 x5 x6 x7 x8, JE t G F r (64 * tt + 64) → JC t G R q (16 * tt + 16) → ma_J none mX12_layJoined (d + 2) 0 0 207 [some (vr 73), some (vr a), some (vi tt), x3, x4, x5, x6, x7, x8] [] (ma_up (ma_up h 86 (ci 128 F)) 87 (ci 32 R)) nx Q) :
    ∀ (m : Nat) (f : Int) (F : Int → Int) (r : Int → Int) (R : Int → Int) (q : Int → Int) (x4 : Option ma_V) (x5 : Option ma_V) (x6 : Option ma_V) (x7 : Option ma_V) (x8 : Option ma_V), (0 ≤ f) → (f ≤ 4) → (4 - f < m) → (JE t G F r (64 * tt + 16 * f)) → (JC t G R q (16 * tt + 4 * f)) → ma_J none mX12_layJoined (d + 2) 0 0 54 [some (vr 73), some (vr a), some (vi tt), some (vi f), x4, x5, x6, x7, x8] [] (ma_up (ma_up h 86 (ci 128 F)) 87 (ci 32 R)) nx Q := by
  have ht := hG.1
  intro m
  induction m with
  | zero => intro f F r R q x4 x5 x6 x7 x8 f0 f1 f2 hE hC; omega
  | succ m ih =>
    intro f F r R q x4 x5 x6 x7 x8 f0 f1 f2 hE hC
    refine ma_iload_n dX12_layJoined_54 rfl ?_
    refine ma_iconst dX12_layJoined_55 ?_
    refine ma_rcmp_ge 207 dX12_layJoined_56 rfl (by constructor <;> omega) (by constructor <;> omega) (fun c56 => ?_) (fun c56 => ?_)
    · -- 207
      have e4 : f = 4 := by omega
      subst e4
      exact KO F r R q _ _ _ _ _ _ hE hC
    · -- 59
      refine ma_aload_n dX12_layJoined_59 rfl ?_
      refine ma_iload_n dX12_layJoined_60 rfl ?_
      refine ma_iload_n dX12_layJoined_61 rfl ?_
      refine ma_cS [_, _, _] dX12_layJoined_62 wX12_glue lX12_150 tX12_glue (Nat.le_of_ble_eq_true rfl) ?_
      refine c_X12_glue ((ma_up_n na.2).trans ((ma_up_n na.1).trans ha)) ⟨t0.1, by omega⟩ ⟨f0, by omega⟩ ?_
      rw [show 1 + 4 * tt + f = 1 + (4 * tt + f) by omega, hA.2 (4 * tt + f) (by omega) (by omega)]
      refine ma_istoreN dX12_layJoined_65 (by decide) rfl ?_
      refine ma_iload dX12_layJoined_67 rfl ?_
      refine ma_iconst dX12_layJoined_69 ?_
      have hv : vc (G (4 * tt + f)) := by have := (vg_in hG (k := 4 * tt + f) (by omega) (by omega)).2.2; unfold vc; omega
      have hcv := (cv_lt hv hv).2.2
      refine ma_rcmp_ne 76 dX12_layJoined_70 rfl (by constructor <;> omega) (by constructor <;> omega) (fun c70 => ?_) (fun c70 => ?_)
      · -- 76
        have g : 0 ≤ G (4 * tt + f) := by
          rcases Int.lt_or_le (G (4 * tt + f)) 0 with z | z
          · exact absurd (cv_n z) c70
          · exact z
        have hp := pt_pt hG (k := 4 * tt + f) (by omega) (by omega) g
        have cp := cv_p g hp.2.2.2.2.2.1
        refine ma_iload dX12_layJoined_76 rfl ?_
        refine ma_bipush dX12_layJoined_78 ?_
        refine ma_kdiv dX12_layJoined_80 (by constructor <;> omega) (by constructor <;> omega) ?_
        rw [cp.2.1]
        refine ma_istoreN dX12_layJoined_81 (by decide) rfl ?_
        refine ma_iload dX12_layJoined_83 rfl ?_
        refine ma_bipush dX12_layJoined_85 ?_
        refine ma_kmod dX12_layJoined_87 (by constructor <;> omega) (by constructor <;> omega) ?_
        rw [cp.2.2]
        refine ma_istoreN dX12_layJoined_88 (by decide) rfl ?_
        refine ma_iconst dX12_layJoined_90 ?_
        refine ma_istoreN dX12_layJoined_91 (by decide) rfl ?_
        refine l_X12_lJ93 hM ha na hG hA t0 ⟨f0, by omega⟩ g (fun F' r' R' q' x7 x8 hE' hC' => ?_) 5 0 F r R q _ (by omega) (by omega) (by omega) (by rw [show 64 * tt + 16 * f + 4 * 0 = 64 * tt + 16 * f by omega]; exact hE) (by rw [Int.add_zero]; exact hC)
        refine ma_iincN dX12_layJoined_201 rfl (by decide) rfl ?_
        refine ma_goto 54 dX12_layJoined_204 rfl ?_
        exact ih (f + 1) F' r' R' q' _ _ _ _ _ (by omega) (by omega) (by omega) (by rw [show 64 * tt + 16 * (f + 1) = 64 * tt + 16 * f + 16 by omega]; exact hE') (by rw [show 16 * tt + 4 * (f + 1) = 16 * tt + 4 * f + 4 by omega]; exact hC')
      · -- 73
        refine ma_goto 201 dX12_layJoined_73 rfl ?_
        refine ma_iincN dX12_layJoined_201 rfl (by decide) rfl ?_
        refine ma_goto 54 dX12_layJoined_204 rfl ?_
        have g : G (4 * tt + f) < 0 := by
          rcases Int.lt_or_le (G (4 * tt + f)) 0 with z | z
          · exact z
          · have := cv_p z (by have := (vg_in hG (k := 4 * tt + f) (by omega) (by omega)).2.2; omega); omega
        exact ih (f + 1) F r R q _ _ _ _ _ (by omega) (by omega) (by omega) (by rw [show 64 * tt + 16 * (f + 1) = 64 * tt + 16 * f + 16 by omega]; exact je_skip (u := 0) (v := 0) (by rw [show 64 * tt + 16 * f + 4 * 0 + 0 = 64 * tt + 16 * f by omega]; exact hE) ⟨f0, by omega⟩ (by omega) (by omega) (Or.inr (Or.inr ⟨rfl, g⟩))) (by rw [show 16 * tt + 4 * (f + 1) = 16 * tt + 4 * f + 4 by omega]; exact jc_skip (u := 0) (by rw [Int.add_zero]; exact hC) ⟨f0, by omega⟩ (by omega) (Or.inr ⟨rfl, g⟩))
set_option maxHeartbeats 2000000 in
theorem l_X12_lJ45 {h : ma_H} {a nx d : Nat} {t : Int} {G Aa : Int → Int} {Q : Option ma_V → ma_H → Nat → Prop} {I : Nat → Int} (hM : h 73 = co 12 (mo I)) (ha : h a = ci 33 Aa) (na : a ≠ 86 ∧ a ≠ 87) (hG : VG t G) (hA : AG t G Aa) (KO : ∀ F r R q x2 x3 x4 x5 x6 x7 x8, JE t G F r (64 * t) → JC t G R q (16 * t) → ma_J none mX12_layJoined (d + 2) 0 0 213 [some (vr 73), some (vr a), x2, x3, x4, x5, x6, x7, x8] [] (ma_up (ma_up h 86 (ci 128 F)) 87 (ci 32 R)) nx Q) :
    ∀ (m : Nat) (tt : Int) (F : Int → Int) (r : Int → Int) (R : Int → Int) (q : Int → Int) (x3 : Option ma_V) (x4 : Option ma_V) (x5 : Option ma_V) (x6 : Option ma_V) (x7 : Option ma_V) (x8 : Option ma_V), (0 ≤ tt) → (tt ≤ t) → (t - tt < m) → (JE t G F r (64 * tt)) → (JC t G R q (16 * tt)) → ma_J none mX12_layJoined (d + 2) 0 0 45 [some (vr 73), some (vr a), some (vi tt), x3, x4, x5, x6, x7, x8] [] (ma_up (ma_up h 86 (ci 128 F)) 87 (ci 32 R)) nx Q := by
  have ht := hG.1
  intro m
  induction m with
  | zero => intro tt F r R q x3 x4 x5 x6 x7 x8 t0 t1 t2 hE hC; omega
  | succ m ih =>
    intro tt F r R q x3 x4 x5 x6 x7 x8 t0 t1 t2 hE hC
    refine ma_iload_n dX12_layJoined_45 rfl ?_
    refine ma_aload_n dX12_layJoined_46 rfl ?_
    refine ma_iconst dX12_layJoined_47 ?_
    refine ma_iald dX12_layJoined_48 (by first | exact ma_up_s _ _ _ | exact (ma_up_n (by decide)).trans (ma_up_s _ _ _) | exact (ma_up_n (by decide)).trans ((ma_up_n (by decide)).trans (by assumption)) | exact (ma_up_n na.2).trans ((ma_up_n na.1).trans (by assumption))) (by omega) (by omega) (by omega) ?_
    rw [hA.1]
    refine ma_rcmp_ge 213 dX12_layJoined_49 rfl (by constructor <;> omega) (by constructor <;> omega) (fun c49 => ?_) (fun c49 => ?_)
    · -- 213
      have e4 : tt = t := by omega
      subst e4
      exact KO F r R q _ _ _ _ _ _ _ hE hC
    · -- 52
      refine ma_iconst dX12_layJoined_52 ?_
      refine ma_istore_nN dX12_layJoined_53 (by decide) rfl ?_
      refine l_X12_lJ54 hM ha na hG hA ⟨t0, by omega⟩ (fun F' r' R' q' x3 x4 x5 x6 x7 x8 hE' hC' => ?_) 5 0 F r R q _ _ _ _ _ (by omega) (by omega) (by omega) (by rw [show 64 * tt + 16 * 0 = 64 * tt by omega]; exact hE) (by rw [show 16 * tt + 4 * 0 = 16 * tt by omega]; exact hC)
      refine ma_iincN dX12_layJoined_207 rfl (by decide) rfl ?_
      refine ma_goto 45 dX12_layJoined_210 rfl ?_
      exact ih (tt + 1) F' r' R' q' _ _ _ _ _ _ (by omega) (by omega) (by omega) (by rw [show 64 * (tt + 1) = 64 * tt + 64 by omega]; exact hE') (by rw [show 16 * (tt + 1) = 16 * tt + 16 by omega]; exact hC')
set_option maxHeartbeats 2000000 in
theorem l_X12_lJ215 {h : ma_H} {a nx d : Nat} {Q : Option ma_V → ma_H → Nat → Prop} {I : Nat → Int} {F r R : Int → Int} {x3 x4 x5 x6 x7 x8 : Option ma_V} (hM : h 73 = co 12 (mo I)) (hU : UF 128 F r) (KO : ∀ C x2, (∀ j, 0 ≤ j → j < 128 → C j = r j) → ma_J none mX12_layJoined (d + 2) 0 0 242 [some (vr 73), some (vr a), x2, x3, x4, x5, x6, x7, x8] [] (ma_up (ma_up h 86 (ci 128 C)) 87 (ci 32 R)) nx Q) :
    ∀ (m : Nat) (k : Int) (C : Int → Int), (0 ≤ k) → (k ≤ 128) → (128 - k < m) → (UC 128 F r C k) → ma_J none mX12_layJoined (d + 2) 0 0 215 [some (vr 73), some (vr a), some (vi k), x3, x4, x5, x6, x7, x8] [] (ma_up (ma_up h 86 (ci 128 C)) 87 (ci 32 R)) nx Q := by
  intro m
  induction m with
  | zero => intro k C k0 k1 k2 hc; omega
  | succ m ih =>
    intro k C k0 k1 k2 hc
    refine ma_iload_n dX12_layJoined_215 rfl ?_
    refine ma_sipush dX12_layJoined_216 ?_
    refine ma_rcmp_ge 242 dX12_layJoined_219 rfl (by constructor <;> omega) (by constructor <;> omega) (fun c219 => ?_) (fun c219 => ?_)
    · -- 242
      exact KO C _ (fun j j0 j1 => hc.1 j j0 (by omega))
    · -- 222
      refine ma_aload_n dX12_layJoined_222 rfl ?_
      refine ma_getf dX12_layJoined_223 fX12_48 (by first | exact ma_up_s _ _ _ | exact (ma_up_n (by decide)).trans (ma_up_s _ _ _) | exact (ma_up_n (by decide)).trans ((ma_up_n (by decide)).trans (by assumption)) | exact (ma_up_n na.2).trans ((ma_up_n na.1).trans (by assumption))) (by rfl) ?_
      refine ma_iload_n dX12_layJoined_226 rfl ?_
      refine ma_aload_n dX12_layJoined_227 rfl ?_
      refine ma_getf dX12_layJoined_228 fX12_48 (by first | exact ma_up_s _ _ _ | exact (ma_up_n (by decide)).trans (ma_up_s _ _ _) | exact (ma_up_n (by decide)).trans ((ma_up_n (by decide)).trans (by assumption)) | exact (ma_up_n na.2).trans ((ma_up_n na.1).trans (by assumption))) (by rfl) ?_
      refine ma_iload_n dX12_layJoined_231 rfl ?_
      refine ma_cS [_, _] dX12_layJoined_232 wX12_root lX12_239 tX12_root (Nat.le_of_ble_eq_true rfl) ?_
      refine c_X12_root ((ma_up_n (by decide)).trans (ma_up_s _ _ _)) (uc_uf hU hc) (by omega) ⟨k0, by omega⟩ ?_
      refine ma_iast dX12_layJoined_235 (by first | exact ma_up_s _ _ _ | exact (ma_up_n (by decide)).trans (ma_up_s _ _ _) | exact (ma_up_n (by decide)).trans ((ma_up_n (by decide)).trans (by assumption)) | exact (ma_up_n na.2).trans ((ma_up_n na.1).trans (by assumption))) (by omega) (by omega) (by omega) ?_
      rw [fl_e (by decide)]
      refine ma_iincN dX12_layJoined_236 rfl (by decide) rfl ?_
      refine ma_goto 215 dX12_layJoined_239 rfl ?_
      exact ih (k + 1) _ (by omega) (by omega) (by omega) ⟨fun j j0 j1 => by
        by_cases z : j = k
        · rw [z, uf_s]
        · rw [uf_n z]; exact hc.1 j j0 (by omega), fun j j0 j1 => by
        rw [uf_n (by omega)]; exact hc.2 j (by omega) j1⟩
set_option maxHeartbeats 2000000 in
theorem l_X12_lJ244 {h : ma_H} {a nx d : Nat} {Q : Option ma_V → ma_H → Nat → Prop} {I : Nat → Int} {F R q : Int → Int} {x3 x4 x5 x6 x7 x8 : Option ma_V} (hM : h 73 = co 12 (mo I)) (hU : UF 32 R q) (KO : ∀ C, (∀ j, 0 ≤ j → j < 32 → C j = q j) → Q none (ma_up (ma_up h 86 (ci 128 F)) 87 (ci 32 C)) nx) :
    ∀ (m : Nat) (k : Int) (C : Int → Int), (0 ≤ k) → (k ≤ 32) → (32 - k < m) → (UC 32 R q C k) → ma_J none mX12_layJoined (d + 2) 0 0 244 [some (vr 73), some (vr a), some (vi k), x3, x4, x5, x6, x7, x8] [] (ma_up (ma_up h 86 (ci 128 F)) 87 (ci 32 C)) nx Q := by
  intro m
  induction m with
  | zero => intro k C k0 k1 k2 hc; omega
  | succ m ih =>
    intro k C k0 k1 k2 hc
    refine ma_iload_n dX12_layJoined_244 rfl ?_
    refine ma_bipush dX12_layJoined_245 ?_
    refine ma_rcmp_ge 270 dX12_layJoined_247 rfl (by constructor <;> omega) (by constructor <;> omega) (fun c247 => ?_) (fun c247 => ?_)
    · -- 270
      exact ma_vret dX12_layJoined_270 rfl (KO C (fun j j0 j1 => hc.1 j j0 (by omega)))
    · -- 250
      refine ma_aload_n dX12_layJoined_250 rfl ?_
      refine ma_getf dX12_layJoined_251 fX12_51 (by first | exact ma_up_s _ _ _ | exact (ma_up_n (by decide)).trans (ma_up_s _ _ _) | exact (ma_up_n (by decide)).trans ((ma_up_n (by decide)).trans (by assumption)) | exact (ma_up_n na.2).trans ((ma_up_n na.1).trans (by assumption))) (by rfl) ?_
      refine ma_iload_n dX12_layJoined_254 rfl ?_
      refine ma_aload_n dX12_layJoined_255 rfl ?_
      refine ma_getf dX12_layJoined_256 fX12_51 (by first | exact ma_up_s _ _ _ | exact (ma_up_n (by decide)).trans (ma_up_s _ _ _) | exact (ma_up_n (by decide)).trans ((ma_up_n (by decide)).trans (by assumption)) | exact (ma_up_n na.2).trans ((ma_up_n na.1).trans (by assumption))) (by rfl) ?_
      refine ma_iload_n dX12_layJoined_259 rfl ?_
      refine ma_cS [_, _] dX12_layJoined_260 wX12_root lX12_239 tX12_root (Nat.le_of_ble_eq_true rfl) ?_
      refine c_X12_root (ma_up_s _ _ _) (uc_uf hU hc) (by omega) ⟨k0, by omega⟩ ?_
      refine ma_iast dX12_layJoined_263 (by first | exact ma_up_s _ _ _ | exact (ma_up_n (by decide)).trans (ma_up_s _ _ _) | exact (ma_up_n (by decide)).trans ((ma_up_n (by decide)).trans (by assumption)) | exact (ma_up_n na.2).trans ((ma_up_n na.1).trans (by assumption))) (by omega) (by omega) (by omega) ?_
      rw [ma_up_up]
      refine ma_iincN dX12_layJoined_264 rfl (by decide) rfl ?_
      refine ma_goto 244 dX12_layJoined_267 rfl ?_
      exact ih (k + 1) _ (by omega) (by omega) (by omega) ⟨fun j j0 j1 => by
        by_cases z : j = k
        · rw [z, uf_s]
        · rw [uf_n z]; exact hc.1 j j0 (by omega), fun j j0 j1 => by
        rw [uf_n (by omega)]; exact hc.2 j (by omega) j1⟩
set_option maxHeartbeats 2000000 in
theorem l_X12_lJ2 {h : ma_H} {a nx d : Nat} {Q : Option ma_V → ma_H → Nat → Prop} {I : Nat → Int} {x3 x4 x5 x6 x7 x8 : Option ma_V} (hM : h 73 = co 12 (mo I)) (KO : ∀ C x2, (∀ j, 0 ≤ j → j < 128 → C j = j) → ma_J none mX12_layJoined (d + 2) 0 0 22 [some (vr 73), some (vr a), x2, x3, x4, x5, x6, x7, x8] [] (ma_up h 86 (ci 128 C)) nx Q) :
    ∀ (m : Nat) (k : Int) (C : Int → Int), (0 ≤ k) → (k ≤ 128) → (128 - k < m) → (∀ j, 0 ≤ j → j < k → C j = j) → ma_J none mX12_layJoined (d + 2) 0 0 2 [some (vr 73), some (vr a), some (vi k), x3, x4, x5, x6, x7, x8] [] (ma_up h 86 (ci 128 C)) nx Q := by
  intro m
  induction m with
  | zero => intro k C k0 k1 k2 hc; omega
  | succ m ih =>
    intro k C k0 k1 k2 hc
    refine ma_iload_n dX12_layJoined_2 rfl ?_
    refine ma_sipush dX12_layJoined_3 ?_
    refine ma_rcmp_ge 22 dX12_layJoined_6 rfl (by constructor <;> omega) (by constructor <;> omega) (fun c6 => ?_) (fun c6 => ?_)
    · -- 22
      exact KO C _ (fun j j0 j1 => hc j j0 (by omega))
    · -- 9
      refine ma_aload_n dX12_layJoined_9 rfl ?_
      refine ma_getf dX12_layJoined_10 fX12_48 (by first | exact ma_up_s _ _ _ | exact (ma_up_n (by decide)).trans (by assumption) | exact (ma_up_n (by decide)).trans ((ma_up_n (by decide)).trans (by assumption))) (by rfl) ?_
      refine ma_iload_n dX12_layJoined_13 rfl ?_
      refine ma_iload_n dX12_layJoined_14 rfl ?_
      refine ma_iast dX12_layJoined_15 (by first | exact ma_up_s _ _ _ | exact (ma_up_n (by decide)).trans (by assumption) | exact (ma_up_n (by decide)).trans ((ma_up_n (by decide)).trans (by assumption))) (by omega) (by omega) (by omega) ?_
      rw [ma_up_up]
      refine ma_iincN dX12_layJoined_16 rfl (by decide) rfl ?_
      refine ma_goto 2 dX12_layJoined_19 rfl ?_
      exact ih (k + 1) _ (by omega) (by omega) (by omega) (fun j j0 j1 => by
        by_cases z : j = k
        · rw [z, uf_s]
        · rw [uf_n z]; exact hc j j0 (by omega))
set_option maxHeartbeats 2000000 in
theorem l_X12_lJ24 {h : ma_H} {a nx d : Nat} {Q : Option ma_V → ma_H → Nat → Prop} {I : Nat → Int} {F : Int → Int}  {x3 x4 x5 x6 x7 x8 : Option ma_V} (hM : h 73 = co 12 (mo I)) (KO : ∀ C x2, (∀ j, 0 ≤ j → j < 32 → C j = j) → ma_J none mX12_layJoined (d + 2) 0 0 43 [some (vr 73), some (vr a), x2, x3, x4, x5, x6, x7, x8] [] (ma_up (ma_up h 86 (ci 128 F)) 87 (ci 32 C)) nx Q) :
    ∀ (m : Nat) (k : Int) (C : Int → Int), (0 ≤ k) → (k ≤ 32) → (32 - k < m) → (∀ j, 0 ≤ j → j < k → C j = j) → ma_J none mX12_layJoined (d + 2) 0 0 24 [some (vr 73), some (vr a), some (vi k), x3, x4, x5, x6, x7, x8] [] (ma_up (ma_up h 86 (ci 128 F)) 87 (ci 32 C)) nx Q := by
  intro m
  induction m with
  | zero => intro k C k0 k1 k2 hc; omega
  | succ m ih =>
    intro k C k0 k1 k2 hc
    refine ma_iload_n dX12_layJoined_24 rfl ?_
    refine ma_bipush dX12_layJoined_25 ?_
    refine ma_rcmp_ge 43 dX12_layJoined_27 rfl (by constructor <;> omega) (by constructor <;> omega) (fun c27 => ?_) (fun c27 => ?_)
    · -- 43
      exact KO C _ (fun j j0 j1 => hc j j0 (by omega))
    · -- 30
      refine ma_aload_n dX12_layJoined_30 rfl ?_
      refine ma_getf dX12_layJoined_31 fX12_51 (by first | exact ma_up_s _ _ _ | exact (ma_up_n (by decide)).trans (by assumption) | exact (ma_up_n (by decide)).trans ((ma_up_n (by decide)).trans (by assumption))) (by rfl) ?_
      refine ma_iload_n dX12_layJoined_34 rfl ?_
      refine ma_iload_n dX12_layJoined_35 rfl ?_
      refine ma_iast dX12_layJoined_36 (by first | exact ma_up_s _ _ _ | exact (ma_up_n (by decide)).trans (by assumption) | exact (ma_up_n (by decide)).trans ((ma_up_n (by decide)).trans (by assumption))) (by omega) (by omega) (by omega) ?_
      rw [ma_up_up]
      refine ma_iincN dX12_layJoined_37 rfl (by decide) rfl ?_
      refine ma_goto 24 dX12_layJoined_40 rfl ?_
      exact ih (k + 1) _ (by omega) (by omega) (by omega) (fun j j0 j1 => by
        by_cases z : j = k
        · rw [z, uf_s]
        · rw [uf_n z]; exact hc j j0 (by omega))
noncomputable def cut (ok : Int → Prop) (r : Int → Int) : Int → Int := fun x => @ite _ (ok x) (Classical.propDecidable _) (r x) (-1)
theorem cut_y {ok : Int → Prop} {r : Int → Int} {x : Int} (h : ok x) : cut ok r x = r x := if_pos h
theorem cut_n {ok : Int → Prop} {r : Int → Int} {x : Int} (h : ¬ ok x) : cut ok r x = -1 := if_neg h
theorem rp_cut {N : Int} {ok : Int → Prop} {nb : Int → Int → Int} {r : Int → Int} (hN : NB N ok nb) (h : RP ok nb r) : RP ok nb (cut ok r) := by
  refine ⟨fun x hx => ?_, fun x g hx g0 g1 hn => ?_⟩
  · rw [cut_y hx]; exact h.1 x hx
  · rw [cut_y hx, cut_y (hN.2 x g hx g0 g1 hn).1]; exact h.2 x g hx g0 g1 hn
theorem bp_cut {t : Int} {G r q : Int → Int} (hG : VG t G) (h1 : RP (oE t) (nE G) r) (h2 : RP (oC t) (nC G) q) : BP t G (cut (oE t) r) (cut (oC t) q) :=
  ⟨rp_cut (nb_E hG) h1, fun _ _ _ hx => cut_n hx, rp_cut (nb_C hG) h2, fun _ _ _ hx => cut_n hx⟩
/-- the model's rows of ends and points -/
def BQ (t : Int) (G E P F R : Int → Int) : Prop := BP t G E P ∧ (∀ x, oE t x → F x = E x) ∧ ∀ x, oC t x → R x = P x
theorem bp_un {t : Int} {G E P E' P' : Int → Int} (hG : VG t G) (h : BP t G E P) (h' : BP t G E' P') : (∀ x, 0 ≤ x → x < 128 → E x = E' x) ∧ ∀ x, 0 ≤ x → x < 32 → P x = P' x := by
  refine ⟨fun x x0 x1 => ?_, fun x x0 x1 => ?_⟩
  · by_cases z : oE t x
    · exact rp_eq h.1 h'.1 (fun y hy => rp_ok (nb_E hG) h.1 hy) (fun y hy => rp_ok (nb_E hG) h'.1 hy) z
    · rw [h.2.1 x x0 x1 z, h'.2.1 x x0 x1 z]
  · by_cases z : oC t x
    · exact rp_eq h.2.2.1 h'.2.2.1 (fun y hy => rp_ok (nb_C hG) h.2.2.1 hy) (fun y hy => rp_ok (nb_C hG) h'.2.2.1 hy) z
    · rw [h.2.2.2 x x0 x1 z, h'.2.2.2 x x0 x1 z]
set_option maxHeartbeats 2000000 in
theorem c_X12_layJoined {h : ma_H} {a nx d : Nat} {t : Int} {G Aa : Int → Int} {Q : Option ma_V → ma_H → Nat → Prop} {I : Nat → Int} {F00 R00 : Int → Int} (hM : h 73 = co 12 (mo I)) (ha : h a = ci 33 Aa) (na : a ≠ 86 ∧ a ≠ 87) (hG : VG t G) (hA : AG t G Aa) (h86 : h 86 = ci 128 F00) (h87 : h 87 = ci 32 R00) (K : ∀ E P F R, BQ t G E P F R → Q none (ma_up (ma_up h 86 (ci 128 F)) 87 (ci 32 R)) nx) : ma_Ct mX12_layJoined (d + 2) 0 0 [vr 73, vr a] h nx Q := by
  have ht := hG.1
  refine ma_Ct.of (by decide +kernel) (Nat.le_of_ble_eq_true rfl) ?_
  rw [show h = ma_up h 86 (ci 128 F00) from (ma_up_id h86).symm]
  refine ma_iconst dX12_layJoined_0 ?_
  refine ma_istore_nN dX12_layJoined_1 (by decide) rfl ?_
  refine l_X12_lJ2 hM (fun F0 _ hF0 => ?_) 129 0 F00 (by omega) (by omega) (by omega) (fun j j0 j1 => by omega)
  refine ma_iconst dX12_layJoined_22 ?_
  refine ma_istore_nN dX12_layJoined_23 (by decide) rfl ?_
  rw [show ma_up h 86 (ci 128 F0) = ma_up (ma_up h 86 (ci 128 F0)) 87 (ci 32 R00) from (ma_up_id ((ma_up_n (by decide)).trans h87)).symm]
  refine l_X12_lJ24 hM (fun R0 _ hR0 => ?_) 33 0 R00 (by omega) (by omega) (by omega) (fun j j0 j1 => by omega)
  refine ma_iconst dX12_layJoined_43 ?_
  refine ma_istore_nN dX12_layJoined_44 (by decide) rfl ?_
  refine l_X12_lJ45 hM ha na hG hA (fun F r R q _ _ _ _ _ _ _ hE hC => ?_) 9 0 F0 (fun k => k) R0 (fun k => k) _ _ _ _ _ _ (by omega) (by omega) (by omega) (ju_0 hF0 (fun x g hx g0 g1 => by unfold kE; unfold oE at hx; omega)) (ju_0 hR0 (fun x g hx g0 g1 => by unfold kC; unfold oC at hx; omega))
  refine ma_iconst dX12_layJoined_213 ?_
  refine ma_istore_nN dX12_layJoined_214 (by decide) rfl ?_
  refine l_X12_lJ215 hM hE.1 (fun F' _ hF' => ?_) 129 0 F (by omega) (by omega) (by omega) ⟨fun j j0 j1 => by omega, fun _ _ _ => rfl⟩
  refine ma_iconst dX12_layJoined_242 ?_
  refine ma_istore_nN dX12_layJoined_243 (by decide) rfl ?_
  refine l_X12_lJ244 hM hC.1 (fun R' hR' => ?_) 33 0 R (by omega) (by omega) (by omega) ⟨fun j j0 j1 => by omega, fun _ _ _ => rfl⟩
  have h1 := ju_rp (nb_E hG) hE (fun x g hx g0 g1 => by unfold kE; unfold oE at hx; omega)
  have h2 := ju_rp (nb_C hG) hC (fun x g hx g0 g1 => by unfold kC; unfold oC at hx; omega)
  exact K _ _ F' R' ⟨bp_cut hG h1 h2, fun x hx => by rw [cut_y hx]; unfold oE at hx; exact hF' x hx.1 (by omega), fun x hx => by rw [cut_y hx]; unfold oC at hx; exact hR' x hx.1 (by omega)⟩
