/-- a free face of an edge's tet, told by an end and a face -/
def FF (E G : Int → Int) (x y g : Int) : Prop := g ≠ y / 4 % 4 ∧ g ≠ y % 4 ∧ G (4 * (y / 16) + g) < 0 ∧ eg E y = x
def NF (t : Int) (E G : Int → Int) (x K : Int) : Prop := ∀ y g, oE t y → 0 ≤ g → g < 4 → kE y g < K → ¬ FF E G x y g
theorem ff_fP {t : Int} {E G : Int → Int} {x y g : Int} (hy : oE t y) (g0 : 0 ≤ g) (g1 : g < 4) (h : FF E G x y g) : fP E G (16 * t) 0 x := by
  obtain ⟨h1, h2, h3, h4⟩ := h
  obtain ⟨y0, y1, y2⟩ := hy
  rcases Int.lt_or_le (y / 4 % 4) (y % 4) with z | z
  · exact ⟨y, g, y0, g0, g1, Or.inl y1, z, h4, h1, h2, h3⟩
  · obtain ⟨p1, p2, p3⟩ := tr_p y
    have o := tr_o (t := t) ⟨y0, y1, y2⟩
    exact ⟨tr y, g, o.1, g0, g1, Or.inl o.2.1, by omega, by rw [eg_tr]; exact h4, by omega, by omega, by rw [p1]; exact h3⟩
theorem nf_fP {t : Int} {E G : Int → Int} {x K : Int} (h : NF t E G x K) (hK : 64 * t ≤ K) : ¬ fP E G (16 * t) 0 x := by
  rintro ⟨y, g, y0, g0, g1, y1, uv, e, a, b, c⟩
  have y2 : y < 16 * t := by omega
  exact h y g ⟨y0, y2, by omega⟩ g0 g1 (by unfold kE; omega) ⟨a, b, c, e⟩
theorem nf_s {t : Int} {E G : Int → Int} {x tt f u v : Int} (h : NF t E G x (64 * tt + 16 * f + 4 * u + v)) (t0 : 0 ≤ tt ∧ tt < t) (f0 : 0 ≤ f ∧ f < 4) (u0 : 0 ≤ u ∧ u < 4) (v0 : 0 ≤ v ∧ v < 4) (hn : u ≠ v → ¬ FF E G x (16 * tt + 4 * u + v) f) : NF t E G x (64 * tt + 16 * f + 4 * u + v + 1) := by
  intro y g hy g0 g1 hk hF
  rcases Int.lt_or_le (kE y g) (64 * tt + 16 * f + 4 * u + v) with z | z
  · exact h y g hy g0 g1 z hF
  · unfold kE at hk z
    obtain ⟨d1, d2, d3⟩ := dg1 (A := y / 16) (U := y / 4 % 4) (V := y % 4) g0 g1 (by omega) (by omega) (by omega) (by omega) f0 u0 v0 z (by omega)
    have d4 := d3 (by omega)
    have d5 : y % 4 = v := by omega
    have e : y = 16 * tt + 4 * u + v := by omega
    have := hy.2.2
    rw [e, d2] at hF
    exact hn (by omega) hF
theorem nf_j {t : Int} {E G : Int → Int} {x tt f : Int} (h : NF t E G x (64 * tt + 16 * f)) (f0 : 0 ≤ f ∧ f < 4) (hg : 0 ≤ G (4 * tt + f)) : NF t E G x (64 * tt + 16 * f + 16) := by
  intro y g hy g0 g1 hk hF
  rcases Int.lt_or_le (kE y g) (64 * tt + 16 * f) with z | z
  · exact h y g hy g0 g1 z hF
  · unfold kE at hk z
    obtain ⟨d1, d2, d3⟩ := dg1 (A := y / 16) (U := y / 4 % 4) (V := y % 4) (tt := tt) (u := 0) (v := 0) g0 g1 (by omega) (by omega) (by omega) (by omega) f0 (by omega) (by omega) (by omega) (by omega)
    have := hF.2.2.1
    rw [d1, d2] at this
    omega
set_option maxHeartbeats 2000000 in
theorem l_X12_isFree44 {h : ma_H} {a nx d : Nat} {t : Int} {G Aa E P F R : Int → Int} {Q : Option ma_V → ma_H → Nat → Prop} {I : Nat → Int} {x tt f u : Int} (hM : h 73 = co 12 (mo I)) (ha : h a = ci 33 Aa) (hG : VG t G) (hA : AG t G Aa) (h86 : h 86 = ci 128 F) (h87 : h 87 = ci 32 R) (hB : BQ t G E P F R) (hx : rg x) (K1 : fP E G (16 * t) 0 x → Q (some (vi 1)) h nx) (K0 : ¬ fP E G (16 * t) 0 x → Q (some (vi 0)) h nx) (t0 : 0 ≤ tt ∧ tt < t) (f0 : 0 ≤ f ∧ f < 4) (u0 : 0 ≤ u ∧ u < 4) (g : G (4 * tt + f) < 0) (KO : NF t E G x (64 * tt + 16 * f + 4 * u + 4) → ma_J none mX12_isFree (d + 2) 0 0 92 [some (vr 73), some (vr a), some (vi x), some (vi tt), some (vi f), some (vi u), some (vi 4)] [] h nx Q) :
    ∀ (m : Nat) (v : Int), (0 ≤ v) → (v ≤ 4) → (4 - v < m) → (NF t E G x (64 * tt + 16 * f + 4 * u + v)) → ma_J none mX12_isFree (d + 2) 0 0 44 [some (vr 73), some (vr a), some (vi x), some (vi tt), some (vi f), some (vi u), some (vi v)] [] h nx Q := by
  have ht := hG.1
  unfold rg at hx
  intro m
  induction m with
  | zero => intro v v0 v1 v2 hn; omega
  | succ m ih =>
    intro v v0 v1 v2 hn
    refine ma_iload dX12_isFree_44 rfl ?_
    refine ma_iconst dX12_isFree_46 ?_
    refine ma_rcmp_ge 92 dX12_isFree_47 rfl (by constructor <;> omega) (by constructor <;> omega) (fun c47 => ?_) (fun c47 => ?_)
    · -- 92
      have e4 : v = 4 := by omega
      subst e4
      exact KO hn
    · -- 50
      refine ma_iload dX12_isFree_50 rfl ?_
      refine ma_iload dX12_isFree_52 rfl ?_
      refine ma_rcmp_eq 86 dX12_isFree_54 rfl (by constructor <;> omega) (by constructor <;> omega) (fun c54 => ?_) (fun c54 => ?_)
      · -- 86
        refine ma_iincN dX12_isFree_86 rfl (by decide) rfl ?_
        refine ma_goto 44 dX12_isFree_89 rfl ?_
        exact ih (v + 1) (by omega) (by omega) (by omega) (by rw [show 64 * tt + 16 * f + 4 * u + (v + 1) = 64 * tt + 16 * f + 4 * u + v + 1 by omega]; exact nf_s hn t0 f0 u0 ⟨v0, by omega⟩ (fun uv z => by obtain ⟨e4, e5, e6, e7⟩ := dgk (tt := tt) u0 (show 0 ≤ v ∧ v < 4 from ⟨v0, (by omega)⟩); obtain ⟨z1, z2, z3, z4⟩ := z; omega))
      · -- 57
        refine ma_iload dX12_isFree_57 rfl ?_
        refine ma_iload dX12_isFree_59 rfl ?_
        refine ma_rcmp_eq 86 dX12_isFree_61 rfl (by constructor <;> omega) (by constructor <;> omega) (fun c61 => ?_) (fun c61 => ?_)
        · -- 86
          refine ma_iincN dX12_isFree_86 rfl (by decide) rfl ?_
          refine ma_goto 44 dX12_isFree_89 rfl ?_
          exact ih (v + 1) (by omega) (by omega) (by omega) (by rw [show 64 * tt + 16 * f + 4 * u + (v + 1) = 64 * tt + 16 * f + 4 * u + v + 1 by omega]; exact nf_s hn t0 f0 u0 ⟨v0, by omega⟩ (fun uv z => by obtain ⟨e4, e5, e6, e7⟩ := dgk (tt := tt) u0 (show 0 ≤ v ∧ v < 4 from ⟨v0, (by omega)⟩); obtain ⟨z1, z2, z3, z4⟩ := z; omega))
        · -- 64
          refine ma_iload dX12_isFree_64 rfl ?_
          refine ma_iload dX12_isFree_66 rfl ?_
          refine ma_rcmp_eq 86 dX12_isFree_68 rfl (by constructor <;> omega) (by constructor <;> omega) (fun c68 => ?_) (fun c68 => ?_)
          · -- 86
            refine ma_iincN dX12_isFree_86 rfl (by decide) rfl ?_
            refine ma_goto 44 dX12_isFree_89 rfl ?_
            exact ih (v + 1) (by omega) (by omega) (by omega) (by rw [show 64 * tt + 16 * f + 4 * u + (v + 1) = 64 * tt + 16 * f + 4 * u + v + 1 by omega]; exact nf_s hn t0 f0 u0 ⟨v0, by omega⟩ (fun uv z => by obtain ⟨e4, e5, e6, e7⟩ := dgk (tt := tt) u0 (show 0 ≤ v ∧ v < 4 from ⟨v0, (by omega)⟩); obtain ⟨z1, z2, z3, z4⟩ := z; omega))
          · -- 71
            refine ma_aload_n dX12_isFree_71 rfl ?_
            refine ma_iload_n dX12_isFree_72 rfl ?_
            refine ma_iload dX12_isFree_73 rfl ?_
            refine ma_iload dX12_isFree_75 rfl ?_
            refine ma_cV [_, _, _] dX12_isFree_77 wX12_edgeOf lX12_258 iX12_edgeOf sX12_edgeOf rfl (by assumption) (Nat.le_of_ble_eq_true rfl) ?_
            refine c_X12_edgeOf hM h86 hG hB t0 u0 ⟨v0, by omega⟩ c54 ?_
            have hq := eg_b hB t0 u0 (show 0 ≤ v ∧ v < 4 by omega) c54
            obtain ⟨e4, e5, e6, e7⟩ := dgk (tt := tt) u0 (show 0 ≤ v ∧ v < 4 by omega)
            refine ma_iload_n dX12_isFree_80 rfl ?_
            refine ma_rcmp_ne 86 dX12_isFree_81 rfl (by constructor <;> omega) (by constructor <;> omega) (fun c81 => ?_) (fun c81 => ?_)
            · -- 86
              refine ma_iincN dX12_isFree_86 rfl (by decide) rfl ?_
              refine ma_goto 44 dX12_isFree_89 rfl ?_
              exact ih (v + 1) (by omega) (by omega) (by omega) (by rw [show 64 * tt + 16 * f + 4 * u + (v + 1) = 64 * tt + 16 * f + 4 * u + v + 1 by omega]; exact nf_s hn t0 f0 u0 ⟨v0, by omega⟩ (fun uv z => by obtain ⟨e4, e5, e6, e7⟩ := dgk (tt := tt) u0 (show 0 ≤ v ∧ v < 4 from ⟨v0, (by omega)⟩); obtain ⟨z1, z2, z3, z4⟩ := z; omega))
            · -- 84
              refine ma_iconst dX12_isFree_84 ?_
              exact ma_zret dX12_isFree_85 rfl (Or.inr rfl) (K1 (ff_fP (bq_E hB t0 u0 (show 0 ≤ v ∧ v < 4 by omega) c54).1 f0.1 f0.2 ⟨by omega, by omega, by rw [e6]; exact g, by omega⟩))
set_option maxHeartbeats 2000000 in
theorem l_X12_isFree35 {h : ma_H} {a nx d : Nat} {t : Int} {G Aa E P F R : Int → Int} {Q : Option ma_V → ma_H → Nat → Prop} {I : Nat → Int} {x tt f : Int} (hM : h 73 = co 12 (mo I)) (ha : h a = ci 33 Aa) (hG : VG t G) (hA : AG t G Aa) (h86 : h 86 = ci 128 F) (h87 : h 87 = ci 32 R) (hB : BQ t G E P F R) (hx : rg x) (K1 : fP E G (16 * t) 0 x → Q (some (vi 1)) h nx) (K0 : ¬ fP E G (16 * t) 0 x → Q (some (vi 0)) h nx) (t0 : 0 ≤ tt ∧ tt < t) (f0 : 0 ≤ f ∧ f < 4) (g : G (4 * tt + f) < 0) (KO : ∀ x6, NF t E G x (64 * tt + 16 * f + 16) → ma_J none mX12_isFree (d + 2) 0 0 98 [some (vr 73), some (vr a), some (vi x), some (vi tt), some (vi f), some (vi 4), x6] [] h nx Q) :
    ∀ (m : Nat) (u : Int) (x6 : Option ma_V), (0 ≤ u) → (u ≤ 4) → (4 - u < m) → (NF t E G x (64 * tt + 16 * f + 4 * u)) → ma_J none mX12_isFree (d + 2) 0 0 35 [some (vr 73), some (vr a), some (vi x), some (vi tt), some (vi f), some (vi u), x6] [] h nx Q := by
  have ht := hG.1
  intro m
  induction m with
  | zero => intro u x6 u0 u1 u2 hn; omega
  | succ m ih =>
    intro u x6 u0 u1 u2 hn
    refine ma_iload dX12_isFree_35 rfl ?_
    refine ma_iconst dX12_isFree_37 ?_
    refine ma_rcmp_ge 98 dX12_isFree_38 rfl (by constructor <;> omega) (by constructor <;> omega) (fun c38 => ?_) (fun c38 => ?_)
    · -- 98
      have e4 : u = 4 := by omega
      subst e4
      exact KO _ (by rw [show 64 * tt + 16 * f + 16 = 64 * tt + 16 * f + 4 * 4 by omega]; exact hn)
    · -- 41
      refine ma_iconst dX12_isFree_41 ?_
      refine ma_istoreN dX12_isFree_42 (by decide) rfl ?_
      refine l_X12_isFree44 hM ha hG hA h86 h87 hB hx K1 K0 t0 f0 ⟨u0, by omega⟩ g (fun hn' => ?_) 5 0 (by omega) (by omega) (by omega) (by rw [Int.add_zero]; exact hn)
      refine ma_iincN dX12_isFree_92 rfl (by decide) rfl ?_
      refine ma_goto 35 dX12_isFree_95 rfl ?_
      exact ih (u + 1) _ (by omega) (by omega) (by omega) (by rw [show 64 * tt + 16 * f + 4 * (u + 1) = 64 * tt + 16 * f + 4 * u + 4 by omega]; exact hn')
set_option maxHeartbeats 2000000 in
theorem l_X12_isFree12 {h : ma_H} {a nx d : Nat} {t : Int} {G Aa E P F R : Int → Int} {Q : Option ma_V → ma_H → Nat → Prop} {I : Nat → Int} {x tt : Int} (hM : h 73 = co 12 (mo I)) (ha : h a = ci 33 Aa) (hG : VG t G) (hA : AG t G Aa) (h86 : h 86 = ci 128 F) (h87 : h 87 = ci 32 R) (hB : BQ t G E P F R) (hx : rg x) (K1 : fP E G (16 * t) 0 x → Q (some (vi 1)) h nx) (K0 : ¬ fP E G (16 * t) 0 x → Q (some (vi 0)) h nx) (t0 : 0 ≤ tt ∧ tt < t) (KO : ∀ x5 x6, NF t E G x (64 * tt + 64) → ma_J none mX12_isFree (d + 2) 0 0 104 [some (vr 73), some (vr a), some (vi x), some (vi tt), some (vi 4), x5, x6] [] h nx Q) :
    ∀ (m : Nat) (f : Int) (x5 : Option ma_V) (x6 : Option ma_V), (0 ≤ f) → (f ≤ 4) → (4 - f < m) → (NF t E G x (64 * tt + 16 * f)) → ma_J none mX12_isFree (d + 2) 0 0 12 [some (vr 73), some (vr a), some (vi x), some (vi tt), some (vi f), x5, x6] [] h nx Q := by
  have ht := hG.1
  intro m
  induction m with
  | zero => intro f x5 x6 f0 f1 f2 hn; omega
  | succ m ih =>
    intro f x5 x6 f0 f1 f2 hn
    refine ma_iload dX12_isFree_12 rfl ?_
    refine ma_iconst dX12_isFree_14 ?_
    refine ma_rcmp_ge 104 dX12_isFree_15 rfl (by constructor <;> omega) (by constructor <;> omega) (fun c15 => ?_) (fun c15 => ?_)
    · -- 104
      have e4 : f = 4 := by omega
      subst e4
      exact KO _ _ (by rw [show 64 * tt + 64 = 64 * tt + 16 * 4 by omega]; exact hn)
    · -- 18
      refine ma_aload_n dX12_isFree_18 rfl ?_
      refine ma_iload_n dX12_isFree_19 rfl ?_
      refine ma_iload dX12_isFree_20 rfl ?_
      refine ma_cS [_, _, _] dX12_isFree_22 wX12_glue lX12_150 tX12_glue (Nat.le_of_ble_eq_true rfl) ?_
      refine c_X12_glue ha (by constructor <;> omega) (by constructor <;> omega) ?_
      rw [show 1 + 4 * tt + f = 1 + (4 * tt + f) by omega, hA.2 (4 * tt + f) (by omega) (by omega)]
      have hcn := cv_ne hG (k := 4 * tt + f) (by omega) (by omega)
      have hv : vc (G (4 * tt + f)) := by have := (vg_in hG (k := 4 * tt + f) (by omega) (by omega)).2.2; unfold vc; omega
      have hcv := (cv_lt hv hv).2.2
      refine ma_iconst dX12_isFree_25 ?_
      refine ma_rcmp_eq 32 dX12_isFree_26 rfl (by constructor <;> omega) (by constructor <;> omega) (fun c26 => ?_) (fun c26 => ?_)
      · -- 32
        refine ma_iconst dX12_isFree_32 ?_
        refine ma_istoreN dX12_isFree_33 (by decide) rfl ?_
        refine l_X12_isFree35 hM ha hG hA h86 h87 hB hx K1 K0 t0 ⟨f0, by omega⟩ (hcn.mp c26) (fun x6 hn' => ?_) 5 0 _ (by omega) (by omega) (by omega) (by rw [show 64 * tt + 16 * f + 4 * 0 = 64 * tt + 16 * f by omega]; exact hn)
        refine ma_iincN dX12_isFree_98 rfl (by decide) rfl ?_
        refine ma_goto 12 dX12_isFree_101 rfl ?_
        exact ih (f + 1) _ _ (by omega) (by omega) (by omega) (by rw [show 64 * tt + 16 * (f + 1) = 64 * tt + 16 * f + 16 by omega]; exact hn')
      · -- 29
        refine ma_goto 98 dX12_isFree_29 rfl ?_
        refine ma_iincN dX12_isFree_98 rfl (by decide) rfl ?_
        refine ma_goto 12 dX12_isFree_101 rfl ?_
        exact ih (f + 1) _ _ (by omega) (by omega) (by omega) (by rw [show 64 * tt + 16 * (f + 1) = 64 * tt + 16 * f + 16 by omega]; exact nf_j hn ⟨f0, by omega⟩ (by omega))
set_option maxHeartbeats 2000000 in
theorem l_X12_isFree2 {h : ma_H} {a nx d : Nat} {t : Int} {G Aa E P F R : Int → Int} {Q : Option ma_V → ma_H → Nat → Prop} {I : Nat → Int} {x : Int} (hM : h 73 = co 12 (mo I)) (ha : h a = ci 33 Aa) (hG : VG t G) (hA : AG t G Aa) (h86 : h 86 = ci 128 F) (h87 : h 87 = ci 32 R) (hB : BQ t G E P F R) (hx : rg x) (K1 : fP E G (16 * t) 0 x → Q (some (vi 1)) h nx) (K0 : ¬ fP E G (16 * t) 0 x → Q (some (vi 0)) h nx) :
    ∀ (m : Nat) (tt : Int) (x4 : Option ma_V) (x5 : Option ma_V) (x6 : Option ma_V), (0 ≤ tt) → (tt ≤ t) → (t - tt < m) → (NF t E G x (64 * tt)) → ma_J none mX12_isFree (d + 2) 0 0 2 [some (vr 73), some (vr a), some (vi x), some (vi tt), x4, x5, x6] [] h nx Q := by
  have ht := hG.1
  intro m
  induction m with
  | zero => intro tt x4 x5 x6 t0 t1 t2 hn; omega
  | succ m ih =>
    intro tt x4 x5 x6 t0 t1 t2 hn
    refine ma_iload_n dX12_isFree_2 rfl ?_
    refine ma_aload_n dX12_isFree_3 rfl ?_
    refine ma_iconst dX12_isFree_4 ?_
    refine ma_iald dX12_isFree_5 (by assumption) (by omega) (by omega) (by omega) ?_
    rw [hA.1]
    refine ma_rcmp_ge 110 dX12_isFree_6 rfl (by constructor <;> omega) (by constructor <;> omega) (fun c6 => ?_) (fun c6 => ?_)
    · -- 110
      refine ma_iconst dX12_isFree_110 ?_
      exact ma_zret dX12_isFree_111 rfl (Or.inl rfl) (K0 (nf_fP hn (by omega)))
    · -- 9
      refine ma_iconst dX12_isFree_9 ?_
      refine ma_istoreN dX12_isFree_10 (by decide) rfl ?_
      refine l_X12_isFree12 hM ha hG hA h86 h87 hB hx K1 K0 ⟨t0, by omega⟩ (fun x5 x6 hn' => ?_) 5 0 _ _ (by omega) (by omega) (by omega) (by rw [show 64 * tt + 16 * 0 = 64 * tt by omega]; exact hn)
      refine ma_iincN dX12_isFree_104 rfl (by decide) rfl ?_
      refine ma_goto 2 dX12_isFree_107 rfl ?_
      exact ih (tt + 1) _ _ _ (by omega) (by omega) (by omega) (by rw [show 64 * (tt + 1) = 64 * tt + 64 by omega]; exact hn')
theorem c_X12_isFree {h : ma_H} {a nx d : Nat} {t : Int} {G Aa E P F R : Int → Int} {Q : Option ma_V → ma_H → Nat → Prop} {I : Nat → Int} {x : Int} (hM : h 73 = co 12 (mo I)) (ha : h a = ci 33 Aa) (hG : VG t G) (hA : AG t G Aa) (h86 : h 86 = ci 128 F) (h87 : h 87 = ci 32 R) (hB : BQ t G E P F R) (hx : rg x) (K1 : fP E G (16 * t) 0 x → Q (some (vi 1)) h nx) (K0 : ¬ fP E G (16 * t) 0 x → Q (some (vi 0)) h nx) : ma_Ct mX12_isFree (d + 2) 0 0 [vr 73, vr a, vi x] h nx Q := by
  have ht := hG.1
  refine ma_Ct.of (by decide +kernel) (Nat.le_of_ble_eq_true rfl) ?_
  refine ma_iconst dX12_isFree_0 ?_
  refine ma_istore_nN dX12_isFree_1 (by decide) rfl ?_
  exact l_X12_isFree2 hM ha hG hA h86 h87 hB hx K1 K0 9 0 _ _ _ (by omega) (by omega) (by omega) (fun y g hy g0 g1 hk => by unfold kE at hk; unfold oE at hy; omega)
set_option maxHeartbeats 2000000 in
theorem l_X12_sizeOf {h : ma_H} {a nx d : Nat} {t : Int} {G Aa E P F R : Int → Int} {Q : Option ma_V → ma_H → Nat → Prop} {I : Nat → Int} {x : Int} (hM : h 73 = co 12 (mo I)) (ha : h a = ci 33 Aa) (hG : VG t G) (hA : AG t G Aa) (h86 : h 86 = ci 128 F) (h87 : h 87 = ci 32 R) (hB : BQ t G E P F R) (hx : rg x) (K : Q (some (vi (zA P (4 * t) x))) h nx) :
    ∀ (m : Nat) (k : Int) (n : Int), (0 ≤ k) → (k ≤ 4 * t) → (4 * t - k < m) → (n = ct (zP P x) k.toNat) → ma_J none mX12_sizeOf d 0 0 5 [some (vr 73), some (vr a), some (vi x), some (vi n), some (vi k)] [] h nx Q := by
  have ht := hG.1
  unfold rg at hx
  intro m
  induction m with
  | zero => intro k n k0 k1 k2 hn; omega
  | succ m ih =>
    intro k n k0 k1 k2 hn
    refine ma_iload dX12_sizeOf_5 rfl ?_
    refine ma_iconst dX12_sizeOf_7 ?_
    refine ma_aload_n dX12_sizeOf_8 rfl ?_
    refine ma_iconst dX12_sizeOf_9 ?_
    refine ma_iald dX12_sizeOf_10 (by assumption) (by omega) (by omega) (by omega) ?_
    rw [hA.1]
    refine ma_imul dX12_sizeOf_11 ?_
    refine ma_rcmp_ge 40 dX12_sizeOf_12 rfl (by constructor <;> omega) (by constructor <;> omega) (fun c12 => ?_) (fun c12 => ?_)
    · -- 40
      refine ma_iload_n dX12_sizeOf_40 rfl ?_
      have e4 : k = 4 * t := by omega
      rw [hn, e4]
      exact ma_iret dX12_sizeOf_41 rfl K
    · -- 15
      refine ma_iload_n dX12_sizeOf_15 rfl ?_
      refine ma_aload_n dX12_sizeOf_16 rfl ?_
      refine ma_getf dX12_sizeOf_17 fX12_51 (by assumption) (by rfl) ?_
      refine ma_iload dX12_sizeOf_20 rfl ?_
      refine ma_iald dX12_sizeOf_22 (by assumption) (by omega) (by omega) (by omega) ?_
      have hr := bq_P hB (c := k) k0 (by omega)
      rw [hr.1]
      refine ma_iload_n dX12_sizeOf_23 rfl ?_
      refine ma_rcmp_ne 31 dX12_sizeOf_24 rfl (by constructor <;> omega) (by constructor <;> omega) (fun c24 => ?_) (fun c24 => ?_)
      · -- 31
        refine ma_iconst dX12_sizeOf_31 ?_
        refine ma_iadd dX12_sizeOf_32 ?_
        refine ma_istore_nN dX12_sizeOf_33 (by decide) rfl ?_
        refine ma_iincN dX12_sizeOf_34 rfl (by decide) rfl ?_
        refine ma_goto 5 dX12_sizeOf_37 rfl ?_
        exact ih (k + 1) _ (by omega) (by omega) (by omega) (by rw [ct_n k0 (fun z => c24 z), hn]; omega)
      · -- 27
        refine ma_iconst dX12_sizeOf_27 ?_
        refine ma_goto 32 dX12_sizeOf_28 rfl ?_
        refine ma_iadd dX12_sizeOf_32 ?_
        refine ma_istore_nN dX12_sizeOf_33 (by decide) rfl ?_
        refine ma_iincN dX12_sizeOf_34 rfl (by decide) rfl ?_
        refine ma_goto 5 dX12_sizeOf_37 rfl ?_
        exact ih (k + 1) _ (by omega) (by omega) (by omega) (by rw [ct_y k0 (show zP P x k by unfold zP; omega), hn])
theorem c_X12_sizeOf {h : ma_H} {a nx d : Nat} {t : Int} {G Aa E P F R : Int → Int} {Q : Option ma_V → ma_H → Nat → Prop} {I : Nat → Int} {x : Int} (hM : h 73 = co 12 (mo I)) (ha : h a = ci 33 Aa) (hG : VG t G) (hA : AG t G Aa) (h86 : h 86 = ci 128 F) (h87 : h 87 = ci 32 R) (hB : BQ t G E P F R) (hx : rg x) (K : Q (some (vi (zA P (4 * t) x))) h nx) : ma_Ct mX12_sizeOf d 0 0 [vr 73, vr a, vi x] h nx Q := by
  have ht := hG.1
  refine ma_Ct.of (by decide +kernel) (Nat.le_of_ble_eq_true rfl) ?_
  refine ma_iconst dX12_sizeOf_0 ?_
  refine ma_istore_nN dX12_sizeOf_1 (by decide) rfl ?_
  refine ma_iconst dX12_sizeOf_2 ?_
  refine ma_istoreN dX12_sizeOf_3 (by decide) rfl ?_
  exact l_X12_sizeOf hM ha hG hA h86 h87 hB hx K 33 0 0 (by omega) (by omega) (by omega) rfl
theorem sz_b {t x : Int} {P G : Int → Int} (ht : 1 ≤ t ∧ t ≤ 8) : (0 ≤ zA P (4 * t) x ∧ zA P (4 * t) x ≤ 32) ∧ (0 ≤ sA P G (16 * t) x ∧ sA P G (16 * t) x ≤ 128) := by
  have h1 := ct_in (zP P x) (4 * t).toNat
  have h2 := ct_in (sP P G x) (16 * t).toNat
  unfold zA sA
  omega
theorem nA_b {t x : Int} {P E : Int → Int} (ht : 1 ≤ t ∧ t ≤ 8) : 0 ≤ nA P E (16 * t) x ∧ nA P E (16 * t) x ≤ 128 := by
  have h1 := ct_in (nP P E x) (16 * t).toNat
  unfold nA
  omega
/-- the model's round: as the class's -/
noncomputable abbrev xiA (t : Int) (G E P : Int → Int) (x : Int) : Int := xi (zA P (4 * t)) (nA P E (16 * t)) (sA P G (16 * t)) x
def RD (t : Int) (G E P : Int → Int) (x : Int) : Prop := sA P G (16 * t) x = 0 ∧ xiA t G E P x = 2
theorem sA_ex {t x : Int} {P G : Int → Int} (ht : 1 ≤ t) : ((∃ y, 0 ≤ y ∧ y < 16 * t ∧ sP P G x y) ↔ sA P G (16 * t) x ≠ 0) := by
  obtain ⟨l, l1, l2, l3⟩ := ct_get (P := sP P G x) (16 * t).toNat
  unfold sA
  rw [← l2]
  constructor
  · rintro ⟨y, y0, y1, hy⟩ z
    have := (l3 y).mpr ⟨y0, by omega, hy⟩
    cases l with
    | nil => cases this
    | cons a b => simp at z; omega
  · intro z
    cases l with
    | nil => exact absurd rfl z
    | cons a b =>
      have := (l3 a).mp (List.mem_cons_self ..)
      exact ⟨a, this.1, by omega, this.2.2⟩
theorem c_X12_chiOf {h : ma_H} {a nx d : Nat} {t : Int} {G Aa E P F R : Int → Int} {Q : Option ma_V → ma_H → Nat → Prop} {I : Nat → Int} {x : Int} (hM : h 73 = co 12 (mo I)) (ha : h a = ci 33 Aa) (hG : VG t G) (hA : AG t G Aa) (h86 : h 86 = ci 128 F) (h87 : h 87 = ci 32 R) (hB : BQ t G E P F R) (hx : rg x) (K : Q (some (vi (xiA t G E P x))) h nx) : ma_Ct mX12_chiOf (d + 3) 0 0 [vr 73, vr a, vi x] h nx Q := by
  have ht := hG.1
  have sb := sz_b (t := t) (x := x) (P := P) (G := G) ht
  unfold xiA xi at K
  refine ma_Ct.of (by decide +kernel) (Nat.le_of_ble_eq_true rfl) ?_
  refine ma_aload_n dX12_chiOf_0 rfl ?_
  refine ma_aload_n dX12_chiOf_1 rfl ?_
  refine ma_iload_n dX12_chiOf_2 rfl ?_
  refine ma_cV [_, _] dX12_chiOf_3 wX12_endsOf lX12_282 iX12_endsOf sX12_endsOf rfl (by assumption) (Nat.le_of_ble_eq_true rfl) ?_
  refine c_X12_endsOf hM ha hG hA h86 h87 hB hx ?_
  refine ma_aload_n dX12_chiOf_6 rfl ?_
  refine ma_aload_n dX12_chiOf_7 rfl ?_
  refine ma_iload_n dX12_chiOf_8 rfl ?_
  refine ma_cV [_, _] dX12_chiOf_9 wX12_sidesTwice lX12_285 iX12_sidesTwice sX12_sidesTwice rfl (by assumption) (Nat.le_of_ble_eq_true rfl) ?_
  refine c_X12_sidesTwice hM ha hG hA h86 h87 hB hx ?_
  refine ma_iconst dX12_chiOf_12 ?_
  refine ma_kdiv dX12_chiOf_13 (by constructor <;> omega) (by constructor <;> omega) ?_
  refine ma_isub dX12_chiOf_14 ?_
  refine ma_aload_n dX12_chiOf_15 rfl ?_
  refine ma_aload_n dX12_chiOf_16 rfl ?_
  refine ma_iload_n dX12_chiOf_17 rfl ?_
  refine ma_cV [_, _] dX12_chiOf_18 wX12_sizeOf lX12_288 iX12_sizeOf sX12_sizeOf rfl (by assumption) (Nat.le_of_ble_eq_true rfl) ?_
  refine c_X12_sizeOf hM ha hG hA h86 h87 hB hx ?_
  refine ma_iadd dX12_chiOf_21 ?_
  exact ma_iret dX12_chiOf_22 rfl K
theorem c_X12_isRound {h : ma_H} {a nx d : Nat} {t : Int} {G Aa E P F R : Int → Int} {Q : Option ma_V → ma_H → Nat → Prop} {I : Nat → Int} {x : Int} (hM : h 73 = co 12 (mo I)) (ha : h a = ci 33 Aa) (hG : VG t G) (hA : AG t G Aa) (h86 : h 86 = ci 128 F) (h87 : h 87 = ci 32 R) (hB : BQ t G E P F R) (hx : rg x) (K1 : RD t G E P x → Q (some (vi 1)) h nx) (K0 : ¬ RD t G E P x → Q (some (vi 0)) h nx) : ma_Ct mX12_isRound (d + 4) 0 0 [vr 73, vr a, vi x] h nx Q := by
  have ht := hG.1
  have sb := sz_b (t := t) (x := x) (P := P) (G := G) ht
  have nb := nA_b (t := t) (x := x) (P := P) (E := E) ht
  have xb : -2147483648 ≤ xiA t G E P x ∧ xiA t G E P x ≤ 2147483647 := by unfold xiA xi; omega
  refine ma_Ct.of (by decide +kernel) (Nat.le_of_ble_eq_true rfl) ?_
  refine ma_aload_n dX12_isRound_0 rfl ?_
  refine ma_aload_n dX12_isRound_1 rfl ?_
  refine ma_iload_n dX12_isRound_2 rfl ?_
  refine ma_cV [_, _] dX12_isRound_3 wX12_chiOf lX12_291 iX12_chiOf sX12_chiOf rfl (by assumption) (Nat.le_of_ble_eq_true rfl) ?_
  refine c_X12_chiOf hM ha hG hA h86 h87 hB hx ?_
  refine ma_iconst dX12_isRound_6 ?_
  refine ma_rcmp_ne 23 dX12_isRound_7 rfl xb (by decide) (fun c7 => ?_) (fun c7 => ?_)
  · -- 23
    refine ma_iconst dX12_isRound_23 ?_
    exact ma_zret dX12_isRound_24 rfl (Or.inl rfl) (K0 (fun w => c7 w.2))
  · -- 10
    refine ma_aload_n dX12_isRound_10 rfl ?_
    refine ma_aload_n dX12_isRound_11 rfl ?_
    refine ma_iload_n dX12_isRound_12 rfl ?_
    refine ma_cV [_, _] dX12_isRound_13 wX12_hasFree lX12_294 iX12_hasFree sX12_hasFree rfl (by assumption) (Nat.le_of_ble_eq_true rfl) ?_
    refine c_X12_hasFree hM ha hG hA h86 h87 hB hx (fun z => ?_) (fun z => ?_)
    · -- k1
      refine ma_rif_ne 23 dX12_isRound_16 rfl (by decide) (fun c16 => ?_) (fun c16 => absurd c16 (by decide))
      refine ma_iconst dX12_isRound_23 ?_
      exact ma_zret dX12_isRound_24 rfl (Or.inl rfl) (K0 (fun w => (sA_ex ht.1).mp z w.1))
    · -- k0
      refine ma_rif_ne 23 dX12_isRound_16 rfl (by decide) (fun c16 => absurd c16 (by decide)) (fun c16 => ?_)
      refine ma_iconst dX12_isRound_19 ?_
      refine ma_goto 24 dX12_isRound_20 rfl ?_
      exact ma_zret dX12_isRound_24 rfl (Or.inr rfl) (K1 ⟨Classical.byContradiction (fun w => z ((sA_ex ht.1).mpr w)), by omega⟩)
theorem c_X12_tell {h : ma_H} {nx d : Nat} {v n : Int} {f : Int → Int} {Q : Option ma_V → ma_H → Nat → Prop} {I : Nat → Int} (hM : h 73 = co 12 (mo I)) (h76 : h 76 = cl 96 f) (hn : 0 ≤ I 4 ∧ I 4 < 96) (K : Q none (ma_up (ma_up h 76 (cl 96 (uf f (I 4) v))) 73 (co 12 (mo (iu I 4 (I 4 + 1))))) nx) : ma_Ct mX12_tell d 0 0 [vr 73, vl v] h nx Q := by
  refine ma_Ct.of (by decide +kernel) (Nat.le_of_ble_eq_true rfl) ?_
  refine ma_aload_n dX12_tell_0 rfl ?_
  refine ma_getf dX12_tell_1 fX12_17 (by first | assumption | exact ma_up_s _ _ _ | exact (ma_up_n (by first | decide | omega | assumption)).trans (ma_up_s _ _ _) | exact (ma_up_n (by first | decide | omega | assumption)).trans (by assumption) | exact (ma_up_n (by first | decide | omega | assumption)).trans ((ma_up_n (by first | decide | omega | assumption)).trans (ma_up_s _ _ _)) | exact (ma_up_n (by first | decide | omega | assumption)).trans ((ma_up_n (by first | decide | omega | assumption)).trans (by assumption))) (by rfl) ?_
  refine ma_aload_n dX12_tell_4 rfl ?_
  refine ma_getf dX12_tell_5 fX12_132 (by first | assumption | exact ma_up_s _ _ _ | exact (ma_up_n (by first | decide | omega | assumption)).trans (ma_up_s _ _ _) | exact (ma_up_n (by first | decide | omega | assumption)).trans (by assumption) | exact (ma_up_n (by first | decide | omega | assumption)).trans ((ma_up_n (by first | decide | omega | assumption)).trans (ma_up_s _ _ _)) | exact (ma_up_n (by first | decide | omega | assumption)).trans ((ma_up_n (by first | decide | omega | assumption)).trans (by assumption))) (by rfl) ?_
  refine ma_lload_n dX12_tell_8 rfl ?_
  refine ma_last dX12_tell_9 (by first | assumption | exact ma_up_s _ _ _ | exact (ma_up_n (by first | decide | omega | assumption)).trans (ma_up_s _ _ _) | exact (ma_up_n (by first | decide | omega | assumption)).trans (by assumption) | exact (ma_up_n (by first | decide | omega | assumption)).trans ((ma_up_n (by first | decide | omega | assumption)).trans (ma_up_s _ _ _)) | exact (ma_up_n (by first | decide | omega | assumption)).trans ((ma_up_n (by first | decide | omega | assumption)).trans (by assumption))) (by omega) (by omega) (by omega) ?_
  refine ma_aload_n dX12_tell_10 rfl ?_
  refine ma_dup dX12_tell_11 rfl ?_
  refine ma_getf dX12_tell_12 fX12_132 (by first | assumption | exact ma_up_s _ _ _ | exact (ma_up_n (by first | decide | omega | assumption)).trans (ma_up_s _ _ _) | exact (ma_up_n (by first | decide | omega | assumption)).trans (by assumption) | exact (ma_up_n (by first | decide | omega | assumption)).trans ((ma_up_n (by first | decide | omega | assumption)).trans (ma_up_s _ _ _)) | exact (ma_up_n (by first | decide | omega | assumption)).trans ((ma_up_n (by first | decide | omega | assumption)).trans (by assumption))) (by rfl) ?_
  refine ma_iconst dX12_tell_15 ?_
  refine ma_iadd dX12_tell_16 ?_
  refine ma_puti dX12_tell_17 fX12_132 (by first | assumption | exact ma_up_s _ _ _ | exact (ma_up_n (by first | decide | omega | assumption)).trans (ma_up_s _ _ _) | exact (ma_up_n (by first | decide | omega | assumption)).trans (by assumption) | exact (ma_up_n (by first | decide | omega | assumption)).trans ((ma_up_n (by first | decide | omega | assumption)).trans (ma_up_s _ _ _)) | exact (ma_up_n (by first | decide | omega | assumption)).trans ((ma_up_n (by first | decide | omega | assumption)).trans (by assumption))) (Nat.le_of_ble_eq_true rfl) ?_
  rw [mo_4]
  exact ma_vret dX12_tell_20 rfl K
theorem c_X12_lost {h : ma_H} {nx d : Nat} {Q : Option ma_V → ma_H → Nat → Prop} {I : Nat → Int} (hM : h 73 = co 12 (mo I)) (K : Q (some (vi 0)) (ma_up h 73 (co 12 (mo (iu I 5 1)))) nx) : ma_Ct mX12_lost d 0 0 [vr 73] h nx Q := by
  refine ma_Ct.of (by decide +kernel) (Nat.le_of_ble_eq_true rfl) ?_
  refine ma_aload_n dX12_lost_0 rfl ?_
  refine ma_iconst dX12_lost_1 ?_
  refine ma_puti dX12_lost_2 fX12_128 (by first | assumption | exact ma_up_s _ _ _ | exact (ma_up_n (by first | decide | omega | assumption)).trans (ma_up_s _ _ _) | exact (ma_up_n (by first | decide | omega | assumption)).trans (by assumption) | exact (ma_up_n (by first | decide | omega | assumption)).trans ((ma_up_n (by first | decide | omega | assumption)).trans (ma_up_s _ _ _)) | exact (ma_up_n (by first | decide | omega | assumption)).trans ((ma_up_n (by first | decide | omega | assumption)).trans (by assumption))) (Nat.le_of_ble_eq_true rfl) ?_
  rw [mo_5]
  refine ma_iconst dX12_lost_5 ?_
  exact ma_iret dX12_lost_6 rfl K
theorem c_X12_thrown {h : ma_H} {nx d : Nat} {Q : Option ma_V → ma_H → Nat → Prop} {I : Nat → Int} (hM : h 73 = co 12 (mo I)) (K : Q (some (vi (I 5))) h nx) : ma_Ct mX12_thrown d 0 0 [vr 73] h nx Q := by
  refine ma_Ct.of (by decide +kernel) (Nat.le_of_ble_eq_true rfl) ?_
  refine ma_aload_n dX12_thrown_0 rfl ?_
  refine ma_getf dX12_thrown_1 fX12_128 (by first | assumption | exact ma_up_s _ _ _ | exact (ma_up_n (by first | decide | omega | assumption)).trans (ma_up_s _ _ _) | exact (ma_up_n (by first | decide | omega | assumption)).trans (by assumption) | exact (ma_up_n (by first | decide | omega | assumption)).trans ((ma_up_n (by first | decide | omega | assumption)).trans (ma_up_s _ _ _)) | exact (ma_up_n (by first | decide | omega | assumption)).trans ((ma_up_n (by first | decide | omega | assumption)).trans (by assumption))) (by rfl) ?_
  exact ma_iret dX12_thrown_4 rfl K
theorem c_X12_isTet {h : ma_H} {nx d : Nat} {t x : Int} {Aa G : Int → Int} {Q : Option ma_V → ma_H → Nat → Prop} {I : Nat → Int} (hM : h 73 = co 12 (mo I)) (h74 : h 74 = ci 33 Aa) (ht : 1 ≤ t ∧ t ≤ 8) (hA : AG t G Aa) (hx : rg x) (K1 : 0 ≤ x → x < t → Q (some (vi 1)) h nx) (K0 : ¬ (0 ≤ x ∧ x < t) → Q (some (vi 0)) h nx) : ma_Ct mX12_isTet (d + 1) 0 0 [vr 73, vi x] h nx Q := by
  refine ma_Ct.of (by decide +kernel) (Nat.le_of_ble_eq_true rfl) ?_
  refine ma_iload_n dX12_isTet_0 rfl ?_
  refine ma_iconst dX12_isTet_1 ?_
  refine ma_aload_n dX12_isTet_2 rfl ?_
  refine ma_getf dX12_isTet_3 fX12_9 (by first | assumption | exact ma_up_s _ _ _ | exact (ma_up_n (by first | decide | omega | assumption)).trans (ma_up_s _ _ _) | exact (ma_up_n (by first | decide | omega | assumption)).trans (by assumption) | exact (ma_up_n (by first | decide | omega | assumption)).trans ((ma_up_n (by first | decide | omega | assumption)).trans (ma_up_s _ _ _)) | exact (ma_up_n (by first | decide | omega | assumption)).trans ((ma_up_n (by first | decide | omega | assumption)).trans (by assumption))) (by rfl) ?_
  refine ma_iconst dX12_isTet_6 ?_
  refine ma_iald dX12_isTet_7 (by first | assumption | exact ma_up_s _ _ _ | exact (ma_up_n (by first | decide | omega | assumption)).trans (ma_up_s _ _ _) | exact (ma_up_n (by first | decide | omega | assumption)).trans (by assumption) | exact (ma_up_n (by first | decide | omega | assumption)).trans ((ma_up_n (by first | decide | omega | assumption)).trans (ma_up_s _ _ _)) | exact (ma_up_n (by first | decide | omega | assumption)).trans ((ma_up_n (by first | decide | omega | assumption)).trans (by assumption))) (by omega) (by omega) (by omega) ?_
  rw [hA.1]
  refine ma_iconst dX12_isTet_8 ?_
  refine ma_isub dX12_isTet_9 ?_
  refine ma_cS [_, _, _] dX12_isTet_10 wX12_in lX12_179 tX12_in (Nat.le_of_ble_eq_true rfl) ?_
  refine c_X12_in hx (by unfold rg; omega) (by unfold rg; omega) (fun a1 a2 => ?_) (fun a1 => ?_)
  · -- k1
    first | exact ma_zret dX12_isTet_13 rfl (Or.inr rfl) (K1 (by omega) (by omega)) | exact ma_zret dX12_isTet_13 rfl (Or.inl rfl) (K0 (by omega))
  · -- k0
    first | exact ma_zret dX12_isTet_13 rfl (Or.inr rfl) (K1 (by omega) (by omega)) | exact ma_zret dX12_isTet_13 rfl (Or.inl rfl) (K0 (by omega))
set_option maxHeartbeats 2000000 in
theorem l_X12_freeMany {h : ma_H} {a nx d : Nat} {t : Int} {G Aa : Int → Int} {Q : Option ma_V → ma_H → Nat → Prop} (ha : h a = ci 33 Aa) (hG : VG t G) (hA : AG t G Aa) (K : Q (some (vi (ct (fun j => G j < 0) (4 * t).toNat))) h nx) :
    ∀ (m : Nat) (k : Int) (n : Int), (1 ≤ k) → (k ≤ 4 * t + 1) → (4 * t + 1 - k < m) → (n = ct (fun j => G j < 0) (k - 1).toNat) → ma_J none mX12_freeMany d 0 0 4 [some (vr a), some (vi n), some (vi k)] [] h nx Q := by
  have ht := hG.1
  intro m
  induction m with
  | zero => intro k n k0 k1 k2 hn; omega
  | succ m ih =>
    intro k n k0 k1 k2 hn
    refine ma_iload_n dX12_freeMany_4 rfl ?_
    refine ma_iconst dX12_freeMany_5 ?_
    refine ma_aload_n dX12_freeMany_6 rfl ?_
    refine ma_iconst dX12_freeMany_7 ?_
    refine ma_iald dX12_freeMany_8 (by assumption) (by omega) (by omega) (by omega) ?_
    rw [hA.1]
    refine ma_imul dX12_freeMany_9 ?_
    refine ma_rcmp_gt 34 dX12_freeMany_10 rfl (by constructor <;> omega) (by constructor <;> omega) (fun c10 => ?_) (fun c10 => ?_)
    · -- 34
      refine ma_iload_n dX12_freeMany_34 rfl ?_
      have e4 : k - 1 = 4 * t := by omega
      rw [hn, e4]
      exact ma_iret dX12_freeMany_35 rfl K
    · -- 13
      refine ma_iload_n dX12_freeMany_13 rfl ?_
      refine ma_aload_n dX12_freeMany_14 rfl ?_
      refine ma_iload_n dX12_freeMany_15 rfl ?_
      refine ma_iald dX12_freeMany_16 (by assumption) (by omega) (by omega) (by omega) ?_
      rw [show k = 1 + (k - 1) by omega, hA.2 (k - 1) (by omega) (by omega)]
      have hcn := cv_ne hG (k := k - 1) (by omega) (by omega)
      have hv : vc (G (k - 1)) := by have := (vg_in hG (k := k - 1) (by omega) (by omega)).2.2; unfold vc; omega
      have hcv := (cv_lt hv hv).2.2
      refine ma_iconst dX12_freeMany_17 ?_
      refine ma_rcmp_ne 25 dX12_freeMany_18 rfl (by constructor <;> omega) (by constructor <;> omega) (fun c18 => ?_) (fun c18 => ?_)
      · -- 25
        refine ma_iconst dX12_freeMany_25 ?_
        refine ma_iadd dX12_freeMany_26 ?_
        refine ma_istore_nN dX12_freeMany_27 (by decide) rfl ?_
        refine ma_iincN dX12_freeMany_28 rfl (by decide) rfl ?_
        refine ma_goto 4 dX12_freeMany_31 rfl ?_
        rw [show 1 + (k - 1) = k by omega]
        exact ih (k + 1) _ (by omega) (by omega) (by omega) (by rw [show k + 1 - 1 = k - 1 + 1 by omega, ct_n (P := fun j => G j < 0) (by omega) (fun z => c18 (hcn.mpr z)), hn]; omega)
      · -- 21
        refine ma_iconst dX12_freeMany_21 ?_
        refine ma_goto 26 dX12_freeMany_22 rfl ?_
        refine ma_iadd dX12_freeMany_26 ?_
        refine ma_istore_nN dX12_freeMany_27 (by decide) rfl ?_
        refine ma_iincN dX12_freeMany_28 rfl (by decide) rfl ?_
        refine ma_goto 4 dX12_freeMany_31 rfl ?_
        rw [show 1 + (k - 1) = k by omega]
        exact ih (k + 1) _ (by omega) (by omega) (by omega) (by rw [show k + 1 - 1 = k - 1 + 1 by omega, ct_y (P := fun j => G j < 0) (by omega) (hcn.mp (by omega)), hn])
theorem c_X12_freeMany {h : ma_H} {a nx d : Nat} {t : Int} {G Aa : Int → Int} {Q : Option ma_V → ma_H → Nat → Prop} (ha : h a = ci 33 Aa) (hG : VG t G) (hA : AG t G Aa) (K : Q (some (vi (ct (fun j => G j < 0) (4 * t).toNat))) h nx) : ma_Ct mX12_freeMany d 0 0 [vr a] h nx Q := by
  have ht := hG.1
  refine ma_Ct.of (by decide +kernel) (Nat.le_of_ble_eq_true rfl) ?_
  refine ma_iconst dX12_freeMany_0 ?_
  refine ma_istore_nN dX12_freeMany_1 (by decide) rfl ?_
  refine ma_iconst dX12_freeMany_2 ?_
  refine ma_istore_nN dX12_freeMany_3 (by decide) rfl ?_
  exact l_X12_freeMany ha hG hA K 34 1 0 (by omega) (by omega) (by omega) rfl
